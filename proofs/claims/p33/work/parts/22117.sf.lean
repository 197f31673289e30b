/-! printed by wip/tools/safe.py -/
theorem s_101_25 (r1 : Nat) (x2 : Int32) (h1 : zg_cl r1 = 2) (g : G) (hI : Inv g) : ∀ (f : Nat) (x3 : Int32), 0 ≤ x3.toInt ∧ x3.toInt ≤ 8 ∧ 8 - x3.toInt < (f : Int) → S1 (d_101_25 r1 x2 g f x3) (fun q : Bool × G => Inv q.2 ∧ True ∧ (q.1 = true → True) ∧ (q.1 = false → True)) := by
  intro f
  induction f with
  | zero =>
    intro x3 hp
    exfalso
    omega
  | succ f ih =>
    intro x3 hp
    rw [d_101_25.eq_2]
    have L1 := zl_1
    have y1 : 0 ≤ (g r1 3).toInt ∧ (g r1 3).toInt ≤ 8 := Inv.rd (r := r1) (c := 2) hI 3 h1
    refine S1.ite (fun hc3 => ?_) (fun hc3 => ?_)
    · skip
      have chc3 := zc_geT hc3
      exact S1.ret (show Inv g ∧ True ∧ (true = true → True) ∧ (true = false → True) from ⟨hI, trivial, (fun _ => trivial), (fun _ => trivial)⟩)
    · skip
      have chc3 := zc_geF hc3
      refine S1.ix (by omega) ?_
      intro k4 hk4 bk4
      have y2 : 0 ≤ (g (r1 + 16 + k4) 0).toInt ∧ (g (r1 + 16 + k4) 0).toInt ≤ 3 := Inv.rd (r := (r1 + 16 + k4)) (c := 6) hI 0 (zg_seen (b := r1) h1 hk4)
      refine S1.bd (s_24 r1 (g (r1 + 16 + k4) 0) (g (r1 + 16 + k4) 2) x2 h1 g hI (by omega)) ?_
      intro v5 hvv5 hRv5
      have hRv5 : True ∧ True := hRv5
      refine S1.lt ?_
      intro v6 hvv6
      have y3 := zi_b v6
      have y4 : 0 ≤ (g (r1 + 16 + k4) 3).toInt ∧ (g (r1 + 16 + k4) 3).toInt ≤ 1 := Inv.rd (r := (r1 + 16 + k4)) (c := 6) hI 3 (zg_seen (b := r1) h1 hk4)
      refine S1.ite (fun hc7 => ?_) (fun hc7 => ?_)
      · skip
        have chc7 := zc_eqT hc7
        try have y5 := zi_add (x := x3) (y := (1 : Int32)) (by omega) (by omega)
        exact (ih (x3 + 1) (by omega))
      · skip
        have chc7 := zc_eqF hc7
        exact S1.ret (show Inv g ∧ True ∧ (false = true → True) ∧ (false = false → True) from ⟨hI, trivial, (fun _ => trivial), (fun _ => trivial)⟩)
/-- EveningFirst.isFit -/
theorem s_101 (r1 : Nat) (h1 : zg_cl r1 = 2) (g : G) (hI : Inv g) (hp : True) : S1 (d_101 r1 g) (fun q : Bool × G => Inv q.2 ∧ True ∧ (q.1 = true → True) ∧ (q.1 = false → True)) := by
  unfold d_101
  have L0 := zl_0
  refine S1.bd (s_2 r1 h1 g hI trivial) ?_
  intro g1 hvg1 hRg1
  have hRg1 : Inv g1 ∧ True := hRg1
  refine S1.bd (s_8 (g1 25 2) g1 hRg1.1 trivial) ?_
  intro v2 hvv2 hRv2
  have hRv2 : True ∧ True := hRv2
  exact (s_101_25 r1 v2 h1 g1 hRg1.1 300 (0 : Int32) (by omega))
theorem s_81_73 (x1 : Int32) (x2 : Int32) (x6 : Int32) : ∀ (f : Nat) (x3 : Int32) (x4 : Int32) (x5 : Int32) (x7 : Int32) (g : G), Inv g → 0 ≤ x7.toInt ∧ x7.toInt ≤ 81 ∧ x6.toInt ≤ 81 ∧ 81 - x7.toInt < (f : Int) ∧ (x2.toInt = 0 ∨ 10 ≤ x1.toInt ∧ x1.toInt ≤ 13) → S1 (d_81_73 x1 x2 x6 f x3 x4 x5 x7 g) (fun q : Int32 × G => Inv q.2 ∧ True) := by
  intro f
  induction f with
  | zero =>
    intro x3 x4 x5 x7 g hI hp
    exfalso
    omega
  | succ f ih =>
    intro x3 x4 x5 x7 g hI hp
    rw [d_81_73.eq_2]
    have L0 := zl_0
    have L1 := zl_1
    have L10 := zl_10
    have L31 := zl_31
    refine S1.ite (fun hc5 => ?_) (fun hc5 => ?_)
    · skip
      have chc5 := zc_geT hc5
      refine S1.ite (fun hc6 => ?_) (fun hc6 => ?_)
      · skip
        have chc6 := zc_neT hc6
        refine S1.ite (fun hc7 => ?_) (fun hc7 => ?_)
        · skip
          have chc7 := zc_neT hc7
          exact S1.ret (show Inv g ∧ True from ⟨hI, trivial⟩)
        · skip
          have chc7 := zc_neF hc7
          exact S1.ret (show Inv g ∧ True from ⟨hI, trivial⟩)
      · skip
        have chc6 := zc_neF hc6
        exact S1.ret (show Inv g ∧ True from ⟨hI, trivial⟩)
    · skip
      have chc5 := zc_geF hc5
      refine S1.bd (s_26 30 x7 rfl g hI trivial) ?_
      intro g8 hvg8 hRg8
      have hRg8 : Inv g8 ∧ True := hRg8
      refine S1.bp (s_101 30 rfl g8 hRg8.1 trivial) ?_
      intro v9 g10 hvv9 hRv9
      have hRv9 : Inv g10 ∧ True ∧ (v9 = true → True) ∧ (v9 = false → True) := hRv9
      refine S1.ite (fun hc11 => ?_) (fun hc11 => ?_)
      · skip
        have chc11 := hRv9.2.2.1 hc11
        refine S1.ite (fun hc12 => ?_) (fun hc12 => ?_)
        · skip
          have chc12 := zc_neT hc12
          refine S1.ite (fun hc13 => ?_) (fun hc13 => ?_)
          · skip
            have chc13 := zc_eqT hc13
            try have y1 := zi_add (x := x3) (y := (1 : Int32)) (by omega) (by omega)
            try have y2 := zi_add (x := x7) (y := (1 : Int32)) (by omega) (by omega)
            exact (ih (x3 + 1) x4 x5 (x7 + 1) g10 hRv9.1 (by omega))
          · skip
            have chc13 := zc_eqF hc13
            try have y3 := zi_sub (x := x1) (y := (10 : Int32)) (by omega) (by omega)
            refine S1.ix (by omega) ?_
            intro k14 hk14 bk14
            try have y4 := zi_add (x := x3) (y := (1 : Int32)) (by omega) (by omega)
            try have y5 := zi_and (x := (g10 (34 + k14) 0)) (y := (31 : Int32)) (by omega)
            try have y6 := zi_shl1 (x := (g10 (34 + k14) 0)) (by omega)
            try have y7 := zi_add (x := x7) (y := (1 : Int32)) (by omega) (by omega)
            exact (ih (x3 + 1) x4 (x5 ||| ((1 : Int32) <<< ((g10 (34 + k14) 0) &&& 31))) (x7 + 1) g10 hRv9.1 (by omega))
        · skip
          have chc12 := zc_neF hc12
          refine S1.ite (fun hc15 => ?_) (fun hc15 => ?_)
          · skip
            have chc15 := zc_eqT hc15
            try have y8 := zi_add (x := x3) (y := (1 : Int32)) (by omega) (by omega)
            try have y9 := zi_add (x := x7) (y := (1 : Int32)) (by omega) (by omega)
            exact (ih (x3 + 1) x7 x5 (x7 + 1) g10 hRv9.1 (by omega))
          · skip
            have chc15 := zc_eqF hc15
            try have y10 := zi_sub (x := x1) (y := (10 : Int32)) (by omega) (by omega)
            refine S1.ix (by omega) ?_
            intro k16 hk16 bk16
            try have y11 := zi_add (x := x3) (y := (1 : Int32)) (by omega) (by omega)
            try have y12 := zi_and (x := (g10 (34 + k16) 0)) (y := (31 : Int32)) (by omega)
            try have y13 := zi_shl1 (x := (g10 (34 + k16) 0)) (by omega)
            try have y14 := zi_add (x := x7) (y := (1 : Int32)) (by omega) (by omega)
            exact (ih (x3 + 1) x7 (x5 ||| ((1 : Int32) <<< ((g10 (34 + k16) 0) &&& 31))) (x7 + 1) g10 hRv9.1 (by omega))
      · skip
        have chc11 := hRv9.2.2.2 hc11
        try have y15 := zi_add (x := x7) (y := (1 : Int32)) (by omega) (by omega)
        exact (ih x3 x4 x5 (x7 + 1) g10 hRv9.1 (by omega))
theorem s_81_25 (x1 : Int32) (s0 : Int32) (g : G) (hI : Inv g) (hp : (s0.toInt = 0 ∨ 10 ≤ x1.toInt ∧ x1.toInt ≤ 13)) : S1 (d_81_25 x1 s0 g) (fun q : Int32 × G => Inv q.2 ∧ True) := by
  unfold d_81_25
  have Lm4 := zl_m4
  have Lm1 := zl_m1
  have L0 := zl_0
  have L1 := zl_1
  refine S1.ite (fun hc2 => ?_) (fun hc2 => ?_)
  · skip
    have chc2 := zc_eqT hc2
    refine S1.bd (s_17 30 1 rfl rfl g hI trivial) ?_
    intro g3 hvg3 hRg3
    have hRg3 : Inv g3 ∧ True := hRg3
    refine S1.bd (s_25 30 rfl g3 hRg3.1 trivial) ?_
    intro v4 hvv4 hRv4
    have hRv4 : True ∧ (1 ≤ v4.toInt ∧ v4.toInt ≤ 81) := hRv4
    exact (s_81_73 x1 s0 v4 300 (0 : Int32) (-4 : Int32) (0 : Int32) (0 : Int32) g3 hRg3.1 (by omega))
  · skip
    have chc2 := zc_eqF hc2
    refine S1.ite (fun hc17 => ?_) (fun hc17 => ?_)
    · skip
      have chc17 := zc_eqT hc17
      refine S1.bd (s_17 30 1 rfl rfl g hI trivial) ?_
      intro g18 hvg18 hRg18
      have hRg18 : Inv g18 ∧ True := hRg18
      refine S1.bd (s_25 30 rfl g18 hRg18.1 trivial) ?_
      intro v19 hvv19 hRv19
      have hRv19 : True ∧ (1 ≤ v19.toInt ∧ v19.toInt ≤ 81) := hRv19
      exact (s_81_73 x1 s0 v19 300 (0 : Int32) (-4 : Int32) (0 : Int32) (0 : Int32) g18 hRg18.1 (by omega))
    · skip
      have chc17 := zc_eqF hc17
      refine S1.ite (fun hc20 => ?_) (fun hc20 => ?_)
      · skip
        have chc20 := zc_neT hc20
        refine S1.bd (s_17 30 1 rfl rfl g hI trivial) ?_
        intro g21 hvg21 hRg21
        have hRg21 : Inv g21 ∧ True := hRg21
        refine S1.bd (s_25 30 rfl g21 hRg21.1 trivial) ?_
        intro v22 hvv22 hRv22
        have hRv22 : True ∧ (1 ≤ v22.toInt ∧ v22.toInt ≤ 81) := hRv22
        exact (s_81_73 x1 s0 v22 300 (0 : Int32) (-4 : Int32) (0 : Int32) (0 : Int32) g21 hRg21.1 (by omega))
      · skip
        have chc20 := zc_neF hc20
        exact S1.ret (show Inv g ∧ True from ⟨hI, trivial⟩)
/-- EveningFirst.ways -/
theorem s_81 (x1 : Int32) (g : G) (hI : Inv g) (hp : True) : S1 (d_81 x1 g) (fun q : Int32 × G => Inv q.2 ∧ True) := by
  unfold d_81
  have L0 := zl_0
  have L1 := zl_1
  have L10 := zl_10
  have yp18 : 0 ≤ (g 1 1).toInt ∧ (g 1 1).toInt ≤ 4 := Inv.rd (r := 1) (c := 2) hI 1 rfl
  refine S1.ite (fun hc1 => ?_) (fun hc1 => ?_)
  · skip
    have chc1 := zc_ltT hc1
    exact (s_81_25 x1 (0 : Int32) g hI (by omega))
  · skip
    have chc1 := zc_ltF hc1
    have y16 : 0 ≤ (g 1 1).toInt ∧ (g 1 1).toInt ≤ 4 := Inv.rd (r := 1) (c := 2) hI 1 rfl
    try have y17 := zi_add (x := (10 : Int32)) (y := (g 1 1)) (by omega) (by omega)
    refine S1.ite (fun hc23 => ?_) (fun hc23 => ?_)
    · skip
      have chc23 := zc_geT hc23
      exact (s_81_25 x1 (0 : Int32) g hI (by omega))
    · skip
      have chc23 := zc_geF hc23
      exact (s_81_25 x1 (1 : Int32) g hI (by omega))
theorem s_177_9 (x1 : Int32) (g : G) (hI : Inv g) : ∀ (f : Nat) (x2 : Bool) (x3 : Int32), 0 ≤ x3.toInt ∧ x3.toInt ≤ 8 ∧ 8 - x3.toInt < (f : Int) → S1 (d_177_9 x1 g f x2 x3) (fun q : Bool => True ∧ True ∧ (q = true → True) ∧ (q = false → True)) := by
  intro f
  induction f with
  | zero =>
    intro x2 x3 hp
    exfalso
    omega
  | succ f ih =>
    intro x2 x3 hp
    rw [d_177_9.eq_2]
    have L1 := zl_1
    have L2 := zl_2
    have L3 := zl_3
    have L4 := zl_4
    have L31 := zl_31
    have L66 := zl_66
    have yp14 := hI.m65
    have y1 := hI.m65
    refine S1.ite (fun hc2 => ?_) (fun hc2 => ?_)
    · skip
      have chc2 := zc_geT hc2
      exact S1.ret (show True ∧ True ∧ (x2 = true → True) ∧ (x2 = false → True) from ⟨trivial, trivial, (fun _ => trivial), (fun _ => trivial)⟩)
    · skip
      have chc2 := zc_geF hc2
      refine S1.ite (fun hc3 => ?_) (fun hc3 => ?_)
      · skip
        try have y2 := zi_mul (x := (4 : Int32)) (y := x3) (n := 4) (by decide) (by omega) (by omega)
        try have y3 := zi_add (x := (66 : Int32)) (y := (4 * x3)) (by omega) (by omega)
        refine S1.ix (by omega) ?_
        intro k4 hk4 bk4
        try have y4 := zi_add (x := (66 + (4 * x3))) (y := (2 : Int32)) (by omega) (by omega)
        refine S1.ix (by omega) ?_
        intro k5 hk5 bk5
        have y5 := ((stP_s (d := x3.toInt) (o := 0) (by omega) (by omega) (by omega)).mp (hI.st (k := k4) (by omega))).1 rfl
        have y6 := ((stP_s (d := x3.toInt) (o := 2) (by omega) (by omega) (by omega)).mp (hI.st (k := k5) (by omega))).2 rfl
        refine S1.bd (s_150 (g 114 k4) (g 114 k5) x1 g hI (by omega)) ?_
        intro v6 hvv6 hRv6
        have hRv6 : True ∧ True := hRv6
        try have y7 := zi_add (x := (66 + (4 * x3))) (y := (1 : Int32)) (by omega) (by omega)
        refine S1.ix (by omega) ?_
        intro k7 hk7 bk7
        try have y8 := zi_add (x := (66 + (4 * x3))) (y := (3 : Int32)) (by omega) (by omega)
        refine S1.ix (by omega) ?_
        intro k8 hk8 bk8
        try have y9 := zi_and (x := (g 114 k7)) (y := (31 : Int32)) (by omega)
        try have y10 := zi_and (x := (v6 >>> ((g 114 k7) &&& 31))) (y := (1 : Int32)) (by omega)
        refine S1.ite (fun hc9 => ?_) (fun hc9 => ?_)
        · skip
          have chc9 := zc_neT hc9
          try have y11 := zi_add (x := x3) (y := (1 : Int32)) (by omega) (by omega)
          exact (ih false (x3 + 1) (by omega))
        · skip
          have chc9 := zc_neF hc9
          try have y12 := zi_add (x := x3) (y := (1 : Int32)) (by omega) (by omega)
          exact (ih true (x3 + 1) (by omega))
      · skip
        try have y13 := zi_add (x := x3) (y := (1 : Int32)) (by omega) (by omega)
        exact (ih false (x3 + 1) (by omega))
/-- EveningFirstModel.isSo -/
theorem s_177 (g : G) (hI : Inv g) (hp : True) : S1 (d_177 g) (fun q : Bool => True ∧ True ∧ (q = true → True) ∧ (q = false → True)) := by
  unfold d_177
  have L0 := zl_0
  refine S1.bd (s_161 g hI trivial) ?_
  intro v1 hvv1 hRv1
  have hRv1 : True ∧ True := hRv1
  exact (s_177_9 v1 g hI 300 true (0 : Int32) (by omega))
theorem s_178_178 (x1 : Int32) (x3 : Int32) (x4 : Int32) (x5 : Int32) : ∀ (f : Nat) (x6 : Int32) (g : G), Inv g → 0 ≤ x6.toInt ∧ x6.toInt ≤ 4 ∧ 4 - x6.toInt < (f : Int) → S1 (d_178_178 x1 x3 x4 x5 f x6 g) (fun q : Int32 × G => Inv q.2 ∧ True) := by
  intro f
  induction f with
  | zero =>
    intro x6 g hI hp
    exfalso
    omega
  | succ f ih =>
    intro x6 g hI hp
    rw [d_178_178.eq_2]
    have L0 := zl_0
    have L1 := zl_1
    have yp5 : 0 ≤ (g 113 3).toInt ∧ (g 113 3).toInt ≤ 4 := Inv.rd (r := 113) (c := 8) hI 3 rfl
    have y1 : 0 ≤ (g 113 3).toInt ∧ (g 113 3).toInt ≤ 4 := Inv.rd (r := 113) (c := 8) hI 3 rfl
    refine S1.ite (fun hc5 => ?_) (fun hc5 => ?_)
    · skip
      have chc5 := zc_geT hc5
      refine S1.ite (fun hc6 => ?_) (fun hc6 => ?_)
      · skip
        have chc6 := zc_neT hc6
        refine S1.ite (fun hc7 => ?_) (fun hc7 => ?_)
        · skip
          have chc7 := zc_neT hc7
          exact S1.ret (show Inv g ∧ True from ⟨hI, trivial⟩)
        · skip
          have chc7 := zc_neF hc7
          exact S1.ret (show Inv g ∧ True from ⟨hI, trivial⟩)
      · skip
        have chc6 := zc_neF hc6
        exact S1.ret (show Inv g ∧ True from ⟨hI, trivial⟩)
    · skip
      have chc5 := zc_geF hc5
      refine S1.ix (by omega) ?_
      intro k8 hk8 bk8
      try have y2 := zi_add (x := (0 : Int32)) (y := x6) (by omega) (by omega)
      refine S1.ix (by omega) ?_
      intro k10 hk10 bk10
      refine S1.lt ?_
      intro g9 hg9
      have Ig9 : Inv g9 := Inv.up hI hg9 rfl (bdP_st (by omega) (stP_lo (by omega)))
      have u3 : (g9 113 3).toInt = (g 113 3).toInt := by rw [← hg9]; rfl
      try have y4 := zi_add (x := x6) (y := (1 : Int32)) (by omega) (by omega)
      exact (ih (x6 + 1) g9 Ig9 (by omega))
theorem s_178_84 (x1 : Int32) (x2 : Int32) (x3 : Int32) (x4 : Int32) (x5 : Int32) (x6 : Int32) (k71 : Int32 → Int32 → Int32 → Int32 → G → Option (Int32 × G)) (m71 : Int) (hk71 : ∀ (x3 : Int32) (x4 : Int32) (x5 : Int32) (x6 : Int32) (g : G), Inv g → 0 ≤ x6.toInt ∧ x6.toInt ≤ 81 ∧ x2.toInt ≤ 81 ∧ 81 - x6.toInt < m71 ∧ x1.toInt ≤ 13 → S1 (k71 x3 x4 x5 x6 g) (fun q : Int32 × G => Inv q.2 ∧ True)) : ∀ (f : Nat) (x7 : Int32) (x8 : Int32) (g : G), Inv g → 0 ≤ x8.toInt ∧ x8.toInt ≤ 4 ∧ 4 - x8.toInt < (f : Int) ∧ 0 ≤ x6.toInt ∧ x6.toInt ≤ 81 ∧ x2.toInt ≤ 81 ∧ 81 - x6.toInt < (m71 + 1) ∧ x1.toInt ≤ 13 → S1 (d_178_84 x1 x2 x3 x4 x5 x6 k71 f x7 x8 g) (fun q : Int32 × G => Inv q.2 ∧ True) := by
  intro f
  induction f with
  | zero =>
    intro x7 x8 g hI hp
    exfalso
    omega
  | succ f ih =>
    intro x7 x8 g hI hp
    rw [d_178_84.eq_2]
    have L0 := zl_0
    have L1 := zl_1
    have L3 := zl_3
    have L10 := zl_10
    have L31 := zl_31
    have yp28 : 0 ≤ (g 113 3).toInt ∧ (g 113 3).toInt ≤ 4 := Inv.rd (r := 113) (c := 8) hI 3 rfl
    have y6 : 0 ≤ (g 113 3).toInt ∧ (g 113 3).toInt ≤ 4 := Inv.rd (r := 113) (c := 8) hI 3 rfl
    refine S1.ite (fun hc11 => ?_) (fun hc11 => ?_)
    · skip
      have chc11 := zc_geT hc11
      refine S1.bd (s_177 g hI trivial) ?_
      intro v12 hvv12 hRv12
      have hRv12 : True ∧ True ∧ (v12 = true → True) ∧ (v12 = false → True) := hRv12
      refine S1.ite (fun hc13 => ?_) (fun hc13 => ?_)
      · skip
        have chc13 := hRv12.2.2.1 hc13
        refine S1.ite (fun hc14 => ?_) (fun hc14 => ?_)
        · skip
          have chc14 := zc_neT hc14
          refine S1.ite (fun hc15 => ?_) (fun hc15 => ?_)
          · skip
            have chc15 := zc_ltT hc15
            try have y7 := zi_add (x := x3) (y := (1 : Int32)) (by omega) (by omega)
            try have y8 := zi_add (x := x6) (y := (1 : Int32)) (by omega) (by omega)
            exact hk71 (x3 + 1) x4 (x5 ||| 0) (x6 + 1) g hI (by omega)
          · skip
            have chc15 := zc_ltF hc15
            try have y9 := zi_add (x := (0 : Int32)) (y := x1) (by omega) (by omega)
            try have y10 := zi_sub (x := (0 + x1)) (y := (10 : Int32)) (by omega) (by omega)
            refine S1.ix (by omega) ?_
            intro k16 hk16 bk16
            try have y11 := zi_add (x := x3) (y := (1 : Int32)) (by omega) (by omega)
            try have y12 := zi_and (x := (g 114 k16)) (y := (31 : Int32)) (by omega)
            try have y13 := zi_shl1 (x := (g 114 k16)) (by omega)
            try have y14 := zi_add (x := x6) (y := (1 : Int32)) (by omega) (by omega)
            exact hk71 (x3 + 1) x4 (x5 ||| ((1 : Int32) <<< ((g 114 k16) &&& 31))) (x6 + 1) g hI (by omega)
        · skip
          have chc14 := zc_neF hc14
          refine S1.ite (fun hc17 => ?_) (fun hc17 => ?_)
          · skip
            have chc17 := zc_ltT hc17
            try have y15 := zi_add (x := x3) (y := (1 : Int32)) (by omega) (by omega)
            try have y16 := zi_add (x := x6) (y := (1 : Int32)) (by omega) (by omega)
            exact hk71 (x3 + 1) x6 (x5 ||| 0) (x6 + 1) g hI (by omega)
          · skip
            have chc17 := zc_ltF hc17
            try have y17 := zi_add (x := (0 : Int32)) (y := x1) (by omega) (by omega)
            try have y18 := zi_sub (x := (0 + x1)) (y := (10 : Int32)) (by omega) (by omega)
            refine S1.ix (by omega) ?_
            intro k18 hk18 bk18
            try have y19 := zi_add (x := x3) (y := (1 : Int32)) (by omega) (by omega)
            try have y20 := zi_and (x := (g 114 k18)) (y := (31 : Int32)) (by omega)
            try have y21 := zi_shl1 (x := (g 114 k18)) (by omega)
            try have y22 := zi_add (x := x6) (y := (1 : Int32)) (by omega) (by omega)
            exact hk71 (x3 + 1) x6 (x5 ||| ((1 : Int32) <<< ((g 114 k18) &&& 31))) (x6 + 1) g hI (by omega)
      · skip
        have chc13 := hRv12.2.2.2 hc13
        try have y23 := zi_add (x := x6) (y := (1 : Int32)) (by omega) (by omega)
        exact hk71 x3 x4 x5 (x6 + 1) g hI (by omega)
    · skip
      have chc11 := zc_geF hc11
      try have y24 := zi_add (x := (0 : Int32)) (y := x8) (by omega) (by omega)
      refine S1.ix (by omega) ?_
      intro k20 hk20 bk20
      try have y25 := zi_rem (x := x7) (y := (3 : Int32)) (by omega) (by omega)
      refine S1.lt ?_
      intro g19 hg19
      have Ig19 : Inv g19 := Inv.up hI hg19 rfl (bdP_st (by omega) (stP_lo (by omega)))
      have u26 : (g19 113 3).toInt = (g 113 3).toInt := by rw [← hg19]; rfl
      try have y27 := zi_add (x := x8) (y := (1 : Int32)) (by omega) (by omega)
      exact (ih (x7 / 3) (x8 + 1) g19 Ig19 (by omega))
theorem s_178_71 (x1 : Int32) (x2 : Int32) : ∀ (f : Nat) (x3 : Int32) (x4 : Int32) (x5 : Int32) (x6 : Int32) (g : G), Inv g → 0 ≤ x6.toInt ∧ x6.toInt ≤ 81 ∧ x2.toInt ≤ 81 ∧ 81 - x6.toInt < (f : Int) ∧ x1.toInt ≤ 13 → S1 (d_178_71 x1 x2 f x3 x4 x5 x6 g) (fun q : Int32 × G => Inv q.2 ∧ True) := by
  intro f
  induction f with
  | zero =>
    intro x3 x4 x5 x6 g hI hp
    exfalso
    omega
  | succ f ih =>
    intro x3 x4 x5 x6 g hI hp
    rw [d_178_71.eq_2]
    have L0 := zl_0
    refine S1.ite (fun hc4 => ?_) (fun hc4 => ?_)
    · skip
      have chc4 := zc_geT hc4
      exact (s_178_178 x1 x3 x4 x5 300 (0 : Int32) g hI (by omega))
    · skip
      have chc4 := zc_geF hc4
      exact (s_178_84 x1 x2 x3 x4 x5 x6 (d_178_71 x1 x2 f) (f : Int) ih 300 x6 (0 : Int32) g hI (by omega))
theorem s_178_27 (x1 : Int32) : ∀ (f : Nat) (x2 : Int32) (x3 : Int32) (g : G), Inv g → 0 ≤ x3.toInt ∧ x3.toInt ≤ 4 ∧ 4 - x3.toInt < (f : Int) ∧ (x3.toInt = 0 ∧ x2.toInt = 1 ∨ x3.toInt = 1 ∧ x2.toInt = 3 ∨ x3.toInt = 2 ∧ x2.toInt = 9 ∨ x3.toInt = 3 ∧ x2.toInt = 27 ∨ x3.toInt = 4 ∧ x2.toInt = 81) ∧ x1.toInt ≤ 13 → S1 (d_178_27 x1 f x2 x3 g) (fun q : Int32 × G => Inv q.2 ∧ True) := by
  intro f
  induction f with
  | zero =>
    intro x2 x3 g hI hp
    exfalso
    omega
  | succ f ih =>
    intro x2 x3 g hI hp
    rw [d_178_27.eq_2]
    have Lm4 := zl_m4
    have L0 := zl_0
    have L1 := zl_1
    have L3 := zl_3
    have yp34 : 0 ≤ (g 113 3).toInt ∧ (g 113 3).toInt ≤ 4 := Inv.rd (r := 113) (c := 8) hI 3 rfl
    have y29 : 0 ≤ (g 113 3).toInt ∧ (g 113 3).toInt ≤ 4 := Inv.rd (r := 113) (c := 8) hI 3 rfl
    refine S1.ite (fun hc3 => ?_) (fun hc3 => ?_)
    · skip
      have chc3 := zc_geT hc3
      exact (s_178_71 x1 x2 300 (0 : Int32) (-4 : Int32) (0 : Int32) (0 : Int32) g hI (by omega))
    · skip
      have chc3 := zc_geF hc3
      try have y30 := zi_add (x := (0 : Int32)) (y := x3) (by omega) (by omega)
      refine S1.ix (by omega) ?_
      intro k21 hk21 bk21
      refine S1.ix (by omega) ?_
      intro k23 hk23 bk23
      refine S1.lt ?_
      intro g22 hg22
      have Ig22 : Inv g22 := Inv.up hI hg22 rfl trivial
      have u31 : (g22 113 3).toInt = (g 113 3).toInt := by rw [← hg22]; rfl
      try have y32 := zi_mulr (x := x2) (y := (3 : Int32)) (n := 3) (by decide) (by omega) (by omega)
      try have y33 := zi_add (x := x3) (y := (1 : Int32)) (by omega) (by omega)
      exact (ih (x2 * 3) (x3 + 1) g22 Ig22 (by omega))
/-- EveningFirstModel.ways -/
theorem s_178 (x1 : Int32) (g : G) (hI : Inv g) (hp : True) : S1 (d_178 x1 g) (fun q : Int32 × G => Inv q.2 ∧ True) := by
  unfold d_178
  have Lm1 := zl_m1
  have L0 := zl_0
  have L1 := zl_1
  have L10 := zl_10
  have yp39 : 0 ≤ (g 113 3).toInt ∧ (g 113 3).toInt ≤ 4 := Inv.rd (r := 113) (c := 8) hI 3 rfl
  have y35 := zi_i64 x1
  have y36 : (0 : Int64).toInt = 0 := by decide
  have y37 : (1 : Int64).toInt = 1 := by decide
  refine S1.lc (zin_c (a := (Int32.toInt64 x1)) (b := (0 : Int64)) (c := (1 : Int64))) ?_
  intro v1 hvv1 hRv1
  have hRv1 : (v1 = true → (0 : Int64).toInt ≤ (Int32.toInt64 x1).toInt ∧ (Int32.toInt64 x1).toInt ≤ (1 : Int64).toInt) ∧ (v1 = false → (Int32.toInt64 x1).toInt < (0 : Int64).toInt ∨ (1 : Int64).toInt < (Int32.toInt64 x1).toInt) := hRv1
  refine S1.ite (fun hc2 => ?_) (fun hc2 => ?_)
  · skip
    have chc2 := hRv1.1 hc2
    exact (s_178_27 x1 300 (1 : Int32) (0 : Int32) g hI (by omega))
  · skip
    have chc2 := hRv1.2 hc2
    try have y38 := zi_sub (x := x1) (y := (10 : Int32)) (by omega) (by omega)
    refine S1.lc (s_131 (x1 - 10) g hI trivial) ?_
    intro v24 hvv24 hRv24
    have hRv24 : True ∧ True ∧ (v24 = true → 0 ≤ (x1 - 10).toInt ∧ (x1 - 10).toInt < (g 113 3).toInt) ∧ (v24 = false → True) := hRv24
    refine S1.ite (fun hc25 => ?_) (fun hc25 => ?_)
    · skip
      have chc25 := hRv24.2.2.1 hc25
      exact (s_178_27 x1 300 (1 : Int32) (0 : Int32) g hI (by omega))
    · skip
      have chc25 := hRv24.2.2.2 hc25
      exact S1.ret (show Inv g ∧ True from ⟨hI, trivial⟩)
theorem s_82_48 (x2 : Int32) (x3 : Int32) (g : G) (hI : Inv g) : ∀ (f : Nat) (x4 : Int32) (x5 : Int32) (x6 : Int32), 0 ≤ x6.toInt ∧ x6.toInt ≤ 60 ∧ x2.toInt ≤ 60 ∧ 60 - x6.toInt < (f : Int) ∧ 1 ≤ x3.toInt ∧ x3.toInt ≤ 8 → S1 (d_82_48 x2 x3 g f x4 x5 x6) (fun q : Int32 × G => Inv q.2 ∧ True) := by
  intro f
  induction f with
  | zero =>
    intro x4 x5 x6 hp
    exfalso
    omega
  | succ f ih =>
    intro x4 x5 x6 hp
    rw [d_82_48.eq_2]
    have L0 := zl_0
    have L1 := zl_1
    have L31 := zl_31
    have L12345 := zl_12345
    have L32767 := zl_32767
    have L1103515245 := zl_1103515245
    refine S1.ite (fun hc5 => ?_) (fun hc5 => ?_)
    · skip
      have chc5 := zc_geT hc5
      exact S1.ret (show Inv g ∧ True from ⟨hI, trivial⟩)
    · skip
      have chc5 := zc_geF hc5
      refine S1.gd (by omega) ?_
      refine S1.lt ?_
      intro v7 hvv7
      refine S1.ite (fun hc8 => ?_) (fun hc8 => ?_)
      · skip
        try have y1 := zi_mulr (x := x4) (y := (1103515245 : Int32)) (n := 1103515245) (by decide) (by omega) (by omega)
        try have y2 := zi_add (x := (x4 * 1103515245)) (y := (12345 : Int32)) (by omega) (by omega)
        try have y3 := zi_add (x := x6) (y := (1 : Int32)) (by omega) (by omega)
        exact (ih ((x4 * 1103515245) + 12345) x5 (x6 + 1) (by omega))
      · skip
        try have y4 := zi_and (x := ((Int32.toUInt32 ((x4 * 1103515245) + 12345) >>> (Int32.toUInt32 16 &&& Int32.toUInt32 31)).toInt32)) (y := (32767 : Int32)) (by omega)
        try have y5 := zi_rem (x := (((Int32.toUInt32 ((x4 * 1103515245) + 12345) >>> (Int32.toUInt32 16 &&& Int32.toUInt32 31)).toInt32) &&& 32767)) (y := x3) (by omega) (by omega)
        refine S1.bd (s_4 ((((Int32.toUInt32 ((x4 * 1103515245) + 12345) >>> (Int32.toUInt32 16 &&& Int32.toUInt32 31)).toInt32) &&& 32767) - (((Int32.toUInt32 ((x4 * 1103515245) + 12345) >>> (Int32.toUInt32 16 &&& Int32.toUInt32 31)).toInt32) &&& 32767) / x3 * x3) x5 g hI (by omega)) ?_
        intro v9 hvv9 hRv9
        have hRv9 : True ∧ True := hRv9
        refine S1.ite (fun hc10 => ?_) (fun hc10 => ?_)
        · skip
          have chc10 := zc_neT hc10
          try have y6 := zi_mulr (x := x4) (y := (1103515245 : Int32)) (n := 1103515245) (by decide) (by omega) (by omega)
          try have y7 := zi_add (x := (x4 * 1103515245)) (y := (12345 : Int32)) (by omega) (by omega)
          try have y8 := zi_add (x := x6) (y := (1 : Int32)) (by omega) (by omega)
          exact (ih ((x4 * 1103515245) + 12345) x5 (x6 + 1) (by omega))
        · skip
          have chc10 := zc_neF hc10
          try have y9 := zi_mulr (x := x4) (y := (1103515245 : Int32)) (n := 1103515245) (by decide) (by omega) (by omega)
          try have y10 := zi_add (x := (x4 * 1103515245)) (y := (12345 : Int32)) (by omega) (by omega)
          try have y11 := zi_and (x := ((((Int32.toUInt32 ((x4 * 1103515245) + 12345) >>> (Int32.toUInt32 16 &&& Int32.toUInt32 31)).toInt32) &&& 32767) - (((Int32.toUInt32 ((x4 * 1103515245) + 12345) >>> (Int32.toUInt32 16 &&& Int32.toUInt32 31)).toInt32) &&& 32767) / x3 * x3)) (y := (31 : Int32)) (by omega)
          try have y12 := zi_shl1 (x := ((((Int32.toUInt32 ((x4 * 1103515245) + 12345) >>> (Int32.toUInt32 16 &&& Int32.toUInt32 31)).toInt32) &&& 32767) - (((Int32.toUInt32 ((x4 * 1103515245) + 12345) >>> (Int32.toUInt32 16 &&& Int32.toUInt32 31)).toInt32) &&& 32767) / x3 * x3)) (by omega)
          try have y13 := zi_add (x := x6) (y := (1 : Int32)) (by omega) (by omega)
          exact (ih ((x4 * 1103515245) + 12345) (x5 ||| ((1 : Int32) <<< (((((Int32.toUInt32 ((x4 * 1103515245) + 12345) >>> (Int32.toUInt32 16 &&& Int32.toUInt32 31)).toInt32) &&& 32767) - (((Int32.toUInt32 ((x4 * 1103515245) + 12345) >>> (Int32.toUInt32 16 &&& Int32.toUInt32 31)).toInt32) &&& 32767) / x3 * x3) &&& 31))) (x6 + 1) (by omega))
/-- EveningFirst.walk -/
theorem s_82 (x1 : Int32) (x2 : Int32) (g : G) (hI : Inv g) (hp : True) : S1 (d_82 x1 x2 g) (fun q : Int32 × G => Inv q.2 ∧ True) := by
  unfold d_82
  have Lm2 := zl_m2
  have Lm1 := zl_m1
  have L0 := zl_0
  have L1 := zl_1
  have L60 := zl_60
  have yp16 : 0 ≤ (g 1 2).toInt ∧ (g 1 2).toInt ≤ 8 := Inv.rd (r := 1) (c := 2) hI 2 rfl
  refine S1.ite (fun hc1 => ?_) (fun hc1 => ?_)
  · skip
    have chc1 := zc_ltT hc1
    exact S1.ret (show Inv g ∧ True from ⟨hI, trivial⟩)
  · skip
    have chc1 := zc_ltF hc1
    refine S1.ite (fun hc2 => ?_) (fun hc2 => ?_)
    · skip
      have chc2 := zc_leT hc2
      have y14 : 0 ≤ (g 1 2).toInt ∧ (g 1 2).toInt ≤ 8 := Inv.rd (r := 1) (c := 2) hI 2 rfl
      refine S1.ite (fun hc3 => ?_) (fun hc3 => ?_)
      · skip
        have chc3 := zc_neT hc3
        refine S1.bd (s_2 1 rfl g hI trivial) ?_
        intro g4 hvg4 hRg4
        have hRg4 : Inv g4 ∧ True := hRg4
        have y15 : 0 ≤ (g4 1 2).toInt ∧ (g4 1 2).toInt ≤ 8 := Inv.rd (r := 1) (c := 2) hRg4.1 2 rfl
        exact (s_82_48 x2 (g 1 2) g4 hRg4.1 300 x1 (0 : Int32) (0 : Int32) (by omega))
      · skip
        have chc3 := zc_neF hc3
        exact S1.ret (show Inv g ∧ True from ⟨hI, trivial⟩)
    · skip
      have chc2 := zc_leF hc2
      exact S1.ret (show Inv g ∧ True from ⟨hI, trivial⟩)
