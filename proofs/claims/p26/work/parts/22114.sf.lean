/-! printed by wip/tools/safe.py -/
theorem s_5_5 (x1 : Int32) (x2 : Int32) (g : G) (hI : Inv g) : ∀ (f : Nat) (x3 : Int32) (x4 : Int32), 0 ≤ x4.toInt ∧ x4.toInt ≤ 8 ∧ 8 - x4.toInt < (f : Int) → S1 (d_5_5 x1 x2 g f x3 x4) (fun q : Int32 => True ∧ True) := by
  intro f
  induction f with
  | zero =>
    intro x3 x4 hp
    exfalso
    omega
  | succ f ih =>
    intro x3 x4 hp
    rw [d_5_5.eq_2]
    have L0 := zl_0
    have L1 := zl_1
    have L31 := zl_31
    have yp7 : 0 ≤ (g 25 3).toInt ∧ (g 25 3).toInt ≤ 8 := Inv.rd (r := 25) (c := 0) hI 3 rfl
    have y1 : 0 ≤ (g 25 3).toInt ∧ (g 25 3).toInt ≤ 8 := Inv.rd (r := 25) (c := 0) hI 3 rfl
    refine S1.ite (fun hc1 => ?_) (fun hc1 => ?_)
    · skip
      have chc1 := zc_geT hc1
      exact S1.ret (show True ∧ True from ⟨trivial, trivial⟩)
    · skip
      have chc1 := zc_geF hc1
      refine S1.lt ?_
      intro v2 hvv2
      refine S1.ite (fun hc3 => ?_) (fun hc3 => ?_)
      · skip
        refine S1.bd (s_4 x4 x1 g hI (by omega)) ?_
        intro v4 hvv4 hRv4
        have hRv4 : True ∧ True := hRv4
        refine S1.ite (fun hc5 => ?_) (fun hc5 => ?_)
        · skip
          have chc5 := zc_neT hc5
          try have y2 := zi_add (x := x4) (y := (1 : Int32)) (by omega) (by omega)
          exact (ih x3 (x4 + 1) (by omega))
        · skip
          have chc5 := zc_neF hc5
          try have y3 := zi_and (x := x4) (y := (31 : Int32)) (by omega)
          try have y4 := zi_shl1 (x := x4) (by omega)
          try have y5 := zi_add (x := x4) (y := (1 : Int32)) (by omega) (by omega)
          exact (ih (x3 ||| ((1 : Int32) <<< (x4 &&& 31))) (x4 + 1) (by omega))
      · skip
        try have y6 := zi_add (x := x4) (y := (1 : Int32)) (by omega) (by omega)
        exact (ih x3 (x4 + 1) (by omega))
/-- EveningFirst$Bonds.ableBy -/
theorem s_5 (x1 : Int32) (x2 : Int32) (g : G) (hI : Inv g) (hp : True) : S1 (d_5 x1 x2 g) (fun q : Int32 => True ∧ True) := by
  unfold d_5
  have L0 := zl_0
  exact (s_5_5 x1 x2 g hI 300 (0 : Int32) (0 : Int32) (by omega))
/-- EveningFirst$Bonds.hold -/
theorem s_6 (x1 : Int32) (g : G) (hI : Inv g) (hp : True) : S1 (d_6 x1 g) (fun q : Bool => True ∧ True ∧ (q = true → True) ∧ (q = false → True)) := by
  unfold d_6
  refine S1.bd (s_5 x1 x1 g hI trivial) ?_
  intro v1 hvv1 hRv1
  have hRv1 : True ∧ True := hRv1
  refine S1.ite (fun hc2 => ?_) (fun hc2 => ?_)
  · skip
    have chc2 := zc_neT hc2
    exact S1.ret (show True ∧ True ∧ (false = true → True) ∧ (false = false → True) from ⟨trivial, trivial, (fun _ => trivial), (fun _ => trivial)⟩)
  · skip
    have chc2 := zc_neF hc2
    exact S1.ret (show True ∧ True ∧ (true = true → True) ∧ (true = false → True) from ⟨trivial, trivial, (fun _ => trivial), (fun _ => trivial)⟩)
/-- EveningFirst.hangs -/
theorem s_68 (x1 : Int32) (g : G) (hI : Inv g) (hp : True) : S1 (d_68 x1 g) (fun q : Int32 × G => Inv q.2 ∧ True) := by
  unfold d_68
  have Lm1 := zl_m1
  have L0 := zl_0
  have L1 := zl_1
  refine S1.lt ?_
  intro v1 hvv1
  refine S1.ite (fun hc2 => ?_) (fun hc2 => ?_)
  · skip
    refine S1.bd (s_2 1 rfl g hI trivial) ?_
    intro g3 hvg3 hRg3
    have hRg3 : Inv g3 ∧ True := hRg3
    refine S1.bd (s_6 x1 g3 hRg3.1 trivial) ?_
    intro v4 hvv4 hRv4
    have hRv4 : True ∧ True ∧ (v4 = true → True) ∧ (v4 = false → True) := hRv4
    refine S1.ite (fun hc5 => ?_) (fun hc5 => ?_)
    · skip
      have chc5 := hRv4.2.2.1 hc5
      exact S1.ret (show Inv g3 ∧ True from ⟨hRg3.1, trivial⟩)
    · skip
      have chc5 := hRv4.2.2.2 hc5
      exact S1.ret (show Inv g3 ∧ True from ⟨hRg3.1, trivial⟩)
  · skip
    exact S1.ret (show Inv g ∧ True from ⟨hI, trivial⟩)
/-- EveningFirstModel.lacksBy -/
theorem s_151 (x1 : Int32) (x2 : Int32) (g : G) (hI : Inv g) (hp : 0 ≤ x1.toInt ∧ x1.toInt ≤ 7) : S1 (d_151 x1 x2 g) (fun q : Int32 => True ∧ True) := by
  unfold d_151
  have Lm1 := zl_m1
  have L0 := zl_0
  have L1 := zl_1
  have L4 := zl_4
  refine S1.bd (s_136 x1 (4 : Int32) g hI (by omega)) ?_
  intro v1 hvv1 hRv1
  have hRv1 : True ∧ (((4 : Int32).toInt = 0 → 0 ≤ v1.toInt ∧ v1.toInt ≤ 7) ∧ ((4 : Int32).toInt = 1 → 0 ≤ v1.toInt ∧ v1.toInt ≤ 3)) := hRv1
  refine S1.bd (s_136 x1 (1 : Int32) g hI (by omega)) ?_
  intro v2 hvv2 hRv2
  have hRv2 : True ∧ (((1 : Int32).toInt = 0 → 0 ≤ v2.toInt ∧ v2.toInt ≤ 7) ∧ ((1 : Int32).toInt = 1 → 0 ≤ v2.toInt ∧ v2.toInt ≤ 3)) := hRv2
  refine S1.bd (s_136 x1 (0 : Int32) g hI (by omega)) ?_
  intro v3 hvv3 hRv3
  have hRv3 : True ∧ (((0 : Int32).toInt = 0 → 0 ≤ v3.toInt ∧ v3.toInt ≤ 7) ∧ ((0 : Int32).toInt = 1 → 0 ≤ v3.toInt ∧ v3.toInt ≤ 3)) := hRv3
  refine S1.bd (s_150 v2 v3 x2 g hI (by omega)) ?_
  intro v4 hvv4 hRv4
  have hRv4 : True ∧ True := hRv4
  try have y1 := zi_and (x := v1) (y := (v4 ^^^ (-1))) (by omega)
  exact S1.ret (show True ∧ True from ⟨trivial, trivial⟩)
theorem s_152_4 (x1 : Int32) (g : G) (hI : Inv g) : ∀ (f : Nat) (x2 : Bool) (x3 : Int32), 0 ≤ x3.toInt ∧ x3.toInt ≤ 8 ∧ 8 - x3.toInt < (f : Int) → S1 (d_152_4 x1 g f x2 x3) (fun q : Bool => True ∧ True ∧ (q = true → True) ∧ (q = false → True)) := by
  intro f
  induction f with
  | zero =>
    intro x2 x3 hp
    exfalso
    omega
  | succ f ih =>
    intro x2 x3 hp
    rw [d_152_4.eq_2]
    have L0 := zl_0
    have L1 := zl_1
    have L31 := zl_31
    have yp8 := hI.m8
    have y1 := hI.m8
    refine S1.ite (fun hc1 => ?_) (fun hc1 => ?_)
    · skip
      have chc1 := zc_geT hc1
      exact S1.ret (show True ∧ True ∧ (x2 = true → True) ∧ (x2 = false → True) from ⟨trivial, trivial, (fun _ => trivial), (fun _ => trivial)⟩)
    · skip
      have chc1 := zc_geF hc1
      refine S1.ite (fun hc2 => ?_) (fun hc2 => ?_)
      · skip
        try have y2 := zi_and (x := x3) (y := (31 : Int32)) (by omega)
        try have y3 := zi_and (x := (x1 >>> (x3 &&& 31))) (y := (1 : Int32)) (by omega)
        refine S1.ite (fun hc3 => ?_) (fun hc3 => ?_)
        · skip
          have chc3 := zc_eqT hc3
          try have y4 := zi_add (x := x3) (y := (1 : Int32)) (by omega) (by omega)
          exact (ih true (x3 + 1) (by omega))
        · skip
          have chc3 := zc_eqF hc3
          refine S1.bd (s_151 x3 x1 g hI (by omega)) ?_
          intro v4 hvv4 hRv4
          have hRv4 : True ∧ True := hRv4
          refine S1.ite (fun hc5 => ?_) (fun hc5 => ?_)
          · skip
            have chc5 := zc_neT hc5
            try have y5 := zi_add (x := x3) (y := (1 : Int32)) (by omega) (by omega)
            exact (ih false (x3 + 1) (by omega))
          · skip
            have chc5 := zc_neF hc5
            try have y6 := zi_add (x := x3) (y := (1 : Int32)) (by omega) (by omega)
            exact (ih true (x3 + 1) (by omega))
      · skip
        try have y7 := zi_add (x := x3) (y := (1 : Int32)) (by omega) (by omega)
        exact (ih false (x3 + 1) (by omega))
/-- EveningFirstModel.doesHang -/
theorem s_152 (x1 : Int32) (g : G) (hI : Inv g) (hp : True) : S1 (d_152 x1 g) (fun q : Bool => True ∧ True ∧ (q = true → True) ∧ (q = false → True)) := by
  unfold d_152
  have L0 := zl_0
  exact (s_152_4 x1 g hI 300 true (0 : Int32) (by omega))
/-- EveningFirstModel.hangs -/
theorem s_154 (x1 : Int32) (g : G) (hI : Inv g) (hp : True) : S1 (d_154 x1 g) (fun q : Int32 => True ∧ True) := by
  unfold d_154
  have Lm1 := zl_m1
  refine S1.lt ?_
  intro v1 hvv1
  refine S1.ite (fun hc2 => ?_) (fun hc2 => ?_)
  · skip
    refine S1.bd (s_152 x1 g hI trivial) ?_
    intro v3 hvv3 hRv3
    have hRv3 : True ∧ True ∧ (v3 = true → True) ∧ (v3 = false → True) := hRv3
    refine S1.lt ?_
    intro v4 hvv4
    exact S1.ret (show True ∧ True from ⟨trivial, trivial⟩)
  · skip
    exact S1.ret (show True ∧ True from ⟨trivial, trivial⟩)
theorem s_189_49 (x0 : Int32) (x1 : Int32) (g : G) (hI : Inv g) (hp : True) : T1 (d_189_49 x0 x1 g) (fun q : Int32 => True ∧ True) := by
  unfold d_189_49
  have L2 := zl_2
  have L4 := zl_4
  have L16 := zl_16
  refine T1.ite (fun hc4 => ?_) (fun hc4 => ?_)
  · skip
    have chc4 := zc_leT hc4
    refine T1.ite (fun hc5 => ?_) (fun hc5 => ?_)
    · skip
      have chc5 := zc_leT hc5
      try have y1 := zi_add (x := x1) (y := ((Int32.toUInt32 x0 >>> (Int32.toUInt32 1 &&& Int32.toUInt32 31)).toInt32)) (by omega) (by omega)
      exact T1.ret (show True ∧ True from ⟨trivial, trivial⟩)
    · skip
      have chc5 := zc_leF hc5
      try have y2 := zi_add (x := x1) (y := (2 : Int32)) (by omega) (by omega)
      try have y3 := zi_add (x := (x1 + 2)) (y := ((Int32.toUInt32 ((Int32.toUInt32 x0 >>> (Int32.toUInt32 2 &&& Int32.toUInt32 31)).toInt32) >>> (Int32.toUInt32 1 &&& Int32.toUInt32 31)).toInt32)) (by omega) (by omega)
      exact T1.ret (show True ∧ True from ⟨trivial, trivial⟩)
  · skip
    have chc4 := zc_leF hc4
    refine T1.ite (fun hc6 => ?_) (fun hc6 => ?_)
    · skip
      have chc6 := zc_leT hc6
      try have y4 := zi_add (x := x1) (y := (4 : Int32)) (by omega) (by omega)
      try have y5 := zi_add (x := (x1 + 4)) (y := ((Int32.toUInt32 ((Int32.toUInt32 x0 >>> (Int32.toUInt32 4 &&& Int32.toUInt32 31)).toInt32) >>> (Int32.toUInt32 1 &&& Int32.toUInt32 31)).toInt32)) (by omega) (by omega)
      exact T1.ret (show True ∧ True from ⟨trivial, trivial⟩)
    · skip
      have chc6 := zc_leF hc6
      try have y6 := zi_add (x := x1) (y := (4 : Int32)) (by omega) (by omega)
      try have y7 := zi_add (x := (x1 + 4)) (y := (2 : Int32)) (by omega) (by omega)
      try have y8 := zi_add (x := ((x1 + 4) + 2)) (y := ((Int32.toUInt32 ((Int32.toUInt32 ((Int32.toUInt32 x0 >>> (Int32.toUInt32 4 &&& Int32.toUInt32 31)).toInt32) >>> (Int32.toUInt32 2 &&& Int32.toUInt32 31)).toInt32) >>> (Int32.toUInt32 1 &&& Int32.toUInt32 31)).toInt32)) (by omega) (by omega)
      exact T1.ret (show True ∧ True from ⟨trivial, trivial⟩)
theorem s_69_33 (x1 : Int32) (x2 : Int32) (g : G) (hI : Inv g) : ∀ (f : Nat) (x3 : Int32), 0 ≤ x3.toInt ∧ x3.toInt ≤ 8 ∧ 8 - x3.toInt < (f : Int) → S1 (d_69_33 x1 x2 g f x3) (fun q : Int32 × G => Inv q.2 ∧ True) := by
  intro f
  induction f with
  | zero =>
    intro x3 hp
    exfalso
    omega
  | succ f ih =>
    intro x3 hp
    rw [d_69_33.eq_2]
    have Lm4 := zl_m4
    have L0 := zl_0
    have L1 := zl_1
    have yp4 : 0 ≤ (g 1 2).toInt ∧ (g 1 2).toInt ≤ 8 := Inv.rd (r := 1) (c := 2) hI 2 rfl
    have y1 : 0 ≤ (g 1 2).toInt ∧ (g 1 2).toInt ≤ 8 := Inv.rd (r := 1) (c := 2) hI 2 rfl
    refine S1.ite (fun hc6 => ?_) (fun hc6 => ?_)
    · skip
      have chc6 := zc_geT hc6
      exact S1.ret (show Inv g ∧ True from ⟨hI, trivial⟩)
    · skip
      have chc6 := zc_geF hc6
      refine S1.lt ?_
      intro v7 hvv7
      refine S1.ite (fun hc8 => ?_) (fun hc8 => ?_)
      · skip
        refine S1.bd (s_4 x3 x1 g hI (by omega)) ?_
        intro v9 hvv9 hRv9
        have hRv9 : True ∧ True := hRv9
        refine S1.ite (fun hc10 => ?_) (fun hc10 => ?_)
        · skip
          have chc10 := zc_eqT hc10
          try have y2 := zi_add (x := x3) (y := (1 : Int32)) (by omega) (by omega)
          exact (ih (x3 + 1) (by omega))
        · skip
          have chc10 := zc_eqF hc10
          refine S1.ite (fun hc11 => ?_) (fun hc11 => ?_)
          · skip
            have chc11 := zc_neT hc11
            refine S1.lt ?_
            intro v12 hvv12
            exact S1.ret (show Inv g ∧ True from ⟨hI, trivial⟩)
          · skip
            have chc11 := zc_neF hc11
            exact S1.ret (show Inv g ∧ True from ⟨hI, trivial⟩)
      · skip
        try have y3 := zi_add (x := x3) (y := (1 : Int32)) (by omega) (by omega)
        exact (ih (x3 + 1) (by omega))
/-- EveningFirst.lacks -/
theorem s_69 (x1 : Int32) (x2 : Int32) (g : G) (hI : Inv g) (hp : True) : S1 (d_69 x1 x2 g) (fun q : Int32 × G => Inv q.2 ∧ True) := by
  unfold d_69
  have Lm1 := zl_m1
  have L0 := zl_0
  refine S1.lt ?_
  intro v1 hvv1
  refine S1.ite (fun hc2 => ?_) (fun hc2 => ?_)
  · skip
    refine S1.lt ?_
    intro v3 hvv3
    refine S1.ite (fun hc4 => ?_) (fun hc4 => ?_)
    · skip
      exact S1.ret (show Inv g ∧ True from ⟨hI, trivial⟩)
    · skip
      refine S1.bd (s_2 1 rfl g hI trivial) ?_
      intro g5 hvg5 hRg5
      have hRg5 : Inv g5 ∧ True := hRg5
      exact (s_69_33 x1 x2 g5 hRg5.1 300 (0 : Int32) (by omega))
  · skip
    exact S1.ret (show Inv g ∧ True from ⟨hI, trivial⟩)
theorem s_155_2 (x0 : Int32) (g : G) : ∀ (f : Nat) (x1 : Int32) (b : Nat), 0 ≤ x1.toInt → x1.toInt ≤ b → b < 32 → zbit x0 b = true → 32 - x1.toInt < (f : Int) → S1 (d_155_2 x0 g f x1) (fun q : Int32 => True ∧ True) := by
  intro f
  induction f with
  | zero => intro x1 b h0 h1 h2 h3 h4; exfalso; omega
  | succ f ih =>
    intro x1 b h0 h1 h2 h3 h4
    rw [d_155_2.eq_2]
    have L0 := zl_0
    have L1 := zl_1
    obtain ⟨n, hn⟩ : ∃ n : Nat, x1.toInt = n := ⟨x1.toInt.toNat, by omega⟩
    have e := zi_nat hn
    have ht := zbit_ti x0 (n := n) (by omega)
    rw [← e] at ht
    refine S1.ite (fun hc => ?_) (fun hc => ?_)
    · exact S1.ret ⟨trivial, trivial⟩
    · have c1 := zc_neF hc
      have hz : zbit x0 n = false := by
        cases hz : zbit x0 n with
        | false => rfl
        | true => rw [hz] at ht; rw [ht] at c1; exact absurd c1 (by decide)
      have hb : b ≠ n := fun q => by rw [q, hz] at h3; cases h3
      have y1 := zi_add (x := x1) (y := (1 : Int32)) (by omega) (by omega)
      exact ih _ b (by omega) (by omega) h2 h3 (by omega)
/-- EveningFirstModel.lowestOf -/
theorem s_155 (x0 : Int32) (g : G) (hI : Inv g) (hp : x0.toInt ≠ 0) : S1 (d_155 x0 g) (fun q : Int32 => True ∧ True) := by
  unfold d_155
  have L0 := zl_0
  obtain ⟨b, hb, hz⟩ := zb_nz hp
  exact s_155_2 x0 g 300 (0 : Int32) b (by omega) (by omega) hb hz (by omega)
theorem s_156_22 (x1 : Int32) (x2 : Int32) (g : G) (hI : Inv g) : ∀ (f : Nat) (x3 : Int32), 0 ≤ x3.toInt ∧ x3.toInt ≤ 8 ∧ 8 - x3.toInt < (f : Int) → S1 (d_156_22 x1 x2 g f x3) (fun q : Int32 => True ∧ True) := by
  intro f
  induction f with
  | zero =>
    intro x3 hp
    exfalso
    omega
  | succ f ih =>
    intro x3 hp
    rw [d_156_22.eq_2]
    have Lm4 := zl_m4
    have L0 := zl_0
    have L1 := zl_1
    have L31 := zl_31
    have yp6 := hI.m8
    have y1 := hI.m8
    refine S1.ite (fun hc5 => ?_) (fun hc5 => ?_)
    · skip
      have chc5 := zc_geT hc5
      exact S1.ret (show True ∧ True from ⟨trivial, trivial⟩)
    · skip
      have chc5 := zc_geF hc5
      try have y2 := zi_and (x := x3) (y := (31 : Int32)) (by omega)
      try have y3 := zi_and (x := (x1 >>> (x3 &&& 31))) (y := (1 : Int32)) (by omega)
      refine S1.ite (fun hc6 => ?_) (fun hc6 => ?_)
      · skip
        have chc6 := zc_neT hc6
        try have y4 := zi_add (x := x3) (y := (1 : Int32)) (by omega) (by omega)
        exact (ih (x3 + 1) (by omega))
      · skip
        have chc6 := zc_neF hc6
        refine S1.bd (s_151 x3 x1 g hI (by omega)) ?_
        intro v7 hvv7 hRv7
        have hRv7 : True ∧ True := hRv7
        refine S1.ite (fun hc8 => ?_) (fun hc8 => ?_)
        · skip
          have chc8 := zc_eqT hc8
          try have y5 := zi_add (x := x3) (y := (1 : Int32)) (by omega) (by omega)
          exact (ih (x3 + 1) (by omega))
        · skip
          have chc8 := zc_eqF hc8
          refine S1.ite (fun hc9 => ?_) (fun hc9 => ?_)
          · skip
            have chc9 := zc_neT hc9
            refine S1.bd (s_155 v7 g hI (by omega)) ?_
            intro v10 hvv10 hRv10
            have hRv10 : True ∧ True := hRv10
            exact S1.ret (show True ∧ True from ⟨trivial, trivial⟩)
          · skip
            have chc9 := zc_neF hc9
            exact S1.ret (show True ∧ True from ⟨trivial, trivial⟩)
/-- EveningFirstModel.lacks -/
theorem s_156 (x1 : Int32) (x2 : Int32) (g : G) (hI : Inv g) (hp : True) : S1 (d_156 x1 x2 g) (fun q : Int32 => True ∧ True) := by
  unfold d_156
  have Lm1 := zl_m1
  have L0 := zl_0
  have L1 := zl_1
  refine S1.lt ?_
  intro v1 hvv1
  refine S1.ite (fun hc2 => ?_) (fun hc2 => ?_)
  · skip
    have y7 := zi_i64 x2
    have y8 : (0 : Int64).toInt = 0 := by decide
    have y9 : (1 : Int64).toInt = 1 := by decide
    refine S1.lc (zin_c (a := (Int32.toInt64 x2)) (b := (0 : Int64)) (c := (1 : Int64))) ?_
    intro v3 hvv3 hRv3
    have hRv3 : (v3 = true → (0 : Int64).toInt ≤ (Int32.toInt64 x2).toInt ∧ (Int32.toInt64 x2).toInt ≤ (1 : Int64).toInt) ∧ (v3 = false → (Int32.toInt64 x2).toInt < (0 : Int64).toInt ∨ (1 : Int64).toInt < (Int32.toInt64 x2).toInt) := hRv3
    refine S1.ite (fun hc4 => ?_) (fun hc4 => ?_)
    · skip
      have chc4 := hRv3.1 hc4
      exact (s_156_22 x1 x2 g hI 300 (0 : Int32) (by omega))
    · skip
      have chc4 := hRv3.2 hc4
      exact S1.ret (show True ∧ True from ⟨trivial, trivial⟩)
  · skip
    exact S1.ret (show True ∧ True from ⟨trivial, trivial⟩)
/-- EveningFirst$Bonds.allow -/
theorem s_7 (x1 : Int32) (g : G) (hI : Inv g) (hp : True) : S1 (d_7 x1 g) (fun q : Bool => True ∧ True ∧ (q = true → True) ∧ (q = false → True)) := by
  unfold d_7
  have L0 := zl_0
  try have y1 := zi_and (x := x1) (y := (g 25 1)) (by omega)
  refine S1.ite (fun hc1 => ?_) (fun hc1 => ?_)
  · skip
    have chc1 := zc_neT hc1
    exact S1.ret (show True ∧ True ∧ (false = true → True) ∧ (false = false → True) from ⟨trivial, trivial, (fun _ => trivial), (fun _ => trivial)⟩)
  · skip
    have chc1 := zc_neF hc1
    try have y2 := zi_and (x := x1) (y := (g 25 2)) (by omega)
    refine S1.ite (fun hc2 => ?_) (fun hc2 => ?_)
    · skip
      have chc2 := zc_neT hc2
      exact S1.ret (show True ∧ True ∧ (false = true → True) ∧ (false = false → True) from ⟨trivial, trivial, (fun _ => trivial), (fun _ => trivial)⟩)
    · skip
      have chc2 := zc_neF hc2
      refine S1.bd (s_6 x1 g hI trivial) ?_
      intro v3 hvv3 hRv3
      have hRv3 : True ∧ True ∧ (v3 = true → True) ∧ (v3 = false → True) := hRv3
      refine S1.ite (fun hc4 => ?_) (fun hc4 => ?_)
      · skip
        have chc4 := hRv3.2.2.1 hc4
        exact S1.ret (show True ∧ True ∧ (true = true → True) ∧ (true = false → True) from ⟨trivial, trivial, (fun _ => trivial), (fun _ => trivial)⟩)
      · skip
        have chc4 := hRv3.2.2.2 hc4
        exact S1.ret (show True ∧ True ∧ (false = true → True) ∧ (false = false → True) from ⟨trivial, trivial, (fun _ => trivial), (fun _ => trivial)⟩)
theorem s_70_46 (x1 : Int32) (g : G) (hI : Inv g) : ∀ (f : Nat) (x2 : Int32) (x3 : Int32) (x4 : Int32) (x5 : Int32) (x6 : Int32) (x7 : Int32), 0 ≤ x7.toInt ∧ x7.toInt ≤ 256 ∧ 256 - x7.toInt < (f : Int) → S1 (d_70_46 x1 g f x2 x3 x4 x5 x6 x7) (fun q : Int32 × G => Inv q.2 ∧ True) := by
  intro f
  induction f with
  | zero =>
    intro x2 x3 x4 x5 x6 x7 hp
    exfalso
    omega
  | succ f ih =>
    intro x2 x3 x4 x5 x6 x7 hp
    rw [d_70_46.eq_2]
    have Lm4 := zl_m4
    have Lm1 := zl_m1
    have L0 := zl_0
    have L1 := zl_1
    have L2 := zl_2
    have L3 := zl_3
    have yp10 : 0 ≤ (g 25 0).toInt ∧ (g 25 0).toInt ≤ 255 := Inv.rd (r := 25) (c := 0) hI 0 rfl
    have y1 : 0 ≤ (g 25 0).toInt ∧ (g 25 0).toInt ≤ 255 := Inv.rd (r := 25) (c := 0) hI 0 rfl
    refine S1.ite (fun hc4 => ?_) (fun hc4 => ?_)
    · skip
      have chc4 := zc_gtT hc4
      refine S1.ite (fun hc5 => ?_) (fun hc5 => ?_)
      · skip
        have chc5 := zc_neT hc5
        refine S1.ite (fun hc6 => ?_) (fun hc6 => ?_)
        · skip
          have chc6 := zc_neT hc6
          refine S1.ite (fun hc7 => ?_) (fun hc7 => ?_)
          · skip
            have chc7 := zc_bT hc7
            exact S1.ret (show Inv g ∧ True from ⟨hI, trivial⟩)
          · skip
            have chc7 := zc_bF hc7
            refine S1.ite (fun hc8 => ?_) (fun hc8 => ?_)
            · skip
              have chc8 := zc_bT hc8
              exact S1.ret (show Inv g ∧ True from ⟨hI, trivial⟩)
            · skip
              have chc8 := zc_bF hc8
              refine S1.ite (fun hc9 => ?_) (fun hc9 => ?_)
              · skip
                have chc9 := zc_bT hc9
                exact S1.ret (show Inv g ∧ True from ⟨hI, trivial⟩)
              · skip
                have chc9 := zc_bF hc9
                try have y2 := zi_and (x := (g 25 0)) (y := (x6 ^^^ (-1))) (by omega)
                exact S1.ret (show Inv g ∧ True from ⟨hI, trivial⟩)
        · skip
          have chc6 := zc_neF hc6
          exact S1.ret (show Inv g ∧ True from ⟨hI, trivial⟩)
      · skip
        have chc5 := zc_neF hc5
        exact S1.ret (show Inv g ∧ True from ⟨hI, trivial⟩)
    · skip
      have chc4 := zc_gtF hc4
      refine S1.bd (s_7 x7 g hI trivial) ?_
      intro v10 hvv10 hRv10
      have hRv10 : True ∧ True ∧ (v10 = true → True) ∧ (v10 = false → True) := hRv10
      refine S1.ite (fun hc11 => ?_) (fun hc11 => ?_)
      · skip
        have chc11 := hRv10.2.2.1 hc11
        refine S1.ite (fun hc12 => ?_) (fun hc12 => ?_)
        · skip
          have chc12 := zc_neT hc12
          try have y3 := zi_add (x := x2) (y := (1 : Int32)) (by omega) (by omega)
          try have y4 := zi_and (x := x5) (y := x7) (by omega)
          try have y5 := zi_add (x := x7) (y := (1 : Int32)) (by omega) (by omega)
          exact (ih (x2 + 1) x3 x7 (x5 &&& x7) (x6 ||| x7) (x7 + 1) (by omega))
        · skip
          have chc12 := zc_neF hc12
          try have y6 := zi_add (x := x2) (y := (1 : Int32)) (by omega) (by omega)
          try have y7 := zi_and (x := x5) (y := x7) (by omega)
          try have y8 := zi_add (x := x7) (y := (1 : Int32)) (by omega) (by omega)
          exact (ih (x2 + 1) x7 x7 (x5 &&& x7) (x6 ||| x7) (x7 + 1) (by omega))
      · skip
        have chc11 := hRv10.2.2.2 hc11
        try have y9 := zi_add (x := x7) (y := (1 : Int32)) (by omega) (by omega)
        exact (ih x2 x3 x4 x5 x6 (x7 + 1) (by omega))
/-- EveningFirst.days -/
theorem s_70 (x1 : Int32) (g : G) (hI : Inv g) (hp : True) : S1 (d_70 x1 g) (fun q : Int32 × G => Inv q.2 ∧ True) := by
  unfold d_70
  have Lm4 := zl_m4
  have Lm1 := zl_m1
  have L0 := zl_0
  have L4 := zl_4
  have yp12 : 0 ≤ (g 25 0).toInt ∧ (g 25 0).toInt ≤ 255 := Inv.rd (r := 25) (c := 0) hI 0 rfl
  refine S1.ite (fun hc1 => ?_) (fun hc1 => ?_)
  · skip
    have chc1 := zc_ltT hc1
    exact S1.ret (show Inv g ∧ True from ⟨hI, trivial⟩)
  · skip
    have chc1 := zc_ltF hc1
    refine S1.ite (fun hc2 => ?_) (fun hc2 => ?_)
    · skip
      have chc2 := zc_leT hc2
      refine S1.bd (s_2 1 rfl g hI trivial) ?_
      intro g3 hvg3 hRg3
      have hRg3 : Inv g3 ∧ True := hRg3
      have y11 : 0 ≤ (g3 25 0).toInt ∧ (g3 25 0).toInt ≤ 255 := Inv.rd (r := 25) (c := 0) hRg3.1 0 rfl
      exact (s_70_46 x1 g3 hRg3.1 300 (0 : Int32) (-4 : Int32) (-4 : Int32) (g3 25 0) (0 : Int32) (0 : Int32) (by omega))
    · skip
      have chc2 := zc_leF hc2
      exact S1.ret (show Inv g ∧ True from ⟨hI, trivial⟩)
/-- EveningFirstModel.allDeeds -/
theorem s_158 (g : G) (hI : Inv g) (hp : True) : T1 (d_158 g) (fun q : Int32 => True ∧ (0 ≤ q.toInt ∧ q.toInt ≤ 255)) := by
  unfold d_158
  have L1 := zl_1
  have L31 := zl_31
  have yp5 := hI.m8
  have y1 := hI.m8
  try have y2 := zi_and (x := (g 114 8)) (y := (31 : Int32)) (by omega)
  try have y3 := zi_shl1 (x := (g 114 8)) (by omega)
  try have y4 := zi_sub (x := ((1 : Int32) <<< ((g 114 8) &&& 31))) (y := (1 : Int32)) (by omega) (by omega)
  exact T1.ret (show True ∧ (0 ≤ (((1 : Int32) <<< ((g 114 8) &&& 31)) - 1).toInt ∧ (((1 : Int32) <<< ((g 114 8) &&& 31)) - 1).toInt ≤ 255) from ⟨trivial, (by omega)⟩)
theorem s_157_4 (x1 : Int32) (g : G) (hI : Inv g) : ∀ (f : Nat) (x2 : Int32) (x3 : Int32), 0 ≤ x3.toInt ∧ x3.toInt ≤ 8 ∧ 8 - x3.toInt < (f : Int) → S1 (d_157_4 x1 g f x2 x3) (fun q : Int32 => True ∧ True) := by
  intro f
  induction f with
  | zero =>
    intro x2 x3 hp
    exfalso
    omega
  | succ f ih =>
    intro x2 x3 hp
    rw [d_157_4.eq_2]
    have L1 := zl_1
    have L5 := zl_5
    have L31 := zl_31
    have yp6 := hI.m8
    have y1 := hI.m8
    refine S1.ite (fun hc1 => ?_) (fun hc1 => ?_)
    · skip
      have chc1 := zc_geT hc1
      exact S1.ret (show True ∧ True from ⟨trivial, trivial⟩)
    · skip
      have chc1 := zc_geF hc1
      refine S1.bd (s_136 x3 (5 : Int32) g hI (by omega)) ?_
      intro v2 hvv2 hRv2
      have hRv2 : True ∧ (((5 : Int32).toInt = 0 → 0 ≤ v2.toInt ∧ v2.toInt ≤ 7) ∧ ((5 : Int32).toInt = 1 → 0 ≤ v2.toInt ∧ v2.toInt ≤ 3)) := hRv2
      refine S1.ite (fun hc3 => ?_) (fun hc3 => ?_)
      · skip
        have chc3 := zc_neT hc3
        refine S1.lt ?_
        intro v4 hvv4
        try have y2 := zi_and (x := x3) (y := (31 : Int32)) (by omega)
        try have y3 := zi_add (x := x3) (y := (1 : Int32)) (by omega) (by omega)
        exact (ih (x2 ||| (v4 <<< (x3 &&& 31))) (x3 + 1) (by omega))
      · skip
        have chc3 := zc_neF hc3
        refine S1.lt ?_
        intro v5 hvv5
        try have y4 := zi_and (x := x3) (y := (31 : Int32)) (by omega)
        try have y5 := zi_add (x := x3) (y := (1 : Int32)) (by omega) (by omega)
        exact (ih (x2 ||| (v5 <<< (x3 &&& 31))) (x3 + 1) (by omega))
/-- EveningFirstModel.marked -/
theorem s_157 (x1 : Int32) (g : G) (hI : Inv g) (hp : True) : S1 (d_157 x1 g) (fun q : Int32 => True ∧ True) := by
  unfold d_157
  have L0 := zl_0
  exact (s_157_4 x1 g hI 300 (0 : Int32) (0 : Int32) (by omega))
/-- EveningFirstModel.isAllowed -/
theorem s_159 (x1 : Int32) (g : G) (hI : Inv g) (hp : True) : S1 (d_159 x1 g) (fun q : Bool => True ∧ True ∧ (q = true → True) ∧ (q = false → True)) := by
  unfold d_159
  have Lm1 := zl_m1
  have L0 := zl_0
  have L1 := zl_1
  have L2 := zl_2
  refine S1.bd (s_157 (1 : Int32) g hI trivial) ?_
  intro v1 hvv1 hRv1
  have hRv1 : True ∧ True := hRv1
  try have y1 := zi_and (x := v1) (y := (x1 ^^^ (-1))) (by omega)
  refine S1.ite (fun hc2 => ?_) (fun hc2 => ?_)
  · skip
    have chc2 := zc_neT hc2
    exact S1.ret (show True ∧ True ∧ (false = true → True) ∧ (false = false → True) from ⟨trivial, trivial, (fun _ => trivial), (fun _ => trivial)⟩)
  · skip
    have chc2 := zc_neF hc2
    refine S1.bd (s_157 (2 : Int32) g hI trivial) ?_
    intro v3 hvv3 hRv3
    have hRv3 : True ∧ True := hRv3
    try have y2 := zi_and (x := v3) (y := x1) (by omega)
    refine S1.ite (fun hc4 => ?_) (fun hc4 => ?_)
    · skip
      have chc4 := zc_neT hc4
      exact S1.ret (show True ∧ True ∧ (false = true → True) ∧ (false = false → True) from ⟨trivial, trivial, (fun _ => trivial), (fun _ => trivial)⟩)
    · skip
      have chc4 := zc_neF hc4
      refine S1.bd (s_152 x1 g hI trivial) ?_
      intro v5 hvv5 hRv5
      have hRv5 : True ∧ True ∧ (v5 = true → True) ∧ (v5 = false → True) := hRv5
      refine S1.ite (fun hc6 => ?_) (fun hc6 => ?_)
      · skip
        have chc6 := hRv5.2.2.1 hc6
        exact S1.ret (show True ∧ True ∧ (true = true → True) ∧ (true = false → True) from ⟨trivial, trivial, (fun _ => trivial), (fun _ => trivial)⟩)
      · skip
        have chc6 := hRv5.2.2.2 hc6
        exact S1.ret (show True ∧ True ∧ (false = true → True) ∧ (false = false → True) from ⟨trivial, trivial, (fun _ => trivial), (fun _ => trivial)⟩)
