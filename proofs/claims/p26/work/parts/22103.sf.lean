/-! printed by wip/tools/safe.py -/
/-- EveningFirst$Family.isHour -/
theorem s_19 (r0 : Nat) (x1 : Int32) (h0 : zg_cl r0 = 2) (g : G) (hI : Inv g) (hp : True) : T1 (d_19 r0 x1 g) (fun q : Bool => True ∧ True ∧ (q = true → 0 ≤ x1.toInt ∧ x1.toInt < (g r0 0).toInt) ∧ (q = false → True)) := by
  unfold d_19
  have L0 := zl_0
  refine T1.ite (fun hc1 => ?_) (fun hc1 => ?_)
  · skip
    have chc1 := zc_ltT hc1
    exact T1.ret (show True ∧ True ∧ (false = true → 0 ≤ x1.toInt ∧ x1.toInt < (g r0 0).toInt) ∧ (false = false → True) from ⟨trivial, trivial, (fun w => by cases w), (fun _ => trivial)⟩)
  · skip
    have chc1 := zc_ltF hc1
    have y1 : 0 ≤ (g r0 0).toInt ∧ (g r0 0).toInt ≤ 8 := Inv.rd (r := r0) (c := 2) hI 0 h0
    refine T1.ite (fun hc2 => ?_) (fun hc2 => ?_)
    · skip
      have chc2 := zc_geT hc2
      exact T1.ret (show True ∧ True ∧ (false = true → 0 ≤ x1.toInt ∧ x1.toInt < (g r0 0).toInt) ∧ (false = false → True) from ⟨trivial, trivial, (fun w => by cases w), (fun _ => trivial)⟩)
    · skip
      have chc2 := zc_geF hc2
      exact T1.ret (show True ∧ True ∧ (true = true → 0 ≤ x1.toInt ∧ x1.toInt < (g r0 0).toInt) ∧ (true = false → True) from ⟨trivial, trivial, (fun _ => by omega), (fun _ => trivial)⟩)
/-- EveningFirst$Family.isOne -/
theorem s_18 (r0 : Nat) (x1 : Int32) (h0 : zg_cl r0 = 2) (g : G) (hI : Inv g) (hp : True) : T1 (d_18 r0 x1 g) (fun q : Bool => True ∧ True ∧ (q = true → 0 ≤ x1.toInt ∧ x1.toInt < (g r0 1).toInt) ∧ (q = false → True)) := by
  unfold d_18
  have L0 := zl_0
  refine T1.ite (fun hc1 => ?_) (fun hc1 => ?_)
  · skip
    have chc1 := zc_ltT hc1
    exact T1.ret (show True ∧ True ∧ (false = true → 0 ≤ x1.toInt ∧ x1.toInt < (g r0 1).toInt) ∧ (false = false → True) from ⟨trivial, trivial, (fun w => by cases w), (fun _ => trivial)⟩)
  · skip
    have chc1 := zc_ltF hc1
    have y1 : 0 ≤ (g r0 1).toInt ∧ (g r0 1).toInt ≤ 4 := Inv.rd (r := r0) (c := 2) hI 1 h0
    refine T1.ite (fun hc2 => ?_) (fun hc2 => ?_)
    · skip
      have chc2 := zc_geT hc2
      exact T1.ret (show True ∧ True ∧ (false = true → 0 ≤ x1.toInt ∧ x1.toInt < (g r0 1).toInt) ∧ (false = false → True) from ⟨trivial, trivial, (fun w => by cases w), (fun _ => trivial)⟩)
    · skip
      have chc2 := zc_geF hc2
      exact T1.ret (show True ∧ True ∧ (true = true → 0 ≤ x1.toInt ∧ x1.toInt < (g r0 1).toInt) ∧ (true = false → True) from ⟨trivial, trivial, (fun _ => by omega), (fun _ => trivial)⟩)
theorem s_27_2 (r0 : Nat) (h0 : zg_cl r0 = 2) (g : G) (hI : Inv g) : ∀ (f : Nat) (x1 : Int32), 0 ≤ x1.toInt ∧ x1.toInt ≤ 8 ∧ 8 - x1.toInt < (f : Int) → S1 (d_27_2 r0 g f x1) (fun q : Bool => True ∧ True ∧ (q = true → True) ∧ (q = false → True)) := by
  intro f
  induction f with
  | zero =>
    intro x1 hp
    exfalso
    omega
  | succ f ih =>
    intro x1 hp
    rw [d_27_2.eq_2]
    have L1 := zl_1
    have y1 : 0 ≤ (g r0 2).toInt ∧ (g r0 2).toInt ≤ 8 := Inv.rd (r := r0) (c := 2) hI 2 h0
    refine S1.ite (fun hc1 => ?_) (fun hc1 => ?_)
    · skip
      have chc1 := zc_geT hc1
      exact S1.ret (show True ∧ True ∧ (true = true → True) ∧ (true = false → True) from ⟨trivial, trivial, (fun _ => trivial), (fun _ => trivial)⟩)
    · skip
      have chc1 := zc_geF hc1
      refine S1.ix (by omega) ?_
      intro k2 hk2 bk2
      refine S1.lc (s_19 r0 (g (r0 + 8 + k2) 0) h0 g hI trivial) ?_
      intro v3 hvv3 hRv3
      have hRv3 : True ∧ True ∧ (v3 = true → 0 ≤ (g (r0 + 8 + k2) 0).toInt ∧ (g (r0 + 8 + k2) 0).toInt < (g r0 0).toInt) ∧ (v3 = false → True) := hRv3
      have y2 : 0 ≤ (g r0 0).toInt ∧ (g r0 0).toInt ≤ 8 := Inv.rd (r := r0) (c := 2) hI 0 h0
      refine S1.ite (fun hc4 => ?_) (fun hc4 => ?_)
      · skip
        have chc4 := hRv3.2.2.1 hc4
        refine S1.ix (by omega) ?_
        intro k5 hk5 bk5
        have y3 : 0 ≤ (g (r0 + 8 + k5) 1).toInt ∧ (g (r0 + 8 + k5) 1).toInt ≤ 3 := Inv.rd (r := (r0 + 8 + k5)) (c := 1) hI 1 (zg_deed (b := r0) h0 hk5)
        refine S1.lc (s_18 r0 (g (r0 + 8 + k5) 1) h0 g hI trivial) ?_
        intro v6 hvv6 hRv6
        have hRv6 : True ∧ True ∧ (v6 = true → 0 ≤ (g (r0 + 8 + k5) 1).toInt ∧ (g (r0 + 8 + k5) 1).toInt < (g r0 1).toInt) ∧ (v6 = false → True) := hRv6
        have y4 : 0 ≤ (g r0 1).toInt ∧ (g r0 1).toInt ≤ 4 := Inv.rd (r := r0) (c := 2) hI 1 h0
        refine S1.ite (fun hc7 => ?_) (fun hc7 => ?_)
        · skip
          have chc7 := hRv6.2.2.1 hc7
          refine S1.ix (by omega) ?_
          intro k8 hk8 bk8
          refine S1.lc (s_18 r0 (g (r0 + 8 + k8) 2) h0 g hI trivial) ?_
          intro v9 hvv9 hRv9
          have hRv9 : True ∧ True ∧ (v9 = true → 0 ≤ (g (r0 + 8 + k8) 2).toInt ∧ (g (r0 + 8 + k8) 2).toInt < (g r0 1).toInt) ∧ (v9 = false → True) := hRv9
          refine S1.ite (fun hc10 => ?_) (fun hc10 => ?_)
          · skip
            have chc10 := hRv9.2.2.1 hc10
            try have y5 := zi_add (x := x1) (y := (1 : Int32)) (by omega) (by omega)
            exact (ih (x1 + 1) (by omega))
          · skip
            have chc10 := hRv9.2.2.2 hc10
            exact S1.ret (show True ∧ True ∧ (false = true → True) ∧ (false = false → True) from ⟨trivial, trivial, (fun _ => trivial), (fun _ => trivial)⟩)
        · skip
          have chc7 := hRv6.2.2.2 hc7
          exact S1.ret (show True ∧ True ∧ (false = true → True) ∧ (false = false → True) from ⟨trivial, trivial, (fun _ => trivial), (fun _ => trivial)⟩)
      · skip
        have chc4 := hRv3.2.2.2 hc4
        exact S1.ret (show True ∧ True ∧ (false = true → True) ∧ (false = false → True) from ⟨trivial, trivial, (fun _ => trivial), (fun _ => trivial)⟩)
/-- EveningFirst$Family.isWhole -/
theorem s_27 (r0 : Nat) (h0 : zg_cl r0 = 2) (g : G) (hI : Inv g) (hp : True) : S1 (d_27 r0 g) (fun q : Bool => True ∧ True ∧ (q = true → True) ∧ (q = false → True)) := by
  unfold d_27
  have L0 := zl_0
  exact (s_27_2 r0 h0 g hI 300 (0 : Int32) (by omega))
theorem s_30_68 (x1 : Int32) (g : G) (hI : Inv g) (hp : True) : S1 (d_30_68 x1 g) (fun q : Int32 × G => Inv q.2 ∧ True) := by
  unfold d_30_68
  have Lm10 := zl_m10
  have Lm1 := zl_m1
  have L0 := zl_0
  have L1 := zl_1
  have L6 := zl_6
  have L31 := zl_31
  have yp20 : 0 ≤ (g 28 1).toInt ∧ (g 28 1).toInt ≤ 160 := Inv.rd (r := 28) (c := 4) hI 1 rfl
  have yp21 : 0 ≤ (g 28 10).toInt ∧ (g 28 10).toInt ≤ 160 := Inv.rd (r := 28) (c := 4) hI 10 rfl
  have yp22 : 0 ≤ (g 30 2).toInt ∧ (g 30 2).toInt ≤ 8 := Inv.rd (r := 30) (c := 2) hI 2 rfl
  refine S1.ite (fun hc8 => ?_) (fun hc8 => ?_)
  · skip
    have chc8 := zc_neT hc8
    refine S1.ite (fun hc9 => ?_) (fun hc9 => ?_)
    · skip
      have chc9 := zc_neT hc9
      try have y1 := zi_sub (x := (-10 : Int32)) (y := (g 28 3)) (by omega) (by omega)
      exact S1.ret (show Inv g ∧ True from ⟨hI, trivial⟩)
    · skip
      have chc9 := zc_neF hc9
      exact S1.ret (show Inv g ∧ True from ⟨hI, trivial⟩)
  · skip
    have chc8 := zc_neF hc8
    refine S1.bd (s_27 30 rfl g hI trivial) ?_
    intro v10 hvv10 hRv10
    have hRv10 : True ∧ True ∧ (v10 = true → True) ∧ (v10 = false → True) := hRv10
    refine S1.ite (fun hc11 => ?_) (fun hc11 => ?_)
    · skip
      have chc11 := hRv10.2.2.1 hc11
      have y2 : 0 ≤ (g 30 2).toInt ∧ (g 30 2).toInt ≤ 8 := Inv.rd (r := 30) (c := 2) hI 2 rfl
      try have y3 := zi_and (x := (g 30 2)) (y := (31 : Int32)) (by omega)
      try have y4 := zi_shl1 (x := (g 30 2)) (by omega)
      try have y5 := zi_sub (x := ((1 : Int32) <<< ((g 30 2) &&& 31))) (y := (1 : Int32)) (by omega) (by omega)
      try have y6 := zi_and (x := ((g 28 6) ||| (g 28 7))) (y := ((((1 : Int32) <<< ((g 30 2) &&& 31)) - 1) ^^^ (-1))) (by omega)
      refine S1.ite (fun hc15 => ?_) (fun hc15 => ?_)
      · skip
        have chc15 := zc_eqT hc15
        refine S1.ite (fun hc16 => ?_) (fun hc16 => ?_)
        · skip
          have chc16 := zc_neT hc16
          try have y7 := zi_sub (x := (-10 : Int32)) (y := (g 28 3)) (by omega) (by omega)
          exact S1.ret (show Inv g ∧ True from ⟨hI, trivial⟩)
        · skip
          have chc16 := zc_neF hc16
          exact S1.ret (show Inv g ∧ True from ⟨hI, trivial⟩)
      · skip
        have chc15 := zc_eqF hc15
        have y8 : 0 ≤ (g 28 1).toInt ∧ (g 28 1).toInt ≤ 160 := Inv.rd (r := 28) (c := 4) hI 1 rfl
        refine S1.pc (s_44 (6 : Int32) (g 28 1) g hI trivial) ?_
        intro v17 g18 hvv17 hRv17
        have hRv17 : Inv g18 ∧ ((g18 28 10).toInt = (g 28 10).toInt ∧ (g18 28 1).toInt = (g 28 1).toInt) ∧ (v17 = true → (0 : Int) = 1) ∧ (v17 = false → True) := hRv17
        have y9 : 0 ≤ (g 28 10).toInt ∧ (g 28 10).toInt ≤ 160 := Inv.rd (r := 28) (c := 4) hI 10 rfl
        have y10 : 0 ≤ (g18 28 1).toInt ∧ (g18 28 1).toInt ≤ 160 := Inv.rd (r := 28) (c := 4) hRv17.1 1 rfl
        have y11 : 0 ≤ (g18 28 10).toInt ∧ (g18 28 10).toInt ≤ 160 := Inv.rd (r := 28) (c := 4) hRv17.1 10 rfl
        have y12 : 0 ≤ (g18 30 2).toInt ∧ (g18 30 2).toInt ≤ 8 := Inv.rd (r := 30) (c := 2) hRv17.1 2 rfl
        refine S1.ite (fun hc19 => ?_) (fun hc19 => ?_)
        · skip
          have chc19 := zc_neT hc19
          try have y13 := zi_sub (x := (-10 : Int32)) (y := (g18 28 3)) (by omega) (by omega)
          exact S1.ret (show Inv g18 ∧ True from ⟨hRv17.1, trivial⟩)
        · skip
          have chc19 := zc_neF hc19
          exact S1.ret (show Inv g18 ∧ True from ⟨hRv17.1, trivial⟩)
    · skip
      have chc11 := hRv10.2.2.2 hc11
      have y14 : 0 ≤ (g 28 1).toInt ∧ (g 28 1).toInt ≤ 160 := Inv.rd (r := 28) (c := 4) hI 1 rfl
      refine S1.pc (s_44 (6 : Int32) (g 28 1) g hI trivial) ?_
      intro v12 g13 hvv12 hRv12
      have hRv12 : Inv g13 ∧ ((g13 28 10).toInt = (g 28 10).toInt ∧ (g13 28 1).toInt = (g 28 1).toInt) ∧ (v12 = true → (0 : Int) = 1) ∧ (v12 = false → True) := hRv12
      have y15 : 0 ≤ (g 28 10).toInt ∧ (g 28 10).toInt ≤ 160 := Inv.rd (r := 28) (c := 4) hI 10 rfl
      have y16 : 0 ≤ (g13 28 1).toInt ∧ (g13 28 1).toInt ≤ 160 := Inv.rd (r := 28) (c := 4) hRv12.1 1 rfl
      have y17 : 0 ≤ (g13 28 10).toInt ∧ (g13 28 10).toInt ≤ 160 := Inv.rd (r := 28) (c := 4) hRv12.1 10 rfl
      have y18 : 0 ≤ (g13 30 2).toInt ∧ (g13 30 2).toInt ≤ 8 := Inv.rd (r := 30) (c := 2) hRv12.1 2 rfl
      refine S1.ite (fun hc14 => ?_) (fun hc14 => ?_)
      · skip
        have chc14 := zc_neT hc14
        try have y19 := zi_sub (x := (-10 : Int32)) (y := (g13 28 3)) (by omega) (by omega)
        exact S1.ret (show Inv g13 ∧ True from ⟨hRv12.1, trivial⟩)
      · skip
        have chc14 := zc_neF hc14
        exact S1.ret (show Inv g13 ∧ True from ⟨hRv12.1, trivial⟩)
theorem s_30_34 : ∀ (f : Nat) (x1 : Int32) (g : G), Inv g → 0 ≤ x1.toInt ∧ x1.toInt ≤ 161 ∧ 161 - x1.toInt < (f : Int) ∧ (g 28 10).toInt ≤ (g 28 1).toInt → S1 (d_30_34 f x1 g) (fun q : Int32 × G => Inv q.2 ∧ True) := by
  intro f
  induction f with
  | zero =>
    intro x1 g hI hp
    exfalso
    have yp30 : 0 ≤ (g 28 1).toInt ∧ (g 28 1).toInt ≤ 160 := Inv.rd (r := 28) (c := 4) hI 1 rfl
    have yp31 : 0 ≤ (g 28 10).toInt ∧ (g 28 10).toInt ≤ 160 := Inv.rd (r := 28) (c := 4) hI 10 rfl
    omega
  | succ f ih =>
    intro x1 g hI hp
    rw [d_30_34.eq_2]
    have L0 := zl_0
    have L1 := zl_1
    have L160 := zl_160
    have yp32 : 0 ≤ (g 28 1).toInt ∧ (g 28 1).toInt ≤ 160 := Inv.rd (r := 28) (c := 4) hI 1 rfl
    have yp33 : 0 ≤ (g 28 10).toInt ∧ (g 28 10).toInt ≤ 160 := Inv.rd (r := 28) (c := 4) hI 10 rfl
    refine S1.ite (fun hc7 => ?_) (fun hc7 => ?_)
    · skip
      have chc7 := zc_gtT hc7
      exact (s_30_68 x1 g hI trivial)
    · skip
      have chc7 := zc_gtF hc7
      have y23 : 0 ≤ (g 28 1).toInt ∧ (g 28 1).toInt ≤ 160 := Inv.rd (r := 28) (c := 4) hI 1 rfl
      have y24 : 0 ≤ (g 28 10).toInt ∧ (g 28 10).toInt ≤ 160 := Inv.rd (r := 28) (c := 4) hI 10 rfl
      refine S1.bp (s_42 g hI (by omega)) ?_
      intro v20 g21 hvv20 hRv20
      have hRv20 : Inv g21 ∧ ((g21 28 10).toInt ≤ (g21 28 1).toInt) ∧ (v20 = true → True) ∧ (v20 = false → True) := hRv20
      have y25 : 0 ≤ (g21 28 1).toInt ∧ (g21 28 1).toInt ≤ 160 := Inv.rd (r := 28) (c := 4) hRv20.1 1 rfl
      have y26 : 0 ≤ (g21 28 10).toInt ∧ (g21 28 10).toInt ≤ 160 := Inv.rd (r := 28) (c := 4) hRv20.1 10 rfl
      refine S1.ite (fun hc22 => ?_) (fun hc22 => ?_)
      · skip
        have chc22 := hRv20.2.2.1 hc22
        refine S1.ite (fun hc23 => ?_) (fun hc23 => ?_)
        · skip
          have chc23 := zc_eqT hc23
          exact (s_30_68 x1 g21 hRv20.1 trivial)
        · skip
          have chc23 := zc_eqF hc23
          refine S1.bp (s_31 g21 hRv20.1 (by omega)) ?_
          intro v24 g25 hvv24 hRv24
          have hRv24 : Inv g25 ∧ ((g25 28 10).toInt ≤ (g25 28 1).toInt) ∧ (v24 = true → True) ∧ (v24 = false → True) := hRv24
          have y27 : 0 ≤ (g25 28 1).toInt ∧ (g25 28 1).toInt ≤ 160 := Inv.rd (r := 28) (c := 4) hRv24.1 1 rfl
          have y28 : 0 ≤ (g25 28 10).toInt ∧ (g25 28 10).toInt ≤ 160 := Inv.rd (r := 28) (c := 4) hRv24.1 10 rfl
          refine S1.ite (fun hc26 => ?_) (fun hc26 => ?_)
          · skip
            have chc26 := hRv24.2.2.1 hc26
            try have y29 := zi_add (x := x1) (y := (1 : Int32)) (by omega) (by omega)
            exact (ih (x1 + 1) g25 hRv24.1 (by omega))
          · skip
            have chc26 := hRv24.2.2.2 hc26
            exact (s_30_68 x1 g25 hRv24.1 trivial)
      · skip
        have chc22 := hRv20.2.2.2 hc22
        exact (s_30_68 x1 g21 hRv20.1 trivial)
/-- EveningFirst$Reader.tell -/
theorem s_30 (g : G) (hI : Inv g) (hp : True) : S1 (d_30 g) (fun q : Int32 × G => Inv q.2 ∧ True) := by
  unfold d_30
  have L0 := zl_0
  have yp48 : 0 ≤ (g 28 1).toInt ∧ (g 28 1).toInt ≤ 160 := Inv.rd (r := 28) (c := 4) hI 1 rfl
  have yp49 : 0 ≤ (g 28 10).toInt ∧ (g 28 10).toInt ≤ 160 := Inv.rd (r := 28) (c := 4) hI 10 rfl
  refine S1.bd (s_16 30 rfl g hI trivial) ?_
  intro g1 hvg1 hRg1
  have hRg1 : Inv g1 ∧ True := hRg1
  have y34 : 0 ≤ (g1 28 1).toInt ∧ (g1 28 1).toInt ≤ 160 := Inv.rd (r := 28) (c := 4) hRg1.1 1 rfl
  have y35 : 0 ≤ (g1 28 10).toInt ∧ (g1 28 10).toInt ≤ 160 := Inv.rd (r := 28) (c := 4) hRg1.1 10 rfl
  refine S1.lt ?_
  intro g2 hg2
  have Ig2 : Inv g2 := Inv.up hRg1.1 hg2 rfl trivial
  have u36 : (g2 28 1).toInt = (g1 28 1).toInt := by rw [← hg2]; rfl
  have u37 : (g2 28 10).toInt = (g1 28 10).toInt := by rw [← hg2]; rfl
  refine S1.lt ?_
  intro g3 hg3
  have Ig3 : Inv g3 := Inv.up Ig2 hg3 rfl trivial
  have u38 : (g3 28 1).toInt = (g2 28 1).toInt := by rw [← hg3]; rfl
  have u39 : (g3 28 10).toInt = (g2 28 10).toInt := by rw [← hg3]; rfl
  refine S1.lt ?_
  intro g4 hg4
  have Ig4 : Inv g4 := Inv.up Ig3 hg4 rfl trivial
  have u40 : (g4 28 1).toInt = (g3 28 1).toInt := by rw [← hg4]; rfl
  have u41 : (g4 28 10).toInt = (g3 28 10).toInt := by rw [← hg4]; rfl
  refine S1.lt ?_
  intro g5 hg5
  have Ig5 : Inv g5 := Inv.up Ig4 hg5 rfl trivial
  have u42 : (g5 28 1).toInt = (g4 28 1).toInt := by rw [← hg5]; rfl
  have u43 : (g5 28 10).toInt = (g4 28 10).toInt := by rw [← hg5]; rfl
  refine S1.lt ?_
  intro g6 hg6
  have Ig6 : Inv g6 := Inv.up Ig5 hg6 rfl (show 0 ≤ (0 : Int32).toInt ∧ (0 : Int32).toInt ≤ 160 by omega)
  have u44 : (g6 28 1).toInt = (g5 28 1).toInt := by rw [← hg6]; rfl
  have u45 : (g6 28 10).toInt = (0 : Int32).toInt := by rw [← hg6]; rfl
  have y46 : 0 ≤ (g6 28 1).toInt ∧ (g6 28 1).toInt ≤ 160 := Inv.rd (r := 28) (c := 4) Ig6 1 rfl
  have y47 : 0 ≤ (g6 28 10).toInt ∧ (g6 28 10).toInt ≤ 160 := Inv.rd (r := 28) (c := 4) Ig6 10 rfl
  exact (s_30_34 300 (0 : Int32) g6 Ig6 (by omega))
/-- EveningFirst$Deed.become -/
theorem s_13 (r0 : Nat) (r1 : Nat) (h0 : zg_cl r0 = 1) (h1 : zg_cl r1 = 1) (g : G) (hI : Inv g) (hp : True) : T1 (d_13 r0 r1 g) (fun q : G => Inv q ∧ True) := by
  unfold d_13
  refine T1.lt ?_
  intro g1 hg1
  have Ig1 : Inv g1 := Inv.up hI hg1 h0 trivial
  have y1 : 0 ≤ (g1 r1 1).toInt ∧ (g1 r1 1).toInt ≤ 3 := Inv.rd (r := r1) (c := 1) Ig1 1 h1
  refine T1.lt ?_
  intro g2 hg2
  have Ig2 : Inv g2 := Inv.up Ig1 hg2 h0 (show 0 ≤ (g1 r1 1).toInt ∧ (g1 r1 1).toInt ≤ 3 by omega)
  refine T1.lt ?_
  intro g3 hg3
  have Ig3 : Inv g3 := Inv.up Ig2 hg3 h0 trivial
  have y2 : 0 ≤ (g3 r1 3).toInt ∧ (g3 r1 3).toInt ≤ 5 := Inv.rd (r := r1) (c := 1) Ig3 3 h1
  refine T1.lt ?_
  intro g4 hg4
  have Ig4 : Inv g4 := Inv.up Ig3 hg4 h0 (show 0 ≤ (g3 r1 3).toInt ∧ (g3 r1 3).toInt ≤ 5 by omega)
  refine T1.lt ?_
  intro g5 hg5
  have Ig5 : Inv g5 := Inv.up Ig4 hg5 h0 trivial
  refine T1.lt ?_
  intro g6 hg6
  have Ig6 : Inv g6 := Inv.up Ig5 hg6 h0 trivial
  refine T1.lt ?_
  intro g7 hg7
  have Ig7 : Inv g7 := Inv.up Ig6 hg7 h0 trivial
  exact T1.ret (show Inv g7 ∧ True from ⟨Ig7, trivial⟩)
theorem s_17_112 (r0 : Nat) (r1 : Nat) (h0 : zg_cl r0 = 2) (h1 : zg_cl r1 = 2) : ∀ (f : Nat) (x2 : Int32) (g : G), Inv g → 0 ≤ x2.toInt ∧ x2.toInt ≤ 8 ∧ 8 - x2.toInt < (f : Int) → S1 (d_17_112 r0 r1 f x2 g) (fun q : G => Inv q ∧ True) := by
  intro f
  induction f with
  | zero =>
    intro x2 g hI hp
    exfalso
    omega
  | succ f ih =>
    intro x2 g hI hp
    rw [d_17_112.eq_2]
    have L1 := zl_1
    have L8 := zl_8
    refine S1.ite (fun hc7 => ?_) (fun hc7 => ?_)
    · skip
      have chc7 := zc_geT hc7
      exact S1.ret (show Inv g ∧ True from ⟨hI, trivial⟩)
    · skip
      have chc7 := zc_geF hc7
      refine S1.ix (by omega) ?_
      intro k8 hk8 bk8
      refine S1.ix (by omega) ?_
      intro k9 hk9 bk9
      have y1 : 0 ≤ (g (r1 + 16 + k9) 0).toInt ∧ (g (r1 + 16 + k9) 0).toInt ≤ 3 := Inv.rd (r := (r1 + 16 + k9)) (c := 6) hI 0 (zg_seen (b := r1) h1 hk9)
      refine S1.lt ?_
      intro g10 hg10
      have Ig10 : Inv g10 := Inv.up hI hg10 (zg_seen (b := r0) h0 hk8) (show 0 ≤ (g (r1 + 16 + k9) 0).toInt ∧ (g (r1 + 16 + k9) 0).toInt ≤ 3 by omega)
      refine S1.ix (by omega) ?_
      intro k11 hk11 bk11
      refine S1.ix (by omega) ?_
      intro k12 hk12 bk12
      refine S1.lt ?_
      intro g13 hg13
      have Ig13 : Inv g13 := Inv.up Ig10 hg13 (zg_seen (b := r0) h0 hk11) trivial
      refine S1.ix (by omega) ?_
      intro k14 hk14 bk14
      refine S1.ix (by omega) ?_
      intro k15 hk15 bk15
      refine S1.lt ?_
      intro g16 hg16
      have Ig16 : Inv g16 := Inv.up Ig13 hg16 (zg_seen (b := r0) h0 hk14) trivial
      refine S1.ix (by omega) ?_
      intro k17 hk17 bk17
      refine S1.ix (by omega) ?_
      intro k18 hk18 bk18
      have y2 : 0 ≤ (g16 (r1 + 16 + k18) 3).toInt ∧ (g16 (r1 + 16 + k18) 3).toInt ≤ 1 := Inv.rd (r := (r1 + 16 + k18)) (c := 6) Ig16 3 (zg_seen (b := r1) h1 hk18)
      refine S1.nd (by omega) ?_
      refine S1.lt ?_
      intro g19 hg19
      have Ig19 : Inv g19 := Inv.up Ig16 hg19 (zg_seen (b := r0) h0 hk17) (show 0 ≤ (g16 (r1 + 16 + k18) 3).toInt ∧ (g16 (r1 + 16 + k18) 3).toInt ≤ 1 by omega)
      try have y3 := zi_add (x := x2) (y := (1 : Int32)) (by omega) (by omega)
      exact (ih (x2 + 1) g19 Ig19 (by omega))
theorem s_17_83 (r0 : Nat) (r1 : Nat) (h0 : zg_cl r0 = 2) (h1 : zg_cl r1 = 2) : ∀ (f : Nat) (x2 : Int32) (g : G), Inv g → 0 ≤ x2.toInt ∧ x2.toInt ≤ 8 ∧ 8 - x2.toInt < (f : Int) → S1 (d_17_83 r0 r1 f x2 g) (fun q : G => Inv q ∧ True) := by
  intro f
  induction f with
  | zero =>
    intro x2 g hI hp
    exfalso
    omega
  | succ f ih =>
    intro x2 g hI hp
    rw [d_17_83.eq_2]
    have L0 := zl_0
    have L1 := zl_1
    have L8 := zl_8
    refine S1.ite (fun hc6 => ?_) (fun hc6 => ?_)
    · skip
      have chc6 := zc_geT hc6
      exact (s_17_112 r0 r1 h0 h1 300 (0 : Int32) g hI (by omega))
    · skip
      have chc6 := zc_geF hc6
      refine S1.ix (by omega) ?_
      intro k21 hk21 bk21
      refine S1.ix (by omega) ?_
      intro k22 hk22 bk22
      refine S1.lc (s_13 (r0 + 8 + k21) (r1 + 8 + k22) (zg_deed (b := r0) h0 hk21) (zg_deed (b := r1) h1 hk22) g hI trivial) ?_
      intro g23 hvg23 hRg23
      have hRg23 : Inv g23 ∧ True := hRg23
      try have y4 := zi_add (x := x2) (y := (1 : Int32)) (by omega) (by omega)
      exact (ih (x2 + 1) g23 hRg23.1 (by omega))
theorem s_17_34 (r0 : Nat) (r1 : Nat) (h0 : zg_cl r0 = 2) (h1 : zg_cl r1 = 2) : ∀ (f : Nat) (x2 : Int32) (g : G), Inv g → 0 ≤ x2.toInt ∧ x2.toInt ≤ 4 ∧ 4 - x2.toInt < (f : Int) → S1 (d_17_34 r0 r1 f x2 g) (fun q : G => Inv q ∧ True) := by
  intro f
  induction f with
  | zero =>
    intro x2 g hI hp
    exfalso
    omega
  | succ f ih =>
    intro x2 g hI hp
    rw [d_17_34.eq_2]
    have L0 := zl_0
    have L1 := zl_1
    have L4 := zl_4
    refine S1.ite (fun hc5 => ?_) (fun hc5 => ?_)
    · skip
      have chc5 := zc_geT hc5
      exact (s_17_83 r0 r1 h0 h1 300 (0 : Int32) g hI (by omega))
    · skip
      have chc5 := zc_geF hc5
      refine S1.ix (by omega) ?_
      intro k24 hk24 bk24
      refine S1.ix (by omega) ?_
      intro k25 hk25 bk25
      refine S1.lt ?_
      intro g26 hg26
      have Ig26 : Inv g26 := Inv.up hI hg26 (zg_one (b := r0) h0 hk24) trivial
      refine S1.ix (by omega) ?_
      intro k27 hk27 bk27
      refine S1.ix (by omega) ?_
      intro k28 hk28 bk28
      refine S1.lt ?_
      intro g29 hg29
      have Ig29 : Inv g29 := Inv.up Ig26 hg29 (zg_one (b := r0) h0 hk27) trivial
      try have y5 := zi_add (x := x2) (y := (1 : Int32)) (by omega) (by omega)
      exact (ih (x2 + 1) g29 Ig29 (by omega))
/-- EveningFirst$Family.become -/
theorem s_17 (r0 : Nat) (r1 : Nat) (h0 : zg_cl r0 = 2) (h1 : zg_cl r1 = 2) (g : G) (hI : Inv g) (hp : True) : S1 (d_17 r0 r1 g) (fun q : G => Inv q ∧ True) := by
  unfold d_17
  have L0 := zl_0
  have y6 : 0 ≤ (g r1 0).toInt ∧ (g r1 0).toInt ≤ 8 := Inv.rd (r := r1) (c := 2) hI 0 h1
  refine S1.lt ?_
  intro g1 hg1
  have Ig1 : Inv g1 := Inv.up hI hg1 h0 (show 0 ≤ (g r1 0).toInt ∧ (g r1 0).toInt ≤ 8 by omega)
  have y7 : 0 ≤ (g1 r1 1).toInt ∧ (g1 r1 1).toInt ≤ 4 := Inv.rd (r := r1) (c := 2) Ig1 1 h1
  refine S1.lt ?_
  intro g2 hg2
  have Ig2 : Inv g2 := Inv.up Ig1 hg2 h0 (show 0 ≤ (g1 r1 1).toInt ∧ (g1 r1 1).toInt ≤ 4 by omega)
  have y8 : 0 ≤ (g2 r1 2).toInt ∧ (g2 r1 2).toInt ≤ 8 := Inv.rd (r := r1) (c := 2) Ig2 2 h1
  refine S1.lt ?_
  intro g3 hg3
  have Ig3 : Inv g3 := Inv.up Ig2 hg3 h0 (show 0 ≤ (g2 r1 2).toInt ∧ (g2 r1 2).toInt ≤ 8 by omega)
  have y9 : 0 ≤ (g3 r1 3).toInt ∧ (g3 r1 3).toInt ≤ 8 := Inv.rd (r := r1) (c := 2) Ig3 3 h1
  refine S1.lt ?_
  intro g4 hg4
  have Ig4 : Inv g4 := Inv.up Ig3 hg4 h0 (show 0 ≤ (g3 r1 3).toInt ∧ (g3 r1 3).toInt ≤ 8 by omega)
  exact (s_17_34 r0 r1 h0 h1 300 (0 : Int32) g4 Ig4 (by omega))
theorem s_56_42 (x1 : Int32) : ∀ (f : Nat) (x2 : Int32) (g : G), Inv g → 0 ≤ x2.toInt ∧ x2.toInt ≤ 2 ∧ 2 - x2.toInt < (f : Int) → S1 (d_56_42 x1 f x2 g) (fun q : Int32 × G => Inv q.2 ∧ True) := by
  intro f
  induction f with
  | zero =>
    intro x2 g hI hp
    exfalso
    omega
  | succ f ih =>
    intro x2 g hI hp
    rw [d_56_42.eq_2]
    have L1 := zl_1
    have L2 := zl_2
    refine S1.ite (fun hc6 => ?_) (fun hc6 => ?_)
    · skip
      have chc6 := zc_geT hc6
      exact S1.ret (show Inv g ∧ True from ⟨hI, trivial⟩)
    · skip
      have chc6 := zc_geF hc6
      refine S1.ix (by omega) ?_
      intro k8 hk8 bk8
      refine S1.lt ?_
      intro g7 hg7
      have Ig7 : Inv g7 := Inv.up hI hg7 rfl trivial
      try have y1 := zi_add (x := x2) (y := (1 : Int32)) (by omega) (by omega)
      exact (ih (x2 + 1) g7 Ig7 (by omega))
/-- EveningFirst.text -/
theorem s_56 (g : G) (hI : Inv g) (hp : True) : S1 (d_56 g) (fun q : Int32 × G => Inv q.2 ∧ True) := by
  unfold d_56
  have L0 := zl_0
  refine S1.bp (s_30 g hI trivial) ?_
  intro v1 g2 hvv1 hRv1
  have hRv1 : Inv g2 ∧ True := hRv1
  refine S1.lt ?_
  intro g3 hg3
  have Ig3 : Inv g3 := Inv.up hRv1.1 hg3 rfl (show 0 ≤ (0 : Int32).toInt ∧ (0 : Int32).toInt ≤ 160 by omega)
  have u2 : (g3 28 2).toInt = (g2 28 2).toInt := by rw [← hg3]; rfl
  refine S1.ite (fun hc4 => ?_) (fun hc4 => ?_)
  · skip
    have chc4 := zc_neT hc4
    exact S1.ret (show Inv g3 ∧ True from ⟨Ig3, trivial⟩)
  · skip
    have chc4 := zc_neF hc4
    refine S1.bd (s_17 1 30 rfl rfl g3 Ig3 trivial) ?_
    intro g5 hvg5 hRg5
    have hRg5 : Inv g5 ∧ True := hRg5
    exact (s_56_42 v1 300 (0 : Int32) g5 hRg5.1 (by omega))
theorem s_109_23 : ∀ (f : Nat) (x1 : Int32) (g : G), Inv g → 0 ≤ x1.toInt ∧ x1.toInt ≤ 8 ∧ 8 - x1.toInt < (f : Int) → S1 (d_109_23 f x1 g) (fun q : G => Inv q ∧ True) := by
  intro f
  induction f with
  | zero =>
    intro x1 g hI hp
    exfalso
    omega
  | succ f ih =>
    intro x1 g hI hp
    rw [d_109_23.eq_2]
    have Lm4 := zl_m4
    have L0 := zl_0
    have L1 := zl_1
    have L4 := zl_4
    have L6 := zl_6
    have L7 := zl_7
    have L8 := zl_8
    have L9 := zl_9
    have L10 := zl_10
    refine S1.ite (fun hc2 => ?_) (fun hc2 => ?_)
    · skip
      have chc2 := zc_geT hc2
      refine S1.lt ?_
      intro g3 hg3
      have Ig3 : Inv g3 := Inv.up hI hg3 rfl (show 0 ≤ (4 : Int32).toInt ∧ (4 : Int32).toInt ≤ 8 by omega)
      refine S1.lt ?_
      intro g4 hg4
      have Ig4 : Inv g4 := Inv.up Ig3 hg4 rfl (show 0 ≤ (0 : Int32).toInt ∧ (0 : Int32).toInt ≤ 4 by omega)
      refine S1.lt ?_
      intro g5 hg5
      have Ig5 : Inv g5 := Inv.up Ig4 hg5 rfl trivial
      refine S1.lt ?_
      intro g6 hg6
      have Ig6 : Inv g6 := Inv.up Ig5 hg6 rfl trivial
      refine S1.lt ?_
      intro g7 hg7
      have Ig7 : Inv g7 := Inv.up Ig6 hg7 rfl trivial
      refine S1.lt ?_
      intro g8 hg8
      have Ig8 : Inv g8 := Inv.up Ig7 hg8 rfl trivial
      refine S1.lt ?_
      intro g9 hg9
      have Ig9 : Inv g9 := Inv.up Ig8 hg9 rfl trivial
      refine S1.lt ?_
      intro g10 hg10
      have Ig10 : Inv g10 := Inv.up Ig9 hg10 rfl trivial
      exact S1.ret (show Inv g10 ∧ True from ⟨Ig10, trivial⟩)
    · skip
      have chc2 := zc_geF hc2
      try have y1 := zi_mul (x := (7 : Int32)) (y := x1) (n := 7) (by decide) (by omega) (by omega)
      try have y2 := zi_add (x := (9 : Int32)) (y := (7 * x1)) (by omega) (by omega)
      try have y3 := zi_add (x := (9 + (7 * x1))) (y := (6 : Int32)) (by omega) (by omega)
      refine S1.ix (by omega) ?_
      intro k12 hk12 bk12
      refine S1.lt ?_
      intro g11 hg11
      have Ig11 : Inv g11 := Inv.up hI hg11 rfl (bdP_dr (by omega) ((stP_d (d := x1.toInt) (o := 6) (by omega) (by omega) (by omega)).mpr ⟨fun w => by omega, fun w => by omega⟩))
      try have y4 := zi_add (x := x1) (y := (1 : Int32)) (by omega) (by omega)
      exact (ih (x1 + 1) g11 Ig11 (by omega))
theorem s_109_2 : ∀ (f : Nat) (x1 : Int32) (g : G), Inv g → 0 ≤ x1.toInt ∧ x1.toInt ≤ 98 ∧ 98 - x1.toInt < (f : Int) → S1 (d_109_2 f x1 g) (fun q : G => Inv q ∧ True) := by
  intro f
  induction f with
  | zero =>
    intro x1 g hI hp
    exfalso
    omega
  | succ f ih =>
    intro x1 g hI hp
    rw [d_109_2.eq_2]
    have L0 := zl_0
    have L1 := zl_1
    have L98 := zl_98
    refine S1.ite (fun hc1 => ?_) (fun hc1 => ?_)
    · skip
      have chc1 := zc_geT hc1
      exact (s_109_23 300 (0 : Int32) g hI (by omega))
    · skip
      have chc1 := zc_geF hc1
      refine S1.ix (by omega) ?_
      intro k14 hk14 bk14
      refine S1.lt ?_
      intro g13 hg13
      have Ig13 : Inv g13 := Inv.up hI hg13 rfl (bdP_dr (by omega) stP_0)
      try have y5 := zi_add (x := x1) (y := (1 : Int32)) (by omega) (by omega)
      exact (ih (x1 + 1) g13 Ig13 (by omega))
/-- EveningFirstModel.firstDraft -/
theorem s_109 (g : G) (hI : Inv g) (hp : True) : S1 (d_109 g) (fun q : G => Inv q ∧ True) := by
  unfold d_109
  have L0 := zl_0
  exact (s_109_2 300 (0 : Int32) g hI (by omega))
