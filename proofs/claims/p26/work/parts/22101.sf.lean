/-! printed by wip/tools/safe.py -/
theorem s_41_28 (w1 : Nat) (hw1 : w1 < 9) (g : G) (hI : Inv g) : ∀ (f : Nat) (x2 : Int32), 0 ≤ x2.toInt ∧ x2.toInt ≤ (zs_ln w1).toInt ∧ (g 28 9).toInt + (zs_ln w1).toInt ≤ 160 ∧ (zs_ln w1).toInt - x2.toInt < (f : Int) → S1 (d_41_28 w1 g f x2) (fun q : Bool => True ∧ True ∧ (q = true → True) ∧ (q = false → True)) := by
  intro f
  induction f with
  | zero =>
    intro x2 hp
    exfalso
    have yp6 : 0 ≤ (g 28 9).toInt ∧ (g 28 9).toInt ≤ 160 := Inv.rd (r := 28) (c := 4) hI 9 rfl
    omega
  | succ f ih =>
    intro x2 hp
    rw [d_41_28.eq_2]
    have L1 := zl_1
    have yp7 : 0 ≤ (g 28 9).toInt ∧ (g 28 9).toInt ≤ 160 := Inv.rd (r := 28) (c := 4) hI 9 rfl
    refine S1.lt ?_
    intro v4 hv4
    have y1 : (zs_ln w1).toInt = v4.toInt := by rw [hv4]
    have y2 := zs_lnb hw1
    refine S1.ite (fun hc5 => ?_) (fun hc5 => ?_)
    · skip
      have chc5 := zc_geT hc5
      exact S1.ret (show True ∧ True ∧ (true = true → True) ∧ (true = false → True) from ⟨trivial, trivial, (fun _ => trivial), (fun _ => trivial)⟩)
    · skip
      have chc5 := zc_geF hc5
      have y3 : 0 ≤ (g 28 9).toInt ∧ (g 28 9).toInt ≤ 160 := Inv.rd (r := 28) (c := 4) hI 9 rfl
      try have y4 := zi_add (x := (g 28 9)) (y := x2) (by omega) (by omega)
      refine S1.ix (by omega) ?_
      intro k6 hk6 bk6
      refine S1.bd (zs_sch hw1 (by omega)) ?_
      intro v7 hv7 hRv7
      refine S1.ite (fun hc8 => ?_) (fun hc8 => ?_)
      · skip
        have chc8 := zc_eqT hc8
        try have y5 := zi_add (x := x2) (y := (1 : Int32)) (by omega) (by omega)
        exact (ih (x2 + 1) (by omega))
      · skip
        have chc8 := zc_eqF hc8
        exact S1.ret (show True ∧ True ∧ (false = true → True) ∧ (false = false → True) from ⟨trivial, trivial, (fun _ => trivial), (fun _ => trivial)⟩)
/-- EveningFirst$Reader.isName -/
theorem s_41 (w1 : Nat) (hw1 : w1 < 9) (g : G) (hI : Inv g) (hp : True) : S1 (d_41 w1 g) (fun q : Bool => True ∧ True ∧ (q = true → True) ∧ (q = false → True)) := by
  unfold d_41
  have L0 := zl_0
  have L1 := zl_1
  have yp13 : 0 ≤ (g 28 10).toInt ∧ (g 28 10).toInt ≤ 160 := Inv.rd (r := 28) (c := 4) hI 10 rfl
  have yp14 : 0 ≤ (g 28 9).toInt ∧ (g 28 9).toInt ≤ 160 := Inv.rd (r := 28) (c := 4) hI 9 rfl
  refine S1.ite (fun hc1 => ?_) (fun hc1 => ?_)
  · skip
    have chc1 := zc_neT hc1
    exact S1.ret (show True ∧ True ∧ (false = true → True) ∧ (false = false → True) from ⟨trivial, trivial, (fun _ => trivial), (fun _ => trivial)⟩)
  · skip
    have chc1 := zc_neF hc1
    refine S1.lt ?_
    intro v2 hv2
    have y8 : (zs_ln w1).toInt = v2.toInt := by rw [hv2]
    have y9 := zs_lnb hw1
    have y10 : 0 ≤ (g 28 10).toInt ∧ (g 28 10).toInt ≤ 160 := Inv.rd (r := 28) (c := 4) hI 10 rfl
    have y11 : 0 ≤ (g 28 9).toInt ∧ (g 28 9).toInt ≤ 160 := Inv.rd (r := 28) (c := 4) hI 9 rfl
    try have y12 := zi_sub (x := (g 28 10)) (y := (g 28 9)) (by omega) (by omega)
    refine S1.ite (fun hc3 => ?_) (fun hc3 => ?_)
    · skip
      have chc3 := zc_eqT hc3
      exact (s_41_28 w1 hw1 g hI 300 (0 : Int32) (by omega))
    · skip
      have chc3 := zc_eqF hc3
      exact S1.ret (show True ∧ True ∧ (false = true → True) ∧ (false = false → True) from ⟨trivial, trivial, (fun _ => trivial), (fun _ => trivial)⟩)
/-- EveningFirst$Reader.isNumber -/
theorem s_40 (x1 : Int32) (x2 : Int32) (g : G) (hI : Inv g) (hp : True) : T1 (d_40 x1 x2 g) (fun q : Bool × G => Inv q.2 ∧ ((q.2 28 10).toInt = (g 28 10).toInt ∧ (q.2 28 1).toInt = (g 28 1).toInt) ∧ (q.1 = true → x1.toInt ≤ (q.2 28 11).toInt ∧ (q.2 28 11).toInt ≤ x2.toInt) ∧ (q.1 = false → True)) := by
  unfold d_40
  have L2 := zl_2
  have L3 := zl_3
  have yp19 : 0 ≤ (g 28 1).toInt ∧ (g 28 1).toInt ≤ 160 := Inv.rd (r := 28) (c := 4) hI 1 rfl
  have yp20 : 0 ≤ (g 28 10).toInt ∧ (g 28 10).toInt ≤ 160 := Inv.rd (r := 28) (c := 4) hI 10 rfl
  have yp21 : 0 ≤ (g 28 9).toInt ∧ (g 28 9).toInt ≤ 160 := Inv.rd (r := 28) (c := 4) hI 9 rfl
  refine T1.ite (fun hc1 => ?_) (fun hc1 => ?_)
  · skip
    have chc1 := zc_eqT hc1
    refine T1.ite (fun hc2 => ?_) (fun hc2 => ?_)
    · skip
      have chc2 := zc_ltT hc2
      have y1 : 0 ≤ (g 28 9).toInt ∧ (g 28 9).toInt ≤ 160 := Inv.rd (r := 28) (c := 4) hI 9 rfl
      refine T1.pc (s_44 (3 : Int32) (g 28 9) g hI trivial) ?_
      intro v3 g4 hvv3 hRv3
      have hRv3 : Inv g4 ∧ ((g4 28 10).toInt = (g 28 10).toInt ∧ (g4 28 1).toInt = (g 28 1).toInt) ∧ (v3 = true → (0 : Int) = 1) ∧ (v3 = false → True) := hRv3
      have y2 : 0 ≤ (g 28 1).toInt ∧ (g 28 1).toInt ≤ 160 := Inv.rd (r := 28) (c := 4) hI 1 rfl
      have y3 : 0 ≤ (g 28 10).toInt ∧ (g 28 10).toInt ≤ 160 := Inv.rd (r := 28) (c := 4) hI 10 rfl
      have y4 : 0 ≤ (g4 28 1).toInt ∧ (g4 28 1).toInt ≤ 160 := Inv.rd (r := 28) (c := 4) hRv3.1 1 rfl
      have y5 : 0 ≤ (g4 28 9).toInt ∧ (g4 28 9).toInt ≤ 160 := Inv.rd (r := 28) (c := 4) hRv3.1 9 rfl
      have y6 : 0 ≤ (g4 28 10).toInt ∧ (g4 28 10).toInt ≤ 160 := Inv.rd (r := 28) (c := 4) hRv3.1 10 rfl
      refine T1.ite (fun hc5 => ?_) (fun hc5 => ?_)
      · skip
        have chc5 := hRv3.2.2.1 hc5
        exact T1.ret (show Inv g4 ∧ ((g4 28 10).toInt = (g 28 10).toInt ∧ (g4 28 1).toInt = (g 28 1).toInt) ∧ (true = true → x1.toInt ≤ (g4 28 11).toInt ∧ (g4 28 11).toInt ≤ x2.toInt) ∧ (true = false → True) from ⟨hRv3.1, (by omega), (fun _ => by omega), (fun _ => trivial)⟩)
      · skip
        have chc5 := hRv3.2.2.2 hc5
        exact T1.ret (show Inv g4 ∧ ((g4 28 10).toInt = (g 28 10).toInt ∧ (g4 28 1).toInt = (g 28 1).toInt) ∧ (false = true → x1.toInt ≤ (g4 28 11).toInt ∧ (g4 28 11).toInt ≤ x2.toInt) ∧ (false = false → True) from ⟨hRv3.1, (by omega), (fun w => by cases w), (fun _ => trivial)⟩)
    · skip
      have chc2 := zc_ltF hc2
      refine T1.ite (fun hc6 => ?_) (fun hc6 => ?_)
      · skip
        have chc6 := zc_leT hc6
        exact T1.ret (show Inv g ∧ ((g 28 10).toInt = (g 28 10).toInt ∧ (g 28 1).toInt = (g 28 1).toInt) ∧ (true = true → x1.toInt ≤ (g 28 11).toInt ∧ (g 28 11).toInt ≤ x2.toInt) ∧ (true = false → True) from ⟨hI, (by omega), (fun _ => by omega), (fun _ => trivial)⟩)
      · skip
        have chc6 := zc_leF hc6
        have y7 : 0 ≤ (g 28 9).toInt ∧ (g 28 9).toInt ≤ 160 := Inv.rd (r := 28) (c := 4) hI 9 rfl
        refine T1.pc (s_44 (3 : Int32) (g 28 9) g hI trivial) ?_
        intro v7 g8 hvv7 hRv7
        have hRv7 : Inv g8 ∧ ((g8 28 10).toInt = (g 28 10).toInt ∧ (g8 28 1).toInt = (g 28 1).toInt) ∧ (v7 = true → (0 : Int) = 1) ∧ (v7 = false → True) := hRv7
        have y8 : 0 ≤ (g 28 1).toInt ∧ (g 28 1).toInt ≤ 160 := Inv.rd (r := 28) (c := 4) hI 1 rfl
        have y9 : 0 ≤ (g 28 10).toInt ∧ (g 28 10).toInt ≤ 160 := Inv.rd (r := 28) (c := 4) hI 10 rfl
        have y10 : 0 ≤ (g8 28 1).toInt ∧ (g8 28 1).toInt ≤ 160 := Inv.rd (r := 28) (c := 4) hRv7.1 1 rfl
        have y11 : 0 ≤ (g8 28 9).toInt ∧ (g8 28 9).toInt ≤ 160 := Inv.rd (r := 28) (c := 4) hRv7.1 9 rfl
        have y12 : 0 ≤ (g8 28 10).toInt ∧ (g8 28 10).toInt ≤ 160 := Inv.rd (r := 28) (c := 4) hRv7.1 10 rfl
        refine T1.ite (fun hc9 => ?_) (fun hc9 => ?_)
        · skip
          have chc9 := hRv7.2.2.1 hc9
          exact T1.ret (show Inv g8 ∧ ((g8 28 10).toInt = (g 28 10).toInt ∧ (g8 28 1).toInt = (g 28 1).toInt) ∧ (true = true → x1.toInt ≤ (g8 28 11).toInt ∧ (g8 28 11).toInt ≤ x2.toInt) ∧ (true = false → True) from ⟨hRv7.1, (by omega), (fun _ => by omega), (fun _ => trivial)⟩)
        · skip
          have chc9 := hRv7.2.2.2 hc9
          exact T1.ret (show Inv g8 ∧ ((g8 28 10).toInt = (g 28 10).toInt ∧ (g8 28 1).toInt = (g 28 1).toInt) ∧ (false = true → x1.toInt ≤ (g8 28 11).toInt ∧ (g8 28 11).toInt ≤ x2.toInt) ∧ (false = false → True) from ⟨hRv7.1, (by omega), (fun w => by cases w), (fun _ => trivial)⟩)
  · skip
    have chc1 := zc_eqF hc1
    have y13 : 0 ≤ (g 28 9).toInt ∧ (g 28 9).toInt ≤ 160 := Inv.rd (r := 28) (c := 4) hI 9 rfl
    refine T1.pc (s_44 (2 : Int32) (g 28 9) g hI trivial) ?_
    intro v10 g11 hvv10 hRv10
    have hRv10 : Inv g11 ∧ ((g11 28 10).toInt = (g 28 10).toInt ∧ (g11 28 1).toInt = (g 28 1).toInt) ∧ (v10 = true → (0 : Int) = 1) ∧ (v10 = false → True) := hRv10
    have y14 : 0 ≤ (g 28 1).toInt ∧ (g 28 1).toInt ≤ 160 := Inv.rd (r := 28) (c := 4) hI 1 rfl
    have y15 : 0 ≤ (g 28 10).toInt ∧ (g 28 10).toInt ≤ 160 := Inv.rd (r := 28) (c := 4) hI 10 rfl
    have y16 : 0 ≤ (g11 28 1).toInt ∧ (g11 28 1).toInt ≤ 160 := Inv.rd (r := 28) (c := 4) hRv10.1 1 rfl
    have y17 : 0 ≤ (g11 28 9).toInt ∧ (g11 28 9).toInt ≤ 160 := Inv.rd (r := 28) (c := 4) hRv10.1 9 rfl
    have y18 : 0 ≤ (g11 28 10).toInt ∧ (g11 28 10).toInt ≤ 160 := Inv.rd (r := 28) (c := 4) hRv10.1 10 rfl
    exact T1.ret (show Inv g11 ∧ ((g11 28 10).toInt = (g 28 10).toInt ∧ (g11 28 1).toInt = (g 28 1).toInt) ∧ (v10 = true → x1.toInt ≤ (g11 28 11).toInt ∧ (g11 28 11).toInt ≤ x2.toInt) ∧ (v10 = false → True) from ⟨hRv10.1, (by omega), (fun w => by have w2 := hRv10.2.2.1 w; omega), (fun _ => trivial)⟩)
/-- EveningFirst$Reader.takeNumber -/
theorem s_38 (x1 : Int32) (x2 : Int32) (g : G) (hI : Inv g) (hp : (g 28 10).toInt ≤ (g 28 1).toInt) : S1 (d_38 x1 x2 g) (fun q : Bool × G => Inv q.2 ∧ ((q.2 28 10).toInt ≤ (q.2 28 1).toInt) ∧ (q.1 = true → x1.toInt ≤ (q.2 28 11).toInt ∧ (q.2 28 11).toInt ≤ x2.toInt) ∧ (q.1 = false → True)) := by
  unfold d_38
  have yp7 : 0 ≤ (g 28 1).toInt ∧ (g 28 1).toInt ≤ 160 := Inv.rd (r := 28) (c := 4) hI 1 rfl
  have yp8 : 0 ≤ (g 28 10).toInt ∧ (g 28 10).toInt ≤ 160 := Inv.rd (r := 28) (c := 4) hI 10 rfl
  have y1 : 0 ≤ (g 28 1).toInt ∧ (g 28 1).toInt ≤ 160 := Inv.rd (r := 28) (c := 4) hI 1 rfl
  have y2 : 0 ≤ (g 28 10).toInt ∧ (g 28 10).toInt ≤ 160 := Inv.rd (r := 28) (c := 4) hI 10 rfl
  refine S1.bp (s_42 g hI (by omega)) ?_
  intro v1 g2 hvv1 hRv1
  have hRv1 : Inv g2 ∧ ((g2 28 10).toInt ≤ (g2 28 1).toInt) ∧ (v1 = true → True) ∧ (v1 = false → True) := hRv1
  have y3 : 0 ≤ (g2 28 1).toInt ∧ (g2 28 1).toInt ≤ 160 := Inv.rd (r := 28) (c := 4) hRv1.1 1 rfl
  have y4 : 0 ≤ (g2 28 10).toInt ∧ (g2 28 10).toInt ≤ 160 := Inv.rd (r := 28) (c := 4) hRv1.1 10 rfl
  refine S1.ite (fun hc3 => ?_) (fun hc3 => ?_)
  · skip
    have chc3 := hRv1.2.2.1 hc3
    refine S1.pc (s_40 x1 x2 g2 hRv1.1 trivial) ?_
    intro v4 g5 hvv4 hRv4
    have hRv4 : Inv g5 ∧ ((g5 28 10).toInt = (g2 28 10).toInt ∧ (g5 28 1).toInt = (g2 28 1).toInt) ∧ (v4 = true → x1.toInt ≤ (g5 28 11).toInt ∧ (g5 28 11).toInt ≤ x2.toInt) ∧ (v4 = false → True) := hRv4
    have y5 : 0 ≤ (g5 28 1).toInt ∧ (g5 28 1).toInt ≤ 160 := Inv.rd (r := 28) (c := 4) hRv4.1 1 rfl
    have y6 : 0 ≤ (g5 28 10).toInt ∧ (g5 28 10).toInt ≤ 160 := Inv.rd (r := 28) (c := 4) hRv4.1 10 rfl
    refine S1.ite (fun hc6 => ?_) (fun hc6 => ?_)
    · skip
      have chc6 := hRv4.2.2.1 hc6
      exact S1.ret (show Inv g5 ∧ ((g5 28 10).toInt ≤ (g5 28 1).toInt) ∧ (true = true → x1.toInt ≤ (g5 28 11).toInt ∧ (g5 28 11).toInt ≤ x2.toInt) ∧ (true = false → True) from ⟨hRv4.1, (by omega), (fun _ => by omega), (fun _ => trivial)⟩)
    · skip
      have chc6 := hRv4.2.2.2 hc6
      exact S1.ret (show Inv g5 ∧ ((g5 28 10).toInt ≤ (g5 28 1).toInt) ∧ (false = true → x1.toInt ≤ (g5 28 11).toInt ∧ (g5 28 11).toInt ≤ x2.toInt) ∧ (false = false → True) from ⟨hRv4.1, (by omega), (fun w => by cases w), (fun _ => trivial)⟩)
  · skip
    have chc3 := hRv1.2.2.2 hc3
    exact S1.ret (show Inv g2 ∧ ((g2 28 10).toInt ≤ (g2 28 1).toInt) ∧ (false = true → x1.toInt ≤ (g2 28 11).toInt ∧ (g2 28 11).toInt ≤ x2.toInt) ∧ (false = false → True) from ⟨hRv1.1, (by omega), (fun w => by cases w), (fun _ => trivial)⟩)
/-- EveningFirst$Reader.takeSemicolon -/
theorem s_39 (g : G) (hI : Inv g) (hp : (g 28 10).toInt ≤ (g 28 1).toInt) : S1 (d_39 g) (fun q : Bool × G => Inv q.2 ∧ ((q.2 28 10).toInt ≤ (q.2 28 1).toInt) ∧ (q.1 = true → True) ∧ (q.1 = false → True)) := by
  unfold d_39
  have L2 := zl_2
  have L3 := zl_3
  have yp9 : 0 ≤ (g 28 1).toInt ∧ (g 28 1).toInt ≤ 160 := Inv.rd (r := 28) (c := 4) hI 1 rfl
  have yp10 : 0 ≤ (g 28 10).toInt ∧ (g 28 10).toInt ≤ 160 := Inv.rd (r := 28) (c := 4) hI 10 rfl
  have yp11 : 0 ≤ (g 28 9).toInt ∧ (g 28 9).toInt ≤ 160 := Inv.rd (r := 28) (c := 4) hI 9 rfl
  have y1 : 0 ≤ (g 28 1).toInt ∧ (g 28 1).toInt ≤ 160 := Inv.rd (r := 28) (c := 4) hI 1 rfl
  have y2 : 0 ≤ (g 28 10).toInt ∧ (g 28 10).toInt ≤ 160 := Inv.rd (r := 28) (c := 4) hI 10 rfl
  refine S1.bp (s_42 g hI (by omega)) ?_
  intro v1 g2 hvv1 hRv1
  have hRv1 : Inv g2 ∧ ((g2 28 10).toInt ≤ (g2 28 1).toInt) ∧ (v1 = true → True) ∧ (v1 = false → True) := hRv1
  have y3 : 0 ≤ (g2 28 1).toInt ∧ (g2 28 1).toInt ≤ 160 := Inv.rd (r := 28) (c := 4) hRv1.1 1 rfl
  have y4 : 0 ≤ (g2 28 9).toInt ∧ (g2 28 9).toInt ≤ 160 := Inv.rd (r := 28) (c := 4) hRv1.1 9 rfl
  have y5 : 0 ≤ (g2 28 10).toInt ∧ (g2 28 10).toInt ≤ 160 := Inv.rd (r := 28) (c := 4) hRv1.1 10 rfl
  refine S1.ite (fun hc3 => ?_) (fun hc3 => ?_)
  · skip
    have chc3 := hRv1.2.2.1 hc3
    refine S1.ite (fun hc4 => ?_) (fun hc4 => ?_)
    · skip
      have chc4 := zc_eqT hc4
      exact S1.ret (show Inv g2 ∧ ((g2 28 10).toInt ≤ (g2 28 1).toInt) ∧ (true = true → True) ∧ (true = false → True) from ⟨hRv1.1, (by omega), (fun _ => trivial), (fun _ => trivial)⟩)
    · skip
      have chc4 := zc_eqF hc4
      refine S1.pc (s_44 (2 : Int32) (g2 28 9) g2 hRv1.1 trivial) ?_
      intro v5 g6 hvv5 hRv5
      have hRv5 : Inv g6 ∧ ((g6 28 10).toInt = (g2 28 10).toInt ∧ (g6 28 1).toInt = (g2 28 1).toInt) ∧ (v5 = true → (0 : Int) = 1) ∧ (v5 = false → True) := hRv5
      have y6 : 0 ≤ (g6 28 1).toInt ∧ (g6 28 1).toInt ≤ 160 := Inv.rd (r := 28) (c := 4) hRv5.1 1 rfl
      have y7 : 0 ≤ (g6 28 9).toInt ∧ (g6 28 9).toInt ≤ 160 := Inv.rd (r := 28) (c := 4) hRv5.1 9 rfl
      have y8 : 0 ≤ (g6 28 10).toInt ∧ (g6 28 10).toInt ≤ 160 := Inv.rd (r := 28) (c := 4) hRv5.1 10 rfl
      refine S1.ite (fun hc7 => ?_) (fun hc7 => ?_)
      · skip
        have chc7 := hRv5.2.2.1 hc7
        exact S1.ret (show Inv g6 ∧ ((g6 28 10).toInt ≤ (g6 28 1).toInt) ∧ (true = true → True) ∧ (true = false → True) from ⟨hRv5.1, (by omega), (fun _ => trivial), (fun _ => trivial)⟩)
      · skip
        have chc7 := hRv5.2.2.2 hc7
        exact S1.ret (show Inv g6 ∧ ((g6 28 10).toInt ≤ (g6 28 1).toInt) ∧ (false = true → True) ∧ (false = false → True) from ⟨hRv5.1, (by omega), (fun _ => trivial), (fun _ => trivial)⟩)
  · skip
    have chc3 := hRv1.2.2.2 hc3
    exact S1.ret (show Inv g2 ∧ ((g2 28 10).toInt ≤ (g2 28 1).toInt) ∧ (false = true → True) ∧ (false = false → True) from ⟨hRv1.1, (by omega), (fun _ => trivial), (fun _ => trivial)⟩)
/-- EveningFirst$Reader.takeHours -/
theorem s_32 (g : G) (hI : Inv g) (hp : (g 28 10).toInt ≤ (g 28 1).toInt) : S1 (d_32 g) (fun q : Bool × G => Inv q.2 ∧ ((q.2 28 10).toInt ≤ (q.2 28 1).toInt) ∧ (q.1 = true → True) ∧ (q.1 = false → True)) := by
  unfold d_32
  have L0 := zl_0
  have L1 := zl_1
  have L2 := zl_2
  have L4 := zl_4
  have L8 := zl_8
  have yp27 : 0 ≤ (g 28 1).toInt ∧ (g 28 1).toInt ≤ 160 := Inv.rd (r := 28) (c := 4) hI 1 rfl
  have yp28 : 0 ≤ (g 28 10).toInt ∧ (g 28 10).toInt ≤ 160 := Inv.rd (r := 28) (c := 4) hI 10 rfl
  have yp29 : 0 ≤ (g 28 9).toInt ∧ (g 28 9).toInt ≤ 160 := Inv.rd (r := 28) (c := 4) hI 9 rfl
  refine S1.ite (fun hc1 => ?_) (fun hc1 => ?_)
  · skip
    have chc1 := zc_eqT hc1
    refine S1.lt ?_
    intro g2 hg2
    have Ig2 : Inv g2 := Inv.up hI hg2 rfl trivial
    have u1 : (g2 28 1).toInt = (g 28 1).toInt := by rw [← hg2]; rfl
    have u2 : (g2 28 5).toInt = (1 : Int32).toInt := by rw [← hg2]; rfl
    have u3 : (g2 28 9).toInt = (g 28 9).toInt := by rw [← hg2]; rfl
    have u4 : (g2 28 10).toInt = (g 28 10).toInt := by rw [← hg2]; rfl
    have u5 : (g2 28 11).toInt = (g 28 11).toInt := by rw [← hg2]; rfl
    have y6 : 0 ≤ (g2 28 1).toInt ∧ (g2 28 1).toInt ≤ 160 := Inv.rd (r := 28) (c := 4) Ig2 1 rfl
    have y7 : 0 ≤ (g2 28 10).toInt ∧ (g2 28 10).toInt ≤ 160 := Inv.rd (r := 28) (c := 4) Ig2 10 rfl
    refine S1.bp (s_38 (2 : Int32) (8 : Int32) g2 Ig2 (by omega)) ?_
    intro v3 g4 hvv3 hRv3
    have hRv3 : Inv g4 ∧ ((g4 28 10).toInt ≤ (g4 28 1).toInt) ∧ (v3 = true → (2 : Int32).toInt ≤ (g4 28 11).toInt ∧ (g4 28 11).toInt ≤ (8 : Int32).toInt) ∧ (v3 = false → True) := hRv3
    have y8 : 0 ≤ (g4 28 1).toInt ∧ (g4 28 1).toInt ≤ 160 := Inv.rd (r := 28) (c := 4) hRv3.1 1 rfl
    have y9 : 0 ≤ (g4 28 9).toInt ∧ (g4 28 9).toInt ≤ 160 := Inv.rd (r := 28) (c := 4) hRv3.1 9 rfl
    have y10 : 0 ≤ (g4 28 10).toInt ∧ (g4 28 10).toInt ≤ 160 := Inv.rd (r := 28) (c := 4) hRv3.1 10 rfl
    refine S1.ite (fun hc5 => ?_) (fun hc5 => ?_)
    · skip
      have chc5 := hRv3.2.2.1 hc5
      refine S1.lt ?_
      intro g6 hg6
      have Ig6 : Inv g6 := Inv.up hRv3.1 hg6 rfl (show 0 ≤ (g4 28 11).toInt ∧ (g4 28 11).toInt ≤ 8 by omega)
      have u11 : (g6 28 1).toInt = (g4 28 1).toInt := by rw [← hg6]; rfl
      have u12 : (g6 28 5).toInt = (g4 28 5).toInt := by rw [← hg6]; rfl
      have u13 : (g6 28 9).toInt = (g4 28 9).toInt := by rw [← hg6]; rfl
      have u14 : (g6 28 10).toInt = (g4 28 10).toInt := by rw [← hg6]; rfl
      have u15 : (g6 28 11).toInt = (g4 28 11).toInt := by rw [← hg6]; rfl
      have y16 : 0 ≤ (g6 28 1).toInt ∧ (g6 28 1).toInt ≤ 160 := Inv.rd (r := 28) (c := 4) Ig6 1 rfl
      have y17 : 0 ≤ (g6 28 10).toInt ∧ (g6 28 10).toInt ≤ 160 := Inv.rd (r := 28) (c := 4) Ig6 10 rfl
      refine S1.bp (s_39 g6 Ig6 (by omega)) ?_
      intro v7 g8 hvv7 hRv7
      have hRv7 : Inv g8 ∧ ((g8 28 10).toInt ≤ (g8 28 1).toInt) ∧ (v7 = true → True) ∧ (v7 = false → True) := hRv7
      have y18 : 0 ≤ (g8 28 1).toInt ∧ (g8 28 1).toInt ≤ 160 := Inv.rd (r := 28) (c := 4) hRv7.1 1 rfl
      have y19 : 0 ≤ (g8 28 9).toInt ∧ (g8 28 9).toInt ≤ 160 := Inv.rd (r := 28) (c := 4) hRv7.1 9 rfl
      have y20 : 0 ≤ (g8 28 10).toInt ∧ (g8 28 10).toInt ≤ 160 := Inv.rd (r := 28) (c := 4) hRv7.1 10 rfl
      exact S1.ret (show Inv g8 ∧ ((g8 28 10).toInt ≤ (g8 28 1).toInt) ∧ (v7 = true → True) ∧ (v7 = false → True) from ⟨hRv7.1, (by omega), (fun _ => trivial), (fun _ => trivial)⟩)
    · skip
      have chc5 := hRv3.2.2.2 hc5
      exact S1.ret (show Inv g4 ∧ ((g4 28 10).toInt ≤ (g4 28 1).toInt) ∧ (false = true → True) ∧ (false = false → True) from ⟨hRv3.1, (by omega), (fun _ => trivial), (fun _ => trivial)⟩)
  · skip
    have chc1 := zc_eqF hc1
    have y21 : 0 ≤ (g 28 9).toInt ∧ (g 28 9).toInt ≤ 160 := Inv.rd (r := 28) (c := 4) hI 9 rfl
    refine S1.pc (s_44 (4 : Int32) (g 28 9) g hI trivial) ?_
    intro v9 g10 hvv9 hRv9
    have hRv9 : Inv g10 ∧ ((g10 28 10).toInt = (g 28 10).toInt ∧ (g10 28 1).toInt = (g 28 1).toInt) ∧ (v9 = true → (0 : Int) = 1) ∧ (v9 = false → True) := hRv9
    have y22 : 0 ≤ (g 28 1).toInt ∧ (g 28 1).toInt ≤ 160 := Inv.rd (r := 28) (c := 4) hI 1 rfl
    have y23 : 0 ≤ (g 28 10).toInt ∧ (g 28 10).toInt ≤ 160 := Inv.rd (r := 28) (c := 4) hI 10 rfl
    have y24 : 0 ≤ (g10 28 1).toInt ∧ (g10 28 1).toInt ≤ 160 := Inv.rd (r := 28) (c := 4) hRv9.1 1 rfl
    have y25 : 0 ≤ (g10 28 9).toInt ∧ (g10 28 9).toInt ≤ 160 := Inv.rd (r := 28) (c := 4) hRv9.1 9 rfl
    have y26 : 0 ≤ (g10 28 10).toInt ∧ (g10 28 10).toInt ≤ 160 := Inv.rd (r := 28) (c := 4) hRv9.1 10 rfl
    exact S1.ret (show Inv g10 ∧ ((g10 28 10).toInt ≤ (g10 28 1).toInt) ∧ (v9 = true → True) ∧ (v9 = false → True) from ⟨hRv9.1, (by omega), (fun _ => trivial), (fun _ => trivial)⟩)
theorem s_37_4 : ∀ (f : Nat) (x1 : Int32) (x2 : Int32) (g : G), Inv g → 0 ≤ x2.toInt ∧ x2.toInt ≤ 7 ∧ 7 - x2.toInt < (f : Int) ∧ (g 28 10).toInt ≤ (g 28 1).toInt → S1 (d_37_4 f x1 x2 g) (fun q : Int32 × G => Inv q.2 ∧ ((q.2 28 10).toInt ≤ (q.2 28 1).toInt)) := by
  intro f
  induction f with
  | zero =>
    intro x1 x2 g hI hp
    exfalso
    have yp15 : 0 ≤ (g 28 1).toInt ∧ (g 28 1).toInt ≤ 160 := Inv.rd (r := 28) (c := 4) hI 1 rfl
    have yp16 : 0 ≤ (g 28 10).toInt ∧ (g 28 10).toInt ≤ 160 := Inv.rd (r := 28) (c := 4) hI 10 rfl
    omega
  | succ f ih =>
    intro x1 x2 g hI hp
    rw [d_37_4.eq_2]
    have L0 := zl_0
    have L1 := zl_1
    have L3 := zl_3
    have L4 := zl_4
    have L5 := zl_5
    have L6 := zl_6
    have L31 := zl_31
    have yp17 : 0 ≤ (g 28 1).toInt ∧ (g 28 1).toInt ≤ 160 := Inv.rd (r := 28) (c := 4) hI 1 rfl
    have yp18 : 0 ≤ (g 28 10).toInt ∧ (g 28 10).toInt ≤ 160 := Inv.rd (r := 28) (c := 4) hI 10 rfl
    have yp19 : 0 ≤ (g 28 9).toInt ∧ (g 28 9).toInt ≤ 160 := Inv.rd (r := 28) (c := 4) hI 9 rfl
    refine S1.ite (fun hc1 => ?_) (fun hc1 => ?_)
    · skip
      have chc1 := zc_gtT hc1
      exact S1.ret (show Inv g ∧ ((g 28 10).toInt ≤ (g 28 1).toInt) from ⟨hI, (by omega)⟩)
    · skip
      have chc1 := zc_gtF hc1
      have y1 : 0 ≤ (g 28 1).toInt ∧ (g 28 1).toInt ≤ 160 := Inv.rd (r := 28) (c := 4) hI 1 rfl
      have y2 : 0 ≤ (g 28 10).toInt ∧ (g 28 10).toInt ≤ 160 := Inv.rd (r := 28) (c := 4) hI 10 rfl
      refine S1.bp (s_42 g hI (by omega)) ?_
      intro v2 g3 hvv2 hRv2
      have hRv2 : Inv g3 ∧ ((g3 28 10).toInt ≤ (g3 28 1).toInt) ∧ (v2 = true → True) ∧ (v2 = false → True) := hRv2
      have y3 : 0 ≤ (g3 28 1).toInt ∧ (g3 28 1).toInt ≤ 160 := Inv.rd (r := 28) (c := 4) hRv2.1 1 rfl
      have y4 : 0 ≤ (g3 28 9).toInt ∧ (g3 28 9).toInt ≤ 160 := Inv.rd (r := 28) (c := 4) hRv2.1 9 rfl
      have y5 : 0 ≤ (g3 28 10).toInt ∧ (g3 28 10).toInt ≤ 160 := Inv.rd (r := 28) (c := 4) hRv2.1 10 rfl
      refine S1.ite (fun hc4 => ?_) (fun hc4 => ?_)
      · skip
        have chc4 := hRv2.2.2.1 hc4
        refine S1.ite (fun hc5 => ?_) (fun hc5 => ?_)
        · skip
          have chc5 := zc_eqT hc5
          exact S1.ret (show Inv g3 ∧ ((g3 28 10).toInt ≤ (g3 28 1).toInt) from ⟨hRv2.1, (by omega)⟩)
        · skip
          have chc5 := zc_eqF hc5
          refine S1.pc (s_40 (0 : Int32) (5 : Int32) g3 hRv2.1 trivial) ?_
          intro v6 g7 hvv6 hRv6
          have hRv6 : Inv g7 ∧ ((g7 28 10).toInt = (g3 28 10).toInt ∧ (g7 28 1).toInt = (g3 28 1).toInt) ∧ (v6 = true → (0 : Int32).toInt ≤ (g7 28 11).toInt ∧ (g7 28 11).toInt ≤ (5 : Int32).toInt) ∧ (v6 = false → True) := hRv6
          have y6 : 0 ≤ (g7 28 1).toInt ∧ (g7 28 1).toInt ≤ 160 := Inv.rd (r := 28) (c := 4) hRv6.1 1 rfl
          have y7 : 0 ≤ (g7 28 9).toInt ∧ (g7 28 9).toInt ≤ 160 := Inv.rd (r := 28) (c := 4) hRv6.1 9 rfl
          have y8 : 0 ≤ (g7 28 10).toInt ∧ (g7 28 10).toInt ≤ 160 := Inv.rd (r := 28) (c := 4) hRv6.1 10 rfl
          refine S1.ite (fun hc8 => ?_) (fun hc8 => ?_)
          · skip
            have chc8 := hRv6.2.2.1 hc8
            refine S1.lt ?_
            intro v9 hvv9
            refine S1.ite (fun hc10 => ?_) (fun hc10 => ?_)
            · skip
              refine S1.pc (s_44 (4 : Int32) (g7 28 9) g7 hRv6.1 trivial) ?_
              intro v11 g12 hvv11 hRv11
              have hRv11 : Inv g12 ∧ ((g12 28 10).toInt = (g7 28 10).toInt ∧ (g12 28 1).toInt = (g7 28 1).toInt) ∧ (v11 = true → (0 : Int) = 1) ∧ (v11 = false → True) := hRv11
              have y9 : 0 ≤ (g12 28 1).toInt ∧ (g12 28 1).toInt ≤ 160 := Inv.rd (r := 28) (c := 4) hRv11.1 1 rfl
              have y10 : 0 ≤ (g12 28 9).toInt ∧ (g12 28 9).toInt ≤ 160 := Inv.rd (r := 28) (c := 4) hRv11.1 9 rfl
              have y11 : 0 ≤ (g12 28 10).toInt ∧ (g12 28 10).toInt ≤ 160 := Inv.rd (r := 28) (c := 4) hRv11.1 10 rfl
              exact S1.ret (show Inv g12 ∧ ((g12 28 10).toInt ≤ (g12 28 1).toInt) from ⟨hRv11.1, (by omega)⟩)
            · skip
              try have y12 := zi_and (x := (g7 28 11)) (y := (31 : Int32)) (by omega)
              try have y13 := zi_shl1 (x := (g7 28 11)) (by omega)
              try have y14 := zi_add (x := x2) (y := (1 : Int32)) (by omega) (by omega)
              exact (ih (x1 ||| ((1 : Int32) <<< ((g7 28 11) &&& 31))) (x2 + 1) g7 hRv6.1 (by omega))
          · skip
            have chc8 := hRv6.2.2.2 hc8
            exact S1.ret (show Inv g7 ∧ ((g7 28 10).toInt ≤ (g7 28 1).toInt) from ⟨hRv6.1, (by omega)⟩)
      · skip
        have chc4 := hRv2.2.2.2 hc4
        exact S1.ret (show Inv g3 ∧ ((g3 28 10).toInt ≤ (g3 28 1).toInt) from ⟨hRv2.1, (by omega)⟩)
/-- EveningFirst$Reader.takeThings -/
theorem s_37 (g : G) (hI : Inv g) (hp : (g 28 10).toInt ≤ (g 28 1).toInt) : S1 (d_37 g) (fun q : Int32 × G => Inv q.2 ∧ ((q.2 28 10).toInt ≤ (q.2 28 1).toInt)) := by
  unfold d_37
  have L0 := zl_0
  have yp22 : 0 ≤ (g 28 1).toInt ∧ (g 28 1).toInt ≤ 160 := Inv.rd (r := 28) (c := 4) hI 1 rfl
  have yp23 : 0 ≤ (g 28 10).toInt ∧ (g 28 10).toInt ≤ 160 := Inv.rd (r := 28) (c := 4) hI 10 rfl
  have y20 : 0 ≤ (g 28 1).toInt ∧ (g 28 1).toInt ≤ 160 := Inv.rd (r := 28) (c := 4) hI 1 rfl
  have y21 : 0 ≤ (g 28 10).toInt ∧ (g 28 10).toInt ≤ 160 := Inv.rd (r := 28) (c := 4) hI 10 rfl
  exact (s_37_4 300 (0 : Int32) (0 : Int32) g hI (by omega))
/-- EveningFirst$Reader.takeOne -/
theorem s_33 (g : G) (hI : Inv g) (hp : (g 28 10).toInt ≤ (g 28 1).toInt) : S1 (d_33 g) (fun q : Bool × G => Inv q.2 ∧ ((q.2 28 10).toInt ≤ (q.2 28 1).toInt) ∧ (q.1 = true → True) ∧ (q.1 = false → True)) := by
  unfold d_33
  have L0 := zl_0
  have L1 := zl_1
  have L2 := zl_2
  have L4 := zl_4
  have L5 := zl_5
  have yp73 : 0 ≤ (g 28 1).toInt ∧ (g 28 1).toInt ≤ 160 := Inv.rd (r := 28) (c := 4) hI 1 rfl
  have yp74 : 0 ≤ (g 28 10).toInt ∧ (g 28 10).toInt ≤ 160 := Inv.rd (r := 28) (c := 4) hI 10 rfl
  have yp75 : 0 ≤ (g 28 9).toInt ∧ (g 28 9).toInt ≤ 160 := Inv.rd (r := 28) (c := 4) hI 9 rfl
  have yp76 : 0 ≤ (g 30 1).toInt ∧ (g 30 1).toInt ≤ 4 := Inv.rd (r := 30) (c := 2) hI 1 rfl
  have y1 : 0 ≤ (g 30 1).toInt ∧ (g 30 1).toInt ≤ 4 := Inv.rd (r := 30) (c := 2) hI 1 rfl
  refine S1.ite (fun hc1 => ?_) (fun hc1 => ?_)
  · skip
    have chc1 := zc_ltT hc1
    refine S1.ix (by omega) ?_
    intro k2 hk2 bk2
    try have y2 := zi_add (x := (g 30 1)) (y := (1 : Int32)) (by omega) (by omega)
    refine S1.lt ?_
    intro g3 hg3
    have Ig3 : Inv g3 := Inv.up hI hg3 rfl (show 0 ≤ ((g 30 1) + 1).toInt ∧ ((g 30 1) + 1).toInt ≤ 4 by omega)
    have u3 : (g3 28 1).toInt = (g 28 1).toInt := by rw [← hg3]; rfl
    have u4 : (g3 28 2).toInt = (g 28 2).toInt := by rw [← hg3]; rfl
    have u5 : (g3 28 9).toInt = (g 28 9).toInt := by rw [← hg3]; rfl
    have u6 : (g3 28 10).toInt = (g 28 10).toInt := by rw [← hg3]; rfl
    have u7 : (g3 30 1).toInt = ((g 30 1) + 1).toInt := by rw [← hg3]; rfl
    have y8 : 0 ≤ (g3 28 1).toInt ∧ (g3 28 1).toInt ≤ 160 := Inv.rd (r := 28) (c := 4) Ig3 1 rfl
    have y9 : 0 ≤ (g3 28 10).toInt ∧ (g3 28 10).toInt ≤ 160 := Inv.rd (r := 28) (c := 4) Ig3 10 rfl
    refine S1.bp (s_42 g3 Ig3 (by omega)) ?_
    intro v4 g5 hvv4 hRv4
    have hRv4 : Inv g5 ∧ ((g5 28 10).toInt ≤ (g5 28 1).toInt) ∧ (v4 = true → True) ∧ (v4 = false → True) := hRv4
    have y10 : 0 ≤ (g5 28 1).toInt ∧ (g5 28 1).toInt ≤ 160 := Inv.rd (r := 28) (c := 4) hRv4.1 1 rfl
    have y11 : 0 ≤ (g5 28 9).toInt ∧ (g5 28 9).toInt ≤ 160 := Inv.rd (r := 28) (c := 4) hRv4.1 9 rfl
    have y12 : 0 ≤ (g5 28 10).toInt ∧ (g5 28 10).toInt ≤ 160 := Inv.rd (r := 28) (c := 4) hRv4.1 10 rfl
    have y13 : 0 ≤ (g5 30 1).toInt ∧ (g5 30 1).toInt ≤ 4 := Inv.rd (r := 30) (c := 2) hRv4.1 1 rfl
    refine S1.ite (fun hc6 => ?_) (fun hc6 => ?_)
    · skip
      have chc6 := hRv4.2.2.1 hc6
      refine S1.bd (s_41 6 (by decide) g5 hRv4.1 trivial) ?_
      intro v7 hvv7 hRv7
      have hRv7 : True ∧ True ∧ (v7 = true → True) ∧ (v7 = false → True) := hRv7
      refine S1.ite (fun hc8 => ?_) (fun hc8 => ?_)
      · skip
        have chc8 := hRv7.2.2.1 hc8
        refine S1.lt ?_
        intro g25 hg25
        have Ig25 : Inv g25 := Inv.up hRv4.1 hg25 (zg_one (b := 30) rfl hk2) trivial
        have u14 : (g25 28 1).toInt = (g5 28 1).toInt := zg_upc hg25 (zg_one (b := 30) rfl hk2) (by decide)
        have u15 : (g25 28 2).toInt = (g5 28 2).toInt := zg_upc hg25 (zg_one (b := 30) rfl hk2) (by decide)
        have u16 : (g25 28 9).toInt = (g5 28 9).toInt := zg_upc hg25 (zg_one (b := 30) rfl hk2) (by decide)
        have u17 : (g25 28 10).toInt = (g5 28 10).toInt := zg_upc hg25 (zg_one (b := 30) rfl hk2) (by decide)
        have u18 : (g25 30 1).toInt = (g5 30 1).toInt := zg_upc hg25 (zg_one (b := 30) rfl hk2) (by decide)
        have y19 : 0 ≤ (g25 28 1).toInt ∧ (g25 28 1).toInt ≤ 160 := Inv.rd (r := 28) (c := 4) Ig25 1 rfl
        have y20 : 0 ≤ (g25 28 10).toInt ∧ (g25 28 10).toInt ≤ 160 := Inv.rd (r := 28) (c := 4) Ig25 10 rfl
        refine S1.bp (s_37 g25 Ig25 (by omega)) ?_
        intro v26 g27 hvv26 hRv26
        have hRv26 : Inv g27 ∧ ((g27 28 10).toInt ≤ (g27 28 1).toInt) := hRv26
        have y21 : 0 ≤ (g27 28 1).toInt ∧ (g27 28 1).toInt ≤ 160 := Inv.rd (r := 28) (c := 4) hRv26.1 1 rfl
        have y22 : 0 ≤ (g27 28 9).toInt ∧ (g27 28 9).toInt ≤ 160 := Inv.rd (r := 28) (c := 4) hRv26.1 9 rfl
        have y23 : 0 ≤ (g27 28 10).toInt ∧ (g27 28 10).toInt ≤ 160 := Inv.rd (r := 28) (c := 4) hRv26.1 10 rfl
        have y24 : 0 ≤ (g27 30 1).toInt ∧ (g27 30 1).toInt ≤ 4 := Inv.rd (r := 30) (c := 2) hRv26.1 1 rfl
        refine S1.lt ?_
        intro g28 hg28
        have Ig28 : Inv g28 := Inv.up hRv26.1 hg28 (zg_one (b := 30) rfl hk2) trivial
        have u25 : (g28 28 1).toInt = (g27 28 1).toInt := zg_upc hg28 (zg_one (b := 30) rfl hk2) (by decide)
        have u26 : (g28 28 2).toInt = (g27 28 2).toInt := zg_upc hg28 (zg_one (b := 30) rfl hk2) (by decide)
        have u27 : (g28 28 9).toInt = (g27 28 9).toInt := zg_upc hg28 (zg_one (b := 30) rfl hk2) (by decide)
        have u28 : (g28 28 10).toInt = (g27 28 10).toInt := zg_upc hg28 (zg_one (b := 30) rfl hk2) (by decide)
        have u29 : (g28 30 1).toInt = (g27 30 1).toInt := zg_upc hg28 (zg_one (b := 30) rfl hk2) (by decide)
        refine S1.ite (fun hc29 => ?_) (fun hc29 => ?_)
        · skip
          have chc29 := zc_neT hc29
          exact S1.ret (show Inv g28 ∧ ((g28 28 10).toInt ≤ (g28 28 1).toInt) ∧ (false = true → True) ∧ (false = false → True) from ⟨Ig28, (by omega), (fun _ => trivial), (fun _ => trivial)⟩)
        · skip
          have chc29 := zc_neF hc29
          exact S1.ret (show Inv g28 ∧ ((g28 28 10).toInt ≤ (g28 28 1).toInt) ∧ (true = true → True) ∧ (true = false → True) from ⟨Ig28, (by omega), (fun _ => trivial), (fun _ => trivial)⟩)
      · skip
        have chc8 := hRv7.2.2.2 hc8
        refine S1.bd (s_41 7 (by decide) g5 hRv4.1 trivial) ?_
        intro v9 hvv9 hRv9
        have hRv9 : True ∧ True ∧ (v9 = true → True) ∧ (v9 = false → True) := hRv9
        refine S1.ite (fun hc10 => ?_) (fun hc10 => ?_)
        · skip
          have chc10 := hRv9.2.2.1 hc10
          refine S1.lt ?_
          intro g20 hg20
          have Ig20 : Inv g20 := Inv.up hRv4.1 hg20 (zg_one (b := 30) rfl hk2) trivial
          have u30 : (g20 28 1).toInt = (g5 28 1).toInt := zg_upc hg20 (zg_one (b := 30) rfl hk2) (by decide)
          have u31 : (g20 28 2).toInt = (g5 28 2).toInt := zg_upc hg20 (zg_one (b := 30) rfl hk2) (by decide)
          have u32 : (g20 28 9).toInt = (g5 28 9).toInt := zg_upc hg20 (zg_one (b := 30) rfl hk2) (by decide)
          have u33 : (g20 28 10).toInt = (g5 28 10).toInt := zg_upc hg20 (zg_one (b := 30) rfl hk2) (by decide)
          have u34 : (g20 30 1).toInt = (g5 30 1).toInt := zg_upc hg20 (zg_one (b := 30) rfl hk2) (by decide)
          have y35 : 0 ≤ (g20 28 1).toInt ∧ (g20 28 1).toInt ≤ 160 := Inv.rd (r := 28) (c := 4) Ig20 1 rfl
          have y36 : 0 ≤ (g20 28 10).toInt ∧ (g20 28 10).toInt ≤ 160 := Inv.rd (r := 28) (c := 4) Ig20 10 rfl
          refine S1.bp (s_37 g20 Ig20 (by omega)) ?_
          intro v21 g22 hvv21 hRv21
          have hRv21 : Inv g22 ∧ ((g22 28 10).toInt ≤ (g22 28 1).toInt) := hRv21
          have y37 : 0 ≤ (g22 28 1).toInt ∧ (g22 28 1).toInt ≤ 160 := Inv.rd (r := 28) (c := 4) hRv21.1 1 rfl
          have y38 : 0 ≤ (g22 28 9).toInt ∧ (g22 28 9).toInt ≤ 160 := Inv.rd (r := 28) (c := 4) hRv21.1 9 rfl
          have y39 : 0 ≤ (g22 28 10).toInt ∧ (g22 28 10).toInt ≤ 160 := Inv.rd (r := 28) (c := 4) hRv21.1 10 rfl
          have y40 : 0 ≤ (g22 30 1).toInt ∧ (g22 30 1).toInt ≤ 4 := Inv.rd (r := 30) (c := 2) hRv21.1 1 rfl
          refine S1.lt ?_
          intro g23 hg23
          have Ig23 : Inv g23 := Inv.up hRv21.1 hg23 (zg_one (b := 30) rfl hk2) trivial
          have u41 : (g23 28 1).toInt = (g22 28 1).toInt := zg_upc hg23 (zg_one (b := 30) rfl hk2) (by decide)
          have u42 : (g23 28 2).toInt = (g22 28 2).toInt := zg_upc hg23 (zg_one (b := 30) rfl hk2) (by decide)
          have u43 : (g23 28 9).toInt = (g22 28 9).toInt := zg_upc hg23 (zg_one (b := 30) rfl hk2) (by decide)
          have u44 : (g23 28 10).toInt = (g22 28 10).toInt := zg_upc hg23 (zg_one (b := 30) rfl hk2) (by decide)
          have u45 : (g23 30 1).toInt = (g22 30 1).toInt := zg_upc hg23 (zg_one (b := 30) rfl hk2) (by decide)
          refine S1.ite (fun hc24 => ?_) (fun hc24 => ?_)
          · skip
            have chc24 := zc_neT hc24
            exact S1.ret (show Inv g23 ∧ ((g23 28 10).toInt ≤ (g23 28 1).toInt) ∧ (false = true → True) ∧ (false = false → True) from ⟨Ig23, (by omega), (fun _ => trivial), (fun _ => trivial)⟩)
          · skip
            have chc24 := zc_neF hc24
            exact S1.ret (show Inv g23 ∧ ((g23 28 10).toInt ≤ (g23 28 1).toInt) ∧ (true = true → True) ∧ (true = false → True) from ⟨Ig23, (by omega), (fun _ => trivial), (fun _ => trivial)⟩)
        · skip
          have chc10 := hRv9.2.2.2 hc10
          refine S1.bd (s_41 8 (by decide) g5 hRv4.1 trivial) ?_
          intro v11 hvv11 hRv11
          have hRv11 : True ∧ True ∧ (v11 = true → True) ∧ (v11 = false → True) := hRv11
          refine S1.ite (fun hc12 => ?_) (fun hc12 => ?_)
          · skip
            have chc12 := hRv11.2.2.1 hc12
            refine S1.lt ?_
            intro g15 hg15
            have Ig15 : Inv g15 := Inv.up hRv4.1 hg15 (zg_one (b := 30) rfl hk2) trivial
            have u46 : (g15 28 1).toInt = (g5 28 1).toInt := zg_upc hg15 (zg_one (b := 30) rfl hk2) (by decide)
            have u47 : (g15 28 2).toInt = (g5 28 2).toInt := zg_upc hg15 (zg_one (b := 30) rfl hk2) (by decide)
            have u48 : (g15 28 9).toInt = (g5 28 9).toInt := zg_upc hg15 (zg_one (b := 30) rfl hk2) (by decide)
            have u49 : (g15 28 10).toInt = (g5 28 10).toInt := zg_upc hg15 (zg_one (b := 30) rfl hk2) (by decide)
            have u50 : (g15 30 1).toInt = (g5 30 1).toInt := zg_upc hg15 (zg_one (b := 30) rfl hk2) (by decide)
            have y51 : 0 ≤ (g15 28 1).toInt ∧ (g15 28 1).toInt ≤ 160 := Inv.rd (r := 28) (c := 4) Ig15 1 rfl
            have y52 : 0 ≤ (g15 28 10).toInt ∧ (g15 28 10).toInt ≤ 160 := Inv.rd (r := 28) (c := 4) Ig15 10 rfl
            refine S1.bp (s_37 g15 Ig15 (by omega)) ?_
            intro v16 g17 hvv16 hRv16
            have hRv16 : Inv g17 ∧ ((g17 28 10).toInt ≤ (g17 28 1).toInt) := hRv16
            have y53 : 0 ≤ (g17 28 1).toInt ∧ (g17 28 1).toInt ≤ 160 := Inv.rd (r := 28) (c := 4) hRv16.1 1 rfl
            have y54 : 0 ≤ (g17 28 9).toInt ∧ (g17 28 9).toInt ≤ 160 := Inv.rd (r := 28) (c := 4) hRv16.1 9 rfl
            have y55 : 0 ≤ (g17 28 10).toInt ∧ (g17 28 10).toInt ≤ 160 := Inv.rd (r := 28) (c := 4) hRv16.1 10 rfl
            have y56 : 0 ≤ (g17 30 1).toInt ∧ (g17 30 1).toInt ≤ 4 := Inv.rd (r := 30) (c := 2) hRv16.1 1 rfl
            refine S1.lt ?_
            intro g18 hg18
            have Ig18 : Inv g18 := Inv.up hRv16.1 hg18 (zg_one (b := 30) rfl hk2) trivial
            have u57 : (g18 28 1).toInt = (g17 28 1).toInt := zg_upc hg18 (zg_one (b := 30) rfl hk2) (by decide)
            have u58 : (g18 28 2).toInt = (g17 28 2).toInt := zg_upc hg18 (zg_one (b := 30) rfl hk2) (by decide)
            have u59 : (g18 28 9).toInt = (g17 28 9).toInt := zg_upc hg18 (zg_one (b := 30) rfl hk2) (by decide)
            have u60 : (g18 28 10).toInt = (g17 28 10).toInt := zg_upc hg18 (zg_one (b := 30) rfl hk2) (by decide)
            have u61 : (g18 30 1).toInt = (g17 30 1).toInt := zg_upc hg18 (zg_one (b := 30) rfl hk2) (by decide)
            refine S1.ite (fun hc19 => ?_) (fun hc19 => ?_)
            · skip
              have chc19 := zc_neT hc19
              exact S1.ret (show Inv g18 ∧ ((g18 28 10).toInt ≤ (g18 28 1).toInt) ∧ (false = true → True) ∧ (false = false → True) from ⟨Ig18, (by omega), (fun _ => trivial), (fun _ => trivial)⟩)
            · skip
              have chc19 := zc_neF hc19
              exact S1.ret (show Inv g18 ∧ ((g18 28 10).toInt ≤ (g18 28 1).toInt) ∧ (true = true → True) ∧ (true = false → True) from ⟨Ig18, (by omega), (fun _ => trivial), (fun _ => trivial)⟩)
          · skip
            have chc12 := hRv11.2.2.2 hc12
            refine S1.pc (s_44 (2 : Int32) (g5 28 9) g5 hRv4.1 trivial) ?_
            intro v13 g14 hvv13 hRv13
            have hRv13 : Inv g14 ∧ ((g14 28 10).toInt = (g5 28 10).toInt ∧ (g14 28 1).toInt = (g5 28 1).toInt) ∧ (v13 = true → (0 : Int) = 1) ∧ (v13 = false → True) := hRv13
            have y62 : 0 ≤ (g14 28 1).toInt ∧ (g14 28 1).toInt ≤ 160 := Inv.rd (r := 28) (c := 4) hRv13.1 1 rfl
            have y63 : 0 ≤ (g14 28 9).toInt ∧ (g14 28 9).toInt ≤ 160 := Inv.rd (r := 28) (c := 4) hRv13.1 9 rfl
            have y64 : 0 ≤ (g14 28 10).toInt ∧ (g14 28 10).toInt ≤ 160 := Inv.rd (r := 28) (c := 4) hRv13.1 10 rfl
            have y65 : 0 ≤ (g14 30 1).toInt ∧ (g14 30 1).toInt ≤ 4 := Inv.rd (r := 30) (c := 2) hRv13.1 1 rfl
            exact S1.ret (show Inv g14 ∧ ((g14 28 10).toInt ≤ (g14 28 1).toInt) ∧ (v13 = true → True) ∧ (v13 = false → True) from ⟨hRv13.1, (by omega), (fun _ => trivial), (fun _ => trivial)⟩)
    · skip
      have chc6 := hRv4.2.2.2 hc6
      exact S1.ret (show Inv g5 ∧ ((g5 28 10).toInt ≤ (g5 28 1).toInt) ∧ (false = true → True) ∧ (false = false → True) from ⟨hRv4.1, (by omega), (fun _ => trivial), (fun _ => trivial)⟩)
  · skip
    have chc1 := zc_ltF hc1
    have y66 : 0 ≤ (g 28 9).toInt ∧ (g 28 9).toInt ≤ 160 := Inv.rd (r := 28) (c := 4) hI 9 rfl
    refine S1.pc (s_44 (5 : Int32) (g 28 9) g hI trivial) ?_
    intro v30 g31 hvv30 hRv30
    have hRv30 : Inv g31 ∧ ((g31 28 10).toInt = (g 28 10).toInt ∧ (g31 28 1).toInt = (g 28 1).toInt) ∧ (v30 = true → (0 : Int) = 1) ∧ (v30 = false → True) := hRv30
    have y67 : 0 ≤ (g 28 1).toInt ∧ (g 28 1).toInt ≤ 160 := Inv.rd (r := 28) (c := 4) hI 1 rfl
    have y68 : 0 ≤ (g 28 10).toInt ∧ (g 28 10).toInt ≤ 160 := Inv.rd (r := 28) (c := 4) hI 10 rfl
    have y69 : 0 ≤ (g31 28 1).toInt ∧ (g31 28 1).toInt ≤ 160 := Inv.rd (r := 28) (c := 4) hRv30.1 1 rfl
    have y70 : 0 ≤ (g31 28 9).toInt ∧ (g31 28 9).toInt ≤ 160 := Inv.rd (r := 28) (c := 4) hRv30.1 9 rfl
    have y71 : 0 ≤ (g31 28 10).toInt ∧ (g31 28 10).toInt ≤ 160 := Inv.rd (r := 28) (c := 4) hRv30.1 10 rfl
    have y72 : 0 ≤ (g31 30 1).toInt ∧ (g31 30 1).toInt ≤ 4 := Inv.rd (r := 30) (c := 2) hRv30.1 1 rfl
    exact S1.ret (show Inv g31 ∧ ((g31 28 10).toInt ≤ (g31 28 1).toInt) ∧ (v30 = true → True) ∧ (v30 = false → True) from ⟨hRv30.1, (by omega), (fun _ => trivial), (fun _ => trivial)⟩)
