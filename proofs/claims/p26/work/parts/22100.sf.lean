/-! printed by wip/tools/safe.py -/
/-- EveningFirst.feed -/
theorem s_54 (x1 : Int32) (g : G) (hI : Inv g) (hp : True) : S1 (d_54 x1 g) (fun q : Int32 × G => Inv q.2 ∧ True) := by
  unfold d_54
  have Lm3 := zl_m3
  have Lm1 := zl_m1
  have L0 := zl_0
  have L1 := zl_1
  have L127 := zl_127
  have L160 := zl_160
  have yp7 : 0 ≤ (g 28 1).toInt ∧ (g 28 1).toInt ≤ 160 := Inv.rd (r := 28) (c := 4) hI 1 rfl
  refine S1.ite (fun hc1 => ?_) (fun hc1 => ?_)
  · skip
    have chc1 := zc_ltT hc1
    exact S1.ret (show Inv g ∧ True from ⟨hI, trivial⟩)
  · skip
    have chc1 := zc_ltF hc1
    refine S1.ite (fun hc2 => ?_) (fun hc2 => ?_)
    · skip
      have chc2 := zc_leT hc2
      have y1 : 0 ≤ (g 28 1).toInt ∧ (g 28 1).toInt ≤ 160 := Inv.rd (r := 28) (c := 4) hI 1 rfl
      refine S1.ite (fun hc3 => ?_) (fun hc3 => ?_)
      · skip
        have chc3 := zc_ltT hc3
        refine S1.ix (by omega) ?_
        intro k5 hk5 bk5
        refine S1.lt ?_
        intro g4 hg4
        have Ig4 : Inv g4 := Inv.up hI hg4 rfl trivial
        have u2 : (g4 28 1).toInt = (g 28 1).toInt := by rw [← hg4]; rfl
        have y3 : 0 ≤ (g4 28 1).toInt ∧ (g4 28 1).toInt ≤ 160 := Inv.rd (r := 28) (c := 4) Ig4 1 rfl
        try have y4 := zi_add (x := (g4 28 1)) (y := (1 : Int32)) (by omega) (by omega)
        refine S1.lt ?_
        intro g6 hg6
        have Ig6 : Inv g6 := Inv.up Ig4 hg6 rfl (show 0 ≤ ((g4 28 1) + 1).toInt ∧ ((g4 28 1) + 1).toInt ≤ 160 by omega)
        have u5 : (g6 28 1).toInt = ((g4 28 1) + 1).toInt := by rw [← hg6]; rfl
        have y6 : 0 ≤ (g6 28 1).toInt ∧ (g6 28 1).toInt ≤ 160 := Inv.rd (r := 28) (c := 4) Ig6 1 rfl
        exact S1.ret (show Inv g6 ∧ True from ⟨Ig6, trivial⟩)
      · skip
        have chc3 := zc_ltF hc3
        exact S1.ret (show Inv g ∧ True from ⟨hI, trivial⟩)
    · skip
      have chc2 := zc_leF hc2
      exact S1.ret (show Inv g ∧ True from ⟨hI, trivial⟩)
/-- EveningFirstModel.feed -/
theorem s_111 (x1 : Int32) (g : G) (hI : Inv g) (hp : True) : S1 (d_111 x1 g) (fun q : Int32 × G => Inv q.2 ∧ True) := by
  unfold d_111
  have Lm3 := zl_m3
  have Lm1 := zl_m1
  have L0 := zl_0
  have L1 := zl_1
  have L127 := zl_127
  have L160 := zl_160
  have yp10 : 0 ≤ (g 113 14).toInt ∧ (g 113 14).toInt ≤ 160 := Inv.rd (r := 113) (c := 8) hI 14 rfl
  have y1 := zi_i64 x1
  have y2 : (0 : Int64).toInt = 0 := by decide
  have y3 : (127 : Int64).toInt = 127 := by decide
  refine S1.lc (zin_c (a := (Int32.toInt64 x1)) (b := (0 : Int64)) (c := (127 : Int64))) ?_
  intro v1 hvv1 hRv1
  have hRv1 : (v1 = true → (0 : Int64).toInt ≤ (Int32.toInt64 x1).toInt ∧ (Int32.toInt64 x1).toInt ≤ (127 : Int64).toInt) ∧ (v1 = false → (Int32.toInt64 x1).toInt < (0 : Int64).toInt ∨ (127 : Int64).toInt < (Int32.toInt64 x1).toInt) := hRv1
  refine S1.ite (fun hc2 => ?_) (fun hc2 => ?_)
  · skip
    have chc2 := hRv1.1 hc2
    have y4 : 0 ≤ (g 113 14).toInt ∧ (g 113 14).toInt ≤ 160 := Inv.rd (r := 113) (c := 8) hI 14 rfl
    refine S1.ite (fun hc3 => ?_) (fun hc3 => ?_)
    · skip
      have chc3 := zc_neT hc3
      refine S1.ix (by omega) ?_
      intro k5 hk5 bk5
      refine S1.lt ?_
      intro g4 hg4
      have Ig4 : Inv g4 := Inv.up hI hg4 rfl trivial
      have u5 : (g4 113 14).toInt = (g 113 14).toInt := by rw [← hg4]; rfl
      have y6 : 0 ≤ (g4 113 14).toInt ∧ (g4 113 14).toInt ≤ 160 := Inv.rd (r := 113) (c := 8) Ig4 14 rfl
      try have y7 := zi_add (x := (g4 113 14)) (y := (1 : Int32)) (by omega) (by omega)
      refine S1.lt ?_
      intro g6 hg6
      have Ig6 : Inv g6 := Inv.up Ig4 hg6 rfl (show 0 ≤ ((g4 113 14) + 1).toInt ∧ ((g4 113 14) + 1).toInt ≤ 160 by omega)
      have u8 : (g6 113 14).toInt = ((g4 113 14) + 1).toInt := by rw [← hg6]; rfl
      have y9 : 0 ≤ (g6 113 14).toInt ∧ (g6 113 14).toInt ≤ 160 := Inv.rd (r := 113) (c := 8) Ig6 14 rfl
      exact S1.ret (show Inv g6 ∧ True from ⟨Ig6, trivial⟩)
    · skip
      have chc3 := zc_neF hc3
      exact S1.ret (show Inv g ∧ True from ⟨hI, trivial⟩)
  · skip
    have chc2 := hRv1.2 hc2
    exact S1.ret (show Inv g ∧ True from ⟨hI, trivial⟩)
/-- EveningFirst.end -/
theorem s_55 (x1 : Int32) (g : G) (hI : Inv g) (hp : True) : T1 (d_55 x1 g) (fun q : Int32 × G => Inv q.2 ∧ True) := by
  unfold d_55
  have Lm1 := zl_m1
  have L0 := zl_0
  have yp3 : 0 ≤ (g 28 1).toInt ∧ (g 28 1).toInt ≤ 160 := Inv.rd (r := 28) (c := 4) hI 1 rfl
  refine T1.ite (fun hc1 => ?_) (fun hc1 => ?_)
  · skip
    have chc1 := zc_ltT hc1
    exact T1.ret (show Inv g ∧ True from ⟨hI, trivial⟩)
  · skip
    have chc1 := zc_ltF hc1
    have y1 : 0 ≤ (g 28 1).toInt ∧ (g 28 1).toInt ≤ 160 := Inv.rd (r := 28) (c := 4) hI 1 rfl
    refine T1.ite (fun hc2 => ?_) (fun hc2 => ?_)
    · skip
      have chc2 := zc_leT hc2
      refine T1.lt ?_
      intro g3 hg3
      have Ig3 : Inv g3 := Inv.up hI hg3 rfl (show 0 ≤ x1.toInt ∧ x1.toInt ≤ 160 by omega)
      have u2 : (g3 28 1).toInt = x1.toInt := by rw [← hg3]; rfl
      exact T1.ret (show Inv g3 ∧ True from ⟨Ig3, trivial⟩)
    · skip
      have chc2 := zc_leF hc2
      exact T1.ret (show Inv g ∧ True from ⟨hI, trivial⟩)
/-- EveningFirstModel.end -/
theorem s_112 (x1 : Int32) (g : G) (hI : Inv g) (hp : True) : T1 (d_112 x1 g) (fun q : Int32 × G => Inv q.2 ∧ True) := by
  unfold d_112
  have Lm1 := zl_m1
  have L0 := zl_0
  have yp6 : 0 ≤ (g 113 14).toInt ∧ (g 113 14).toInt ≤ 160 := Inv.rd (r := 113) (c := 8) hI 14 rfl
  have y1 := zi_i64 x1
  have y2 : 0 ≤ (g 113 14).toInt ∧ (g 113 14).toInt ≤ 160 := Inv.rd (r := 113) (c := 8) hI 14 rfl
  have y3 := zi_i64 (g 113 14)
  have y4 : (0 : Int64).toInt = 0 := by decide
  refine T1.lc (zin_c (a := (Int32.toInt64 x1)) (b := (0 : Int64)) (c := (Int32.toInt64 (g 113 14)))) ?_
  intro v1 hvv1 hRv1
  have hRv1 : (v1 = true → (0 : Int64).toInt ≤ (Int32.toInt64 x1).toInt ∧ (Int32.toInt64 x1).toInt ≤ (Int32.toInt64 (g 113 14)).toInt) ∧ (v1 = false → (Int32.toInt64 x1).toInt < (0 : Int64).toInt ∨ (Int32.toInt64 (g 113 14)).toInt < (Int32.toInt64 x1).toInt) := hRv1
  refine T1.ite (fun hc2 => ?_) (fun hc2 => ?_)
  · skip
    have chc2 := hRv1.1 hc2
    refine T1.lt ?_
    intro g3 hg3
    have Ig3 : Inv g3 := Inv.up hI hg3 rfl (show 0 ≤ x1.toInt ∧ x1.toInt ≤ 160 by omega)
    have u5 : (g3 113 14).toInt = x1.toInt := by rw [← hg3]; rfl
    exact T1.ret (show Inv g3 ∧ True from ⟨Ig3, trivial⟩)
  · skip
    have chc2 := hRv1.2 hc2
    exact T1.ret (show Inv g ∧ True from ⟨hI, trivial⟩)
theorem s_16_22 (r0 : Nat) (h0 : zg_cl r0 = 2) : ∀ (f : Nat) (x1 : Int32) (g : G), Inv g → 0 ≤ x1.toInt ∧ x1.toInt ≤ 8 ∧ 8 - x1.toInt < (f : Int) → S1 (d_16_22 r0 f x1 g) (fun q : G => Inv q ∧ True) := by
  intro f
  induction f with
  | zero =>
    intro x1 g hI hp
    exfalso
    omega
  | succ f ih =>
    intro x1 g hI hp
    rw [d_16_22.eq_2]
    have L0 := zl_0
    have L1 := zl_1
    have L8 := zl_8
    have L10 := zl_10
    refine S1.ite (fun hc5 => ?_) (fun hc5 => ?_)
    · skip
      have chc5 := zc_geT hc5
      exact S1.ret (show Inv g ∧ True from ⟨hI, trivial⟩)
    · skip
      have chc5 := zc_geF hc5
      refine S1.ix (by omega) ?_
      intro k6 hk6 bk6
      refine S1.lt ?_
      intro g7 hg7
      have Ig7 : Inv g7 := Inv.up hI hg7 (zg_deed (b := r0) h0 hk6) trivial
      refine S1.ix (by omega) ?_
      intro k8 hk8 bk8
      refine S1.lt ?_
      intro g9 hg9
      have Ig9 : Inv g9 := Inv.up Ig7 hg9 (zg_deed (b := r0) h0 hk8) trivial
      try have y1 := zi_add (x := x1) (y := (1 : Int32)) (by omega) (by omega)
      exact (ih (x1 + 1) g9 Ig9 (by omega))
/-- EveningFirst$Family.empty -/
theorem s_16 (r0 : Nat) (h0 : zg_cl r0 = 2) (g : G) (hI : Inv g) (hp : True) : S1 (d_16 r0 g) (fun q : G => Inv q ∧ True) := by
  unfold d_16
  have L0 := zl_0
  have L4 := zl_4
  refine S1.lt ?_
  intro g1 hg1
  have Ig1 : Inv g1 := Inv.up hI hg1 h0 (show 0 ≤ (4 : Int32).toInt ∧ (4 : Int32).toInt ≤ 8 by omega)
  refine S1.lt ?_
  intro g2 hg2
  have Ig2 : Inv g2 := Inv.up Ig1 hg2 h0 (show 0 ≤ (0 : Int32).toInt ∧ (0 : Int32).toInt ≤ 4 by omega)
  refine S1.lt ?_
  intro g3 hg3
  have Ig3 : Inv g3 := Inv.up Ig2 hg3 h0 (show 0 ≤ (0 : Int32).toInt ∧ (0 : Int32).toInt ≤ 8 by omega)
  refine S1.lt ?_
  intro g4 hg4
  have Ig4 : Inv g4 := Inv.up Ig3 hg4 h0 (show 0 ≤ (0 : Int32).toInt ∧ (0 : Int32).toInt ≤ 8 by omega)
  exact (s_16_22 r0 h0 300 (0 : Int32) g4 Ig4 (by omega))
theorem s_43_2 : ∀ (f : Nat) (x1 : Int32) (g : G), Inv g → (g 28 10).toInt ≤ (g 28 1).toInt ∧ 160 - (g 28 10).toInt < (f : Int) → S1 (d_43_2 f x1 g) (fun q : Int32 × G => Inv q.2 ∧ ((q.2 28 10).toInt ≤ (q.2 28 1).toInt)) := by
  intro f
  induction f with
  | zero =>
    intro x1 g hI hp
    exfalso
    have yp11 : 0 ≤ (g 28 1).toInt ∧ (g 28 1).toInt ≤ 160 := Inv.rd (r := 28) (c := 4) hI 1 rfl
    have yp12 : 0 ≤ (g 28 10).toInt ∧ (g 28 10).toInt ≤ 160 := Inv.rd (r := 28) (c := 4) hI 10 rfl
    omega
  | succ f ih =>
    intro x1 g hI hp
    rw [d_43_2.eq_2]
    have L1 := zl_1
    have L10 := zl_10
    have L48 := zl_48
    have L57 := zl_57
    have yp13 : 0 ≤ (g 28 1).toInt ∧ (g 28 1).toInt ≤ 160 := Inv.rd (r := 28) (c := 4) hI 1 rfl
    have yp14 : 0 ≤ (g 28 10).toInt ∧ (g 28 10).toInt ≤ 160 := Inv.rd (r := 28) (c := 4) hI 10 rfl
    have y1 : 0 ≤ (g 28 10).toInt ∧ (g 28 10).toInt ≤ 160 := Inv.rd (r := 28) (c := 4) hI 10 rfl
    have y2 : 0 ≤ (g 28 1).toInt ∧ (g 28 1).toInt ≤ 160 := Inv.rd (r := 28) (c := 4) hI 1 rfl
    refine S1.ite (fun hc1 => ?_) (fun hc1 => ?_)
    · skip
      have chc1 := zc_geT hc1
      exact S1.ret (show Inv g ∧ ((g 28 10).toInt ≤ (g 28 1).toInt) from ⟨hI, (by omega)⟩)
    · skip
      have chc1 := zc_geF hc1
      refine S1.ix (by omega) ?_
      intro k2 hk2 bk2
      refine S1.ite (fun hc3 => ?_) (fun hc3 => ?_)
      · skip
        have chc3 := zc_ltT hc3
        exact S1.ret (show Inv g ∧ ((g 28 10).toInt ≤ (g 28 1).toInt) from ⟨hI, (by omega)⟩)
      · skip
        have chc3 := zc_ltF hc3
        refine S1.ix (by omega) ?_
        intro k4 hk4 bk4
        refine S1.ite (fun hc5 => ?_) (fun hc5 => ?_)
        · skip
          have chc5 := zc_gtT hc5
          exact S1.ret (show Inv g ∧ ((g 28 10).toInt ≤ (g 28 1).toInt) from ⟨hI, (by omega)⟩)
        · skip
          have chc5 := zc_gtF hc5
          refine S1.ix (by omega) ?_
          intro k6 hk6 bk6
          try have y3 := zi_add (x := (g 28 10)) (y := (1 : Int32)) (by omega) (by omega)
          refine S1.lt ?_
          intro g7 hg7
          have Ig7 : Inv g7 := Inv.up hI hg7 rfl (show 0 ≤ ((g 28 10) + 1).toInt ∧ ((g 28 10) + 1).toInt ≤ 160 by omega)
          have u4 : (g7 28 1).toInt = (g 28 1).toInt := by rw [← hg7]; rfl
          have u5 : (g7 28 10).toInt = ((g 28 10) + 1).toInt := by rw [← hg7]; rfl
          try have y6 := zi_mul (x := (10 : Int32)) (y := x1) (n := 10) (by decide) (by omega) (by omega)
          try have y7 := zi_add (x := (10 * x1)) (y := (g 29 k6)) (by omega) (by omega)
          try have y8 := zi_sub (x := ((10 * x1) + (g 29 k6))) (y := (48 : Int32)) (by omega) (by omega)
          have y9 : 0 ≤ (g7 28 1).toInt ∧ (g7 28 1).toInt ≤ 160 := Inv.rd (r := 28) (c := 4) Ig7 1 rfl
          have y10 : 0 ≤ (g7 28 10).toInt ∧ (g7 28 10).toInt ≤ 160 := Inv.rd (r := 28) (c := 4) Ig7 10 rfl
          exact (ih (((10 * x1) + (g 29 k6)) - 48) g7 Ig7 (by omega))
/-- EveningFirst$Reader.takeFigures -/
theorem s_43 (g : G) (hI : Inv g) (hp : (g 28 10).toInt ≤ (g 28 1).toInt) : S1 (d_43 g) (fun q : Int32 × G => Inv q.2 ∧ ((q.2 28 10).toInt ≤ (q.2 28 1).toInt)) := by
  unfold d_43
  have L0 := zl_0
  have yp17 : 0 ≤ (g 28 1).toInt ∧ (g 28 1).toInt ≤ 160 := Inv.rd (r := 28) (c := 4) hI 1 rfl
  have yp18 : 0 ≤ (g 28 10).toInt ∧ (g 28 10).toInt ≤ 160 := Inv.rd (r := 28) (c := 4) hI 10 rfl
  have y15 : 0 ≤ (g 28 1).toInt ∧ (g 28 1).toInt ≤ 160 := Inv.rd (r := 28) (c := 4) hI 1 rfl
  have y16 : 0 ≤ (g 28 10).toInt ∧ (g 28 10).toInt ≤ 160 := Inv.rd (r := 28) (c := 4) hI 10 rfl
  exact (s_43_2 300 (0 : Int32) g hI (by omega))
/-- EveningFirst$Reader.refuse -/
theorem s_44 (x1 : Int32) (x2 : Int32) (g : G) (hI : Inv g) (hp : True) : T1 (d_44 x1 x2 g) (fun q : Bool × G => Inv q.2 ∧ ((q.2 28 10).toInt = (g 28 10).toInt ∧ (q.2 28 1).toInt = (g 28 1).toInt) ∧ (q.1 = true → (0 : Int) = 1) ∧ (q.1 = false → True)) := by
  unfold d_44
  have yp5 : 0 ≤ (g 28 1).toInt ∧ (g 28 1).toInt ≤ 160 := Inv.rd (r := 28) (c := 4) hI 1 rfl
  have yp6 : 0 ≤ (g 28 10).toInt ∧ (g 28 10).toInt ≤ 160 := Inv.rd (r := 28) (c := 4) hI 10 rfl
  refine T1.lt ?_
  intro g1 hg1
  have Ig1 : Inv g1 := Inv.up hI hg1 rfl trivial
  have u1 : (g1 28 1).toInt = (g 28 1).toInt := by rw [← hg1]; rfl
  have u2 : (g1 28 10).toInt = (g 28 10).toInt := by rw [← hg1]; rfl
  refine T1.lt ?_
  intro g2 hg2
  have Ig2 : Inv g2 := Inv.up Ig1 hg2 rfl trivial
  have u3 : (g2 28 1).toInt = (g1 28 1).toInt := by rw [← hg2]; rfl
  have u4 : (g2 28 10).toInt = (g1 28 10).toInt := by rw [← hg2]; rfl
  exact T1.ret (show Inv g2 ∧ ((g2 28 10).toInt = (g 28 10).toInt ∧ (g2 28 1).toInt = (g 28 1).toInt) ∧ (false = true → (0 : Int) = 1) ∧ (false = false → True) from ⟨Ig2, (by omega), (fun w => by cases w), (fun _ => trivial)⟩)
theorem s_42_155 (g : G) (hI : Inv g) (hp : (g 28 10).toInt ≤ (g 28 1).toInt) : S1 (d_42_155 g) (fun q : Bool × G => Inv q.2 ∧ ((q.2 28 10).toInt ≤ (q.2 28 1).toInt) ∧ (q.1 = true → True) ∧ (q.1 = false → True)) := by
  unfold d_42_155
  have L1 := zl_1
  have L2 := zl_2
  have yp28 : 0 ≤ (g 28 1).toInt ∧ (g 28 1).toInt ≤ 160 := Inv.rd (r := 28) (c := 4) hI 1 rfl
  have yp29 : 0 ≤ (g 28 10).toInt ∧ (g 28 10).toInt ≤ 160 := Inv.rd (r := 28) (c := 4) hI 10 rfl
  have yp30 : 0 ≤ (g 28 9).toInt ∧ (g 28 9).toInt ≤ 160 := Inv.rd (r := 28) (c := 4) hI 9 rfl
  have y1 : 0 ≤ (g 28 10).toInt ∧ (g 28 10).toInt ≤ 160 := Inv.rd (r := 28) (c := 4) hI 10 rfl
  have y2 : 0 ≤ (g 28 9).toInt ∧ (g 28 9).toInt ≤ 160 := Inv.rd (r := 28) (c := 4) hI 9 rfl
  refine S1.ite (fun hc8 => ?_) (fun hc8 => ?_)
  · skip
    have chc8 := zc_leT hc8
    refine S1.lt ?_
    intro g9 hg9
    have Ig9 : Inv g9 := Inv.up hI hg9 rfl trivial
    have u3 : (g9 28 1).toInt = (g 28 1).toInt := by rw [← hg9]; rfl
    have u4 : (g9 28 9).toInt = (g 28 9).toInt := by rw [← hg9]; rfl
    have u5 : (g9 28 10).toInt = (g 28 10).toInt := by rw [← hg9]; rfl
    have y6 : 0 ≤ (g9 28 1).toInt ∧ (g9 28 1).toInt ≤ 160 := Inv.rd (r := 28) (c := 4) Ig9 1 rfl
    have y7 : 0 ≤ (g9 28 10).toInt ∧ (g9 28 10).toInt ≤ 160 := Inv.rd (r := 28) (c := 4) Ig9 10 rfl
    refine S1.bp (s_43 g9 Ig9 (by omega)) ?_
    intro v10 g11 hvv10 hRv10
    have hRv10 : Inv g11 ∧ ((g11 28 10).toInt ≤ (g11 28 1).toInt) := hRv10
    have y8 : 0 ≤ (g11 28 1).toInt ∧ (g11 28 1).toInt ≤ 160 := Inv.rd (r := 28) (c := 4) hRv10.1 1 rfl
    have y9 : 0 ≤ (g11 28 9).toInt ∧ (g11 28 9).toInt ≤ 160 := Inv.rd (r := 28) (c := 4) hRv10.1 9 rfl
    have y10 : 0 ≤ (g11 28 10).toInt ∧ (g11 28 10).toInt ≤ 160 := Inv.rd (r := 28) (c := 4) hRv10.1 10 rfl
    refine S1.lt ?_
    intro g12 hg12
    have Ig12 : Inv g12 := Inv.up hRv10.1 hg12 rfl trivial
    have u11 : (g12 28 1).toInt = (g11 28 1).toInt := by rw [← hg12]; rfl
    have u12 : (g12 28 9).toInt = (g11 28 9).toInt := by rw [← hg12]; rfl
    have u13 : (g12 28 10).toInt = (g11 28 10).toInt := by rw [← hg12]; rfl
    have y14 : 0 ≤ (g12 28 10).toInt ∧ (g12 28 10).toInt ≤ 160 := Inv.rd (r := 28) (c := 4) Ig12 10 rfl
    have y15 : 0 ≤ (g12 28 9).toInt ∧ (g12 28 9).toInt ≤ 160 := Inv.rd (r := 28) (c := 4) Ig12 9 rfl
    refine S1.ite (fun hc13 => ?_) (fun hc13 => ?_)
    · skip
      have chc13 := zc_leT hc13
      refine S1.pc (s_44 (1 : Int32) (g12 28 9) g12 Ig12 trivial) ?_
      intro v14 g15 hvv14 hRv14
      have hRv14 : Inv g15 ∧ ((g15 28 10).toInt = (g12 28 10).toInt ∧ (g15 28 1).toInt = (g12 28 1).toInt) ∧ (v14 = true → (0 : Int) = 1) ∧ (v14 = false → True) := hRv14
      have y16 : 0 ≤ (g12 28 1).toInt ∧ (g12 28 1).toInt ≤ 160 := Inv.rd (r := 28) (c := 4) Ig12 1 rfl
      have y17 : 0 ≤ (g15 28 1).toInt ∧ (g15 28 1).toInt ≤ 160 := Inv.rd (r := 28) (c := 4) hRv14.1 1 rfl
      have y18 : 0 ≤ (g15 28 9).toInt ∧ (g15 28 9).toInt ≤ 160 := Inv.rd (r := 28) (c := 4) hRv14.1 9 rfl
      have y19 : 0 ≤ (g15 28 10).toInt ∧ (g15 28 10).toInt ≤ 160 := Inv.rd (r := 28) (c := 4) hRv14.1 10 rfl
      refine S1.ite (fun hc16 => ?_) (fun hc16 => ?_)
      · skip
        have chc16 := hRv14.2.2.1 hc16
        exact S1.ret (show Inv g15 ∧ ((g15 28 10).toInt ≤ (g15 28 1).toInt) ∧ (true = true → True) ∧ (true = false → True) from ⟨hRv14.1, (by omega), (fun _ => trivial), (fun _ => trivial)⟩)
      · skip
        have chc16 := hRv14.2.2.2 hc16
        exact S1.ret (show Inv g15 ∧ ((g15 28 10).toInt ≤ (g15 28 1).toInt) ∧ (false = true → True) ∧ (false = false → True) from ⟨hRv14.1, (by omega), (fun _ => trivial), (fun _ => trivial)⟩)
    · skip
      have chc13 := zc_leF hc13
      try have y20 := zi_add (x := (g12 28 9)) (y := (2 : Int32)) (by omega) (by omega)
      refine S1.ite (fun hc17 => ?_) (fun hc17 => ?_)
      · skip
        have chc17 := zc_leT hc17
        exact S1.ret (show Inv g12 ∧ ((g12 28 10).toInt ≤ (g12 28 1).toInt) ∧ (true = true → True) ∧ (true = false → True) from ⟨Ig12, (by omega), (fun _ => trivial), (fun _ => trivial)⟩)
      · skip
        have chc17 := zc_leF hc17
        refine S1.pc (s_44 (1 : Int32) (g12 28 9) g12 Ig12 trivial) ?_
        intro v18 g19 hvv18 hRv18
        have hRv18 : Inv g19 ∧ ((g19 28 10).toInt = (g12 28 10).toInt ∧ (g19 28 1).toInt = (g12 28 1).toInt) ∧ (v18 = true → (0 : Int) = 1) ∧ (v18 = false → True) := hRv18
        have y21 : 0 ≤ (g12 28 1).toInt ∧ (g12 28 1).toInt ≤ 160 := Inv.rd (r := 28) (c := 4) Ig12 1 rfl
        have y22 : 0 ≤ (g19 28 1).toInt ∧ (g19 28 1).toInt ≤ 160 := Inv.rd (r := 28) (c := 4) hRv18.1 1 rfl
        have y23 : 0 ≤ (g19 28 9).toInt ∧ (g19 28 9).toInt ≤ 160 := Inv.rd (r := 28) (c := 4) hRv18.1 9 rfl
        have y24 : 0 ≤ (g19 28 10).toInt ∧ (g19 28 10).toInt ≤ 160 := Inv.rd (r := 28) (c := 4) hRv18.1 10 rfl
        refine S1.ite (fun hc20 => ?_) (fun hc20 => ?_)
        · skip
          have chc20 := hRv18.2.2.1 hc20
          exact S1.ret (show Inv g19 ∧ ((g19 28 10).toInt ≤ (g19 28 1).toInt) ∧ (true = true → True) ∧ (true = false → True) from ⟨hRv18.1, (by omega), (fun _ => trivial), (fun _ => trivial)⟩)
        · skip
          have chc20 := hRv18.2.2.2 hc20
          exact S1.ret (show Inv g19 ∧ ((g19 28 10).toInt ≤ (g19 28 1).toInt) ∧ (false = true → True) ∧ (false = false → True) from ⟨hRv18.1, (by omega), (fun _ => trivial), (fun _ => trivial)⟩)
  · skip
    have chc8 := zc_leF hc8
    refine S1.lt ?_
    intro g21 hg21
    have Ig21 : Inv g21 := Inv.up hI hg21 rfl trivial
    have u25 : (g21 28 1).toInt = (g 28 1).toInt := by rw [← hg21]; rfl
    have u26 : (g21 28 9).toInt = (g 28 9).toInt := by rw [← hg21]; rfl
    have u27 : (g21 28 10).toInt = (g 28 10).toInt := by rw [← hg21]; rfl
    exact S1.ret (show Inv g21 ∧ ((g21 28 10).toInt ≤ (g21 28 1).toInt) ∧ (true = true → True) ∧ (true = false → True) from ⟨Ig21, (by omega), (fun _ => trivial), (fun _ => trivial)⟩)
theorem s_42_103 : ∀ (f : Nat) (g : G), Inv g → (g 28 10).toInt ≤ (g 28 1).toInt ∧ 160 - (g 28 10).toInt < (f : Int) → S1 (d_42_103 f g) (fun q : Bool × G => Inv q.2 ∧ ((q.2 28 10).toInt ≤ (q.2 28 1).toInt) ∧ (q.1 = true → True) ∧ (q.1 = false → True)) := by
  intro f
  induction f with
  | zero =>
    intro g hI hp
    exfalso
    have yp38 : 0 ≤ (g 28 1).toInt ∧ (g 28 1).toInt ≤ 160 := Inv.rd (r := 28) (c := 4) hI 1 rfl
    have yp39 : 0 ≤ (g 28 10).toInt ∧ (g 28 10).toInt ≤ 160 := Inv.rd (r := 28) (c := 4) hI 10 rfl
    omega
  | succ f ih =>
    intro g hI hp
    rw [d_42_103.eq_2]
    have L1 := zl_1
    have L97 := zl_97
    have L122 := zl_122
    have yp40 : 0 ≤ (g 28 1).toInt ∧ (g 28 1).toInt ≤ 160 := Inv.rd (r := 28) (c := 4) hI 1 rfl
    have yp41 : 0 ≤ (g 28 10).toInt ∧ (g 28 10).toInt ≤ 160 := Inv.rd (r := 28) (c := 4) hI 10 rfl
    have y31 : 0 ≤ (g 28 10).toInt ∧ (g 28 10).toInt ≤ 160 := Inv.rd (r := 28) (c := 4) hI 10 rfl
    have y32 : 0 ≤ (g 28 1).toInt ∧ (g 28 1).toInt ≤ 160 := Inv.rd (r := 28) (c := 4) hI 1 rfl
    refine S1.ite (fun hc7 => ?_) (fun hc7 => ?_)
    · skip
      have chc7 := zc_geT hc7
      exact (s_42_155 g hI (by omega))
    · skip
      have chc7 := zc_geF hc7
      refine S1.ix (by omega) ?_
      intro k22 hk22 bk22
      refine S1.ite (fun hc23 => ?_) (fun hc23 => ?_)
      · skip
        have chc23 := zc_ltT hc23
        exact (s_42_155 g hI (by omega))
      · skip
        have chc23 := zc_ltF hc23
        refine S1.ix (by omega) ?_
        intro k24 hk24 bk24
        refine S1.ite (fun hc25 => ?_) (fun hc25 => ?_)
        · skip
          have chc25 := zc_gtT hc25
          exact (s_42_155 g hI (by omega))
        · skip
          have chc25 := zc_gtF hc25
          try have y33 := zi_add (x := (g 28 10)) (y := (1 : Int32)) (by omega) (by omega)
          refine S1.lt ?_
          intro g26 hg26
          have Ig26 : Inv g26 := Inv.up hI hg26 rfl (show 0 ≤ ((g 28 10) + 1).toInt ∧ ((g 28 10) + 1).toInt ≤ 160 by omega)
          have u34 : (g26 28 1).toInt = (g 28 1).toInt := by rw [← hg26]; rfl
          have u35 : (g26 28 10).toInt = ((g 28 10) + 1).toInt := by rw [← hg26]; rfl
          have y36 : 0 ≤ (g26 28 1).toInt ∧ (g26 28 1).toInt ≤ 160 := Inv.rd (r := 28) (c := 4) Ig26 1 rfl
          have y37 : 0 ≤ (g26 28 10).toInt ∧ (g26 28 10).toInt ≤ 160 := Inv.rd (r := 28) (c := 4) Ig26 10 rfl
          exact (ih g26 Ig26 (by omega))
theorem s_42_8 : ∀ (f : Nat) (g : G), Inv g → (g 28 9).toInt ≤ (g 28 1).toInt ∧ 160 - (g 28 9).toInt < (f : Int) → S1 (d_42_8 f g) (fun q : Bool × G => Inv q.2 ∧ ((q.2 28 10).toInt ≤ (q.2 28 1).toInt) ∧ (q.1 = true → True) ∧ (q.1 = false → True)) := by
  intro f
  induction f with
  | zero =>
    intro g hI hp
    exfalso
    have yp84 : 0 ≤ (g 28 1).toInt ∧ (g 28 1).toInt ≤ 160 := Inv.rd (r := 28) (c := 4) hI 1 rfl
    have yp85 : 0 ≤ (g 28 9).toInt ∧ (g 28 9).toInt ≤ 160 := Inv.rd (r := 28) (c := 4) hI 9 rfl
    omega
  | succ f ih =>
    intro g hI hp
    rw [d_42_8.eq_2]
    have L0 := zl_0
    have L1 := zl_1
    have L3 := zl_3
    have L32 := zl_32
    have L59 := zl_59
    have yp86 : 0 ≤ (g 28 1).toInt ∧ (g 28 1).toInt ≤ 160 := Inv.rd (r := 28) (c := 4) hI 1 rfl
    have yp87 : 0 ≤ (g 28 10).toInt ∧ (g 28 10).toInt ≤ 160 := Inv.rd (r := 28) (c := 4) hI 10 rfl
    have yp88 : 0 ≤ (g 28 9).toInt ∧ (g 28 9).toInt ≤ 160 := Inv.rd (r := 28) (c := 4) hI 9 rfl
    have y42 : 0 ≤ (g 28 9).toInt ∧ (g 28 9).toInt ≤ 160 := Inv.rd (r := 28) (c := 4) hI 9 rfl
    have y43 : 0 ≤ (g 28 1).toInt ∧ (g 28 1).toInt ≤ 160 := Inv.rd (r := 28) (c := 4) hI 1 rfl
    refine S1.ite (fun hc2 => ?_) (fun hc2 => ?_)
    · skip
      have chc2 := zc_geT hc2
      refine S1.lt ?_
      intro g3 hg3
      have Ig3 : Inv g3 := Inv.up hI hg3 rfl (show 0 ≤ (g 28 9).toInt ∧ (g 28 9).toInt ≤ 160 by omega)
      have u44 : (g3 28 1).toInt = (g 28 1).toInt := by rw [← hg3]; rfl
      have u45 : (g3 28 9).toInt = (g 28 9).toInt := by rw [← hg3]; rfl
      have u46 : (g3 28 10).toInt = (g 28 9).toInt := by rw [← hg3]; rfl
      have y47 : 0 ≤ (g3 28 9).toInt ∧ (g3 28 9).toInt ≤ 160 := Inv.rd (r := 28) (c := 4) Ig3 9 rfl
      have y48 : 0 ≤ (g3 28 1).toInt ∧ (g3 28 1).toInt ≤ 160 := Inv.rd (r := 28) (c := 4) Ig3 1 rfl
      refine S1.ite (fun hc4 => ?_) (fun hc4 => ?_)
      · skip
        have chc4 := zc_neT hc4
        refine S1.ix (by omega) ?_
        intro k5 hk5 bk5
        refine S1.ite (fun hc6 => ?_) (fun hc6 => ?_)
        · skip
          have chc6 := zc_neT hc6
          have y49 : 0 ≤ (g3 28 10).toInt ∧ (g3 28 10).toInt ≤ 160 := Inv.rd (r := 28) (c := 4) Ig3 10 rfl
          exact (s_42_103 300 g3 Ig3 (by omega))
        · skip
          have chc6 := zc_neF hc6
          refine S1.lt ?_
          intro g27 hg27
          have Ig27 : Inv g27 := Inv.up Ig3 hg27 rfl trivial
          have u50 : (g27 28 1).toInt = (g3 28 1).toInt := by rw [← hg27]; rfl
          have u51 : (g27 28 9).toInt = (g3 28 9).toInt := by rw [← hg27]; rfl
          have u52 : (g27 28 10).toInt = (g3 28 10).toInt := by rw [← hg27]; rfl
          have y53 : 0 ≤ (g27 28 10).toInt ∧ (g27 28 10).toInt ≤ 160 := Inv.rd (r := 28) (c := 4) Ig27 10 rfl
          try have y54 := zi_add (x := (g27 28 10)) (y := (1 : Int32)) (by omega) (by omega)
          refine S1.lt ?_
          intro g28 hg28
          have Ig28 : Inv g28 := Inv.up Ig27 hg28 rfl (show 0 ≤ ((g27 28 10) + 1).toInt ∧ ((g27 28 10) + 1).toInt ≤ 160 by omega)
          have u55 : (g28 28 1).toInt = (g27 28 1).toInt := by rw [← hg28]; rfl
          have u56 : (g28 28 9).toInt = (g27 28 9).toInt := by rw [← hg28]; rfl
          have u57 : (g28 28 10).toInt = ((g27 28 10) + 1).toInt := by rw [← hg28]; rfl
          exact S1.ret (show Inv g28 ∧ ((g28 28 10).toInt ≤ (g28 28 1).toInt) ∧ (true = true → True) ∧ (true = false → True) from ⟨Ig28, (by omega), (fun _ => trivial), (fun _ => trivial)⟩)
      · skip
        have chc4 := zc_neF hc4
        refine S1.lt ?_
        intro g29 hg29
        have Ig29 : Inv g29 := Inv.up Ig3 hg29 rfl trivial
        have u58 : (g29 28 1).toInt = (g3 28 1).toInt := by rw [← hg29]; rfl
        have u59 : (g29 28 9).toInt = (g3 28 9).toInt := by rw [← hg29]; rfl
        have u60 : (g29 28 10).toInt = (g3 28 10).toInt := by rw [← hg29]; rfl
        exact S1.ret (show Inv g29 ∧ ((g29 28 10).toInt ≤ (g29 28 1).toInt) ∧ (true = true → True) ∧ (true = false → True) from ⟨Ig29, (by omega), (fun _ => trivial), (fun _ => trivial)⟩)
    · skip
      have chc2 := zc_geF hc2
      refine S1.ix (by omega) ?_
      intro k30 hk30 bk30
      refine S1.ite (fun hc31 => ?_) (fun hc31 => ?_)
      · skip
        have chc31 := zc_neT hc31
        refine S1.lt ?_
        intro g32 hg32
        have Ig32 : Inv g32 := Inv.up hI hg32 rfl (show 0 ≤ (g 28 9).toInt ∧ (g 28 9).toInt ≤ 160 by omega)
        have u61 : (g32 28 1).toInt = (g 28 1).toInt := by rw [← hg32]; rfl
        have u62 : (g32 28 9).toInt = (g 28 9).toInt := by rw [← hg32]; rfl
        have u63 : (g32 28 10).toInt = (g 28 9).toInt := by rw [← hg32]; rfl
        have y64 : 0 ≤ (g32 28 9).toInt ∧ (g32 28 9).toInt ≤ 160 := Inv.rd (r := 28) (c := 4) Ig32 9 rfl
        have y65 : 0 ≤ (g32 28 1).toInt ∧ (g32 28 1).toInt ≤ 160 := Inv.rd (r := 28) (c := 4) Ig32 1 rfl
        refine S1.ite (fun hc33 => ?_) (fun hc33 => ?_)
        · skip
          have chc33 := zc_neT hc33
          refine S1.ix (by omega) ?_
          intro k34 hk34 bk34
          refine S1.ite (fun hc35 => ?_) (fun hc35 => ?_)
          · skip
            have chc35 := zc_neT hc35
            have y66 : 0 ≤ (g32 28 10).toInt ∧ (g32 28 10).toInt ≤ 160 := Inv.rd (r := 28) (c := 4) Ig32 10 rfl
            exact (s_42_103 300 g32 Ig32 (by omega))
          · skip
            have chc35 := zc_neF hc35
            refine S1.lt ?_
            intro g36 hg36
            have Ig36 : Inv g36 := Inv.up Ig32 hg36 rfl trivial
            have u67 : (g36 28 1).toInt = (g32 28 1).toInt := by rw [← hg36]; rfl
            have u68 : (g36 28 9).toInt = (g32 28 9).toInt := by rw [← hg36]; rfl
            have u69 : (g36 28 10).toInt = (g32 28 10).toInt := by rw [← hg36]; rfl
            have y70 : 0 ≤ (g36 28 10).toInt ∧ (g36 28 10).toInt ≤ 160 := Inv.rd (r := 28) (c := 4) Ig36 10 rfl
            try have y71 := zi_add (x := (g36 28 10)) (y := (1 : Int32)) (by omega) (by omega)
            refine S1.lt ?_
            intro g37 hg37
            have Ig37 : Inv g37 := Inv.up Ig36 hg37 rfl (show 0 ≤ ((g36 28 10) + 1).toInt ∧ ((g36 28 10) + 1).toInt ≤ 160 by omega)
            have u72 : (g37 28 1).toInt = (g36 28 1).toInt := by rw [← hg37]; rfl
            have u73 : (g37 28 9).toInt = (g36 28 9).toInt := by rw [← hg37]; rfl
            have u74 : (g37 28 10).toInt = ((g36 28 10) + 1).toInt := by rw [← hg37]; rfl
            exact S1.ret (show Inv g37 ∧ ((g37 28 10).toInt ≤ (g37 28 1).toInt) ∧ (true = true → True) ∧ (true = false → True) from ⟨Ig37, (by omega), (fun _ => trivial), (fun _ => trivial)⟩)
        · skip
          have chc33 := zc_neF hc33
          refine S1.lt ?_
          intro g38 hg38
          have Ig38 : Inv g38 := Inv.up Ig32 hg38 rfl trivial
          have u75 : (g38 28 1).toInt = (g32 28 1).toInt := by rw [← hg38]; rfl
          have u76 : (g38 28 9).toInt = (g32 28 9).toInt := by rw [← hg38]; rfl
          have u77 : (g38 28 10).toInt = (g32 28 10).toInt := by rw [← hg38]; rfl
          exact S1.ret (show Inv g38 ∧ ((g38 28 10).toInt ≤ (g38 28 1).toInt) ∧ (true = true → True) ∧ (true = false → True) from ⟨Ig38, (by omega), (fun _ => trivial), (fun _ => trivial)⟩)
      · skip
        have chc31 := zc_neF hc31
        try have y78 := zi_add (x := (g 28 9)) (y := (1 : Int32)) (by omega) (by omega)
        refine S1.lt ?_
        intro g39 hg39
        have Ig39 : Inv g39 := Inv.up hI hg39 rfl (show 0 ≤ ((g 28 9) + 1).toInt ∧ ((g 28 9) + 1).toInt ≤ 160 by omega)
        have u79 : (g39 28 1).toInt = (g 28 1).toInt := by rw [← hg39]; rfl
        have u80 : (g39 28 9).toInt = ((g 28 9) + 1).toInt := by rw [← hg39]; rfl
        have u81 : (g39 28 10).toInt = (g 28 10).toInt := by rw [← hg39]; rfl
        have y82 : 0 ≤ (g39 28 1).toInt ∧ (g39 28 1).toInt ≤ 160 := Inv.rd (r := 28) (c := 4) Ig39 1 rfl
        have y83 : 0 ≤ (g39 28 9).toInt ∧ (g39 28 9).toInt ≤ 160 := Inv.rd (r := 28) (c := 4) Ig39 9 rfl
        exact (ih g39 Ig39 (by omega))
/-- EveningFirst$Reader.takeToken -/
theorem s_42 (g : G) (hI : Inv g) (hp : (g 28 10).toInt ≤ (g 28 1).toInt) : S1 (d_42 g) (fun q : Bool × G => Inv q.2 ∧ ((q.2 28 10).toInt ≤ (q.2 28 1).toInt) ∧ (q.1 = true → True) ∧ (q.1 = false → True)) := by
  unfold d_42
  have yp95 : 0 ≤ (g 28 1).toInt ∧ (g 28 1).toInt ≤ 160 := Inv.rd (r := 28) (c := 4) hI 1 rfl
  have yp96 : 0 ≤ (g 28 10).toInt ∧ (g 28 10).toInt ≤ 160 := Inv.rd (r := 28) (c := 4) hI 10 rfl
  have yp97 : 0 ≤ (g 28 9).toInt ∧ (g 28 9).toInt ≤ 160 := Inv.rd (r := 28) (c := 4) hI 9 rfl
  have y89 : 0 ≤ (g 28 10).toInt ∧ (g 28 10).toInt ≤ 160 := Inv.rd (r := 28) (c := 4) hI 10 rfl
  refine S1.lt ?_
  intro g1 hg1
  have Ig1 : Inv g1 := Inv.up hI hg1 rfl (show 0 ≤ (g 28 10).toInt ∧ (g 28 10).toInt ≤ 160 by omega)
  have u90 : (g1 28 1).toInt = (g 28 1).toInt := by rw [← hg1]; rfl
  have u91 : (g1 28 9).toInt = (g 28 10).toInt := by rw [← hg1]; rfl
  have u92 : (g1 28 10).toInt = (g 28 10).toInt := by rw [← hg1]; rfl
  have y93 : 0 ≤ (g1 28 1).toInt ∧ (g1 28 1).toInt ≤ 160 := Inv.rd (r := 28) (c := 4) Ig1 1 rfl
  have y94 : 0 ≤ (g1 28 9).toInt ∧ (g1 28 9).toInt ≤ 160 := Inv.rd (r := 28) (c := 4) Ig1 9 rfl
  exact (s_42_8 300 g1 Ig1 (by omega))
