/-! printed by wip/tools/safe.py -/
/-- EveningFirst$Sheet.faultOfPair -/
theorem s_50 (r0 : Nat) (x1 : Int32) (h0 : zg_cl r0 = 5) (g : G) (hI : Inv g) (hp : True) : T1 (d_50 r0 x1 g) (fun q : Int32 => True ∧ ((q.toInt = 0 → 0 ≤ x1.toInt ∧ x1.toInt + 1 < (g r0 0).toInt))) := by
  unfold d_50
  have L0 := zl_0
  have L1 := zl_1
  refine T1.lc (s_49 r0 x1 h0 g hI trivial) ?_
  intro v1 hvv1 hRv1
  have hRv1 : True ∧ ((v1.toInt = 0 → 0 ≤ x1.toInt ∧ x1.toInt < (g r0 0).toInt)) := hRv1
  have y1 : -1 ≤ (g r0 0).toInt ∧ (g r0 0).toInt ≤ 40 := Inv.rd (r := r0) (c := 5) hI 0 h0
  refine T1.ite (fun hc2 => ?_) (fun hc2 => ?_)
  · skip
    have chc2 := zc_eqT hc2
    try have y2 := zi_add (x := x1) (y := (1 : Int32)) (by omega) (by omega)
    refine T1.lc (s_49 r0 (x1 + 1) h0 g hI trivial) ?_
    intro v3 hvv3 hRv3
    have hRv3 : True ∧ ((v3.toInt = 0 → 0 ≤ (x1 + 1).toInt ∧ (x1 + 1).toInt < (g r0 0).toInt)) := hRv3
    exact T1.ret (show True ∧ ((v3.toInt = 0 → 0 ≤ x1.toInt ∧ x1.toInt + 1 < (g r0 0).toInt)) from ⟨trivial, (by omega)⟩)
  · skip
    have chc2 := zc_eqF hc2
    exact T1.ret (show True ∧ ((v1.toInt = 0 → 0 ≤ x1.toInt ∧ x1.toInt + 1 < (g r0 0).toInt)) from ⟨trivial, (by omega)⟩)
/-- the first n pairs of cells are a deed and a mark -/
def VQ (g : G) (r : Nat) (x3 : Int32) (n : Int) : Prop := ∀ i : Int32, 0 ≤ i.toInt → i.toInt < n → (0 ≤ (x3 + (2 * i)).toInt ∧ (x3 + (2 * i)).toInt ≤ 38) ∧ 0 ≤ (g (r + 1) (x3 + (2 * i)).toInt.toNat).toInt ∧ (g (r + 1) (x3 + (2 * i)).toInt.toNat).toInt ≤ 7
theorem s_87_130 (x3 : Int32) (r5 : Nat) (x6 : Int32) (x7 : Int32) (h5 : zg_cl r5 = 5) (h7 : x7.toInt ≤ 20) : ∀ (f : Nat) (x8 : Int32) (g : G), Inv g → VQ g r5 x3 x7.toInt → 0 ≤ x8.toInt ∧ x8.toInt ≤ 20 ∧ 20 - x8.toInt < (f : Int) → S1 (d_87_130 x3 r5 x6 x7 f x8 g) (fun q : Int32 × G => Inv q.2 ∧ True) := by
  intro f
  induction f with
  | zero => intro x8 g _ _ hp; exfalso; omega
  | succ f ih =>
    intro x8 g hI hv hp
    rw [d_87_130.eq_2]
    have L1 := zl_1
    refine S1.ite (fun hc => ?_) (fun hc => ?_)
    · refine S1.lt ?_
      intro g11 hg11
      exact S1.ret ⟨Inv.up hI hg11 (r := 0) (c := 7) rfl trivial, trivial⟩
    · have c1 := zc_geF hc
      obtain ⟨w1, w2⟩ := hv x8 hp.1 c1
      have y1 := zi_add (x := x8) (y := (1 : Int32)) (by omega) (by omega)
      have y2 := zi_add (x := x3 + (2 * x8)) (y := (1 : Int32)) (by omega) (by omega)
      refine S1.ix (by omega) ?_
      intro k12 _ b12
      have e12 : k12 = (x3 + (2 * x8)).toInt.toNat := by omega
      refine S1.ix (by rw [e12]; omega) ?_
      intro k13 h13 _
      refine S1.ix (by omega) ?_
      intro k14 _ _
      refine S1.lt ?_
      intro g15 hg15
      have cl : zg_cl (9 + k13) = 1 := zg_deed (b := 1) rfl h13
      refine ih _ g15 (Inv.up hI hg15 cl trivial) ?_ (by omega)
      intro i hi1 hi2
      have hq := hv i hi1 hi2
      have e : (g15 (r5 + 1) (x3 + (2 * i)).toInt.toNat).toInt = (g (r5 + 1) (x3 + (2 * i)).toInt.toNat).toInt := zg_upc hg15 cl (by rw [zg_c9 h5]; decide)
      rw [e]
      exact hq
theorem s_87_50 (x3 : Int32) (x4 : Int32) (r5 : Nat) (h5 : zg_cl r5 = 5) (g : G) (hI : Inv g) (h4 : x4.toInt ≤ 20) : ∀ (f : Nat) (x6 : Int32) (x7 : Int32) (x8 : Int32), VQ g r5 x3 x7.toInt → (0 ≤ x7.toInt ∧ x7.toInt ≤ 20 ∧ x7.toInt ≤ x8.toInt ∧ (x6.toInt = 0 → x7.toInt = x8.toInt) ∧ x8.toInt ≤ 20 ∧ 20 - x8.toInt < (f : Int)) → S1 (d_87_50 x3 x4 r5 g f x6 x7 x8) (fun q : Int32 × G => Inv q.2 ∧ True) := by
  intro f
  induction f with
  | zero => intro x6 x7 x8 _ hp; exfalso; omega
  | succ f ih =>
    intro x6 x7 x8 hv hp
    rw [d_87_50.eq_2]
    have L0 := zl_0
    have L1 := zl_1
    refine S1.ite (fun hc => ?_) (fun hc => ?_)
    · exact s_87_130 x3 r5 x6 x7 h5 (by omega) 300 (0 : Int32) g hI hv (by omega)
    · have c1 := zc_geF hc
      refine S1.ite (fun hc2 => ?_) (fun hc2 => ?_)
      · exact s_87_130 x3 r5 x6 x7 h5 (by omega) 300 (0 : Int32) g hI hv (by omega)
      · have c2 := zc_neF hc2
        have y1 := zi_add (x := x8) (y := (1 : Int32)) (by omega) (by omega)
        have y7 := zi_add (x := x7) (y := (1 : Int32)) (by omega) (by omega)
        refine S1.lc (s_50 r5 (x3 + (2 * x8)) h5 g hI trivial) ?_
        intro v17 _ hR
        have hR : True ∧ (v17.toInt = 0 → 0 ≤ (x3 + (2 * x8)).toInt ∧ (x3 + (2 * x8)).toInt + 1 < (g r5 0).toInt) := hR
        have b5 : -1 ≤ (g r5 0).toInt ∧ (g r5 0).toInt ≤ 40 := Inv.rd (r := r5) (c := 5) hI 0 h5
        refine S1.ite (fun hc3 => ?_) (fun hc3 => ?_)
        · have c3 := zc_neT hc3
          exact ih v17 x7 _ hv (by omega)
        · have c3 := zc_neF hc3
          have y2 := zi_add (x := x3 + (2 * x8)) (y := (1 : Int32)) (by omega) (by omega)
          refine S1.ix (by omega) ?_
          intro k19 _ b19
          refine S1.ix (by omega) ?_
          intro k20 _ _
          refine S1.lc (s_22 1 (g (r5 + 1) k19) (g (r5 + 1) k20) rfl g hI trivial) ?_
          intro v21 _ hR2
          have hR2 : True ∧ True ∧ (v21 = true → 0 ≤ (g (r5 + 1) k19).toInt ∧ (g (r5 + 1) k19).toInt < (g 1 2).toInt) ∧ (v21 = false → True) := hR2
          have b1 : 0 ≤ (g 1 2).toInt ∧ (g 1 2).toInt ≤ 8 := Inv.rd (r := 1) (c := 2) hI 2 rfl
          refine S1.ite (fun hc4 => ?_) (fun hc4 => ?_)
          · have c4 := hR2.2.2.1 hc4
            refine ih v17 _ _ ?_ (by omega)
            intro i hi1 hi2
            by_cases q : i.toInt < x7.toInt
            · exact hv i hi1 q
            · have e : i = x8 := Int32.toInt_inj.mp (by omega)
              subst e
              have e19 : k19 = (x3 + (2 * i)).toInt.toNat := by omega
              rw [← e19]
              omega
          · exact S1.ret ⟨hI, trivial⟩
/-- EveningFirst.read -/
theorem s_87 (x1 : Int32) (x2 : Int32) (x3 : Int32) (x4 : Int32) (g : G) (hI : Inv g) (hp : True) : S1 (d_87 x1 x2 x3 x4 g) (fun q : Int32 × G => Inv q.2 ∧ True) := by
  unfold d_87
  have L0 := zl_0
  have L20 := zl_20
  refine S1.lc (s_93 x1 g hI trivial) ?_
  intro v1 _ hR
  have hR : True ∧ True ∧ (v1 = true → x1.toInt < 0 ∨ 3 < x1.toInt) ∧ (v1 = false → 0 ≤ x1.toInt ∧ x1.toInt ≤ 3) := hR
  refine S1.ite (fun hc => ?_) (fun hc => ?_)
  · exact S1.ret ⟨hI, trivial⟩
  · have c1 := hR.2.2.2 hc
    refine S1.lt ?_
    intro v3 _
    refine S1.ite (fun hc2 => ?_) (fun hc2 => ?_)
    · exact S1.ret ⟨hI, trivial⟩
    · refine S1.ite (fun hc3 => ?_) (fun hc3 => ?_)
      · exact S1.ret ⟨hI, trivial⟩
      · have c3 := zc_ltF hc3
        refine S1.ite (fun hc4 => ?_) (fun hc4 => ?_)
        · have c4 := zc_leT hc4
          refine S1.ix (by omega) ?_
          intro k7 hk7 _
          refine S1.lt ?_
          intro v8 _
          refine s_87_50 x3 x4 (105 + 2 * k7) (zg_sheet hk7) g hI (by omega) 300 v8 (0 : Int32) (0 : Int32) ?_ (by omega)
          intro i h1 h2
          exfalso
          omega
        · exact S1.ret ⟨hI, trivial⟩
theorem s_186_208 (x7 : Int32) : ∀ (f : Nat) (x9 : Int32) (g : G), Inv g → 0 ≤ x9.toInt ∧ x9.toInt ≤ 8 ∧ 8 - x9.toInt < (f : Int) → S1 (d_186_208 x7 f x9 g) (fun q : Int32 × G => Inv q.2 ∧ True) := by
  intro f
  induction f with
  | zero =>
    intro x9 g hI hp
    exfalso
    omega
  | succ f ih =>
    intro x9 g hI hp
    rw [d_186_208.eq_2]
    have Lm20 := zl_m20
    have L1 := zl_1
    have L5 := zl_5
    have L7 := zl_7
    have L8 := zl_8
    have L9 := zl_9
    refine S1.ite (fun hc17 => ?_) (fun hc17 => ?_)
    · skip
      have chc17 := zc_geT hc17
      try have y1 := zi_sub (x := (-20 : Int32)) (y := x7) (by omega) (by omega)
      exact S1.ret (show Inv g ∧ True from ⟨hI, trivial⟩)
    · skip
      have chc17 := zc_geF hc17
      refine S1.ix (by omega) ?_
      intro k18 hk18 bk18
      try have y2 := zi_mul (x := (7 : Int32)) (y := x9) (n := 7) (by decide) (by omega) (by omega)
      try have y3 := zi_add (x := (9 : Int32)) (y := (7 * x9)) (by omega) (by omega)
      try have y4 := zi_add (x := (9 + (7 * x9))) (y := (5 : Int32)) (by omega) (by omega)
      refine S1.ix (by omega) ?_
      intro k20 hk20 bk20
      refine S1.lt ?_
      intro g19 hg19
      have Ig19 : Inv g19 := Inv.up hI hg19 rfl (bdP_st (by omega) ((stP_d (d := x9.toInt) (o := 5) (by omega) (by omega) (by omega)).mpr ⟨fun w => by omega, fun w => by omega⟩))
      try have y5 := zi_add (x := x9) (y := (1 : Int32)) (by omega) (by omega)
      exact (ih (x9 + 1) g19 Ig19 (by omega))
theorem s_186_77 (x1 : Int32) (x2 : Int32) (x3 : Int32) (x4 : Int32) (x6 : Int32) (x7 : Int32) (g : G) (hI : Inv g) (k62 : Int32 → Int32 → Int32 → G → Option (Int32 × G)) (m62 : Int) (hk62 : ∀ (x5 : Int32) (x6 : Int32) (x7 : Int32) (g : G), Inv g → 0 ≤ x1.toInt ∧ x1.toInt ≤ 3 ∧ x4.toInt ≤ 20 ∧ 0 ≤ x7.toInt ∧ x7.toInt ≤ 20 ∧ 20 - x7.toInt < m62 → S1 (k62 x5 x6 x7 g) (fun q : Int32 × G => Inv q.2 ∧ True)) : ∀ (f : Nat) (x5 : Int32) (x8 : Int32), 0 ≤ x8.toInt ∧ x8.toInt ≤ 2 ∧ 2 - x8.toInt < (f : Int) ∧ x7.toInt ≤ 19 ∧ (x5.toInt = 0 ∧ 1 ≤ x8.toInt → 0 ≤ x3.toInt + 2 * x7.toInt ∧ x3.toInt + 2 * x7.toInt ≤ 39) ∧ (x5.toInt = 0 ∧ 2 ≤ x8.toInt → x3.toInt + 2 * x7.toInt ≤ 38) ∧ 0 ≤ x1.toInt ∧ x1.toInt ≤ 3 ∧ x4.toInt ≤ 20 ∧ 0 ≤ x7.toInt ∧ x7.toInt ≤ 20 ∧ 20 - x7.toInt < (m62 + 1) → S1 (d_186_77 x1 x2 x3 x4 x6 x7 g k62 f x5 x8) (fun q : Int32 × G => Inv q.2 ∧ True) := by
  intro f
  induction f with
  | zero =>
    intro x5 x8 hp
    exfalso
    omega
  | succ f ih =>
    intro x5 x8 hp
    rw [d_186_77.eq_2]
    have Lm4 := zl_m4
    have L0 := zl_0
    have L1 := zl_1
    have L2 := zl_2
    have L3 := zl_3
    have L40 := zl_40
    have yr3 := zi_rng x3
    refine S1.ite (fun hc10 => ?_) (fun hc10 => ?_)
    · skip
      have chc10 := zc_geT hc10
      refine S1.ite (fun hc11 => ?_) (fun hc11 => ?_)
      · skip
        have chc11 := zc_neT hc11
        try have y6 := zi_add (x := x7) (y := (1 : Int32)) (by omega) (by omega)
        exact hk62 x5 x6 (x7 + 1) g hI (by omega)
      · skip
        have chc11 := zc_neF hc11
        try have y7 := zi_mul (x := (40 : Int32)) (y := x1) (n := 40) (by decide) (by omega) (by omega)
        try have y8 := zi_add (x := (40 * x1)) (y := x3) (by omega) (by omega)
        try have y9 := zi_mul (x := (2 : Int32)) (y := x7) (n := 2) (by decide) (by omega) (by omega)
        try have y10 := zi_add (x := ((40 * x1) + x3)) (y := (2 * x7)) (by omega) (by omega)
        refine S1.ix (by omega) ?_
        intro k12 hk12 bk12
        try have y11 := zi_add (x := (((40 * x1) + x3) + (2 * x7))) (y := (1 : Int32)) (by omega) (by omega)
        refine S1.ix (by omega) ?_
        intro k13 hk13 bk13
        refine S1.bp (s_148 (g 121 k12) (g 121 k13) g hI trivial) ?_
        intro v14 g15 hvv14 hRv14
        have hRv14 : Inv g15 ∧ True := hRv14
        refine S1.ite (fun hc16 => ?_) (fun hc16 => ?_)
        · skip
          have chc16 := zc_geT hc16
          try have y12 := zi_add (x := x6) (y := (1 : Int32)) (by omega) (by omega)
          try have y13 := zi_add (x := x7) (y := (1 : Int32)) (by omega) (by omega)
          exact hk62 x5 (x6 + 1) (x7 + 1) g15 hRv14.1 (by omega)
        · skip
          have chc16 := zc_geF hc16
          exact (s_186_208 x7 300 (0 : Int32) g15 hRv14.1 (by omega))
    · skip
      have chc10 := zc_geF hc10
      refine S1.ite (fun hc21 => ?_) (fun hc21 => ?_)
      · skip
        have chc21 := zc_neT hc21
        refine S1.ite (fun hc22 => ?_) (fun hc22 => ?_)
        · skip
          have chc22 := zc_neT hc22
          try have y14 := zi_add (x := x7) (y := (1 : Int32)) (by omega) (by omega)
          exact hk62 x5 x6 (x7 + 1) g hI (by omega)
        · skip
          have chc22 := zc_neF hc22
          try have y15 := zi_mul (x := (40 : Int32)) (y := x1) (n := 40) (by decide) (by omega) (by omega)
          try have y16 := zi_add (x := (40 * x1)) (y := x3) (by omega) (by omega)
          try have y17 := zi_mul (x := (2 : Int32)) (y := x7) (n := 2) (by decide) (by omega) (by omega)
          try have y18 := zi_add (x := ((40 * x1) + x3)) (y := (2 * x7)) (by omega) (by omega)
          refine S1.ix (by omega) ?_
          intro k23 hk23 bk23
          try have y19 := zi_add (x := (((40 * x1) + x3) + (2 * x7))) (y := (1 : Int32)) (by omega) (by omega)
          refine S1.ix (by omega) ?_
          intro k24 hk24 bk24
          refine S1.bp (s_148 (g 121 k23) (g 121 k24) g hI trivial) ?_
          intro v25 g26 hvv25 hRv25
          have hRv25 : Inv g26 ∧ True := hRv25
          refine S1.ite (fun hc27 => ?_) (fun hc27 => ?_)
          · skip
            have chc27 := zc_geT hc27
            try have y20 := zi_add (x := x6) (y := (1 : Int32)) (by omega) (by omega)
            try have y21 := zi_add (x := x7) (y := (1 : Int32)) (by omega) (by omega)
            exact hk62 x5 (x6 + 1) (x7 + 1) g26 hRv25.1 (by omega)
          · skip
            have chc27 := zc_geF hc27
            exact (s_186_208 x7 300 (0 : Int32) g26 hRv25.1 (by omega))
      · skip
        have chc21 := zc_neF hc21
        refine S1.ix (by omega) ?_
        intro k28 hk28 bk28
        refine S1.ite (fun hc29 => ?_) (fun hc29 => ?_)
        · skip
          have chc29 := zc_neT hc29
          refine S1.ix (by omega) ?_
          intro k30 hk30 bk30
          refine S1.ite (fun hc31 => ?_) (fun hc31 => ?_)
          · skip
            have chc31 := zc_eqT hc31
            have y22 := zi_i64 x3
            try have y23 := zi_mul (x := (2 : Int32)) (y := x7) (n := 2) (by decide) (by omega) (by omega)
            have y24 := zi_i64 (2 * x7)
            try have y25 := zj_add (x := (Int32.toInt64 x3)) (y := (Int32.toInt64 (2 * x7))) (by omega) (by omega)
            have y26 := zi_i64 x8
            try have y27 := zj_add (x := ((Int32.toInt64 x3) + (Int32.toInt64 (2 * x7)))) (y := (Int32.toInt64 x8)) (by omega) (by omega)
            have y28 : (0 : Int64).toInt = 0 := by decide
            have y29 := zl_cf (x := (((Int32.toInt64 x3) + (Int32.toInt64 (2 * x7))) + (Int32.toInt64 x8))) (y := (0 : Int64))
            refine S1.ite (fun hc32 => ?_) (fun hc32 => ?_)
            · skip
              have chc32 := zc_ltT hc32
              try have y30 := zi_add (x := x8) (y := (1 : Int32)) (by omega) (by omega)
              exact (ih (2 : Int32) (x8 + 1) (by omega))
            · skip
              have chc32 := zc_ltF hc32
              refine S1.ix (by omega) ?_
              intro k33 hk33 bk33
              have y31 : 0 ≤ (g 120 k33).toInt ∧ (g 120 k33).toInt ≤ 40 := Inv.rd (r := 120) (c := 9) hI k33 rfl
              have y32 := zi_i64 (g 120 k33)
              have y33 := zl_cf (x := (((Int32.toInt64 x3) + (Int32.toInt64 (2 * x7))) + (Int32.toInt64 x8))) (y := (Int32.toInt64 (g 120 k33)))
              refine S1.ite (fun hc34 => ?_) (fun hc34 => ?_)
              · skip
                have chc34 := zc_ltT hc34
                try have y34 := zi_add (x := x8) (y := (1 : Int32)) (by omega) (by omega)
                exact (ih (0 : Int32) (x8 + 1) (by omega))
              · skip
                have chc34 := zc_ltF hc34
                try have y35 := zi_add (x := x8) (y := (1 : Int32)) (by omega) (by omega)
                exact (ih (2 : Int32) (x8 + 1) (by omega))
          · skip
            have chc31 := zc_eqF hc31
            try have y36 := zi_add (x := x8) (y := (1 : Int32)) (by omega) (by omega)
            exact (ih (3 : Int32) (x8 + 1) (by omega))
        · skip
          have chc29 := zc_neF hc29
          try have y37 := zi_add (x := x8) (y := (1 : Int32)) (by omega) (by omega)
          exact (ih (1 : Int32) (x8 + 1) (by omega))
theorem s_186_62 (x1 : Int32) (x2 : Int32) (x3 : Int32) (x4 : Int32) : ∀ (f : Nat) (x5 : Int32) (x6 : Int32) (x7 : Int32) (g : G), Inv g → 0 ≤ x1.toInt ∧ x1.toInt ≤ 3 ∧ x4.toInt ≤ 20 ∧ 0 ≤ x7.toInt ∧ x7.toInt ≤ 20 ∧ 20 - x7.toInt < (f : Int) → S1 (d_186_62 x1 x2 x3 x4 f x5 x6 x7 g) (fun q : Int32 × G => Inv q.2 ∧ True) := by
  intro f
  induction f with
  | zero =>
    intro x5 x6 x7 g hI hp
    exfalso
    omega
  | succ f ih =>
    intro x5 x6 x7 g hI hp
    rw [d_186_62.eq_2]
    have L0 := zl_0
    refine S1.ite (fun hc6 => ?_) (fun hc6 => ?_)
    · skip
      have chc6 := zc_geT hc6
      refine S1.lt ?_
      intro g7 hg7
      have Ig7 : Inv g7 := Inv.up hI hg7 rfl trivial
      exact S1.ret (show Inv g7 ∧ True from ⟨Ig7, trivial⟩)
    · skip
      have chc6 := zc_geF hc6
      refine S1.ite (fun hc8 => ?_) (fun hc8 => ?_)
      · skip
        have chc8 := zc_neT hc8
        refine S1.lt ?_
        intro g9 hg9
        have Ig9 : Inv g9 := Inv.up hI hg9 rfl trivial
        exact S1.ret (show Inv g9 ∧ True from ⟨Ig9, trivial⟩)
      · skip
        have chc8 := zc_neF hc8
        exact (s_186_77 x1 x2 x3 x4 x6 x7 g hI (d_186_62 x1 x2 x3 x4 f) (f : Int) ih 300 x5 (0 : Int32) (by omega))
theorem s_186_26 (x1 : Int32) (x2 : Int32) (x3 : Int32) (x4 : Int32) : ∀ (f : Nat) (x5 : Int32) (g : G), Inv g → 0 ≤ x5.toInt ∧ x5.toInt ≤ 8 ∧ 8 - x5.toInt < (f : Int) ∧ 0 ≤ x1.toInt ∧ x1.toInt ≤ 3 ∧ x4.toInt ≤ 20 → S1 (d_186_26 x1 x2 x3 x4 f x5 g) (fun q : Int32 × G => Inv q.2 ∧ True) := by
  intro f
  induction f with
  | zero =>
    intro x5 g hI hp
    exfalso
    omega
  | succ f ih =>
    intro x5 g hI hp
    rw [d_186_26.eq_2]
    have L0 := zl_0
    have L1 := zl_1
    have L5 := zl_5
    have L8 := zl_8
    refine S1.ite (fun hc5 => ?_) (fun hc5 => ?_)
    · skip
      have chc5 := zc_geT hc5
      exact (s_186_62 x1 x2 x3 x4 300 (0 : Int32) (0 : Int32) (0 : Int32) g hI (by omega))
    · skip
      have chc5 := zc_geF hc5
      refine S1.bd (s_136 x5 (5 : Int32) g hI (by omega)) ?_
      intro v35 hvv35 hRv35
      have hRv35 : True ∧ (((5 : Int32).toInt = 0 → 0 ≤ v35.toInt ∧ v35.toInt ≤ 7) ∧ ((5 : Int32).toInt = 1 → 0 ≤ v35.toInt ∧ v35.toInt ≤ 3)) := hRv35
      refine S1.ix (by omega) ?_
      intro k37 hk37 bk37
      refine S1.lt ?_
      intro g36 hg36
      have Ig36 : Inv g36 := Inv.up hI hg36 rfl trivial
      try have y38 := zi_add (x := x5) (y := (1 : Int32)) (by omega) (by omega)
      exact (ih (x5 + 1) g36 Ig36 (by omega))
/-- EveningFirstModel.read -/
theorem s_186 (x1 : Int32) (x2 : Int32) (x3 : Int32) (x4 : Int32) (g : G) (hI : Inv g) (hp : True) : S1 (d_186 x1 x2 x3 x4 g) (fun q : Int32 × G => Inv q.2 ∧ True) := by
  unfold d_186
  have Lm1 := zl_m1
  have L0 := zl_0
  have L20 := zl_20
  refine S1.lc (s_183 x1 x2 g hI trivial) ?_
  intro v1 hvv1 hRv1
  have hRv1 : True ∧ True ∧ (v1 = true → 0 ≤ x1.toInt ∧ x1.toInt ≤ 3 ∧ 0 ≤ x2.toInt ∧ x2.toInt ≤ 2) ∧ (v1 = false → x1.toInt < 0 ∨ 3 < x1.toInt ∨ x2.toInt < 0 ∨ 2 < x2.toInt) := hRv1
  refine S1.ite (fun hc2 => ?_) (fun hc2 => ?_)
  · skip
    have chc2 := hRv1.2.2.1 hc2
    have y39 := zi_i64 x4
    have y40 : (0 : Int64).toInt = 0 := by decide
    have y41 : (20 : Int64).toInt = 20 := by decide
    refine S1.lc (zin_c (a := (Int32.toInt64 x4)) (b := (0 : Int64)) (c := (20 : Int64))) ?_
    intro v3 hvv3 hRv3
    have hRv3 : (v3 = true → (0 : Int64).toInt ≤ (Int32.toInt64 x4).toInt ∧ (Int32.toInt64 x4).toInt ≤ (20 : Int64).toInt) ∧ (v3 = false → (Int32.toInt64 x4).toInt < (0 : Int64).toInt ∨ (20 : Int64).toInt < (Int32.toInt64 x4).toInt) := hRv3
    refine S1.ite (fun hc4 => ?_) (fun hc4 => ?_)
    · skip
      have chc4 := hRv3.1 hc4
      exact (s_186_26 x1 x2 x3 x4 300 (0 : Int32) g hI (by omega))
    · skip
      have chc4 := hRv3.2 hc4
      exact S1.ret (show Inv g ∧ True from ⟨hI, trivial⟩)
  · skip
    have chc2 := hRv1.2.2.2 hc2
    exact S1.ret (show Inv g ∧ True from ⟨hI, trivial⟩)
theorem s_99_4 (x1 : Int32) (g : G) (hI : Inv g) : ∀ (f : Nat) (x2 : Int32) (x3 : Int32), 0 ≤ x3.toInt ∧ x3.toInt ≤ 8 ∧ 8 - x3.toInt < (f : Int) → S1 (d_99_4 x1 g f x2 x3) (fun q : Int32 => True ∧ True) := by
  intro f
  induction f with
  | zero =>
    intro x2 x3 hp
    exfalso
    omega
  | succ f ih =>
    intro x2 x3 hp
    rw [d_99_4.eq_2]
    have L1 := zl_1
    have yp5 : 0 ≤ (g 1 2).toInt ∧ (g 1 2).toInt ≤ 8 := Inv.rd (r := 1) (c := 2) hI 2 rfl
    have y1 : 0 ≤ (g 1 2).toInt ∧ (g 1 2).toInt ≤ 8 := Inv.rd (r := 1) (c := 2) hI 2 rfl
    refine S1.ite (fun hc1 => ?_) (fun hc1 => ?_)
    · skip
      have chc1 := zc_geT hc1
      exact S1.ret (show True ∧ True from ⟨trivial, trivial⟩)
    · skip
      have chc1 := zc_geF hc1
      refine S1.ix (by omega) ?_
      intro k2 hk2 bk2
      refine S1.ite (fun hc3 => ?_) (fun hc3 => ?_)
      · skip
        have chc3 := zc_neT hc3
        try have y2 := zi_add (x := x3) (y := (1 : Int32)) (by omega) (by omega)
        exact (ih x2 (x3 + 1) (by omega))
      · skip
        have chc3 := zc_neF hc3
        try have y3 := zi_add (x := x2) (y := (1 : Int32)) (by omega) (by omega)
        try have y4 := zi_add (x := x3) (y := (1 : Int32)) (by omega) (by omega)
        exact (ih (x2 + 1) (x3 + 1) (by omega))
/-- EveningFirst.marked -/
theorem s_99 (x1 : Int32) (g : G) (hI : Inv g) (hp : True) : S1 (d_99 x1 g) (fun q : Int32 => True ∧ True) := by
  unfold d_99
  have L0 := zl_0
  exact (s_99_4 x1 g hI 300 (0 : Int32) (0 : Int32) (by omega))
/-- EveningFirst.count -/
theorem s_89 (x1 : Int32) (g : G) (hI : Inv g) (hp : True) : S1 (d_89 x1 g) (fun q : Int32 × G => Inv q.2 ∧ True) := by
  unfold d_89
  have Lm4 := zl_m4
  have Lm1 := zl_m1
  have L0 := zl_0
  have L1 := zl_1
  have L2 := zl_2
  have L3 := zl_3
  have L4 := zl_4
  have L5 := zl_5
  have L6 := zl_6
  have yp6 : 0 ≤ (g 1 3).toInt ∧ (g 1 3).toInt ≤ 8 := Inv.rd (r := 1) (c := 2) hI 3 rfl
  have yp7 : 0 ≤ (g 28 1).toInt ∧ (g 28 1).toInt ≤ 160 := Inv.rd (r := 28) (c := 4) hI 1 rfl
  refine S1.ite (fun hc1 => ?_) (fun hc1 => ?_)
  · skip
    have chc1 := zc_bT hc1
    refine S1.bd (s_99 (1 : Int32) g hI trivial) ?_
    intro v2 hvv2 hRv2
    have hRv2 : True ∧ True := hRv2
    exact S1.ret (show Inv g ∧ True from ⟨hI, trivial⟩)
  · skip
    have chc1 := zc_bF hc1
    refine S1.ite (fun hc3 => ?_) (fun hc3 => ?_)
    · skip
      have chc3 := zc_bT hc3
      refine S1.bd (s_99 (2 : Int32) g hI trivial) ?_
      intro v4 hvv4 hRv4
      have hRv4 : True ∧ True := hRv4
      exact S1.ret (show Inv g ∧ True from ⟨hI, trivial⟩)
    · skip
      have chc3 := zc_bF hc3
      refine S1.ite (fun hc5 => ?_) (fun hc5 => ?_)
      · skip
        have chc5 := zc_bT hc5
        have y1 : 0 ≤ (g 1 3).toInt ∧ (g 1 3).toInt ≤ 8 := Inv.rd (r := 1) (c := 2) hI 3 rfl
        exact S1.ret (show Inv g ∧ True from ⟨hI, trivial⟩)
      · skip
        have chc5 := zc_bF hc5
        refine S1.ite (fun hc6 => ?_) (fun hc6 => ?_)
        · skip
          have chc6 := zc_bT hc6
          refine S1.ite (fun hc7 => ?_) (fun hc7 => ?_)
          · skip
            have chc7 := zc_eqT hc7
            refine S1.ite (fun hc8 => ?_) (fun hc8 => ?_)
            · skip
              have chc8 := zc_eqT hc8
              exact S1.ret (show Inv g ∧ True from ⟨hI, trivial⟩)
            · skip
              have chc8 := zc_eqF hc8
              exact S1.ret (show Inv g ∧ True from ⟨hI, trivial⟩)
          · skip
            have chc7 := zc_eqF hc7
            refine S1.ite (fun hc9 => ?_) (fun hc9 => ?_)
            · skip
              have chc9 := zc_eqT hc9
              exact S1.ret (show Inv g ∧ True from ⟨hI, trivial⟩)
            · skip
              have chc9 := zc_eqF hc9
              exact S1.ret (show Inv g ∧ True from ⟨hI, trivial⟩)
        · skip
          have chc6 := zc_bF hc6
          refine S1.ite (fun hc10 => ?_) (fun hc10 => ?_)
          · skip
            have chc10 := zc_bT hc10
            have y2 : 0 ≤ (g 28 1).toInt ∧ (g 28 1).toInt ≤ 160 := Inv.rd (r := 28) (c := 4) hI 1 rfl
            exact S1.ret (show Inv g ∧ True from ⟨hI, trivial⟩)
          · skip
            have chc10 := zc_bF hc10
            refine S1.ite (fun hc11 => ?_) (fun hc11 => ?_)
            · skip
              have chc11 := zc_bT hc11
              refine S1.lt ?_
              intro v12 hvv12
              refine S1.ite (fun hc13 => ?_) (fun hc13 => ?_)
              · skip
                exact S1.ret (show Inv g ∧ True from ⟨hI, trivial⟩)
              · skip
                have y3 : -1 ≤ (g (105 + 2 * 0) 0).toInt ∧ (g (105 + 2 * 0) 0).toInt ≤ 40 := Inv.rd (r := (105 + 2 * 0)) (c := 5) hI 0 (zg_sheet (k := 0) (i := 0) rfl)
                exact S1.ret (show Inv g ∧ True from ⟨hI, trivial⟩)
            · skip
              have chc11 := zc_bF hc11
              refine S1.ite (fun hc14 => ?_) (fun hc14 => ?_)
              · skip
                have chc14 := zc_bT hc14
                refine S1.bp (s_100 1 rfl g hI trivial) ?_
                intro v15 g16 hvv15 hRv15
                have hRv15 : Inv g16 ∧ True := hRv15
                have y4 : 0 ≤ (g16 1 3).toInt ∧ (g16 1 3).toInt ≤ 8 := Inv.rd (r := 1) (c := 2) hRv15.1 3 rfl
                have y5 : 0 ≤ (g16 28 1).toInt ∧ (g16 28 1).toInt ≤ 160 := Inv.rd (r := 28) (c := 4) hRv15.1 1 rfl
                exact S1.ret (show Inv g16 ∧ True from ⟨hRv15.1, trivial⟩)
              · skip
                have chc14 := zc_bF hc14
                exact S1.ret (show Inv g ∧ True from ⟨hI, trivial⟩)
/-- EveningFirstModel.count -/
theorem s_188 (x1 : Int32) (g : G) (hI : Inv g) (hp : True) : S1 (d_188 x1 g) (fun q : Int32 => True ∧ True) := by
  unfold d_188
  have Lm4 := zl_m4
  have Lm1 := zl_m1
  have L0 := zl_0
  have L1 := zl_1
  have L2 := zl_2
  have L3 := zl_3
  have L4 := zl_4
  have L5 := zl_5
  have L6 := zl_6
  have yp5 : 0 ≤ (g 113 14).toInt ∧ (g 113 14).toInt ≤ 160 := Inv.rd (r := 113) (c := 8) hI 14 rfl
  have yp6 := hI.m65
  refine S1.ite (fun hc1 => ?_) (fun hc1 => ?_)
  · skip
    have chc1 := zc_bT hc1
    refine S1.bd (s_157 (1 : Int32) g hI trivial) ?_
    intro v2 hvv2 hRv2
    have hRv2 : True ∧ True := hRv2
    refine S1.bd (s_164 v2 g hI trivial) ?_
    intro v3 hvv3 hRv3
    have hRv3 : True ∧ True := hRv3
    exact S1.ret (show True ∧ True from ⟨trivial, trivial⟩)
  · skip
    have chc1 := zc_bF hc1
    refine S1.ite (fun hc4 => ?_) (fun hc4 => ?_)
    · skip
      have chc4 := zc_bT hc4
      refine S1.bd (s_157 (2 : Int32) g hI trivial) ?_
      intro v5 hvv5 hRv5
      have hRv5 : True ∧ True := hRv5
      refine S1.bd (s_164 v5 g hI trivial) ?_
      intro v6 hvv6 hRv6
      have hRv6 : True ∧ True := hRv6
      exact S1.ret (show True ∧ True from ⟨trivial, trivial⟩)
    · skip
      have chc4 := zc_bF hc4
      refine S1.ite (fun hc7 => ?_) (fun hc7 => ?_)
      · skip
        have chc7 := zc_bT hc7
        have y1 := hI.m65
        exact S1.ret (show True ∧ True from ⟨trivial, trivial⟩)
      · skip
        have chc7 := zc_bF hc7
        refine S1.ite (fun hc8 => ?_) (fun hc8 => ?_)
        · skip
          have chc8 := zc_bT hc8
          refine S1.lt ?_
          intro v9 hvv9
          refine S1.lt ?_
          intro v10 hvv10
          try have y2 := zi_add (x := v9) (y := v10) (by omega) (by omega)
          exact S1.ret (show True ∧ True from ⟨trivial, trivial⟩)
        · skip
          have chc8 := zc_bF hc8
          refine S1.ite (fun hc11 => ?_) (fun hc11 => ?_)
          · skip
            have chc11 := zc_bT hc11
            have y3 : 0 ≤ (g 113 14).toInt ∧ (g 113 14).toInt ≤ 160 := Inv.rd (r := 113) (c := 8) hI 14 rfl
            exact S1.ret (show True ∧ True from ⟨trivial, trivial⟩)
          · skip
            have chc11 := zc_bF hc11
            refine S1.ite (fun hc12 => ?_) (fun hc12 => ?_)
            · skip
              have chc12 := zc_bT hc12
              refine S1.ite (fun hc13 => ?_) (fun hc13 => ?_)
              · skip
                have chc13 := zc_neT hc13
                have y4 : 0 ≤ (g 120 0).toInt ∧ (g 120 0).toInt ≤ 40 := Inv.rd (r := 120) (c := 9) hI 0 rfl
                exact S1.ret (show True ∧ True from ⟨trivial, trivial⟩)
              · skip
                have chc13 := zc_neF hc13
                exact S1.ret (show True ∧ True from ⟨trivial, trivial⟩)
            · skip
              have chc12 := zc_bF hc12
              refine S1.ite (fun hc14 => ?_) (fun hc14 => ?_)
              · skip
                have chc14 := zc_bT hc14
                refine S1.bd (s_161 g hI trivial) ?_
                intro v15 hvv15 hRv15
                have hRv15 : True ∧ True := hRv15
                refine S1.bd (s_164 v15 g hI trivial) ?_
                intro v16 hvv16 hRv16
                have hRv16 : True ∧ True := hRv16
                exact S1.ret (show True ∧ True from ⟨trivial, trivial⟩)
              · skip
                have chc14 := zc_bF hc14
                exact S1.ret (show True ∧ True from ⟨trivial, trivial⟩)
