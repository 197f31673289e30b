/-! images, sheets (printed by wip/tools/rel.py) -/
/-- EveningFirst.keep -/
theorem r_83 {x1 : Int32} {v v' : Int32} {g g1000 g' g1' : G} (hI : Inv g) (hM : Inv g1000) (hR : Rel g g1000) (e : d_83 x1 g = some (v, g')) (f : d_181 x1 g1000 = some (v', g1')) : v = v' ∧ Rel g' g1' := by
  unfold d_83 at e
  unfold d_181 at f
  have hN := hR.nums
  have L0 := zl_0
  have L1 := zl_1
  have L2 := zl_2
  have Lm1 := zl_m1
  replace e := zb_if e
  rcases e with ⟨hc1, e⟩ | ⟨hc1, e⟩
  · skip
    have chc1 := zc_ltT hc1
    replace f := zb_let f
    obtain ⟨v1001, hvv1001, f⟩ := f
    have bv1001 := zin_a (x1 := x1) (show (0 : Int64).toInt = 0 from by decide) (show (1 : Int64).toInt = 1 from by decide)
    rw [hvv1001] at bv1001
    replace f := zb_if f
    rcases f with ⟨hc1002, f⟩ | ⟨hc1002, f⟩
    · skip
      have chc1002 := bv1001.mp hc1002
      replace f := zb_bind f
      obtain ⟨k1003, hk1003, f⟩ := f
      have bk1003 := zm_ix_ko hk1003
      replace f := zb_let f
      obtain ⟨v1004, hvv1004, f⟩ := f
      replace f := zb_bind f
      obtain ⟨k1006, hk1006, f⟩ := f
      have bk1006 := zm_ix_ko hk1006
      replace f := zb_let f
      obtain ⟨g1005, hg1005, f⟩ := f
      replace f := zb_bind f
      obtain ⟨g1007, hvg1007, f⟩ := f
      exfalso
      omega
    · skip
      have chc1002 := zd_no bv1001 hc1002
      obtain ⟨e1, e2⟩ := zb_r2 e
      obtain ⟨f1, f2⟩ := zb_r2 f
      subst e1
      subst e2
      subst f1
      subst f2
      exact ⟨rfl, hR⟩
  · skip
    have chc1 := zc_ltF hc1
    replace e := zb_if e
    rcases e with ⟨hc2, e⟩ | ⟨hc2, e⟩
    · skip
      have chc2 := zc_ltT hc2
      replace e := zb_bind e
      obtain ⟨k3, hk3, e⟩ := e
      have bk3 := zm_ix_ko hk3
      replace e := zb_if e
      rcases e with ⟨hc4, e⟩ | ⟨hc4, e⟩
      · skip
        have chc4 := zc_eqT hc4
        replace e := zb_bind e
        obtain ⟨k5, hk5, e⟩ := e
        have bk5 := zm_ix_ko hk5
        replace e := zb_bind e
        obtain ⟨g6, hvg6, e⟩ := e
        replace e := zb_bind e
        obtain ⟨k8, hk8, e⟩ := e
        have bk8 := zm_ix_ko hk8
        replace e := zb_let e
        obtain ⟨g7, hg7, e⟩ := e
        replace f := zb_let f
        obtain ⟨v1001, hvv1001, f⟩ := f
        have bv1001 := zin_a (x1 := x1) (show (0 : Int64).toInt = 0 from by decide) (show (1 : Int64).toInt = 1 from by decide)
        rw [hvv1001] at bv1001
        replace f := zb_if f
        rcases f with ⟨hc1002, f⟩ | ⟨hc1002, f⟩
        · skip
          have chc1002 := bv1001.mp hc1002
          replace f := zb_bind f
          obtain ⟨k1003, hk1003, f⟩ := f
          have bk1003 := zm_ix_ko hk1003
          replace f := zb_let f
          obtain ⟨v1004, hvv1004, f⟩ := f
          replace f := zb_bind f
          obtain ⟨k1006, hk1006, f⟩ := f
          have bk1006 := zm_ix_ko hk1006
          replace f := zb_let f
          obtain ⟨g1005, hg1005, f⟩ := f
          replace f := zb_bind f
          obtain ⟨g1007, hvg1007, f⟩ := f
          obtain rfl : k3 = k5 := by omega
          obtain rfl : k3 = k8 := by omega
          obtain rfl : k3 = k1003 := by omega
          obtain rfl : k3 = k1006 := by omega
          have hD := hR.2.2.2.1 k3 (by omega)
          have z : g 55 k3 = 0 := Int32.toInt_inj.mp (by omega)
          rw [← hD.1, z] at hvv1004
          have L1b := zl_1
          have L98b := zl_98
          have y1 := zi_add (x := x1) (y := 1) (by omega) (by omega)
          have y2 := zi_mul (x := 98) (y := x1 + 1) (n := 98) (by decide) (by omega) (by omega)
          obtain ⟨i1, i2⟩ := l_180_2 (a := 98 * (k3 + 1)) (b := 0) (by omega) (by omega) (by omega) (by omega) (by omega) 300 0 0 g1005 g1007 (by omega) hvg1007
          obtain ⟨e1, e2⟩ := zb_r2 e
          obtain ⟨f1, f2⟩ := zb_r2 f
          subst e1
          subst e2
          subst f1
          subst f2
          refine ⟨hvv1004, hR.keeps (k := k3) (by omega) hvg6 (by rw [← hg7, zm_n2.1]) ((i1 115 k3 (by omega)).trans (by rw [← hg1005, zm_n2.1]; exact zg_ue)) (fun r j h1 h2 => (i1 r j (by omega)).trans (zg_fr hg1005 r j (by omega))) (fun j hj => (i2 j (by omega) hj).trans (zg_fr hg1005 _ _ (by omega)))⟩
        · skip
          have chc1002 := zd_no bv1001 hc1002
          exfalso
          omega
      · skip
        have chc4 := zc_eqF hc4
        replace e := zb_bind e
        obtain ⟨k9, hk9, e⟩ := e
        have bk9 := zm_ix_ko hk9
        replace e := zb_bind e
        obtain ⟨g10, hvg10, e⟩ := e
        replace e := zb_bind e
        obtain ⟨k12, hk12, e⟩ := e
        have bk12 := zm_ix_ko hk12
        replace e := zb_let e
        obtain ⟨g11, hg11, e⟩ := e
        replace f := zb_let f
        obtain ⟨v1001, hvv1001, f⟩ := f
        have bv1001 := zin_a (x1 := x1) (show (0 : Int64).toInt = 0 from by decide) (show (1 : Int64).toInt = 1 from by decide)
        rw [hvv1001] at bv1001
        replace f := zb_if f
        rcases f with ⟨hc1002, f⟩ | ⟨hc1002, f⟩
        · skip
          have chc1002 := bv1001.mp hc1002
          replace f := zb_bind f
          obtain ⟨k1003, hk1003, f⟩ := f
          have bk1003 := zm_ix_ko hk1003
          replace f := zb_let f
          obtain ⟨v1004, hvv1004, f⟩ := f
          replace f := zb_bind f
          obtain ⟨k1006, hk1006, f⟩ := f
          have bk1006 := zm_ix_ko hk1006
          replace f := zb_let f
          obtain ⟨g1005, hg1005, f⟩ := f
          replace f := zb_bind f
          obtain ⟨g1007, hvg1007, f⟩ := f
          obtain rfl : k3 = k9 := by omega
          obtain rfl : k3 = k12 := by omega
          obtain rfl : k3 = k1003 := by omega
          obtain rfl : k3 = k1006 := by omega
          have hD := hR.2.2.2.1 k3 (by omega)
          have z : g 55 k3 = 1 := by
            rcases hD.2 with q | ⟨q, _⟩
            · have q2 := congrArg Int32.toInt q
              exfalso
              omega
            · exact q
          rw [← hD.1, z] at hvv1004
          have L1b := zl_1
          have L98b := zl_98
          have y1 := zi_add (x := x1) (y := 1) (by omega) (by omega)
          have y2 := zi_mul (x := 98) (y := x1 + 1) (n := 98) (by decide) (by omega) (by omega)
          obtain ⟨i1, i2⟩ := l_180_2 (a := 98 * (k3 + 1)) (b := 0) (by omega) (by omega) (by omega) (by omega) (by omega) 300 0 0 g1005 g1007 (by omega) hvg1007
          obtain ⟨e1, e2⟩ := zb_r2 e
          obtain ⟨f1, f2⟩ := zb_r2 f
          subst e1
          subst e2
          subst f1
          subst f2
          refine ⟨hvv1004, hR.keeps (k := k3) (by omega) hvg10 (by rw [← hg11, zm_n2.1]) ((i1 115 k3 (by omega)).trans (by rw [← hg1005, zm_n2.1]; exact zg_ue)) (fun r j h1 h2 => (i1 r j (by omega)).trans (zg_fr hg1005 r j (by omega))) (fun j hj => (i2 j (by omega) hj).trans (zg_fr hg1005 _ _ (by omega)))⟩
        · skip
          have chc1002 := zd_no bv1001 hc1002
          exfalso
          omega
    · skip
      have chc2 := zc_ltF hc2
      replace f := zb_let f
      obtain ⟨v1001, hvv1001, f⟩ := f
      have bv1001 := zin_a (x1 := x1) (show (0 : Int64).toInt = 0 from by decide) (show (1 : Int64).toInt = 1 from by decide)
      rw [hvv1001] at bv1001
      replace f := zb_if f
      rcases f with ⟨hc1002, f⟩ | ⟨hc1002, f⟩
      · skip
        have chc1002 := bv1001.mp hc1002
        replace f := zb_bind f
        obtain ⟨k1003, hk1003, f⟩ := f
        have bk1003 := zm_ix_ko hk1003
        replace f := zb_let f
        obtain ⟨v1004, hvv1004, f⟩ := f
        replace f := zb_bind f
        obtain ⟨k1006, hk1006, f⟩ := f
        have bk1006 := zm_ix_ko hk1006
        replace f := zb_let f
        obtain ⟨g1005, hg1005, f⟩ := f
        replace f := zb_bind f
        obtain ⟨g1007, hvg1007, f⟩ := f
        exfalso
        omega
      · skip
        have chc1002 := zd_no bv1001 hc1002
        obtain ⟨e1, e2⟩ := zb_r2 e
        obtain ⟨f1, f2⟩ := zb_r2 f
        subst e1
        subst e2
        subst f1
        subst f2
        exact ⟨rfl, hR⟩
/-- EveningFirst.back -/
theorem r_84 {x1 : Int32} {v v' : Int32} {g g1000 g' g1' : G} (hI : Inv g) (hM : Inv g1000) (hR : Rel g g1000) (e : d_84 x1 g = some (v, g')) (f : d_182 x1 g1000 = some (v', g1')) : v = v' ∧ Rel g' g1' := by
  unfold d_84 at e
  unfold d_182 at f
  have hN := hR.nums
  have L0 := zl_0
  have L2 := zl_2
  have Lm1 := zl_m1
  have Lm2 := zl_m2
  replace e := zb_if e
  rcases e with ⟨hc1, e⟩ | ⟨hc1, e⟩
  · skip
    have chc1 := zc_ltT hc1
    replace f := zb_let f
    obtain ⟨v1001, hvv1001, f⟩ := f
    have bv1001 := zin_a (x1 := x1) (show (0 : Int64).toInt = 0 from by decide) (show (1 : Int64).toInt = 1 from by decide)
    rw [hvv1001] at bv1001
    replace f := zb_if f
    rcases f with ⟨hc1002, f⟩ | ⟨hc1002, f⟩
    · skip
      have chc1002 := bv1001.mp hc1002
      replace f := zb_bind f
      obtain ⟨k1003, hk1003, f⟩ := f
      have bk1003 := zm_ix_ko hk1003
      replace f := zb_if f
      rcases f with ⟨hc1004, f⟩ | ⟨hc1004, f⟩
      · skip
        have chc1004 := zc_neT hc1004
        replace f := zb_bind f
        obtain ⟨g1005, hvg1005, f⟩ := f
        exfalso
        omega
      · skip
        have chc1004 := zc_neF hc1004
        exfalso
        omega
    · skip
      have chc1002 := zd_no bv1001 hc1002
      obtain ⟨e1, e2⟩ := zb_r2 e
      obtain ⟨f1, f2⟩ := zb_r2 f
      subst e1
      subst e2
      subst f1
      subst f2
      exact ⟨rfl, hR⟩
  · skip
    have chc1 := zc_ltF hc1
    replace e := zb_if e
    rcases e with ⟨hc2, e⟩ | ⟨hc2, e⟩
    · skip
      have chc2 := zc_ltT hc2
      replace e := zb_bind e
      obtain ⟨k3, hk3, e⟩ := e
      have bk3 := zm_ix_ko hk3
      replace e := zb_if e
      rcases e with ⟨hc4, e⟩ | ⟨hc4, e⟩
      · skip
        have chc4 := zc_neT hc4
        replace e := zb_bind e
        obtain ⟨k5, hk5, e⟩ := e
        have bk5 := zm_ix_ko hk5
        replace e := zb_bind e
        obtain ⟨g6, hvg6, e⟩ := e
        replace f := zb_let f
        obtain ⟨v1001, hvv1001, f⟩ := f
        have bv1001 := zin_a (x1 := x1) (show (0 : Int64).toInt = 0 from by decide) (show (1 : Int64).toInt = 1 from by decide)
        rw [hvv1001] at bv1001
        replace f := zb_if f
        rcases f with ⟨hc1002, f⟩ | ⟨hc1002, f⟩
        · skip
          have chc1002 := bv1001.mp hc1002
          replace f := zb_bind f
          obtain ⟨k1003, hk1003, f⟩ := f
          have bk1003 := zm_ix_ko hk1003
          replace f := zb_if f
          rcases f with ⟨hc1004, f⟩ | ⟨hc1004, f⟩
          · skip
            have chc1004 := zc_neT hc1004
            replace f := zb_bind f
            obtain ⟨g1005, hvg1005, f⟩ := f
            obtain rfl : k3 = k5 := by omega
            obtain rfl : k3 = k1003 := by omega
            have hD := (hR.2.2.2.1 k3 (by omega)).1
            have hdi := congrArg Int32.toInt hD
            have L1b := zl_1
            have L98b := zl_98
            have y1 := zi_add (x := x1) (y := 1) (by omega) (by omega)
            have y2 := zi_mul (x := 98) (y := x1 + 1) (n := 98) (by decide) (by omega) (by omega)
            obtain ⟨i1, i2⟩ := l_180_2 (a := 0) (b := 98 * (k3 + 1)) (by omega) (by omega) (by omega) (by omega) (by omega) 300 0 0 g1000 g1005 (by omega) hvg1005
            obtain ⟨e1, e2⟩ := zb_r2 e
            obtain ⟨f1, f2⟩ := zb_r2 f
            subst e1
            subst e2
            subst f1
            subst f2
            have hB := hR.backs (k := k3) (by omega) (fun q => by have := congrArg Int32.toInt q; omega) hvg6 (fun r j hr => i1 r j (by omega)) (fun j hj => i2 j (by omega) hj)
            exact ⟨hB.2.2.1.2.2.2.1, hB⟩
          · skip
            have chc1004 := zc_neF hc1004
            obtain rfl : k3 = k5 := by omega
            obtain rfl : k3 = k1003 := by omega
            have hD := (hR.2.2.2.1 k3 (by omega)).1
            have hdi := congrArg Int32.toInt hD
            exfalso
            omega
        · skip
          have chc1002 := zd_no bv1001 hc1002
          obtain rfl : k3 = k5 := by omega
          have hD := (hR.2.2.2.1 k3 (by omega)).1
          have hdi := congrArg Int32.toInt hD
          exfalso
          omega
      · skip
        have chc4 := zc_neF hc4
        replace f := zb_let f
        obtain ⟨v1001, hvv1001, f⟩ := f
        have bv1001 := zin_a (x1 := x1) (show (0 : Int64).toInt = 0 from by decide) (show (1 : Int64).toInt = 1 from by decide)
        rw [hvv1001] at bv1001
        replace f := zb_if f
        rcases f with ⟨hc1002, f⟩ | ⟨hc1002, f⟩
        · skip
          have chc1002 := bv1001.mp hc1002
          replace f := zb_bind f
          obtain ⟨k1003, hk1003, f⟩ := f
          have bk1003 := zm_ix_ko hk1003
          replace f := zb_if f
          rcases f with ⟨hc1004, f⟩ | ⟨hc1004, f⟩
          · skip
            have chc1004 := zc_neT hc1004
            replace f := zb_bind f
            obtain ⟨g1005, hvg1005, f⟩ := f
            obtain rfl : k3 = k1003 := by omega
            have hD := (hR.2.2.2.1 k3 (by omega)).1
            have hdi := congrArg Int32.toInt hD
            exfalso
            omega
          · skip
            have chc1004 := zc_neF hc1004
            obtain ⟨e1, e2⟩ := zb_r2 e
            obtain ⟨f1, f2⟩ := zb_r2 f
            subst e1
            subst e2
            subst f1
            subst f2
            exact ⟨rfl, hR⟩
        · skip
          have chc1002 := zd_no bv1001 hc1002
          have hD := (hR.2.2.2.1 k3 (by omega)).1
          have hdi := congrArg Int32.toInt hD
          exfalso
          omega
    · skip
      have chc2 := zc_ltF hc2
      replace f := zb_let f
      obtain ⟨v1001, hvv1001, f⟩ := f
      have bv1001 := zin_a (x1 := x1) (show (0 : Int64).toInt = 0 from by decide) (show (1 : Int64).toInt = 1 from by decide)
      rw [hvv1001] at bv1001
      replace f := zb_if f
      rcases f with ⟨hc1002, f⟩ | ⟨hc1002, f⟩
      · skip
        have chc1002 := bv1001.mp hc1002
        replace f := zb_bind f
        obtain ⟨k1003, hk1003, f⟩ := f
        have bk1003 := zm_ix_ko hk1003
        replace f := zb_if f
        rcases f with ⟨hc1004, f⟩ | ⟨hc1004, f⟩
        · skip
          have chc1004 := zc_neT hc1004
          replace f := zb_bind f
          obtain ⟨g1005, hvg1005, f⟩ := f
          exfalso
          omega
        · skip
          have chc1004 := zc_neF hc1004
          exfalso
          omega
      · skip
        have chc1002 := zd_no bv1001 hc1002
        obtain ⟨e1, e2⟩ := zb_r2 e
        obtain ⟨f1, f2⟩ := zb_r2 f
        subst e1
        subst e2
        subst f1
        subst f2
        exact ⟨rfl, hR⟩
/-- EveningFirst.sheet -/
theorem r_85 {x1 : Int32} {x2 : Int32} {x3 : Int32} {v v' : Int32} {g g1000 g' g1' : G} (hI : Inv g) (hM : Inv g1000) (hR : Rel g g1000) (e : d_85 x1 x2 x3 g = some (v, g')) (f : d_184 x1 x2 x3 g1000 = some (v', g1')) : v = v' ∧ Rel g' g1' := by
  unfold d_85 at e
  unfold d_184 at f
  have hN := hR.nums
  have L0 := zl_0
  have L1 := zl_1
  have L40 := zl_40
  have Lm1 := zl_m1
  have Lm14 := zl_m14
  replace e := zb_let e
  obtain ⟨v1, hvv1, e⟩ := e
  have bv1 := b_93 (x0 := x1)
  rw [hvv1] at bv1
  replace e := zb_if e
  rcases e with ⟨hc2, e⟩ | ⟨hc2, e⟩
  · skip
    have chc2 := bv1.mp hc2
    replace f := zb_let f
    obtain ⟨v1001, hvv1001, f⟩ := f
    have bv1001 := b_183 (x0 := x1) (x1 := x2)
    rw [hvv1001] at bv1001
    replace f := zb_if f
    rcases f with ⟨hc1002, f⟩ | ⟨hc1002, f⟩
    · skip
      have chc1002 := bv1001.mp hc1002
      replace f := zb_if f
      rcases f with ⟨hc1003, f⟩ | ⟨hc1003, f⟩
      · skip
        have chc1003 := zc_leT hc1003
        replace f := zb_if f
        rcases f with ⟨hc1004, f⟩ | ⟨hc1004, f⟩
        · skip
          have chc1004 := zc_geT hc1004
          replace f := zb_bind f
          obtain ⟨k1006, hk1006, f⟩ := f
          have bk1006 := zm_ix_ko hk1006
          replace f := zb_let f
          obtain ⟨g1005, hg1005, f⟩ := f
          replace f := zb_bind f
          obtain ⟨k1008, hk1008, f⟩ := f
          have bk1008 := zm_ix_ko hk1008
          replace f := zb_let f
          obtain ⟨g1007, hg1007, f⟩ := f
          exfalso
          omega
        · skip
          have chc1004 := zc_geF hc1004
          exfalso
          omega
      · skip
        have chc1003 := zc_leF hc1003
        obtain ⟨e1, e2⟩ := zb_r2 e
        obtain ⟨f1, f2⟩ := zb_r2 f
        subst e1
        subst e2
        subst f1
        subst f2
        exact ⟨rfl, hR⟩
    · skip
      have chc1002 := zd_no bv1001 hc1002
      obtain ⟨e1, e2⟩ := zb_r2 e
      obtain ⟨f1, f2⟩ := zb_r2 f
      subst e1
      subst e2
      subst f1
      subst f2
      exact ⟨rfl, hR⟩
  · skip
    have chc2 := zd_no bv1 hc2
    replace e := zb_let e
    obtain ⟨v3, hvv3, e⟩ := e
    have bv3 := b_94 (x0 := x2)
    rw [hvv3] at bv3
    replace e := zb_if e
    rcases e with ⟨hc4, e⟩ | ⟨hc4, e⟩
    · skip
      have chc4 := bv3.mp hc4
      replace f := zb_let f
      obtain ⟨v1001, hvv1001, f⟩ := f
      have bv1001 := b_183 (x0 := x1) (x1 := x2)
      rw [hvv1001] at bv1001
      replace f := zb_if f
      rcases f with ⟨hc1002, f⟩ | ⟨hc1002, f⟩
      · skip
        have chc1002 := bv1001.mp hc1002
        replace f := zb_if f
        rcases f with ⟨hc1003, f⟩ | ⟨hc1003, f⟩
        · skip
          have chc1003 := zc_leT hc1003
          replace f := zb_if f
          rcases f with ⟨hc1004, f⟩ | ⟨hc1004, f⟩
          · skip
            have chc1004 := zc_geT hc1004
            replace f := zb_bind f
            obtain ⟨k1006, hk1006, f⟩ := f
            have bk1006 := zm_ix_ko hk1006
            replace f := zb_let f
            obtain ⟨g1005, hg1005, f⟩ := f
            replace f := zb_bind f
            obtain ⟨k1008, hk1008, f⟩ := f
            have bk1008 := zm_ix_ko hk1008
            replace f := zb_let f
            obtain ⟨g1007, hg1007, f⟩ := f
            exfalso
            omega
          · skip
            have chc1004 := zc_geF hc1004
            exfalso
            omega
        · skip
          have chc1003 := zc_leF hc1003
          obtain ⟨e1, e2⟩ := zb_r2 e
          obtain ⟨f1, f2⟩ := zb_r2 f
          subst e1
          subst e2
          subst f1
          subst f2
          exact ⟨rfl, hR⟩
      · skip
        have chc1002 := zd_no bv1001 hc1002
        obtain ⟨e1, e2⟩ := zb_r2 e
        obtain ⟨f1, f2⟩ := zb_r2 f
        subst e1
        subst e2
        subst f1
        subst f2
        exact ⟨rfl, hR⟩
    · skip
      have chc4 := zd_no bv3 hc4
      replace e := zb_if e
      rcases e with ⟨hc5, e⟩ | ⟨hc5, e⟩
      · skip
        have chc5 := zc_leT hc5
        replace e := zb_if e
        rcases e with ⟨hc6, e⟩ | ⟨hc6, e⟩
        · skip
          have chc6 := zc_geT hc6
          replace e := zb_bind e
          obtain ⟨k7, hk7, e⟩ := e
          have bk7 := zm_ix_ko hk7
          replace e := zb_bind e
          obtain ⟨g8, hvg8, e⟩ := e
          replace f := zb_let f
          obtain ⟨v1001, hvv1001, f⟩ := f
          have bv1001 := b_183 (x0 := x1) (x1 := x2)
          rw [hvv1001] at bv1001
          replace f := zb_if f
          rcases f with ⟨hc1002, f⟩ | ⟨hc1002, f⟩
          · skip
            have chc1002 := bv1001.mp hc1002
            replace f := zb_if f
            rcases f with ⟨hc1003, f⟩ | ⟨hc1003, f⟩
            · skip
              have chc1003 := zc_leT hc1003
              replace f := zb_if f
              rcases f with ⟨hc1004, f⟩ | ⟨hc1004, f⟩
              · skip
                have chc1004 := zc_geT hc1004
                replace f := zb_bind f
                obtain ⟨k1006, hk1006, f⟩ := f
                have bk1006 := zm_ix_ko hk1006
                replace f := zb_let f
                obtain ⟨g1005, hg1005, f⟩ := f
                replace f := zb_bind f
                obtain ⟨k1008, hk1008, f⟩ := f
                have bk1008 := zm_ix_ko hk1008
                replace f := zb_let f
                obtain ⟨g1007, hg1007, f⟩ := f
                obtain rfl : k7 = k1006 := by omega
                obtain rfl : k7 = k1008 := by omega
                obtain ⟨t1, t2, t3, t4⟩ := t_47 hvg8
                obtain ⟨l0, l1, l2⟩ := l_184_40 (q := k7) (by omega) (by omega) 300 0 0 g1007 g1' v' (by omega) f
                obtain ⟨e1, e2⟩ := zb_r2 e
                subst e1
                subst e2
                have M0 : g1' 119 k7 = x2 := (l1 119 k7 (by omega)).trans ((zg_fr hg1007 119 k7 (by omega)).trans (by rw [← hg1005]; exact zg_ue))
                have M1 : g1' 120 k7 = x3 := (l1 120 k7 (by omega)).trans (by rw [← hg1007]; exact zg_ue)
                refine ⟨l0.symm, hR.sheets (k := k7) (by omega) (fun r j h1 h2 => t1 r j (by omega) (by omega)) (fun r j h1 h2 h3 => (l1 r j (by omega)).trans ((zg_fr hg1007 r j (by omega)).trans (zg_fr hg1005 r j (by omega)))) ?_⟩
                refine Or.inr ⟨by rw [t3, M1], by rw [t3]; omega, by rw [t3]; omega, by rw [t2, M0], by rw [M0]; omega, by rw [M0]; omega, fun i hi => ?_⟩
                rw [show 106 + 2 * k7 = 105 + 2 * k7 + 1 by omega, t4 i hi, l2 i (by omega) hi]
              · skip
                have chc1004 := zc_geF hc1004
                exfalso
                omega
            · skip
              have chc1003 := zc_leF hc1003
              exfalso
              omega
          · skip
            have chc1002 := zd_no bv1001 hc1002
            exfalso
            omega
        · skip
          have chc6 := zc_geF hc6
          replace f := zb_let f
          obtain ⟨v1001, hvv1001, f⟩ := f
          have bv1001 := b_183 (x0 := x1) (x1 := x2)
          rw [hvv1001] at bv1001
          replace f := zb_if f
          rcases f with ⟨hc1002, f⟩ | ⟨hc1002, f⟩
          · skip
            have chc1002 := bv1001.mp hc1002
            replace f := zb_if f
            rcases f with ⟨hc1003, f⟩ | ⟨hc1003, f⟩
            · skip
              have chc1003 := zc_leT hc1003
              replace f := zb_if f
              rcases f with ⟨hc1004, f⟩ | ⟨hc1004, f⟩
              · skip
                have chc1004 := zc_geT hc1004
                replace f := zb_bind f
                obtain ⟨k1006, hk1006, f⟩ := f
                have bk1006 := zm_ix_ko hk1006
                replace f := zb_let f
                obtain ⟨g1005, hg1005, f⟩ := f
                replace f := zb_bind f
                obtain ⟨k1008, hk1008, f⟩ := f
                have bk1008 := zm_ix_ko hk1008
                replace f := zb_let f
                obtain ⟨g1007, hg1007, f⟩ := f
                exfalso
                omega
              · skip
                have chc1004 := zc_geF hc1004
                obtain ⟨e1, e2⟩ := zb_r2 e
                obtain ⟨f1, f2⟩ := zb_r2 f
                subst e1
                subst e2
                subst f1
                subst f2
                exact ⟨rfl, hR⟩
            · skip
              have chc1003 := zc_leF hc1003
              exfalso
              omega
          · skip
            have chc1002 := zd_no bv1001 hc1002
            exfalso
            omega
      · skip
        have chc5 := zc_leF hc5
        replace f := zb_let f
        obtain ⟨v1001, hvv1001, f⟩ := f
        have bv1001 := b_183 (x0 := x1) (x1 := x2)
        rw [hvv1001] at bv1001
        replace f := zb_if f
        rcases f with ⟨hc1002, f⟩ | ⟨hc1002, f⟩
        · skip
          have chc1002 := bv1001.mp hc1002
          replace f := zb_if f
          rcases f with ⟨hc1003, f⟩ | ⟨hc1003, f⟩
          · skip
            have chc1003 := zc_leT hc1003
            replace f := zb_if f
            rcases f with ⟨hc1004, f⟩ | ⟨hc1004, f⟩
            · skip
              have chc1004 := zc_geT hc1004
              replace f := zb_bind f
              obtain ⟨k1006, hk1006, f⟩ := f
              have bk1006 := zm_ix_ko hk1006
              replace f := zb_let f
              obtain ⟨g1005, hg1005, f⟩ := f
              replace f := zb_bind f
              obtain ⟨k1008, hk1008, f⟩ := f
              have bk1008 := zm_ix_ko hk1008
              replace f := zb_let f
              obtain ⟨g1007, hg1007, f⟩ := f
              exfalso
              omega
            · skip
              have chc1004 := zc_geF hc1004
              exfalso
              omega
          · skip
            have chc1003 := zc_leF hc1003
            obtain ⟨e1, e2⟩ := zb_r2 e
            obtain ⟨f1, f2⟩ := zb_r2 f
            subst e1
            subst e2
            subst f1
            subst f2
            exact ⟨rfl, hR⟩
        · skip
          have chc1002 := zd_no bv1001 hc1002
          obtain ⟨e1, e2⟩ := zb_r2 e
          obtain ⟨f1, f2⟩ := zb_r2 f
          subst e1
          subst e2
          subst f1
          subst f2
          exact ⟨rfl, hR⟩
/-- EveningFirst.lay -/
theorem r_86 {x1 : Int32} {x2 : Int32} {x3 : Int32} {v v' : Int32} {g g1000 g' g1' : G} (hI : Inv g) (hM : Inv g1000) (hR : Rel g g1000) (e : d_86 x1 x2 x3 g = some (v, g')) (f : d_185 x1 x2 x3 g1000 = some (v', g1')) : v = v' ∧ Rel g' g1' := by
  unfold d_86 at e
  unfold d_185 at f
  have hN := hR.nums
  have L0 := zl_0
  have L1 := zl_1
  have L40 := zl_40
  have Lm1 := zl_m1
  have Lm10 := zl_m10
  have Lm11 := zl_m11
  have Lm12 := zl_m12
  have Lm4 := zl_m4
  replace e := zb_let e
  obtain ⟨v1, hvv1, e⟩ := e
  have bv1 := b_93 (x0 := x1)
  rw [hvv1] at bv1
  replace e := zb_if e
  rcases e with ⟨hc2, e⟩ | ⟨hc2, e⟩
  · skip
    have chc2 := bv1.mp hc2
    replace f := zb_let f
    obtain ⟨v1001, hvv1001, f⟩ := f
    have bv1001 := b_183 (x0 := x1) (x1 := (0 : Int32))
    rw [hvv1001] at bv1001
    replace f := zb_if f
    rcases f with ⟨hc1002, f⟩ | ⟨hc1002, f⟩
    · skip
      have chc1002 := bv1001.mp hc1002
      replace f := zb_bind f
      obtain ⟨k1003, hk1003, f⟩ := f
      have bk1003 := zm_ix_ko hk1003
      replace f := zb_if f
      rcases f with ⟨hc1004, f⟩ | ⟨hc1004, f⟩
      · skip
        have chc1004 := zc_neT hc1004
        replace f := zb_bind f
        obtain ⟨k1005, hk1005, f⟩ := f
        have bk1005 := zm_ix_ko hk1005
        replace f := zb_let f
        obtain ⟨v1006, hvv1006, f⟩ := f
        have y1001 : 0 ≤ (g1000 120 k1005).toInt ∧ (g1000 120 k1005).toInt ≤ 40 := Inv.rd (r := 120) (c := 9) hM k1005 rfl
        try have y1002 := zi_sub (x := (g1000 120 k1005)) (y := (1 : Int32)) (by omega) (by omega)
        have bv1006 := zin_a (x1 := x2) (show (0 : Int64).toInt = 0 from by decide) (zi_i64 ((g1000 120 k1005) - 1))
        rw [hvv1006] at bv1006
        replace f := zb_if f
        rcases f with ⟨hc1007, f⟩ | ⟨hc1007, f⟩
        · skip
          have chc1007 := bv1006.mp hc1007
          replace f := zb_bind f
          obtain ⟨k1008, hk1008, f⟩ := f
          have bk1008 := zm_ix_ko hk1008
          replace f := zb_if f
          rcases f with ⟨hc1009, f⟩ | ⟨hc1009, f⟩
          · skip
            have chc1009 := zc_neT hc1009
            replace f := zb_bind f
            obtain ⟨k1010, hk1010, f⟩ := f
            have bk1010 := zm_ix_ko hk1010
            replace f := zb_if f
            rcases f with ⟨hc1011, f⟩ | ⟨hc1011, f⟩
            · skip
              have chc1011 := zc_neT hc1011
              try have y1003 := zi_mul (x := (40 : Int32)) (y := x1) (n := 40) (by decide) (by omega) (by omega)
              try have y1004 := zi_add (x := (40 * x1)) (y := x2) (by omega) (by omega)
              replace f := zb_bind f
              obtain ⟨k1013, hk1013, f⟩ := f
              have bk1013 := zm_ix_ko hk1013
              replace f := zb_let f
              obtain ⟨g1012, hg1012, f⟩ := f
              exfalso
              omega
            · skip
              have chc1011 := zc_neF hc1011
              try have y1005 := zi_mul (x := (40 : Int32)) (y := x1) (n := 40) (by decide) (by omega) (by omega)
              try have y1006 := zi_add (x := (40 * x1)) (y := x2) (by omega) (by omega)
              replace f := zb_bind f
              obtain ⟨k1015, hk1015, f⟩ := f
              have bk1015 := zm_ix_ko hk1015
              replace f := zb_let f
              obtain ⟨g1014, hg1014, f⟩ := f
              exfalso
              omega
          · skip
            have chc1009 := zc_neF hc1009
            try have y1007 := zi_mul (x := (40 : Int32)) (y := x1) (n := 40) (by decide) (by omega) (by omega)
            try have y1008 := zi_add (x := (40 * x1)) (y := x2) (by omega) (by omega)
            replace f := zb_bind f
            obtain ⟨k1017, hk1017, f⟩ := f
            have bk1017 := zm_ix_ko hk1017
            replace f := zb_let f
            obtain ⟨g1016, hg1016, f⟩ := f
            exfalso
            omega
        · skip
          have chc1007 := zd_no bv1006 hc1007
          exfalso
          omega
      · skip
        have chc1004 := zc_neF hc1004
        exfalso
        omega
    · skip
      have chc1002 := zd_no bv1001 hc1002
      obtain ⟨e1, e2⟩ := zb_r2 e
      obtain ⟨f1, f2⟩ := zb_r2 f
      subst e1
      subst e2
      subst f1
      subst f2
      exact ⟨rfl, hR⟩
  · skip
    have chc2 := zd_no bv1 hc2
    replace e := zb_bind e
    obtain ⟨k3, hk3, e⟩ := e
    have bk3 := zm_ix_ko hk3
    replace e := zb_let e
    obtain ⟨v4, hvv4, e⟩ := e
    have bv4 := t_49 hvv4
    replace e := zb_if e
    rcases e with ⟨hc5, e⟩ | ⟨hc5, e⟩
    · skip
      have chc5 := zc_eqT hc5
      replace e := zb_bind e
      obtain ⟨k6, hk6, e⟩ := e
      have bk6 := zm_ix_ko hk6
      replace e := zb_bind e
      obtain ⟨g7, hvg7, e⟩ := e
      replace f := zb_let f
      obtain ⟨v1001, hvv1001, f⟩ := f
      have bv1001 := b_183 (x0 := x1) (x1 := (0 : Int32))
      rw [hvv1001] at bv1001
      replace f := zb_if f
      rcases f with ⟨hc1002, f⟩ | ⟨hc1002, f⟩
      · skip
        have chc1002 := bv1001.mp hc1002
        replace f := zb_bind f
        obtain ⟨k1003, hk1003, f⟩ := f
        have bk1003 := zm_ix_ko hk1003
        replace f := zb_if f
        rcases f with ⟨hc1004, f⟩ | ⟨hc1004, f⟩
        · skip
          have chc1004 := zc_neT hc1004
          replace f := zb_bind f
          obtain ⟨k1005, hk1005, f⟩ := f
          have bk1005 := zm_ix_ko hk1005
          replace f := zb_let f
          obtain ⟨v1006, hvv1006, f⟩ := f
          have y1009 : 0 ≤ (g1000 120 k1005).toInt ∧ (g1000 120 k1005).toInt ≤ 40 := Inv.rd (r := 120) (c := 9) hM k1005 rfl
          try have y1010 := zi_sub (x := (g1000 120 k1005)) (y := (1 : Int32)) (by omega) (by omega)
          have bv1006 := zin_a (x1 := x2) (show (0 : Int64).toInt = 0 from by decide) (zi_i64 ((g1000 120 k1005) - 1))
          rw [hvv1006] at bv1006
          replace f := zb_if f
          rcases f with ⟨hc1007, f⟩ | ⟨hc1007, f⟩
          · skip
            have chc1007 := bv1006.mp hc1007
            replace f := zb_bind f
            obtain ⟨k1008, hk1008, f⟩ := f
            have bk1008 := zm_ix_ko hk1008
            replace f := zb_if f
            rcases f with ⟨hc1009, f⟩ | ⟨hc1009, f⟩
            · skip
              have chc1009 := zc_neT hc1009
              replace f := zb_bind f
              obtain ⟨k1010, hk1010, f⟩ := f
              have bk1010 := zm_ix_ko hk1010
              replace f := zb_if f
              rcases f with ⟨hc1011, f⟩ | ⟨hc1011, f⟩
              · skip
                have chc1011 := zc_neT hc1011
                try have y1011 := zi_mul (x := (40 : Int32)) (y := x1) (n := 40) (by decide) (by omega) (by omega)
                try have y1012 := zi_add (x := (40 * x1)) (y := x2) (by omega) (by omega)
                replace f := zb_bind f
                obtain ⟨k1013, hk1013, f⟩ := f
                have bk1013 := zm_ix_ko hk1013
                replace f := zb_let f
                obtain ⟨g1012, hg1012, f⟩ := f
                obtain rfl : k3 = k6 := by omega
                obtain rfl : k3 = k1003 := by omega
                obtain rfl : k3 = k1005 := by omega
                obtain rfl : k3 = k1008 := by omega
                obtain rfl : k3 = k1010 := by omega
                rcases hR.2.2.2.2 k3 (by omega) with ⟨s1, s2⟩ | ⟨s1, s2, s3, s4, s5, s6, s7⟩
                · exfalso
                  omega
                · have s1i := congrArg Int32.toInt s1
                  have s4i := congrArg Int32.toInt s4
                  obtain ⟨i, hi⟩ : ∃ i : Nat, x2.toInt = i := ⟨x2.toInt.toNat, by omega⟩
                  have t := t_51 hvg7 hi
                  obtain rfl : k1013 = 40 * k3 + i := by omega
                  obtain ⟨e1, e2⟩ := zb_r2 e
                  obtain ⟨f1, f2⟩ := zb_r2 f
                  subst e1
                  subst e2
                  subst f1
                  subst f2
                  subst t
                  subst hg1012
                  refine ⟨rfl, ?_⟩
                  rw [s4, lnv_2 (by omega) (by omega), show 105 + 2 * k3 + 1 = 106 + 2 * k3 by omega]
                  exact hR.lays (by omega) (by omega) (by omega)
              · skip
                have chc1011 := zc_neF hc1011
                try have y1013 := zi_mul (x := (40 : Int32)) (y := x1) (n := 40) (by decide) (by omega) (by omega)
                try have y1014 := zi_add (x := (40 * x1)) (y := x2) (by omega) (by omega)
                replace f := zb_bind f
                obtain ⟨k1015, hk1015, f⟩ := f
                have bk1015 := zm_ix_ko hk1015
                replace f := zb_let f
                obtain ⟨g1014, hg1014, f⟩ := f
                obtain rfl : k3 = k6 := by omega
                obtain rfl : k3 = k1003 := by omega
                obtain rfl : k3 = k1005 := by omega
                obtain rfl : k3 = k1008 := by omega
                obtain rfl : k3 = k1010 := by omega
                rcases hR.2.2.2.2 k3 (by omega) with ⟨s1, s2⟩ | ⟨s1, s2, s3, s4, s5, s6, s7⟩
                · exfalso
                  omega
                · have s1i := congrArg Int32.toInt s1
                  have s4i := congrArg Int32.toInt s4
                  obtain ⟨i, hi⟩ : ∃ i : Nat, x2.toInt = i := ⟨x2.toInt.toNat, by omega⟩
                  have t := t_51 hvg7 hi
                  obtain rfl : k1015 = 40 * k3 + i := by omega
                  obtain ⟨e1, e2⟩ := zb_r2 e
                  obtain ⟨f1, f2⟩ := zb_r2 f
                  subst e1
                  subst e2
                  subst f1
                  subst f2
                  subst t
                  subst hg1014
                  refine ⟨rfl, ?_⟩
                  rw [s4, lnv_1 (by omega), show 105 + 2 * k3 + 1 = 106 + 2 * k3 by omega]
                  exact hR.lays (by omega) (by omega) (by omega)
            · skip
              have chc1009 := zc_neF hc1009
              try have y1015 := zi_mul (x := (40 : Int32)) (y := x1) (n := 40) (by decide) (by omega) (by omega)
              try have y1016 := zi_add (x := (40 * x1)) (y := x2) (by omega) (by omega)
              replace f := zb_bind f
              obtain ⟨k1017, hk1017, f⟩ := f
              have bk1017 := zm_ix_ko hk1017
              replace f := zb_let f
              obtain ⟨g1016, hg1016, f⟩ := f
              obtain rfl : k3 = k6 := by omega
              obtain rfl : k3 = k1003 := by omega
              obtain rfl : k3 = k1005 := by omega
              obtain rfl : k3 = k1008 := by omega
              rcases hR.2.2.2.2 k3 (by omega) with ⟨s1, s2⟩ | ⟨s1, s2, s3, s4, s5, s6, s7⟩
              · exfalso
                omega
              · have s1i := congrArg Int32.toInt s1
                have s4i := congrArg Int32.toInt s4
                obtain ⟨i, hi⟩ : ∃ i : Nat, x2.toInt = i := ⟨x2.toInt.toNat, by omega⟩
                have t := t_51 hvg7 hi
                obtain rfl : k1017 = 40 * k3 + i := by omega
                obtain ⟨e1, e2⟩ := zb_r2 e
                obtain ⟨f1, f2⟩ := zb_r2 f
                subst e1
                subst e2
                subst f1
                subst f2
                subst t
                subst hg1016
                refine ⟨rfl, ?_⟩
                rw [s4, lnv_0 (by omega), show 105 + 2 * k3 + 1 = 106 + 2 * k3 by omega]
                exact hR.lays (by omega) (by omega) (by omega)
          · skip
            have chc1007 := zd_no bv1006 hc1007
            obtain rfl : k3 = k6 := by omega
            obtain rfl : k3 = k1003 := by omega
            obtain rfl : k3 = k1005 := by omega
            rcases hR.2.2.2.2 k3 (by omega) with ⟨s1, s2⟩ | ⟨s1, s2, s3, s4, s5, s6, s7⟩
            · exfalso
              omega
            · have s1i := congrArg Int32.toInt s1
              exfalso
              omega
        · skip
          have chc1004 := zc_neF hc1004
          obtain rfl : k3 = k6 := by omega
          obtain rfl : k3 = k1003 := by omega
          rcases hR.2.2.2.2 k3 (by omega) with ⟨s1, s2⟩ | ⟨s1, s2, s3, s4, s5, s6, s7⟩
          · exfalso
            omega
          · have s1i := congrArg Int32.toInt s1
            exfalso
            omega
      · skip
        have chc1002 := zd_no bv1001 hc1002
        obtain rfl : k3 = k6 := by omega
        rcases hR.2.2.2.2 k3 (by omega) with ⟨s1, s2⟩ | ⟨s1, s2, s3, s4, s5, s6, s7⟩
        · exfalso
          omega
        · have s1i := congrArg Int32.toInt s1
          exfalso
          omega
    · skip
      have chc5 := zc_eqF hc5
      try have y1 := zi_sub (x := (-10 : Int32)) (y := v4) (by omega) (by omega)
      replace f := zb_let f
      obtain ⟨v1001, hvv1001, f⟩ := f
      have bv1001 := b_183 (x0 := x1) (x1 := (0 : Int32))
      rw [hvv1001] at bv1001
      replace f := zb_if f
      rcases f with ⟨hc1002, f⟩ | ⟨hc1002, f⟩
      · skip
        have chc1002 := bv1001.mp hc1002
        replace f := zb_bind f
        obtain ⟨k1003, hk1003, f⟩ := f
        have bk1003 := zm_ix_ko hk1003
        replace f := zb_if f
        rcases f with ⟨hc1004, f⟩ | ⟨hc1004, f⟩
        · skip
          have chc1004 := zc_neT hc1004
          replace f := zb_bind f
          obtain ⟨k1005, hk1005, f⟩ := f
          have bk1005 := zm_ix_ko hk1005
          replace f := zb_let f
          obtain ⟨v1006, hvv1006, f⟩ := f
          have y1017 : 0 ≤ (g1000 120 k1005).toInt ∧ (g1000 120 k1005).toInt ≤ 40 := Inv.rd (r := 120) (c := 9) hM k1005 rfl
          try have y1018 := zi_sub (x := (g1000 120 k1005)) (y := (1 : Int32)) (by omega) (by omega)
          have bv1006 := zin_a (x1 := x2) (show (0 : Int64).toInt = 0 from by decide) (zi_i64 ((g1000 120 k1005) - 1))
          rw [hvv1006] at bv1006
          replace f := zb_if f
          rcases f with ⟨hc1007, f⟩ | ⟨hc1007, f⟩
          · skip
            have chc1007 := bv1006.mp hc1007
            replace f := zb_bind f
            obtain ⟨k1008, hk1008, f⟩ := f
            have bk1008 := zm_ix_ko hk1008
            replace f := zb_if f
            rcases f with ⟨hc1009, f⟩ | ⟨hc1009, f⟩
            · skip
              have chc1009 := zc_neT hc1009
              replace f := zb_bind f
              obtain ⟨k1010, hk1010, f⟩ := f
              have bk1010 := zm_ix_ko hk1010
              replace f := zb_if f
              rcases f with ⟨hc1011, f⟩ | ⟨hc1011, f⟩
              · skip
                have chc1011 := zc_neT hc1011
                try have y1019 := zi_mul (x := (40 : Int32)) (y := x1) (n := 40) (by decide) (by omega) (by omega)
                try have y1020 := zi_add (x := (40 * x1)) (y := x2) (by omega) (by omega)
                replace f := zb_bind f
                obtain ⟨k1013, hk1013, f⟩ := f
                have bk1013 := zm_ix_ko hk1013
                replace f := zb_let f
                obtain ⟨g1012, hg1012, f⟩ := f
                obtain rfl : k3 = k1003 := by omega
                obtain rfl : k3 = k1005 := by omega
                obtain rfl : k3 = k1008 := by omega
                obtain rfl : k3 = k1010 := by omega
                rcases hR.2.2.2.2 k3 (by omega) with ⟨s1, s2⟩ | ⟨s1, s2, s3, s4, s5, s6, s7⟩
                · exfalso
                  omega
                · have s1i := congrArg Int32.toInt s1
                  have s4i := congrArg Int32.toInt s4
                  exfalso
                  omega
              · skip
                have chc1011 := zc_neF hc1011
                try have y1021 := zi_mul (x := (40 : Int32)) (y := x1) (n := 40) (by decide) (by omega) (by omega)
                try have y1022 := zi_add (x := (40 * x1)) (y := x2) (by omega) (by omega)
                replace f := zb_bind f
                obtain ⟨k1015, hk1015, f⟩ := f
                have bk1015 := zm_ix_ko hk1015
                replace f := zb_let f
                obtain ⟨g1014, hg1014, f⟩ := f
                obtain rfl : k3 = k1003 := by omega
                obtain rfl : k3 = k1005 := by omega
                obtain rfl : k3 = k1008 := by omega
                obtain rfl : k3 = k1010 := by omega
                rcases hR.2.2.2.2 k3 (by omega) with ⟨s1, s2⟩ | ⟨s1, s2, s3, s4, s5, s6, s7⟩
                · exfalso
                  omega
                · have s1i := congrArg Int32.toInt s1
                  have s4i := congrArg Int32.toInt s4
                  exfalso
                  omega
            · skip
              have chc1009 := zc_neF hc1009
              try have y1023 := zi_mul (x := (40 : Int32)) (y := x1) (n := 40) (by decide) (by omega) (by omega)
              try have y1024 := zi_add (x := (40 * x1)) (y := x2) (by omega) (by omega)
              replace f := zb_bind f
              obtain ⟨k1017, hk1017, f⟩ := f
              have bk1017 := zm_ix_ko hk1017
              replace f := zb_let f
              obtain ⟨g1016, hg1016, f⟩ := f
              obtain rfl : k3 = k1003 := by omega
              obtain rfl : k3 = k1005 := by omega
              obtain rfl : k3 = k1008 := by omega
              rcases hR.2.2.2.2 k3 (by omega) with ⟨s1, s2⟩ | ⟨s1, s2, s3, s4, s5, s6, s7⟩
              · exfalso
                omega
              · have s1i := congrArg Int32.toInt s1
                have s4i := congrArg Int32.toInt s4
                exfalso
                omega
          · skip
            have chc1007 := zd_no bv1006 hc1007
            obtain rfl : k3 = k1003 := by omega
            obtain rfl : k3 = k1005 := by omega
            rcases hR.2.2.2.2 k3 (by omega) with ⟨s1, s2⟩ | ⟨s1, s2, s3, s4, s5, s6, s7⟩
            · skip
              first
                | (exfalso; omega)
                | (have L02 : (2 : Int32).toInt = 2 := (by decide); have w : v4 = 2 := Int32.toInt_inj.mp (by omega); obtain ⟨e1, e2⟩ := zb_r2 e; obtain ⟨f1, f2⟩ := zb_r2 f; subst e1; subst e2; subst f1; subst f2; rw [w]; exact ⟨by decide, hR⟩)
            · have s1i := congrArg Int32.toInt s1
              first
                | (exfalso; omega)
                | (have L02 : (2 : Int32).toInt = 2 := (by decide); have w : v4 = 2 := Int32.toInt_inj.mp (by omega); obtain ⟨e1, e2⟩ := zb_r2 e; obtain ⟨f1, f2⟩ := zb_r2 f; subst e1; subst e2; subst f1; subst f2; rw [w]; exact ⟨by decide, hR⟩)
        · skip
          have chc1004 := zc_neF hc1004
          obtain rfl : k3 = k1003 := by omega
          rcases hR.2.2.2.2 k3 (by omega) with ⟨s1, s2⟩ | ⟨s1, s2, s3, s4, s5, s6, s7⟩
          · skip
            first
              | (exfalso; omega)
              | (have L01 : (1 : Int32).toInt = 1 := (by decide); have w : v4 = 1 := Int32.toInt_inj.mp (by omega); obtain ⟨e1, e2⟩ := zb_r2 e; obtain ⟨f1, f2⟩ := zb_r2 f; subst e1; subst e2; subst f1; subst f2; rw [w]; exact ⟨by decide, hR⟩)
          · have s1i := congrArg Int32.toInt s1
            first
              | (exfalso; omega)
              | (have L01 : (1 : Int32).toInt = 1 := (by decide); have w : v4 = 1 := Int32.toInt_inj.mp (by omega); obtain ⟨e1, e2⟩ := zb_r2 e; obtain ⟨f1, f2⟩ := zb_r2 f; subst e1; subst e2; subst f1; subst f2; rw [w]; exact ⟨by decide, hR⟩)
      · skip
        have chc1002 := zd_no bv1001 hc1002
        rcases hR.2.2.2.2 k3 (by omega) with ⟨s1, s2⟩ | ⟨s1, s2, s3, s4, s5, s6, s7⟩
        · skip
          exfalso
          omega
        · have s1i := congrArg Int32.toInt s1
          exfalso
          omega
