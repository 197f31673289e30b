/-! the plain calls (printed by wip/tools/rel.py) -/
/-- EveningFirst.feed -/
theorem r_54 {x1 : Int32} {v v' : Int32} {g g1000 g' g1' : G} (hI : Inv g) (hM : Inv g1000) (hR : Rel g g1000) (e : d_54 x1 g = some (v, g')) (f : d_111 x1 g1000 = some (v', g1')) : v = v' ∧ Rel g' g1' := by
  unfold d_54 at e
  unfold d_111 at f
  have hN := hR.nums
  have L0 := zl_0
  have L1 := zl_1
  have L127 := zl_127
  have L160 := zl_160
  have Lm1 := zl_m1
  have Lm3 := zl_m3
  replace e := zb_if e
  rcases e with ⟨hc1, e⟩ | ⟨hc1, e⟩
  · skip
    have chc1 := zc_ltT hc1
    replace f := zb_let f
    obtain ⟨v1001, hvv1001, f⟩ := f
    have bv1001 := zin_a (x1 := x1) (show (0 : Int64).toInt = 0 from by decide) (show (127 : Int64).toInt = 127 from by decide)
    rw [hvv1001] at bv1001
    replace f := zb_if f
    rcases f with ⟨hc1002, f⟩ | ⟨hc1002, f⟩
    · skip
      have chc1002 := bv1001.mp hc1002
      have y1001 : 0 ≤ (g1000 113 14).toInt ∧ (g1000 113 14).toInt ≤ 160 := Inv.rd (r := 113) (c := 8) hM 14 rfl
      replace f := zb_if f
      rcases f with ⟨hc1003, f⟩ | ⟨hc1003, f⟩
      · skip
        have chc1003 := zc_neT hc1003
        replace f := zb_bind f
        obtain ⟨k1005, hk1005, f⟩ := f
        have bk1005 := zm_ix_ko hk1005
        replace f := zb_let f
        obtain ⟨g1004, hg1004, f⟩ := f
        have ug1004_113_14 : g1004 113 14 = g1000 113 14 := by rw [← hg1004]; exact zg_un (by omega)
        try have y1002 := zi_add (x := (g1004 113 14)) (y := (1 : Int32)) (by omega) (by omega)
        replace f := zb_let f
        obtain ⟨g1006, hg1006, f⟩ := f
        have ug1006_113_14 : g1006 113 14 = ((g1004 113 14) + 1) := by rw [← hg1006]; rfl
        exfalso
        omega
      · skip
        have chc1003 := zc_neF hc1003
        exfalso
        omega
    · skip
      have chc1002 := zd_no bv1001 hc1002
      obtain ⟨e1, e2⟩ := zb_r2 e
      obtain ⟨f1, f2⟩ := zb_r2 f
      subst e1
      subst e2
      subst f1
      subst f2
      exact ⟨rfl, hR⟩
  · skip
    have chc1 := zc_ltF hc1
    replace e := zb_if e
    rcases e with ⟨hc2, e⟩ | ⟨hc2, e⟩
    · skip
      have chc2 := zc_leT hc2
      have y1 : 0 ≤ (g 28 1).toInt ∧ (g 28 1).toInt ≤ 160 := Inv.rd (r := 28) (c := 4) hI 1 rfl
      replace e := zb_if e
      rcases e with ⟨hc3, e⟩ | ⟨hc3, e⟩
      · skip
        have chc3 := zc_ltT hc3
        replace e := zb_bind e
        obtain ⟨k5, hk5, e⟩ := e
        have bk5 := zm_ix_ko hk5
        replace e := zb_let e
        obtain ⟨g4, hg4, e⟩ := e
        have ug4_28_1 : g4 28 1 = g 28 1 := by rw [← hg4]; exact zg_un (by omega)
        try have y2 := zi_add (x := (g4 28 1)) (y := (1 : Int32)) (by omega) (by omega)
        replace e := zb_let e
        obtain ⟨g6, hg6, e⟩ := e
        have ug6_28_1 : g6 28 1 = ((g4 28 1) + 1) := by rw [← hg6]; rfl
        replace f := zb_let f
        obtain ⟨v1001, hvv1001, f⟩ := f
        have bv1001 := zin_a (x1 := x1) (show (0 : Int64).toInt = 0 from by decide) (show (127 : Int64).toInt = 127 from by decide)
        rw [hvv1001] at bv1001
        replace f := zb_if f
        rcases f with ⟨hc1002, f⟩ | ⟨hc1002, f⟩
        · skip
          have chc1002 := bv1001.mp hc1002
          have y1003 : 0 ≤ (g1000 113 14).toInt ∧ (g1000 113 14).toInt ≤ 160 := Inv.rd (r := 113) (c := 8) hM 14 rfl
          replace f := zb_if f
          rcases f with ⟨hc1003, f⟩ | ⟨hc1003, f⟩
          · skip
            have chc1003 := zc_neT hc1003
            replace f := zb_bind f
            obtain ⟨k1005, hk1005, f⟩ := f
            have bk1005 := zm_ix_ko hk1005
            replace f := zb_let f
            obtain ⟨g1004, hg1004, f⟩ := f
            have ug1004_113_14 : g1004 113 14 = g1000 113 14 := by rw [← hg1004]; exact zg_un (by omega)
            try have y1004 := zi_add (x := (g1004 113 14)) (y := (1 : Int32)) (by omega) (by omega)
            replace f := zb_let f
            obtain ⟨g1006, hg1006, f⟩ := f
            have ug1006_113_14 : g1006 113 14 = ((g1004 113 14) + 1) := by rw [← hg1006]; rfl
            obtain rfl : k5 = k1005 := by omega
            obtain ⟨e1, e2⟩ := zb_r2 e
            obtain ⟨f1, f2⟩ := zb_r2 f
            subst e1
            subst e2
            subst f1
            subst f2
            have z := zi_b7 (x := x1) (by omega)
            rw [z] at hg4
            have hy := zi_add (x := g 28 1) (y := 1) (by omega) (by omega)
            have a1 : g6 28 1 = g 28 1 + 1 := by rw [← hg6, ← hg4]; rfl
            have a2 : g1006 113 14 = g1000 113 14 + 1 := by rw [← hg1006, ← hg1004]; rfl
            have a3 := hR.1.1
            refine ⟨by rw [a1, a2, a3], ?_⟩
            have b1 : g6 = zg_up (zg_up g 29 k5 x1) 28 1 (g 28 1 + 1) := by rw [← hg6, ← hg4]; rfl
            have b2 : g1006 = zg_up (zg_up g1000 117 k5 x1) 113 14 (g 28 1 + 1) := by rw [a3, ← hg1006, ← hg1004]; rfl
            rw [b1, b2]
            exact hR.feed (by omega) (by omega) (by omega) (by omega)
          · skip
            have chc1003 := zc_neF hc1003
            exfalso
            omega
        · skip
          have chc1002 := zd_no bv1001 hc1002
          exfalso
          omega
      · skip
        have chc3 := zc_ltF hc3
        replace f := zb_let f
        obtain ⟨v1001, hvv1001, f⟩ := f
        have bv1001 := zin_a (x1 := x1) (show (0 : Int64).toInt = 0 from by decide) (show (127 : Int64).toInt = 127 from by decide)
        rw [hvv1001] at bv1001
        replace f := zb_if f
        rcases f with ⟨hc1002, f⟩ | ⟨hc1002, f⟩
        · skip
          have chc1002 := bv1001.mp hc1002
          have y1005 : 0 ≤ (g1000 113 14).toInt ∧ (g1000 113 14).toInt ≤ 160 := Inv.rd (r := 113) (c := 8) hM 14 rfl
          replace f := zb_if f
          rcases f with ⟨hc1003, f⟩ | ⟨hc1003, f⟩
          · skip
            have chc1003 := zc_neT hc1003
            replace f := zb_bind f
            obtain ⟨k1005, hk1005, f⟩ := f
            have bk1005 := zm_ix_ko hk1005
            replace f := zb_let f
            obtain ⟨g1004, hg1004, f⟩ := f
            have ug1004_113_14 : g1004 113 14 = g1000 113 14 := by rw [← hg1004]; exact zg_un (by omega)
            try have y1006 := zi_add (x := (g1004 113 14)) (y := (1 : Int32)) (by omega) (by omega)
            replace f := zb_let f
            obtain ⟨g1006, hg1006, f⟩ := f
            have ug1006_113_14 : g1006 113 14 = ((g1004 113 14) + 1) := by rw [← hg1006]; rfl
            exfalso
            omega
          · skip
            have chc1003 := zc_neF hc1003
            obtain ⟨e1, e2⟩ := zb_r2 e
            obtain ⟨f1, f2⟩ := zb_r2 f
            subst e1
            subst e2
            subst f1
            subst f2
            exact ⟨rfl, hR⟩
        · skip
          have chc1002 := zd_no bv1001 hc1002
          exfalso
          omega
    · skip
      have chc2 := zc_leF hc2
      replace f := zb_let f
      obtain ⟨v1001, hvv1001, f⟩ := f
      have bv1001 := zin_a (x1 := x1) (show (0 : Int64).toInt = 0 from by decide) (show (127 : Int64).toInt = 127 from by decide)
      rw [hvv1001] at bv1001
      replace f := zb_if f
      rcases f with ⟨hc1002, f⟩ | ⟨hc1002, f⟩
      · skip
        have chc1002 := bv1001.mp hc1002
        have y1007 : 0 ≤ (g1000 113 14).toInt ∧ (g1000 113 14).toInt ≤ 160 := Inv.rd (r := 113) (c := 8) hM 14 rfl
        replace f := zb_if f
        rcases f with ⟨hc1003, f⟩ | ⟨hc1003, f⟩
        · skip
          have chc1003 := zc_neT hc1003
          replace f := zb_bind f
          obtain ⟨k1005, hk1005, f⟩ := f
          have bk1005 := zm_ix_ko hk1005
          replace f := zb_let f
          obtain ⟨g1004, hg1004, f⟩ := f
          have ug1004_113_14 : g1004 113 14 = g1000 113 14 := by rw [← hg1004]; exact zg_un (by omega)
          try have y1008 := zi_add (x := (g1004 113 14)) (y := (1 : Int32)) (by omega) (by omega)
          replace f := zb_let f
          obtain ⟨g1006, hg1006, f⟩ := f
          have ug1006_113_14 : g1006 113 14 = ((g1004 113 14) + 1) := by rw [← hg1006]; rfl
          exfalso
          omega
        · skip
          have chc1003 := zc_neF hc1003
          exfalso
          omega
      · skip
        have chc1002 := zd_no bv1001 hc1002
        obtain ⟨e1, e2⟩ := zb_r2 e
        obtain ⟨f1, f2⟩ := zb_r2 f
        subst e1
        subst e2
        subst f1
        subst f2
        exact ⟨rfl, hR⟩
/-- EveningFirst.end -/
theorem r_55 {x1 : Int32} {v v' : Int32} {g g1000 g' g1' : G} (hI : Inv g) (hM : Inv g1000) (hR : Rel g g1000) (e : d_55 x1 g = (v, g')) (f : d_112 x1 g1000 = (v', g1')) : v = v' ∧ Rel g' g1' := by
  unfold d_55 at e
  unfold d_112 at f
  have hN := hR.nums
  have L0 := zl_0
  have Lm1 := zl_m1
  replace e := zb_if e
  rcases e with ⟨hc1, e⟩ | ⟨hc1, e⟩
  · skip
    have chc1 := zc_ltT hc1
    replace f := zb_let f
    obtain ⟨v1001, hvv1001, f⟩ := f
    have y1001 : 0 ≤ (g1000 113 14).toInt ∧ (g1000 113 14).toInt ≤ 160 := Inv.rd (r := 113) (c := 8) hM 14 rfl
    have bv1001 := zin_a (x1 := x1) (show (0 : Int64).toInt = 0 from by decide) (zi_i64 (g1000 113 14))
    rw [hvv1001] at bv1001
    replace f := zb_if f
    rcases f with ⟨hc1002, f⟩ | ⟨hc1002, f⟩
    · skip
      have chc1002 := bv1001.mp hc1002
      replace f := zb_let f
      obtain ⟨g1003, hg1003, f⟩ := f
      exfalso
      omega
    · skip
      have chc1002 := zd_no bv1001 hc1002
      obtain ⟨e1, e2⟩ := zb_q2 e
      obtain ⟨f1, f2⟩ := zb_q2 f
      subst e1
      subst e2
      subst f1
      subst f2
      exact ⟨rfl, hR⟩
  · skip
    have chc1 := zc_ltF hc1
    have y1 : 0 ≤ (g 28 1).toInt ∧ (g 28 1).toInt ≤ 160 := Inv.rd (r := 28) (c := 4) hI 1 rfl
    replace e := zb_if e
    rcases e with ⟨hc2, e⟩ | ⟨hc2, e⟩
    · skip
      have chc2 := zc_leT hc2
      replace e := zb_let e
      obtain ⟨g3, hg3, e⟩ := e
      replace f := zb_let f
      obtain ⟨v1001, hvv1001, f⟩ := f
      have y1002 : 0 ≤ (g1000 113 14).toInt ∧ (g1000 113 14).toInt ≤ 160 := Inv.rd (r := 113) (c := 8) hM 14 rfl
      have bv1001 := zin_a (x1 := x1) (show (0 : Int64).toInt = 0 from by decide) (zi_i64 (g1000 113 14))
      rw [hvv1001] at bv1001
      replace f := zb_if f
      rcases f with ⟨hc1002, f⟩ | ⟨hc1002, f⟩
      · skip
        have chc1002 := bv1001.mp hc1002
        replace f := zb_let f
        obtain ⟨g1003, hg1003, f⟩ := f
        obtain ⟨e1, e2⟩ := zb_q2 e
        obtain ⟨f1, f2⟩ := zb_q2 f
        subst e1
        subst e2
        subst f1
        subst f2
        subst hg3
        subst hg1003
        exact ⟨hR.1.1, hR.len (by omega)⟩
      · skip
        have chc1002 := zd_no bv1001 hc1002
        exfalso
        omega
    · skip
      have chc2 := zc_leF hc2
      replace f := zb_let f
      obtain ⟨v1001, hvv1001, f⟩ := f
      have y1003 : 0 ≤ (g1000 113 14).toInt ∧ (g1000 113 14).toInt ≤ 160 := Inv.rd (r := 113) (c := 8) hM 14 rfl
      have bv1001 := zin_a (x1 := x1) (show (0 : Int64).toInt = 0 from by decide) (zi_i64 (g1000 113 14))
      rw [hvv1001] at bv1001
      replace f := zb_if f
      rcases f with ⟨hc1002, f⟩ | ⟨hc1002, f⟩
      · skip
        have chc1002 := bv1001.mp hc1002
        replace f := zb_let f
        obtain ⟨g1003, hg1003, f⟩ := f
        exfalso
        omega
      · skip
        have chc1002 := zd_no bv1001 hc1002
        obtain ⟨e1, e2⟩ := zb_q2 e
        obtain ⟨f1, f2⟩ := zb_q2 f
        subst e1
        subst e2
        subst f1
        subst f2
        exact ⟨rfl, hR⟩
/-- EveningFirst.go -/
theorem r_61 {x1 : Int32} {x2 : Int32} {v v' : Int32} {g g1000 g' g1' : G} (hI : Inv g) (hM : Inv g1000) (hR : Rel g g1000) (e : d_61 x1 x2 g = some (v, g')) (f : d_143 x1 x2 g1000 = some (v', g1')) : v = v' ∧ Rel g' g1' := by
  unfold d_61 at e
  unfold d_143 at f
  have hN := hR.nums
  have L0 := zl_0
  have L1 := zl_1
  have L3 := zl_3
  have Lm1 := zl_m1
  replace e := zb_let e
  obtain ⟨v1, hvv1, e⟩ := e
  have bv1 := b_18 (r0 := 1) (x1 := x1) (g := g)
  rw [hvv1] at bv1
  replace e := zb_if e
  rcases e with ⟨hc2, e⟩ | ⟨hc2, e⟩
  · skip
    have chc2 := bv1.mp hc2
    replace e := zb_if e
    rcases e with ⟨hc3, e⟩ | ⟨hc3, e⟩
    · skip
      have chc3 := zc_ltT hc3
      replace f := zb_let f
      obtain ⟨v1001, hvv1001, f⟩ := f
      have bv1001 := b_131 (x1 := x1) (g := g1000) (by omega)
      rw [hvv1001] at bv1001
      replace f := zb_if f
      rcases f with ⟨hc1002, f⟩ | ⟨hc1002, f⟩
      · skip
        have chc1002 := bv1001.mp hc1002
        replace f := zb_let f
        obtain ⟨v1003, hvv1003, f⟩ := f
        have bv1003 := zin_a (x1 := x2) (show (0 : Int64).toInt = 0 from by decide) (show (2 : Int64).toInt = 2 from by decide)
        rw [hvv1003] at bv1003
        replace f := zb_if f
        rcases f with ⟨hc1004, f⟩ | ⟨hc1004, f⟩
        · skip
          have chc1004 := bv1003.mp hc1004
          try have y1001 := zi_add (x := (0 : Int32)) (y := x1) (by omega) (by omega)
          replace f := zb_bpair f
          obtain ⟨v1005, g1006, hvv1005, f⟩ := f
          exfalso
          omega
        · skip
          have chc1004 := zd_no bv1003 hc1004
          obtain ⟨e1, e2⟩ := zb_r2 e
          obtain ⟨f1, f2⟩ := zb_r2 f
          subst e1
          subst e2
          subst f1
          subst f2
          exact ⟨rfl, hR⟩
      · skip
        have chc1002 := zd_no bv1001 hc1002
        obtain ⟨e1, e2⟩ := zb_r2 e
        obtain ⟨f1, f2⟩ := zb_r2 f
        subst e1
        subst e2
        subst f1
        subst f2
        exact ⟨rfl, hR⟩
    · skip
      have chc3 := zc_ltF hc3
      replace e := zb_if e
      rcases e with ⟨hc4, e⟩ | ⟨hc4, e⟩
      · skip
        have chc4 := zc_ltT hc4
        replace e := zb_bind e
        obtain ⟨k5, hk5, e⟩ := e
        have bk5 := zm_ix_ko hk5
        replace e := zb_bind e
        obtain ⟨k6, hk6, e⟩ := e
        have bk6 := zm_ix_ko hk6
        replace e := zb_let e
        obtain ⟨g7, hg7, e⟩ := e
        replace f := zb_let f
        obtain ⟨v1001, hvv1001, f⟩ := f
        have bv1001 := b_131 (x1 := x1) (g := g1000) (by omega)
        rw [hvv1001] at bv1001
        replace f := zb_if f
        rcases f with ⟨hc1002, f⟩ | ⟨hc1002, f⟩
        · skip
          have chc1002 := bv1001.mp hc1002
          replace f := zb_let f
          obtain ⟨v1003, hvv1003, f⟩ := f
          have bv1003 := zin_a (x1 := x2) (show (0 : Int64).toInt = 0 from by decide) (show (2 : Int64).toInt = 2 from by decide)
          rw [hvv1003] at bv1003
          replace f := zb_if f
          rcases f with ⟨hc1004, f⟩ | ⟨hc1004, f⟩
          · skip
            have chc1004 := bv1003.mp hc1004
            try have y1002 := zi_add (x := (0 : Int32)) (y := x1) (by omega) (by omega)
            replace f := zb_bpair f
            obtain ⟨v1005, g1006, hvv1005, f⟩ := f
            obtain rfl : k5 = k6 := by omega
            obtain ⟨m1, m2⟩ := t_142 (n := k5) (by omega) hvv1005
            obtain ⟨e1, e2⟩ := zb_r2 e
            obtain ⟨f1, f2⟩ := zb_r2 f
            subst e1
            subst e2
            subst f1
            subst f2
            subst hg7
            subst m2
            refine ⟨?_, hR.up1 (p := k5) (j := 0) (by omega) (by omega) (by omega) ⟨fun _ => by omega, fun _ => by omega⟩⟩
            rw [m1]
            exact (hR.ones (p := k5) (by omega)).1
          · skip
            have chc1004 := zd_no bv1003 hc1004
            exfalso
            omega
        · skip
          have chc1002 := zd_no bv1001 hc1002
          exfalso
          omega
      · skip
        have chc4 := zc_ltF hc4
        replace f := zb_let f
        obtain ⟨v1001, hvv1001, f⟩ := f
        have bv1001 := b_131 (x1 := x1) (g := g1000) (by omega)
        rw [hvv1001] at bv1001
        replace f := zb_if f
        rcases f with ⟨hc1002, f⟩ | ⟨hc1002, f⟩
        · skip
          have chc1002 := bv1001.mp hc1002
          replace f := zb_let f
          obtain ⟨v1003, hvv1003, f⟩ := f
          have bv1003 := zin_a (x1 := x2) (show (0 : Int64).toInt = 0 from by decide) (show (2 : Int64).toInt = 2 from by decide)
          rw [hvv1003] at bv1003
          replace f := zb_if f
          rcases f with ⟨hc1004, f⟩ | ⟨hc1004, f⟩
          · skip
            have chc1004 := bv1003.mp hc1004
            try have y1003 := zi_add (x := (0 : Int32)) (y := x1) (by omega) (by omega)
            replace f := zb_bpair f
            obtain ⟨v1005, g1006, hvv1005, f⟩ := f
            exfalso
            omega
          · skip
            have chc1004 := zd_no bv1003 hc1004
            obtain ⟨e1, e2⟩ := zb_r2 e
            obtain ⟨f1, f2⟩ := zb_r2 f
            subst e1
            subst e2
            subst f1
            subst f2
            exact ⟨rfl, hR⟩
        · skip
          have chc1002 := zd_no bv1001 hc1002
          obtain ⟨e1, e2⟩ := zb_r2 e
          obtain ⟨f1, f2⟩ := zb_r2 f
          subst e1
          subst e2
          subst f1
          subst f2
          exact ⟨rfl, hR⟩
  · skip
    have chc2 := zd_no bv1 hc2
    replace f := zb_let f
    obtain ⟨v1001, hvv1001, f⟩ := f
    have bv1001 := b_131 (x1 := x1) (g := g1000) (by omega)
    rw [hvv1001] at bv1001
    replace f := zb_if f
    rcases f with ⟨hc1002, f⟩ | ⟨hc1002, f⟩
    · skip
      have chc1002 := bv1001.mp hc1002
      replace f := zb_let f
      obtain ⟨v1003, hvv1003, f⟩ := f
      have bv1003 := zin_a (x1 := x2) (show (0 : Int64).toInt = 0 from by decide) (show (2 : Int64).toInt = 2 from by decide)
      rw [hvv1003] at bv1003
      replace f := zb_if f
      rcases f with ⟨hc1004, f⟩ | ⟨hc1004, f⟩
      · skip
        have chc1004 := bv1003.mp hc1004
        try have y1004 := zi_add (x := (0 : Int32)) (y := x1) (by omega) (by omega)
        replace f := zb_bpair f
        obtain ⟨v1005, g1006, hvv1005, f⟩ := f
        exfalso
        omega
      · skip
        have chc1004 := zd_no bv1003 hc1004
        obtain ⟨e1, e2⟩ := zb_r2 e
        obtain ⟨f1, f2⟩ := zb_r2 f
        subst e1
        subst e2
        subst f1
        subst f2
        exact ⟨rfl, hR⟩
    · skip
      have chc1002 := zd_no bv1001 hc1002
      obtain ⟨e1, e2⟩ := zb_r2 e
      obtain ⟨f1, f2⟩ := zb_r2 f
      subst e1
      subst e2
      subst f1
      subst f2
      exact ⟨rfl, hR⟩
/-- EveningFirst.birth -/
theorem r_62 {x1 : Int32} {x2 : Int32} {v v' : Int32} {g g1000 g' g1' : G} (hI : Inv g) (hM : Inv g1000) (hR : Rel g g1000) (e : d_62 x1 x2 g = some (v, g')) (f : d_145 x1 x2 g1000 = some (v', g1')) : v = v' ∧ Rel g' g1' := by
  unfold d_62 at e
  unfold d_145 at f
  have hN := hR.nums
  have L1 := zl_1
  have L4 := zl_4
  have Lm1 := zl_m1
  replace e := zb_let e
  obtain ⟨v1, hvv1, e⟩ := e
  have bv1 := b_18 (r0 := 1) (x1 := x1) (g := g)
  rw [hvv1] at bv1
  replace e := zb_if e
  rcases e with ⟨hc2, e⟩ | ⟨hc2, e⟩
  · skip
    have chc2 := bv1.mp hc2
    replace e := zb_let e
    obtain ⟨v3, hvv3, e⟩ := e
    have bv3 := b_92 (x0 := x2)
    rw [hvv3] at bv3
    replace e := zb_if e
    rcases e with ⟨hc4, e⟩ | ⟨hc4, e⟩
    · skip
      have chc4 := bv3.mp hc4
      replace e := zb_bind e
      obtain ⟨k5, hk5, e⟩ := e
      have bk5 := zm_ix_ko hk5
      replace e := zb_bind e
      obtain ⟨k6, hk6, e⟩ := e
      have bk6 := zm_ix_ko hk6
      replace e := zb_let e
      obtain ⟨g7, hg7, e⟩ := e
      replace f := zb_let f
      obtain ⟨v1001, hvv1001, f⟩ := f
      have bv1001 := b_131 (x1 := x1) (g := g1000) (by omega)
      rw [hvv1001] at bv1001
      replace f := zb_if f
      rcases f with ⟨hc1002, f⟩ | ⟨hc1002, f⟩
      · skip
        have chc1002 := bv1001.mp hc1002
        replace f := zb_let f
        obtain ⟨v1003, hvv1003, f⟩ := f
        have bv1003 := b_144 (x0 := x2)
        rw [hvv1003] at bv1003
        replace f := zb_if f
        rcases f with ⟨hc1004, f⟩ | ⟨hc1004, f⟩
        · skip
          have chc1004 := bv1003.mp hc1004
          try have y1001 := zi_add (x := (4 : Int32)) (y := x1) (by omega) (by omega)
          replace f := zb_bpair f
          obtain ⟨v1005, g1006, hvv1005, f⟩ := f
          obtain rfl : k5 = k6 := by omega
          obtain ⟨m1, m2⟩ := t_142 (n := 4 + k5) (by omega) hvv1005
          obtain ⟨e1, e2⟩ := zb_r2 e
          obtain ⟨f1, f2⟩ := zb_r2 f
          subst e1
          subst e2
          subst f1
          subst f2
          subst hg7
          subst m2
          refine ⟨?_, hR.up1 (p := k5) (j := 1) (by omega) (by omega) (by omega) ⟨fun _ => by omega, fun _ => by omega⟩⟩
          rw [m1]
          exact (hR.ones (p := k5) (by omega)).2
        · skip
          have chc1004 := zd_no bv1003 hc1004
          exfalso
          omega
      · skip
        have chc1002 := zd_no bv1001 hc1002
        exfalso
        omega
    · skip
      have chc4 := zd_no bv3 hc4
      replace f := zb_let f
      obtain ⟨v1001, hvv1001, f⟩ := f
      have bv1001 := b_131 (x1 := x1) (g := g1000) (by omega)
      rw [hvv1001] at bv1001
      replace f := zb_if f
      rcases f with ⟨hc1002, f⟩ | ⟨hc1002, f⟩
      · skip
        have chc1002 := bv1001.mp hc1002
        replace f := zb_let f
        obtain ⟨v1003, hvv1003, f⟩ := f
        have bv1003 := b_144 (x0 := x2)
        rw [hvv1003] at bv1003
        replace f := zb_if f
        rcases f with ⟨hc1004, f⟩ | ⟨hc1004, f⟩
        · skip
          have chc1004 := bv1003.mp hc1004
          try have y1002 := zi_add (x := (4 : Int32)) (y := x1) (by omega) (by omega)
          replace f := zb_bpair f
          obtain ⟨v1005, g1006, hvv1005, f⟩ := f
          exfalso
          omega
        · skip
          have chc1004 := zd_no bv1003 hc1004
          obtain ⟨e1, e2⟩ := zb_r2 e
          obtain ⟨f1, f2⟩ := zb_r2 f
          subst e1
          subst e2
          subst f1
          subst f2
          exact ⟨rfl, hR⟩
      · skip
        have chc1002 := zd_no bv1001 hc1002
        obtain ⟨e1, e2⟩ := zb_r2 e
        obtain ⟨f1, f2⟩ := zb_r2 f
        subst e1
        subst e2
        subst f1
        subst f2
        exact ⟨rfl, hR⟩
  · skip
    have chc2 := zd_no bv1 hc2
    replace f := zb_let f
    obtain ⟨v1001, hvv1001, f⟩ := f
    have bv1001 := b_131 (x1 := x1) (g := g1000) (by omega)
    rw [hvv1001] at bv1001
    replace f := zb_if f
    rcases f with ⟨hc1002, f⟩ | ⟨hc1002, f⟩
    · skip
      have chc1002 := bv1001.mp hc1002
      replace f := zb_let f
      obtain ⟨v1003, hvv1003, f⟩ := f
      have bv1003 := b_144 (x0 := x2)
      rw [hvv1003] at bv1003
      replace f := zb_if f
      rcases f with ⟨hc1004, f⟩ | ⟨hc1004, f⟩
      · skip
        have chc1004 := bv1003.mp hc1004
        try have y1003 := zi_add (x := (4 : Int32)) (y := x1) (by omega) (by omega)
        replace f := zb_bpair f
        obtain ⟨v1005, g1006, hvv1005, f⟩ := f
        exfalso
        omega
      · skip
        have chc1004 := zd_no bv1003 hc1004
        obtain ⟨e1, e2⟩ := zb_r2 e
        obtain ⟨f1, f2⟩ := zb_r2 f
        subst e1
        subst e2
        subst f1
        subst f2
        exact ⟨rfl, hR⟩
    · skip
      have chc1002 := zd_no bv1001 hc1002
      obtain ⟨e1, e2⟩ := zb_r2 e
      obtain ⟨f1, f2⟩ := zb_r2 f
      subst e1
      subst e2
      subst f1
      subst f2
      exact ⟨rfl, hR⟩
/-- EveningFirst.does -/
theorem r_63 {x1 : Int32} {x2 : Int32} {x3 : Int32} {x4 : Int32} {x5 : Int32} {v v' : Int32} {g g1000 g' g1' : G} (hI : Inv g) (hM : Inv g1000) (hR : Rel g g1000) (e : d_63 x1 x2 x3 x4 x5 g = some (v, g')) (f : d_146 x1 x2 x3 x4 x5 g1000 = some (v', g1')) : v = v' ∧ Rel g' g1' := by
  unfold d_63 at e
  unfold d_146 at f
  have hN := hR.nums
  have L0 := zl_0
  have L1 := zl_1
  have L10 := zl_10
  have L2 := zl_2
  have L3 := zl_3
  have L4 := zl_4
  have L5 := zl_5
  have L6 := zl_6
  have L7 := zl_7
  have L8 := zl_8
  have L9 := zl_9
  have Lm1 := zl_m1
  have Lm3 := zl_m3
  replace e := zb_let e
  obtain ⟨v1, hvv1, e⟩ := e
  have bv1 := b_19 (r0 := 1) (x1 := x1) (g := g)
  rw [hvv1] at bv1
  replace e := zb_if e
  rcases e with ⟨hc2, e⟩ | ⟨hc2, e⟩
  · skip
    have chc2 := bv1.mp hc2
    replace e := zb_let e
    obtain ⟨v3, hvv3, e⟩ := e
    have bv3 := b_18 (r0 := 1) (x1 := x2) (g := g)
    rw [hvv3] at bv3
    replace e := zb_if e
    rcases e with ⟨hc4, e⟩ | ⟨hc4, e⟩
    · skip
      have chc4 := bv3.mp hc4
      replace e := zb_let e
      obtain ⟨v5, hvv5, e⟩ := e
      have bv5 := b_18 (r0 := 1) (x1 := x3) (g := g)
      rw [hvv5] at bv5
      replace e := zb_if e
      rcases e with ⟨hc6, e⟩ | ⟨hc6, e⟩
      · skip
        have chc6 := bv5.mp hc6
        replace e := zb_let e
        obtain ⟨v7, hvv7, e⟩ := e
        have bv7 := b_91 (x0 := x4)
        rw [hvv7] at bv7
        replace e := zb_if e
        rcases e with ⟨hc8, e⟩ | ⟨hc8, e⟩
        · skip
          have chc8 := bv7.mp hc8
          replace e := zb_let e
          obtain ⟨v9, hvv9, e⟩ := e
          have bv9 := b_92 (x0 := x5)
          rw [hvv9] at bv9
          replace e := zb_if e
          rcases e with ⟨hc10, e⟩ | ⟨hc10, e⟩
          · skip
            have chc10 := bv9.mp hc10
            have y1 : 0 ≤ (g 1 2).toInt ∧ (g 1 2).toInt ≤ 8 := Inv.rd (r := 1) (c := 2) hI 2 rfl
            replace e := zb_if e
            rcases e with ⟨hc11, e⟩ | ⟨hc11, e⟩
            · skip
              have chc11 := zc_ltT hc11
              replace e := zb_bind e
              obtain ⟨k12, hk12, e⟩ := e
              have bk12 := zm_ix_ko hk12
              replace e := zb_let e
              obtain ⟨g13, hg13, e⟩ := e
              replace e := zb_let e
              obtain ⟨g14, hg14, e⟩ := e
              replace e := zb_let e
              obtain ⟨g15, hg15, e⟩ := e
              replace e := zb_let e
              obtain ⟨g16, hg16, e⟩ := e
              replace e := zb_let e
              obtain ⟨g17, hg17, e⟩ := e
              replace e := zb_let e
              obtain ⟨g18, hg18, e⟩ := e
              replace e := zb_let e
              obtain ⟨g19, hg19, e⟩ := e
              have ug19_1_2 : g19 1 2 = g18 1 2 := by rw [← hg19]; exact zg_un (by omega)
              try have y2 := zi_add (x := (g19 1 2)) (y := (1 : Int32)) (by omega) (by omega)
              replace e := zb_let e
              obtain ⟨g20, hg20, e⟩ := e
              have ug20_1_2 : g20 1 2 = ((g19 1 2) + 1) := by rw [← hg20]; rfl
              replace f := zb_let f
              obtain ⟨v1001, hvv1001, f⟩ := f
              have bv1001 := b_133 (x1 := x1) (g := g1000) (by omega)
              rw [hvv1001] at bv1001
              replace f := zb_if f
              rcases f with ⟨hc1002, f⟩ | ⟨hc1002, f⟩
              · skip
                have chc1002 := bv1001.mp hc1002
                replace f := zb_let f
                obtain ⟨v1003, hvv1003, f⟩ := f
                have bv1003 := b_131 (x1 := x2) (g := g1000) (by omega)
                rw [hvv1003] at bv1003
                replace f := zb_if f
                rcases f with ⟨hc1004, f⟩ | ⟨hc1004, f⟩
                · skip
                  have chc1004 := bv1003.mp hc1004
                  replace f := zb_let f
                  obtain ⟨v1005, hvv1005, f⟩ := f
                  have bv1005 := b_131 (x1 := x3) (g := g1000) (by omega)
                  rw [hvv1005] at bv1005
                  replace f := zb_if f
                  rcases f with ⟨hc1006, f⟩ | ⟨hc1006, f⟩
                  · skip
                    have chc1006 := bv1005.mp hc1006
                    replace f := zb_let f
                    obtain ⟨v1007, hvv1007, f⟩ := f
                    have bv1007 := b_134 (x0 := x4)
                    rw [hvv1007] at bv1007
                    replace f := zb_if f
                    rcases f with ⟨hc1008, f⟩ | ⟨hc1008, f⟩
                    · skip
                      have chc1008 := bv1007.mp hc1008
                      replace f := zb_let f
                      obtain ⟨v1009, hvv1009, f⟩ := f
                      have bv1009 := b_144 (x0 := x5)
                      rw [hvv1009] at bv1009
                      replace f := zb_if f
                      rcases f with ⟨hc1010, f⟩ | ⟨hc1010, f⟩
                      · skip
                        have chc1010 := bv1009.mp hc1010
                        have y1001 := hM.m8
                        replace f := zb_if f
                        rcases f with ⟨hc1011, f⟩ | ⟨hc1011, f⟩
                        · skip
                          have chc1011 := zc_neT hc1011
                          try have y1002 := zi_mul (x := (7 : Int32)) (y := (g1000 114 8)) (n := 7) (by decide) (by omega) (by omega)
                          try have y1003 := zi_add (x := (9 : Int32)) (y := (7 * (g1000 114 8))) (by omega) (by omega)
                          try have y1004 := zi_add (x := (9 + (7 * (g1000 114 8)))) (y := (0 : Int32)) (by omega) (by omega)
                          replace f := zb_bind f
                          obtain ⟨k1013, hk1013, f⟩ := f
                          have bk1013 := zm_ix_ko hk1013
                          replace f := zb_let f
                          obtain ⟨g1012, hg1012, f⟩ := f
                          try have y1005 := zi_add (x := (9 + (7 * (g1000 114 8)))) (y := (1 : Int32)) (by omega) (by omega)
                          replace f := zb_bind f
                          obtain ⟨k1015, hk1015, f⟩ := f
                          have bk1015 := zm_ix_ko hk1015
                          replace f := zb_let f
                          obtain ⟨g1014, hg1014, f⟩ := f
                          try have y1006 := zi_add (x := (9 + (7 * (g1000 114 8)))) (y := (2 : Int32)) (by omega) (by omega)
                          replace f := zb_bind f
                          obtain ⟨k1017, hk1017, f⟩ := f
                          have bk1017 := zm_ix_ko hk1017
                          replace f := zb_let f
                          obtain ⟨g1016, hg1016, f⟩ := f
                          try have y1007 := zi_add (x := (9 + (7 * (g1000 114 8)))) (y := (3 : Int32)) (by omega) (by omega)
                          replace f := zb_bind f
                          obtain ⟨k1019, hk1019, f⟩ := f
                          have bk1019 := zm_ix_ko hk1019
                          replace f := zb_let f
                          obtain ⟨g1018, hg1018, f⟩ := f
                          try have y1008 := zi_add (x := (9 + (7 * (g1000 114 8)))) (y := (4 : Int32)) (by omega) (by omega)
                          replace f := zb_bind f
                          obtain ⟨k1021, hk1021, f⟩ := f
                          have bk1021 := zm_ix_ko hk1021
                          replace f := zb_let f
                          obtain ⟨g1020, hg1020, f⟩ := f
                          try have y1009 := zi_add (x := (9 + (7 * (g1000 114 8)))) (y := (5 : Int32)) (by omega) (by omega)
                          replace f := zb_bind f
                          obtain ⟨k1023, hk1023, f⟩ := f
                          have bk1023 := zm_ix_ko hk1023
                          replace f := zb_let f
                          obtain ⟨g1022, hg1022, f⟩ := f
                          try have y1010 := zi_add (x := (9 + (7 * (g1000 114 8)))) (y := (6 : Int32)) (by omega) (by omega)
                          replace f := zb_bind f
                          obtain ⟨k1025, hk1025, f⟩ := f
                          have bk1025 := zm_ix_ko hk1025
                          replace f := zb_let f
                          obtain ⟨g1024, hg1024, f⟩ := f
                          have ug1024_114_8 : g1024 114 8 = g1022 114 8 := by rw [← hg1024]; exact zg_un (by omega)
                          try have y1011 := zi_add (x := (g1024 114 8)) (y := (1 : Int32)) (by omega) (by omega)
                          replace f := zb_let f
                          obtain ⟨g1026, hg1026, f⟩ := f
                          have ug1026_114_8 : g1026 114 8 = ((g1024 114 8) + 1) := by rw [← hg1026]; rfl
                          obtain rfl : k1013 = 9 + 7 * k12 + 0 := by omega
                          obtain rfl : k1015 = 9 + 7 * k12 + 1 := by omega
                          obtain rfl : k1017 = 9 + 7 * k12 + 2 := by omega
                          obtain rfl : k1019 = 9 + 7 * k12 + 3 := by omega
                          obtain rfl : k1021 = 9 + 7 * k12 + 4 := by omega
                          obtain rfl : k1023 = 9 + 7 * k12 + 5 := by omega
                          obtain rfl : k1025 = 9 + 7 * k12 + 6 := by omega
                          have C0 : g20 (9 + k12) 0 = x1 := ((zg_fr hg20 (9 + k12) 0 (by omega)).trans ((zg_fr hg19 (9 + k12) 0 (by omega)).trans ((zg_fr hg18 (9 + k12) 0 (by omega)).trans ((zg_fr hg17 (9 + k12) 0 (by omega)).trans ((zg_fr hg16 (9 + k12) 0 (by omega)).trans ((zg_fr hg15 (9 + k12) 0 (by omega)).trans ((zg_fr hg14 (9 + k12) 0 (by omega)).trans (show g13 (9 + k12) 0 = x1 by rw [← hg13]; exact zg_ue))))))))
                          have M0 : g1026 114 (9 + 7 * k12 + 0) = x1 := ((zg_fr hg1026 114 (9 + 7 * k12 + 0) (by omega)).trans ((zg_fr hg1024 114 (9 + 7 * k12 + 0) (by omega)).trans ((zg_fr hg1022 114 (9 + 7 * k12 + 0) (by omega)).trans ((zg_fr hg1020 114 (9 + 7 * k12 + 0) (by omega)).trans ((zg_fr hg1018 114 (9 + 7 * k12 + 0) (by omega)).trans ((zg_fr hg1016 114 (9 + 7 * k12 + 0) (by omega)).trans ((zg_fr hg1014 114 (9 + 7 * k12 + 0) (by omega)).trans (show g1012 114 (9 + 7 * k12 + 0) = x1 by rw [← hg1012]; exact zg_ue))))))))
                          have C1 : g20 (9 + k12) 1 = x2 := ((zg_fr hg20 (9 + k12) 1 (by omega)).trans ((zg_fr hg19 (9 + k12) 1 (by omega)).trans ((zg_fr hg18 (9 + k12) 1 (by omega)).trans ((zg_fr hg17 (9 + k12) 1 (by omega)).trans ((zg_fr hg16 (9 + k12) 1 (by omega)).trans ((zg_fr hg15 (9 + k12) 1 (by omega)).trans (show g14 (9 + k12) 1 = x2 by rw [← hg14]; exact zg_ue)))))))
                          have M1 : g1026 114 (9 + 7 * k12 + 1) = x2 := ((zg_fr hg1026 114 (9 + 7 * k12 + 1) (by omega)).trans ((zg_fr hg1024 114 (9 + 7 * k12 + 1) (by omega)).trans ((zg_fr hg1022 114 (9 + 7 * k12 + 1) (by omega)).trans ((zg_fr hg1020 114 (9 + 7 * k12 + 1) (by omega)).trans ((zg_fr hg1018 114 (9 + 7 * k12 + 1) (by omega)).trans ((zg_fr hg1016 114 (9 + 7 * k12 + 1) (by omega)).trans (show g1014 114 (9 + 7 * k12 + 1) = x2 by rw [← hg1014]; exact zg_ue)))))))
                          have C2 : g20 (9 + k12) 2 = x3 := ((zg_fr hg20 (9 + k12) 2 (by omega)).trans ((zg_fr hg19 (9 + k12) 2 (by omega)).trans ((zg_fr hg18 (9 + k12) 2 (by omega)).trans ((zg_fr hg17 (9 + k12) 2 (by omega)).trans ((zg_fr hg16 (9 + k12) 2 (by omega)).trans (show g15 (9 + k12) 2 = x3 by rw [← hg15]; exact zg_ue))))))
                          have M2 : g1026 114 (9 + 7 * k12 + 2) = x3 := ((zg_fr hg1026 114 (9 + 7 * k12 + 2) (by omega)).trans ((zg_fr hg1024 114 (9 + 7 * k12 + 2) (by omega)).trans ((zg_fr hg1022 114 (9 + 7 * k12 + 2) (by omega)).trans ((zg_fr hg1020 114 (9 + 7 * k12 + 2) (by omega)).trans ((zg_fr hg1018 114 (9 + 7 * k12 + 2) (by omega)).trans (show g1016 114 (9 + 7 * k12 + 2) = x3 by rw [← hg1016]; exact zg_ue))))))
                          have C3 : g20 (9 + k12) 3 = x4 := ((zg_fr hg20 (9 + k12) 3 (by omega)).trans ((zg_fr hg19 (9 + k12) 3 (by omega)).trans ((zg_fr hg18 (9 + k12) 3 (by omega)).trans ((zg_fr hg17 (9 + k12) 3 (by omega)).trans (show g16 (9 + k12) 3 = x4 by rw [← hg16]; exact zg_ue)))))
                          have M3 : g1026 114 (9 + 7 * k12 + 3) = x4 := ((zg_fr hg1026 114 (9 + 7 * k12 + 3) (by omega)).trans ((zg_fr hg1024 114 (9 + 7 * k12 + 3) (by omega)).trans ((zg_fr hg1022 114 (9 + 7 * k12 + 3) (by omega)).trans ((zg_fr hg1020 114 (9 + 7 * k12 + 3) (by omega)).trans (show g1018 114 (9 + 7 * k12 + 3) = x4 by rw [← hg1018]; exact zg_ue)))))
                          have C4 : g20 (9 + k12) 4 = x5 := ((zg_fr hg20 (9 + k12) 4 (by omega)).trans ((zg_fr hg19 (9 + k12) 4 (by omega)).trans ((zg_fr hg18 (9 + k12) 4 (by omega)).trans (show g17 (9 + k12) 4 = x5 by rw [← hg17]; exact zg_ue))))
                          have M4 : g1026 114 (9 + 7 * k12 + 4) = x5 := ((zg_fr hg1026 114 (9 + 7 * k12 + 4) (by omega)).trans ((zg_fr hg1024 114 (9 + 7 * k12 + 4) (by omega)).trans ((zg_fr hg1022 114 (9 + 7 * k12 + 4) (by omega)).trans (show g1020 114 (9 + 7 * k12 + 4) = x5 by rw [← hg1020]; exact zg_ue))))
                          have C5 : g20 (9 + k12) 5 = 0 := ((zg_fr hg20 (9 + k12) 5 (by omega)).trans ((zg_fr hg19 (9 + k12) 5 (by omega)).trans (show g18 (9 + k12) 5 = 0 by rw [← hg18]; exact zg_ue)))
                          have M5 : g1026 114 (9 + 7 * k12 + 5) = 0 := ((zg_fr hg1026 114 (9 + 7 * k12 + 5) (by omega)).trans ((zg_fr hg1024 114 (9 + 7 * k12 + 5) (by omega)).trans (show g1022 114 (9 + 7 * k12 + 5) = 0 by rw [← hg1022]; exact zg_ue)))
                          have C6 : g20 (9 + k12) 6 = 10 := ((zg_fr hg20 (9 + k12) 6 (by omega)).trans (show g19 (9 + k12) 6 = 10 by rw [← hg19]; exact zg_ue))
                          have M6 : g1026 114 (9 + 7 * k12 + 6) = 10 := ((zg_fr hg1026 114 (9 + 7 * k12 + 6) (by omega)).trans (show g1024 114 (9 + 7 * k12 + 6) = 10 by rw [← hg1024]; exact zg_ue))
                          have C8 : g20 1 2 = ((g19 1 2) + 1) := (show g20 1 2 = ((g19 1 2) + 1) by rw [← hg20]; exact zg_ue)
                          have M8 : g1026 114 8 = ((g1024 114 8) + 1) := (show g1026 114 8 = ((g1024 114 8) + 1) by rw [← hg1026]; exact zg_ue)
                          have P1 : g19 1 2 = g 1 2 := ((zg_fr hg19 1 2 (by omega)).trans ((zg_fr hg18 1 2 (by omega)).trans ((zg_fr hg17 1 2 (by omega)).trans ((zg_fr hg16 1 2 (by omega)).trans ((zg_fr hg15 1 2 (by omega)).trans ((zg_fr hg14 1 2 (by omega)).trans (zg_fr hg13 1 2 (by omega))))))))
                          have P2 : g1024 114 8 = g1000 114 8 := ((zg_fr hg1024 114 8 (by omega)).trans ((zg_fr hg1022 114 8 (by omega)).trans ((zg_fr hg1020 114 8 (by omega)).trans ((zg_fr hg1018 114 8 (by omega)).trans ((zg_fr hg1016 114 8 (by omega)).trans ((zg_fr hg1014 114 8 (by omega)).trans (zg_fr hg1012 114 8 (by omega))))))))
                          rw [P1] at C8
                          rw [P2] at M8
                          have hy := zi_add (x := g 1 2) (y := 1) (by omega) (by omega)
                          have a3 : g 1 2 = g1000 114 8 := hR.2.2.1.2.2.2.1
                          have U0 : g20 1 0 = g 1 0 := ((zg_fr hg20 1 0 (by omega)).trans ((zg_fr hg19 1 0 (by omega)).trans ((zg_fr hg18 1 0 (by omega)).trans ((zg_fr hg17 1 0 (by omega)).trans ((zg_fr hg16 1 0 (by omega)).trans ((zg_fr hg15 1 0 (by omega)).trans ((zg_fr hg14 1 0 (by omega)).trans (zg_fr hg13 1 0 (by omega)))))))))
                          have U1 : g20 1 1 = g 1 1 := ((zg_fr hg20 1 1 (by omega)).trans ((zg_fr hg19 1 1 (by omega)).trans ((zg_fr hg18 1 1 (by omega)).trans ((zg_fr hg17 1 1 (by omega)).trans ((zg_fr hg16 1 1 (by omega)).trans ((zg_fr hg15 1 1 (by omega)).trans ((zg_fr hg14 1 1 (by omega)).trans (zg_fr hg13 1 1 (by omega)))))))))
                          obtain ⟨e1, e2⟩ := zb_r2 e
                          obtain ⟨f1, f2⟩ := zb_r2 f
                          subst e1
                          subst e2
                          subst f1
                          subst f2
                          refine ⟨by rw [C8, M8, a3], hR.does (n := k12) (by omega) (by omega) (fun r k h1 h2 => ((zg_fr hg20 r k (by omega)).trans ((zg_fr hg19 r k (by omega)).trans ((zg_fr hg18 r k (by omega)).trans ((zg_fr hg17 r k (by omega)).trans ((zg_fr hg16 r k (by omega)).trans ((zg_fr hg15 r k (by omega)).trans ((zg_fr hg14 r k (by omega)).trans (zg_fr hg13 r k (by omega)))))))))) (fun r k h1 h2 => ((zg_fr hg1026 r k (by omega)).trans ((zg_fr hg1024 r k (by omega)).trans ((zg_fr hg1022 r k (by omega)).trans ((zg_fr hg1020 r k (by omega)).trans ((zg_fr hg1018 r k (by omega)).trans ((zg_fr hg1016 r k (by omega)).trans ((zg_fr hg1014 r k (by omega)).trans (zg_fr hg1012 r k (by omega)))))))))) ?_ (by rw [C8, M8, a3]) (by rw [C8, hy]; omega) ?_⟩
                          · intro j hj
                            match j, hj with
                            | 0, _ => exact C0.trans M0.symm
                            | 1, _ => exact C1.trans M1.symm
                            | 2, _ => exact C2.trans M2.symm
                            | 3, _ => exact C3.trans M3.symm
                            | 4, _ => exact C4.trans M4.symm
                            | 5, _ => exact C5.trans M5.symm
                            | 6, _ => exact C6.trans M6.symm
                            | q + 7, h => exact absurd h (by omega)
                          · unfold Wdeed
                            rw [U0, U1, show g20 (1 + 8 + k12) 0 = _ from C0, show g20 (1 + 8 + k12) 1 = _ from C1, show g20 (1 + 8 + k12) 2 = _ from C2, show g20 (1 + 8 + k12) 3 = _ from C3, show g20 (1 + 8 + k12) 4 = _ from C4, show g20 (1 + 8 + k12) 5 = _ from C5, show g20 (1 + 8 + k12) 6 = _ from C6]
                            omega
                        · skip
                          have chc1011 := zc_neF hc1011
                          exfalso
                          omega
                      · skip
                        have chc1010 := zd_no bv1009 hc1010
                        exfalso
                        omega
                    · skip
                      have chc1008 := zd_no bv1007 hc1008
                      exfalso
                      omega
                  · skip
                    have chc1006 := zd_no bv1005 hc1006
                    exfalso
                    omega
                · skip
                  have chc1004 := zd_no bv1003 hc1004
                  exfalso
                  omega
              · skip
                have chc1002 := zd_no bv1001 hc1002
                exfalso
                omega
            · skip
              have chc11 := zc_ltF hc11
              replace f := zb_let f
              obtain ⟨v1001, hvv1001, f⟩ := f
              have bv1001 := b_133 (x1 := x1) (g := g1000) (by omega)
              rw [hvv1001] at bv1001
              replace f := zb_if f
              rcases f with ⟨hc1002, f⟩ | ⟨hc1002, f⟩
              · skip
                have chc1002 := bv1001.mp hc1002
                replace f := zb_let f
                obtain ⟨v1003, hvv1003, f⟩ := f
                have bv1003 := b_131 (x1 := x2) (g := g1000) (by omega)
                rw [hvv1003] at bv1003
                replace f := zb_if f
                rcases f with ⟨hc1004, f⟩ | ⟨hc1004, f⟩
                · skip
                  have chc1004 := bv1003.mp hc1004
                  replace f := zb_let f
                  obtain ⟨v1005, hvv1005, f⟩ := f
                  have bv1005 := b_131 (x1 := x3) (g := g1000) (by omega)
                  rw [hvv1005] at bv1005
                  replace f := zb_if f
                  rcases f with ⟨hc1006, f⟩ | ⟨hc1006, f⟩
                  · skip
                    have chc1006 := bv1005.mp hc1006
                    replace f := zb_let f
                    obtain ⟨v1007, hvv1007, f⟩ := f
                    have bv1007 := b_134 (x0 := x4)
                    rw [hvv1007] at bv1007
                    replace f := zb_if f
                    rcases f with ⟨hc1008, f⟩ | ⟨hc1008, f⟩
                    · skip
                      have chc1008 := bv1007.mp hc1008
                      replace f := zb_let f
                      obtain ⟨v1009, hvv1009, f⟩ := f
                      have bv1009 := b_144 (x0 := x5)
                      rw [hvv1009] at bv1009
                      replace f := zb_if f
                      rcases f with ⟨hc1010, f⟩ | ⟨hc1010, f⟩
                      · skip
                        have chc1010 := bv1009.mp hc1010
                        have y1012 := hM.m8
                        replace f := zb_if f
                        rcases f with ⟨hc1011, f⟩ | ⟨hc1011, f⟩
                        · skip
                          have chc1011 := zc_neT hc1011
                          try have y1013 := zi_mul (x := (7 : Int32)) (y := (g1000 114 8)) (n := 7) (by decide) (by omega) (by omega)
                          try have y1014 := zi_add (x := (9 : Int32)) (y := (7 * (g1000 114 8))) (by omega) (by omega)
                          try have y1015 := zi_add (x := (9 + (7 * (g1000 114 8)))) (y := (0 : Int32)) (by omega) (by omega)
                          replace f := zb_bind f
                          obtain ⟨k1013, hk1013, f⟩ := f
                          have bk1013 := zm_ix_ko hk1013
                          replace f := zb_let f
                          obtain ⟨g1012, hg1012, f⟩ := f
                          try have y1016 := zi_add (x := (9 + (7 * (g1000 114 8)))) (y := (1 : Int32)) (by omega) (by omega)
                          replace f := zb_bind f
                          obtain ⟨k1015, hk1015, f⟩ := f
                          have bk1015 := zm_ix_ko hk1015
                          replace f := zb_let f
                          obtain ⟨g1014, hg1014, f⟩ := f
                          try have y1017 := zi_add (x := (9 + (7 * (g1000 114 8)))) (y := (2 : Int32)) (by omega) (by omega)
                          replace f := zb_bind f
                          obtain ⟨k1017, hk1017, f⟩ := f
                          have bk1017 := zm_ix_ko hk1017
                          replace f := zb_let f
                          obtain ⟨g1016, hg1016, f⟩ := f
                          try have y1018 := zi_add (x := (9 + (7 * (g1000 114 8)))) (y := (3 : Int32)) (by omega) (by omega)
                          replace f := zb_bind f
                          obtain ⟨k1019, hk1019, f⟩ := f
                          have bk1019 := zm_ix_ko hk1019
                          replace f := zb_let f
                          obtain ⟨g1018, hg1018, f⟩ := f
                          try have y1019 := zi_add (x := (9 + (7 * (g1000 114 8)))) (y := (4 : Int32)) (by omega) (by omega)
                          replace f := zb_bind f
                          obtain ⟨k1021, hk1021, f⟩ := f
                          have bk1021 := zm_ix_ko hk1021
                          replace f := zb_let f
                          obtain ⟨g1020, hg1020, f⟩ := f
                          try have y1020 := zi_add (x := (9 + (7 * (g1000 114 8)))) (y := (5 : Int32)) (by omega) (by omega)
                          replace f := zb_bind f
                          obtain ⟨k1023, hk1023, f⟩ := f
                          have bk1023 := zm_ix_ko hk1023
                          replace f := zb_let f
                          obtain ⟨g1022, hg1022, f⟩ := f
                          try have y1021 := zi_add (x := (9 + (7 * (g1000 114 8)))) (y := (6 : Int32)) (by omega) (by omega)
                          replace f := zb_bind f
                          obtain ⟨k1025, hk1025, f⟩ := f
                          have bk1025 := zm_ix_ko hk1025
                          replace f := zb_let f
                          obtain ⟨g1024, hg1024, f⟩ := f
                          have ug1024_114_8 : g1024 114 8 = g1022 114 8 := by rw [← hg1024]; exact zg_un (by omega)
                          try have y1022 := zi_add (x := (g1024 114 8)) (y := (1 : Int32)) (by omega) (by omega)
                          replace f := zb_let f
                          obtain ⟨g1026, hg1026, f⟩ := f
                          have ug1026_114_8 : g1026 114 8 = ((g1024 114 8) + 1) := by rw [← hg1026]; rfl
                          exfalso
                          omega
                        · skip
                          have chc1011 := zc_neF hc1011
                          obtain ⟨e1, e2⟩ := zb_r2 e
                          obtain ⟨f1, f2⟩ := zb_r2 f
                          subst e1
                          subst e2
                          subst f1
                          subst f2
                          exact ⟨rfl, hR⟩
                      · skip
                        have chc1010 := zd_no bv1009 hc1010
                        exfalso
                        omega
                    · skip
                      have chc1008 := zd_no bv1007 hc1008
                      exfalso
                      omega
                  · skip
                    have chc1006 := zd_no bv1005 hc1006
                    exfalso
                    omega
                · skip
                  have chc1004 := zd_no bv1003 hc1004
                  exfalso
                  omega
              · skip
                have chc1002 := zd_no bv1001 hc1002
                exfalso
                omega
          · skip
            have chc10 := zd_no bv9 hc10
            replace f := zb_let f
            obtain ⟨v1001, hvv1001, f⟩ := f
            have bv1001 := b_133 (x1 := x1) (g := g1000) (by omega)
            rw [hvv1001] at bv1001
            replace f := zb_if f
            rcases f with ⟨hc1002, f⟩ | ⟨hc1002, f⟩
            · skip
              have chc1002 := bv1001.mp hc1002
              replace f := zb_let f
              obtain ⟨v1003, hvv1003, f⟩ := f
              have bv1003 := b_131 (x1 := x2) (g := g1000) (by omega)
              rw [hvv1003] at bv1003
              replace f := zb_if f
              rcases f with ⟨hc1004, f⟩ | ⟨hc1004, f⟩
              · skip
                have chc1004 := bv1003.mp hc1004
                replace f := zb_let f
                obtain ⟨v1005, hvv1005, f⟩ := f
                have bv1005 := b_131 (x1 := x3) (g := g1000) (by omega)
                rw [hvv1005] at bv1005
                replace f := zb_if f
                rcases f with ⟨hc1006, f⟩ | ⟨hc1006, f⟩
                · skip
                  have chc1006 := bv1005.mp hc1006
                  replace f := zb_let f
                  obtain ⟨v1007, hvv1007, f⟩ := f
                  have bv1007 := b_134 (x0 := x4)
                  rw [hvv1007] at bv1007
                  replace f := zb_if f
                  rcases f with ⟨hc1008, f⟩ | ⟨hc1008, f⟩
                  · skip
                    have chc1008 := bv1007.mp hc1008
                    replace f := zb_let f
                    obtain ⟨v1009, hvv1009, f⟩ := f
                    have bv1009 := b_144 (x0 := x5)
                    rw [hvv1009] at bv1009
                    replace f := zb_if f
                    rcases f with ⟨hc1010, f⟩ | ⟨hc1010, f⟩
                    · skip
                      have chc1010 := bv1009.mp hc1010
                      have y1023 := hM.m8
                      replace f := zb_if f
                      rcases f with ⟨hc1011, f⟩ | ⟨hc1011, f⟩
                      · skip
                        have chc1011 := zc_neT hc1011
                        try have y1024 := zi_mul (x := (7 : Int32)) (y := (g1000 114 8)) (n := 7) (by decide) (by omega) (by omega)
                        try have y1025 := zi_add (x := (9 : Int32)) (y := (7 * (g1000 114 8))) (by omega) (by omega)
                        try have y1026 := zi_add (x := (9 + (7 * (g1000 114 8)))) (y := (0 : Int32)) (by omega) (by omega)
                        replace f := zb_bind f
                        obtain ⟨k1013, hk1013, f⟩ := f
                        have bk1013 := zm_ix_ko hk1013
                        replace f := zb_let f
                        obtain ⟨g1012, hg1012, f⟩ := f
                        try have y1027 := zi_add (x := (9 + (7 * (g1000 114 8)))) (y := (1 : Int32)) (by omega) (by omega)
                        replace f := zb_bind f
                        obtain ⟨k1015, hk1015, f⟩ := f
                        have bk1015 := zm_ix_ko hk1015
                        replace f := zb_let f
                        obtain ⟨g1014, hg1014, f⟩ := f
                        try have y1028 := zi_add (x := (9 + (7 * (g1000 114 8)))) (y := (2 : Int32)) (by omega) (by omega)
                        replace f := zb_bind f
                        obtain ⟨k1017, hk1017, f⟩ := f
                        have bk1017 := zm_ix_ko hk1017
                        replace f := zb_let f
                        obtain ⟨g1016, hg1016, f⟩ := f
                        try have y1029 := zi_add (x := (9 + (7 * (g1000 114 8)))) (y := (3 : Int32)) (by omega) (by omega)
                        replace f := zb_bind f
                        obtain ⟨k1019, hk1019, f⟩ := f
                        have bk1019 := zm_ix_ko hk1019
                        replace f := zb_let f
                        obtain ⟨g1018, hg1018, f⟩ := f
                        try have y1030 := zi_add (x := (9 + (7 * (g1000 114 8)))) (y := (4 : Int32)) (by omega) (by omega)
                        replace f := zb_bind f
                        obtain ⟨k1021, hk1021, f⟩ := f
                        have bk1021 := zm_ix_ko hk1021
                        replace f := zb_let f
                        obtain ⟨g1020, hg1020, f⟩ := f
                        try have y1031 := zi_add (x := (9 + (7 * (g1000 114 8)))) (y := (5 : Int32)) (by omega) (by omega)
                        replace f := zb_bind f
                        obtain ⟨k1023, hk1023, f⟩ := f
                        have bk1023 := zm_ix_ko hk1023
                        replace f := zb_let f
                        obtain ⟨g1022, hg1022, f⟩ := f
                        try have y1032 := zi_add (x := (9 + (7 * (g1000 114 8)))) (y := (6 : Int32)) (by omega) (by omega)
                        replace f := zb_bind f
                        obtain ⟨k1025, hk1025, f⟩ := f
                        have bk1025 := zm_ix_ko hk1025
                        replace f := zb_let f
                        obtain ⟨g1024, hg1024, f⟩ := f
                        have ug1024_114_8 : g1024 114 8 = g1022 114 8 := by rw [← hg1024]; exact zg_un (by omega)
                        try have y1033 := zi_add (x := (g1024 114 8)) (y := (1 : Int32)) (by omega) (by omega)
                        replace f := zb_let f
                        obtain ⟨g1026, hg1026, f⟩ := f
                        have ug1026_114_8 : g1026 114 8 = ((g1024 114 8) + 1) := by rw [← hg1026]; rfl
                        exfalso
                        omega
                      · skip
                        have chc1011 := zc_neF hc1011
                        exfalso
                        omega
                    · skip
                      have chc1010 := zd_no bv1009 hc1010
                      obtain ⟨e1, e2⟩ := zb_r2 e
                      obtain ⟨f1, f2⟩ := zb_r2 f
                      subst e1
                      subst e2
                      subst f1
                      subst f2
                      exact ⟨rfl, hR⟩
                  · skip
                    have chc1008 := zd_no bv1007 hc1008
                    obtain ⟨e1, e2⟩ := zb_r2 e
                    obtain ⟨f1, f2⟩ := zb_r2 f
                    subst e1
                    subst e2
                    subst f1
                    subst f2
                    exact ⟨rfl, hR⟩
                · skip
                  have chc1006 := zd_no bv1005 hc1006
                  obtain ⟨e1, e2⟩ := zb_r2 e
                  obtain ⟨f1, f2⟩ := zb_r2 f
                  subst e1
                  subst e2
                  subst f1
                  subst f2
                  exact ⟨rfl, hR⟩
              · skip
                have chc1004 := zd_no bv1003 hc1004
                obtain ⟨e1, e2⟩ := zb_r2 e
                obtain ⟨f1, f2⟩ := zb_r2 f
                subst e1
                subst e2
                subst f1
                subst f2
                exact ⟨rfl, hR⟩
            · skip
              have chc1002 := zd_no bv1001 hc1002
              obtain ⟨e1, e2⟩ := zb_r2 e
              obtain ⟨f1, f2⟩ := zb_r2 f
              subst e1
              subst e2
              subst f1
              subst f2
              exact ⟨rfl, hR⟩
        · skip
          have chc8 := zd_no bv7 hc8
          replace f := zb_let f
          obtain ⟨v1001, hvv1001, f⟩ := f
          have bv1001 := b_133 (x1 := x1) (g := g1000) (by omega)
          rw [hvv1001] at bv1001
          replace f := zb_if f
          rcases f with ⟨hc1002, f⟩ | ⟨hc1002, f⟩
          · skip
            have chc1002 := bv1001.mp hc1002
            replace f := zb_let f
            obtain ⟨v1003, hvv1003, f⟩ := f
            have bv1003 := b_131 (x1 := x2) (g := g1000) (by omega)
            rw [hvv1003] at bv1003
            replace f := zb_if f
            rcases f with ⟨hc1004, f⟩ | ⟨hc1004, f⟩
            · skip
              have chc1004 := bv1003.mp hc1004
              replace f := zb_let f
              obtain ⟨v1005, hvv1005, f⟩ := f
              have bv1005 := b_131 (x1 := x3) (g := g1000) (by omega)
              rw [hvv1005] at bv1005
              replace f := zb_if f
              rcases f with ⟨hc1006, f⟩ | ⟨hc1006, f⟩
              · skip
                have chc1006 := bv1005.mp hc1006
                replace f := zb_let f
                obtain ⟨v1007, hvv1007, f⟩ := f
                have bv1007 := b_134 (x0 := x4)
                rw [hvv1007] at bv1007
                replace f := zb_if f
                rcases f with ⟨hc1008, f⟩ | ⟨hc1008, f⟩
                · skip
                  have chc1008 := bv1007.mp hc1008
                  replace f := zb_let f
                  obtain ⟨v1009, hvv1009, f⟩ := f
                  have bv1009 := b_144 (x0 := x5)
                  rw [hvv1009] at bv1009
                  replace f := zb_if f
                  rcases f with ⟨hc1010, f⟩ | ⟨hc1010, f⟩
                  · skip
                    have chc1010 := bv1009.mp hc1010
                    have y1034 := hM.m8
                    replace f := zb_if f
                    rcases f with ⟨hc1011, f⟩ | ⟨hc1011, f⟩
                    · skip
                      have chc1011 := zc_neT hc1011
                      try have y1035 := zi_mul (x := (7 : Int32)) (y := (g1000 114 8)) (n := 7) (by decide) (by omega) (by omega)
                      try have y1036 := zi_add (x := (9 : Int32)) (y := (7 * (g1000 114 8))) (by omega) (by omega)
                      try have y1037 := zi_add (x := (9 + (7 * (g1000 114 8)))) (y := (0 : Int32)) (by omega) (by omega)
                      replace f := zb_bind f
                      obtain ⟨k1013, hk1013, f⟩ := f
                      have bk1013 := zm_ix_ko hk1013
                      replace f := zb_let f
                      obtain ⟨g1012, hg1012, f⟩ := f
                      try have y1038 := zi_add (x := (9 + (7 * (g1000 114 8)))) (y := (1 : Int32)) (by omega) (by omega)
                      replace f := zb_bind f
                      obtain ⟨k1015, hk1015, f⟩ := f
                      have bk1015 := zm_ix_ko hk1015
                      replace f := zb_let f
                      obtain ⟨g1014, hg1014, f⟩ := f
                      try have y1039 := zi_add (x := (9 + (7 * (g1000 114 8)))) (y := (2 : Int32)) (by omega) (by omega)
                      replace f := zb_bind f
                      obtain ⟨k1017, hk1017, f⟩ := f
                      have bk1017 := zm_ix_ko hk1017
                      replace f := zb_let f
                      obtain ⟨g1016, hg1016, f⟩ := f
                      try have y1040 := zi_add (x := (9 + (7 * (g1000 114 8)))) (y := (3 : Int32)) (by omega) (by omega)
                      replace f := zb_bind f
                      obtain ⟨k1019, hk1019, f⟩ := f
                      have bk1019 := zm_ix_ko hk1019
                      replace f := zb_let f
                      obtain ⟨g1018, hg1018, f⟩ := f
                      try have y1041 := zi_add (x := (9 + (7 * (g1000 114 8)))) (y := (4 : Int32)) (by omega) (by omega)
                      replace f := zb_bind f
                      obtain ⟨k1021, hk1021, f⟩ := f
                      have bk1021 := zm_ix_ko hk1021
                      replace f := zb_let f
                      obtain ⟨g1020, hg1020, f⟩ := f
                      try have y1042 := zi_add (x := (9 + (7 * (g1000 114 8)))) (y := (5 : Int32)) (by omega) (by omega)
                      replace f := zb_bind f
                      obtain ⟨k1023, hk1023, f⟩ := f
                      have bk1023 := zm_ix_ko hk1023
                      replace f := zb_let f
                      obtain ⟨g1022, hg1022, f⟩ := f
                      try have y1043 := zi_add (x := (9 + (7 * (g1000 114 8)))) (y := (6 : Int32)) (by omega) (by omega)
                      replace f := zb_bind f
                      obtain ⟨k1025, hk1025, f⟩ := f
                      have bk1025 := zm_ix_ko hk1025
                      replace f := zb_let f
                      obtain ⟨g1024, hg1024, f⟩ := f
                      have ug1024_114_8 : g1024 114 8 = g1022 114 8 := by rw [← hg1024]; exact zg_un (by omega)
                      try have y1044 := zi_add (x := (g1024 114 8)) (y := (1 : Int32)) (by omega) (by omega)
                      replace f := zb_let f
                      obtain ⟨g1026, hg1026, f⟩ := f
                      have ug1026_114_8 : g1026 114 8 = ((g1024 114 8) + 1) := by rw [← hg1026]; rfl
                      exfalso
                      omega
                    · skip
                      have chc1011 := zc_neF hc1011
                      exfalso
                      omega
                  · skip
                    have chc1010 := zd_no bv1009 hc1010
                    obtain ⟨e1, e2⟩ := zb_r2 e
                    obtain ⟨f1, f2⟩ := zb_r2 f
                    subst e1
                    subst e2
                    subst f1
                    subst f2
                    exact ⟨rfl, hR⟩
                · skip
                  have chc1008 := zd_no bv1007 hc1008
                  obtain ⟨e1, e2⟩ := zb_r2 e
                  obtain ⟨f1, f2⟩ := zb_r2 f
                  subst e1
                  subst e2
                  subst f1
                  subst f2
                  exact ⟨rfl, hR⟩
              · skip
                have chc1006 := zd_no bv1005 hc1006
                obtain ⟨e1, e2⟩ := zb_r2 e
                obtain ⟨f1, f2⟩ := zb_r2 f
                subst e1
                subst e2
                subst f1
                subst f2
                exact ⟨rfl, hR⟩
            · skip
              have chc1004 := zd_no bv1003 hc1004
              obtain ⟨e1, e2⟩ := zb_r2 e
              obtain ⟨f1, f2⟩ := zb_r2 f
              subst e1
              subst e2
              subst f1
              subst f2
              exact ⟨rfl, hR⟩
          · skip
            have chc1002 := zd_no bv1001 hc1002
            obtain ⟨e1, e2⟩ := zb_r2 e
            obtain ⟨f1, f2⟩ := zb_r2 f
            subst e1
            subst e2
            subst f1
            subst f2
            exact ⟨rfl, hR⟩
      · skip
        have chc6 := zd_no bv5 hc6
        replace f := zb_let f
        obtain ⟨v1001, hvv1001, f⟩ := f
        have bv1001 := b_133 (x1 := x1) (g := g1000) (by omega)
        rw [hvv1001] at bv1001
        replace f := zb_if f
        rcases f with ⟨hc1002, f⟩ | ⟨hc1002, f⟩
        · skip
          have chc1002 := bv1001.mp hc1002
          replace f := zb_let f
          obtain ⟨v1003, hvv1003, f⟩ := f
          have bv1003 := b_131 (x1 := x2) (g := g1000) (by omega)
          rw [hvv1003] at bv1003
          replace f := zb_if f
          rcases f with ⟨hc1004, f⟩ | ⟨hc1004, f⟩
          · skip
            have chc1004 := bv1003.mp hc1004
            replace f := zb_let f
            obtain ⟨v1005, hvv1005, f⟩ := f
            have bv1005 := b_131 (x1 := x3) (g := g1000) (by omega)
            rw [hvv1005] at bv1005
            replace f := zb_if f
            rcases f with ⟨hc1006, f⟩ | ⟨hc1006, f⟩
            · skip
              have chc1006 := bv1005.mp hc1006
              replace f := zb_let f
              obtain ⟨v1007, hvv1007, f⟩ := f
              have bv1007 := b_134 (x0 := x4)
              rw [hvv1007] at bv1007
              replace f := zb_if f
              rcases f with ⟨hc1008, f⟩ | ⟨hc1008, f⟩
              · skip
                have chc1008 := bv1007.mp hc1008
                replace f := zb_let f
                obtain ⟨v1009, hvv1009, f⟩ := f
                have bv1009 := b_144 (x0 := x5)
                rw [hvv1009] at bv1009
                replace f := zb_if f
                rcases f with ⟨hc1010, f⟩ | ⟨hc1010, f⟩
                · skip
                  have chc1010 := bv1009.mp hc1010
                  have y1045 := hM.m8
                  replace f := zb_if f
                  rcases f with ⟨hc1011, f⟩ | ⟨hc1011, f⟩
                  · skip
                    have chc1011 := zc_neT hc1011
                    try have y1046 := zi_mul (x := (7 : Int32)) (y := (g1000 114 8)) (n := 7) (by decide) (by omega) (by omega)
                    try have y1047 := zi_add (x := (9 : Int32)) (y := (7 * (g1000 114 8))) (by omega) (by omega)
                    try have y1048 := zi_add (x := (9 + (7 * (g1000 114 8)))) (y := (0 : Int32)) (by omega) (by omega)
                    replace f := zb_bind f
                    obtain ⟨k1013, hk1013, f⟩ := f
                    have bk1013 := zm_ix_ko hk1013
                    replace f := zb_let f
                    obtain ⟨g1012, hg1012, f⟩ := f
                    try have y1049 := zi_add (x := (9 + (7 * (g1000 114 8)))) (y := (1 : Int32)) (by omega) (by omega)
                    replace f := zb_bind f
                    obtain ⟨k1015, hk1015, f⟩ := f
                    have bk1015 := zm_ix_ko hk1015
                    replace f := zb_let f
                    obtain ⟨g1014, hg1014, f⟩ := f
                    try have y1050 := zi_add (x := (9 + (7 * (g1000 114 8)))) (y := (2 : Int32)) (by omega) (by omega)
                    replace f := zb_bind f
                    obtain ⟨k1017, hk1017, f⟩ := f
                    have bk1017 := zm_ix_ko hk1017
                    replace f := zb_let f
                    obtain ⟨g1016, hg1016, f⟩ := f
                    try have y1051 := zi_add (x := (9 + (7 * (g1000 114 8)))) (y := (3 : Int32)) (by omega) (by omega)
                    replace f := zb_bind f
                    obtain ⟨k1019, hk1019, f⟩ := f
                    have bk1019 := zm_ix_ko hk1019
                    replace f := zb_let f
                    obtain ⟨g1018, hg1018, f⟩ := f
                    try have y1052 := zi_add (x := (9 + (7 * (g1000 114 8)))) (y := (4 : Int32)) (by omega) (by omega)
                    replace f := zb_bind f
                    obtain ⟨k1021, hk1021, f⟩ := f
                    have bk1021 := zm_ix_ko hk1021
                    replace f := zb_let f
                    obtain ⟨g1020, hg1020, f⟩ := f
                    try have y1053 := zi_add (x := (9 + (7 * (g1000 114 8)))) (y := (5 : Int32)) (by omega) (by omega)
                    replace f := zb_bind f
                    obtain ⟨k1023, hk1023, f⟩ := f
                    have bk1023 := zm_ix_ko hk1023
                    replace f := zb_let f
                    obtain ⟨g1022, hg1022, f⟩ := f
                    try have y1054 := zi_add (x := (9 + (7 * (g1000 114 8)))) (y := (6 : Int32)) (by omega) (by omega)
                    replace f := zb_bind f
                    obtain ⟨k1025, hk1025, f⟩ := f
                    have bk1025 := zm_ix_ko hk1025
                    replace f := zb_let f
                    obtain ⟨g1024, hg1024, f⟩ := f
                    have ug1024_114_8 : g1024 114 8 = g1022 114 8 := by rw [← hg1024]; exact zg_un (by omega)
                    try have y1055 := zi_add (x := (g1024 114 8)) (y := (1 : Int32)) (by omega) (by omega)
                    replace f := zb_let f
                    obtain ⟨g1026, hg1026, f⟩ := f
                    have ug1026_114_8 : g1026 114 8 = ((g1024 114 8) + 1) := by rw [← hg1026]; rfl
                    exfalso
                    omega
                  · skip
                    have chc1011 := zc_neF hc1011
                    exfalso
                    omega
                · skip
                  have chc1010 := zd_no bv1009 hc1010
                  obtain ⟨e1, e2⟩ := zb_r2 e
                  obtain ⟨f1, f2⟩ := zb_r2 f
                  subst e1
                  subst e2
                  subst f1
                  subst f2
                  exact ⟨rfl, hR⟩
              · skip
                have chc1008 := zd_no bv1007 hc1008
                obtain ⟨e1, e2⟩ := zb_r2 e
                obtain ⟨f1, f2⟩ := zb_r2 f
                subst e1
                subst e2
                subst f1
                subst f2
                exact ⟨rfl, hR⟩
            · skip
              have chc1006 := zd_no bv1005 hc1006
              obtain ⟨e1, e2⟩ := zb_r2 e
              obtain ⟨f1, f2⟩ := zb_r2 f
              subst e1
              subst e2
              subst f1
              subst f2
              exact ⟨rfl, hR⟩
          · skip
            have chc1004 := zd_no bv1003 hc1004
            obtain ⟨e1, e2⟩ := zb_r2 e
            obtain ⟨f1, f2⟩ := zb_r2 f
            subst e1
            subst e2
            subst f1
            subst f2
            exact ⟨rfl, hR⟩
        · skip
          have chc1002 := zd_no bv1001 hc1002
          obtain ⟨e1, e2⟩ := zb_r2 e
          obtain ⟨f1, f2⟩ := zb_r2 f
          subst e1
          subst e2
          subst f1
          subst f2
          exact ⟨rfl, hR⟩
    · skip
      have chc4 := zd_no bv3 hc4
      replace f := zb_let f
      obtain ⟨v1001, hvv1001, f⟩ := f
      have bv1001 := b_133 (x1 := x1) (g := g1000) (by omega)
      rw [hvv1001] at bv1001
      replace f := zb_if f
      rcases f with ⟨hc1002, f⟩ | ⟨hc1002, f⟩
      · skip
        have chc1002 := bv1001.mp hc1002
        replace f := zb_let f
        obtain ⟨v1003, hvv1003, f⟩ := f
        have bv1003 := b_131 (x1 := x2) (g := g1000) (by omega)
        rw [hvv1003] at bv1003
        replace f := zb_if f
        rcases f with ⟨hc1004, f⟩ | ⟨hc1004, f⟩
        · skip
          have chc1004 := bv1003.mp hc1004
          replace f := zb_let f
          obtain ⟨v1005, hvv1005, f⟩ := f
          have bv1005 := b_131 (x1 := x3) (g := g1000) (by omega)
          rw [hvv1005] at bv1005
          replace f := zb_if f
          rcases f with ⟨hc1006, f⟩ | ⟨hc1006, f⟩
          · skip
            have chc1006 := bv1005.mp hc1006
            replace f := zb_let f
            obtain ⟨v1007, hvv1007, f⟩ := f
            have bv1007 := b_134 (x0 := x4)
            rw [hvv1007] at bv1007
            replace f := zb_if f
            rcases f with ⟨hc1008, f⟩ | ⟨hc1008, f⟩
            · skip
              have chc1008 := bv1007.mp hc1008
              replace f := zb_let f
              obtain ⟨v1009, hvv1009, f⟩ := f
              have bv1009 := b_144 (x0 := x5)
              rw [hvv1009] at bv1009
              replace f := zb_if f
              rcases f with ⟨hc1010, f⟩ | ⟨hc1010, f⟩
              · skip
                have chc1010 := bv1009.mp hc1010
                have y1056 := hM.m8
                replace f := zb_if f
                rcases f with ⟨hc1011, f⟩ | ⟨hc1011, f⟩
                · skip
                  have chc1011 := zc_neT hc1011
                  try have y1057 := zi_mul (x := (7 : Int32)) (y := (g1000 114 8)) (n := 7) (by decide) (by omega) (by omega)
                  try have y1058 := zi_add (x := (9 : Int32)) (y := (7 * (g1000 114 8))) (by omega) (by omega)
                  try have y1059 := zi_add (x := (9 + (7 * (g1000 114 8)))) (y := (0 : Int32)) (by omega) (by omega)
                  replace f := zb_bind f
                  obtain ⟨k1013, hk1013, f⟩ := f
                  have bk1013 := zm_ix_ko hk1013
                  replace f := zb_let f
                  obtain ⟨g1012, hg1012, f⟩ := f
                  try have y1060 := zi_add (x := (9 + (7 * (g1000 114 8)))) (y := (1 : Int32)) (by omega) (by omega)
                  replace f := zb_bind f
                  obtain ⟨k1015, hk1015, f⟩ := f
                  have bk1015 := zm_ix_ko hk1015
                  replace f := zb_let f
                  obtain ⟨g1014, hg1014, f⟩ := f
                  try have y1061 := zi_add (x := (9 + (7 * (g1000 114 8)))) (y := (2 : Int32)) (by omega) (by omega)
                  replace f := zb_bind f
                  obtain ⟨k1017, hk1017, f⟩ := f
                  have bk1017 := zm_ix_ko hk1017
                  replace f := zb_let f
                  obtain ⟨g1016, hg1016, f⟩ := f
                  try have y1062 := zi_add (x := (9 + (7 * (g1000 114 8)))) (y := (3 : Int32)) (by omega) (by omega)
                  replace f := zb_bind f
                  obtain ⟨k1019, hk1019, f⟩ := f
                  have bk1019 := zm_ix_ko hk1019
                  replace f := zb_let f
                  obtain ⟨g1018, hg1018, f⟩ := f
                  try have y1063 := zi_add (x := (9 + (7 * (g1000 114 8)))) (y := (4 : Int32)) (by omega) (by omega)
                  replace f := zb_bind f
                  obtain ⟨k1021, hk1021, f⟩ := f
                  have bk1021 := zm_ix_ko hk1021
                  replace f := zb_let f
                  obtain ⟨g1020, hg1020, f⟩ := f
                  try have y1064 := zi_add (x := (9 + (7 * (g1000 114 8)))) (y := (5 : Int32)) (by omega) (by omega)
                  replace f := zb_bind f
                  obtain ⟨k1023, hk1023, f⟩ := f
                  have bk1023 := zm_ix_ko hk1023
                  replace f := zb_let f
                  obtain ⟨g1022, hg1022, f⟩ := f
                  try have y1065 := zi_add (x := (9 + (7 * (g1000 114 8)))) (y := (6 : Int32)) (by omega) (by omega)
                  replace f := zb_bind f
                  obtain ⟨k1025, hk1025, f⟩ := f
                  have bk1025 := zm_ix_ko hk1025
                  replace f := zb_let f
                  obtain ⟨g1024, hg1024, f⟩ := f
                  have ug1024_114_8 : g1024 114 8 = g1022 114 8 := by rw [← hg1024]; exact zg_un (by omega)
                  try have y1066 := zi_add (x := (g1024 114 8)) (y := (1 : Int32)) (by omega) (by omega)
                  replace f := zb_let f
                  obtain ⟨g1026, hg1026, f⟩ := f
                  have ug1026_114_8 : g1026 114 8 = ((g1024 114 8) + 1) := by rw [← hg1026]; rfl
                  exfalso
                  omega
                · skip
                  have chc1011 := zc_neF hc1011
                  exfalso
                  omega
              · skip
                have chc1010 := zd_no bv1009 hc1010
                obtain ⟨e1, e2⟩ := zb_r2 e
                obtain ⟨f1, f2⟩ := zb_r2 f
                subst e1
                subst e2
                subst f1
                subst f2
                exact ⟨rfl, hR⟩
            · skip
              have chc1008 := zd_no bv1007 hc1008
              obtain ⟨e1, e2⟩ := zb_r2 e
              obtain ⟨f1, f2⟩ := zb_r2 f
              subst e1
              subst e2
              subst f1
              subst f2
              exact ⟨rfl, hR⟩
          · skip
            have chc1006 := zd_no bv1005 hc1006
            obtain ⟨e1, e2⟩ := zb_r2 e
            obtain ⟨f1, f2⟩ := zb_r2 f
            subst e1
            subst e2
            subst f1
            subst f2
            exact ⟨rfl, hR⟩
        · skip
          have chc1004 := zd_no bv1003 hc1004
          obtain ⟨e1, e2⟩ := zb_r2 e
          obtain ⟨f1, f2⟩ := zb_r2 f
          subst e1
          subst e2
          subst f1
          subst f2
          exact ⟨rfl, hR⟩
      · skip
        have chc1002 := zd_no bv1001 hc1002
        obtain ⟨e1, e2⟩ := zb_r2 e
        obtain ⟨f1, f2⟩ := zb_r2 f
        subst e1
        subst e2
        subst f1
        subst f2
        exact ⟨rfl, hR⟩
  · skip
    have chc2 := zd_no bv1 hc2
    replace f := zb_let f
    obtain ⟨v1001, hvv1001, f⟩ := f
    have bv1001 := b_133 (x1 := x1) (g := g1000) (by omega)
    rw [hvv1001] at bv1001
    replace f := zb_if f
    rcases f with ⟨hc1002, f⟩ | ⟨hc1002, f⟩
    · skip
      have chc1002 := bv1001.mp hc1002
      replace f := zb_let f
      obtain ⟨v1003, hvv1003, f⟩ := f
      have bv1003 := b_131 (x1 := x2) (g := g1000) (by omega)
      rw [hvv1003] at bv1003
      replace f := zb_if f
      rcases f with ⟨hc1004, f⟩ | ⟨hc1004, f⟩
      · skip
        have chc1004 := bv1003.mp hc1004
        replace f := zb_let f
        obtain ⟨v1005, hvv1005, f⟩ := f
        have bv1005 := b_131 (x1 := x3) (g := g1000) (by omega)
        rw [hvv1005] at bv1005
        replace f := zb_if f
        rcases f with ⟨hc1006, f⟩ | ⟨hc1006, f⟩
        · skip
          have chc1006 := bv1005.mp hc1006
          replace f := zb_let f
          obtain ⟨v1007, hvv1007, f⟩ := f
          have bv1007 := b_134 (x0 := x4)
          rw [hvv1007] at bv1007
          replace f := zb_if f
          rcases f with ⟨hc1008, f⟩ | ⟨hc1008, f⟩
          · skip
            have chc1008 := bv1007.mp hc1008
            replace f := zb_let f
            obtain ⟨v1009, hvv1009, f⟩ := f
            have bv1009 := b_144 (x0 := x5)
            rw [hvv1009] at bv1009
            replace f := zb_if f
            rcases f with ⟨hc1010, f⟩ | ⟨hc1010, f⟩
            · skip
              have chc1010 := bv1009.mp hc1010
              have y1067 := hM.m8
              replace f := zb_if f
              rcases f with ⟨hc1011, f⟩ | ⟨hc1011, f⟩
              · skip
                have chc1011 := zc_neT hc1011
                try have y1068 := zi_mul (x := (7 : Int32)) (y := (g1000 114 8)) (n := 7) (by decide) (by omega) (by omega)
                try have y1069 := zi_add (x := (9 : Int32)) (y := (7 * (g1000 114 8))) (by omega) (by omega)
                try have y1070 := zi_add (x := (9 + (7 * (g1000 114 8)))) (y := (0 : Int32)) (by omega) (by omega)
                replace f := zb_bind f
                obtain ⟨k1013, hk1013, f⟩ := f
                have bk1013 := zm_ix_ko hk1013
                replace f := zb_let f
                obtain ⟨g1012, hg1012, f⟩ := f
                try have y1071 := zi_add (x := (9 + (7 * (g1000 114 8)))) (y := (1 : Int32)) (by omega) (by omega)
                replace f := zb_bind f
                obtain ⟨k1015, hk1015, f⟩ := f
                have bk1015 := zm_ix_ko hk1015
                replace f := zb_let f
                obtain ⟨g1014, hg1014, f⟩ := f
                try have y1072 := zi_add (x := (9 + (7 * (g1000 114 8)))) (y := (2 : Int32)) (by omega) (by omega)
                replace f := zb_bind f
                obtain ⟨k1017, hk1017, f⟩ := f
                have bk1017 := zm_ix_ko hk1017
                replace f := zb_let f
                obtain ⟨g1016, hg1016, f⟩ := f
                try have y1073 := zi_add (x := (9 + (7 * (g1000 114 8)))) (y := (3 : Int32)) (by omega) (by omega)
                replace f := zb_bind f
                obtain ⟨k1019, hk1019, f⟩ := f
                have bk1019 := zm_ix_ko hk1019
                replace f := zb_let f
                obtain ⟨g1018, hg1018, f⟩ := f
                try have y1074 := zi_add (x := (9 + (7 * (g1000 114 8)))) (y := (4 : Int32)) (by omega) (by omega)
                replace f := zb_bind f
                obtain ⟨k1021, hk1021, f⟩ := f
                have bk1021 := zm_ix_ko hk1021
                replace f := zb_let f
                obtain ⟨g1020, hg1020, f⟩ := f
                try have y1075 := zi_add (x := (9 + (7 * (g1000 114 8)))) (y := (5 : Int32)) (by omega) (by omega)
                replace f := zb_bind f
                obtain ⟨k1023, hk1023, f⟩ := f
                have bk1023 := zm_ix_ko hk1023
                replace f := zb_let f
                obtain ⟨g1022, hg1022, f⟩ := f
                try have y1076 := zi_add (x := (9 + (7 * (g1000 114 8)))) (y := (6 : Int32)) (by omega) (by omega)
                replace f := zb_bind f
                obtain ⟨k1025, hk1025, f⟩ := f
                have bk1025 := zm_ix_ko hk1025
                replace f := zb_let f
                obtain ⟨g1024, hg1024, f⟩ := f
                have ug1024_114_8 : g1024 114 8 = g1022 114 8 := by rw [← hg1024]; exact zg_un (by omega)
                try have y1077 := zi_add (x := (g1024 114 8)) (y := (1 : Int32)) (by omega) (by omega)
                replace f := zb_let f
                obtain ⟨g1026, hg1026, f⟩ := f
                have ug1026_114_8 : g1026 114 8 = ((g1024 114 8) + 1) := by rw [← hg1026]; rfl
                exfalso
                omega
              · skip
                have chc1011 := zc_neF hc1011
                exfalso
                omega
            · skip
              have chc1010 := zd_no bv1009 hc1010
              obtain ⟨e1, e2⟩ := zb_r2 e
              obtain ⟨f1, f2⟩ := zb_r2 f
              subst e1
              subst e2
              subst f1
              subst f2
              exact ⟨rfl, hR⟩
          · skip
            have chc1008 := zd_no bv1007 hc1008
            obtain ⟨e1, e2⟩ := zb_r2 e
            obtain ⟨f1, f2⟩ := zb_r2 f
            subst e1
            subst e2
            subst f1
            subst f2
            exact ⟨rfl, hR⟩
        · skip
          have chc1006 := zd_no bv1005 hc1006
          obtain ⟨e1, e2⟩ := zb_r2 e
          obtain ⟨f1, f2⟩ := zb_r2 f
          subst e1
          subst e2
          subst f1
          subst f2
          exact ⟨rfl, hR⟩
      · skip
        have chc1004 := zd_no bv1003 hc1004
        obtain ⟨e1, e2⟩ := zb_r2 e
        obtain ⟨f1, f2⟩ := zb_r2 f
        subst e1
        subst e2
        subst f1
        subst f2
        exact ⟨rfl, hR⟩
    · skip
      have chc1002 := zd_no bv1001 hc1002
      obtain ⟨e1, e2⟩ := zb_r2 e
      obtain ⟨f1, f2⟩ := zb_r2 f
      subst e1
      subst e2
      subst f1
      subst f2
      exact ⟨rfl, hR⟩
/-- EveningFirst.shift -/
theorem r_64 {x1 : Int32} {x2 : Int32} {v v' : Int32} {g g1000 g' g1' : G} (hI : Inv g) (hM : Inv g1000) (hR : Rel g g1000) (e : d_64 x1 x2 g = some (v, g')) (f : d_147 x1 x2 g1000 = some (v', g1')) : v = v' ∧ Rel g' g1' := by
  unfold d_64 at e
  unfold d_147 at f
  have hN := hR.nums
  have L0 := zl_0
  have L1 := zl_1
  have L7 := zl_7
  have L9 := zl_9
  have Lm1 := zl_m1
  replace e := zb_let e
  obtain ⟨v1, hvv1, e⟩ := e
  have bv1 := b_20 (r0 := 1) (x1 := x1) (g := g)
  rw [hvv1] at bv1
  replace e := zb_if e
  rcases e with ⟨hc2, e⟩ | ⟨hc2, e⟩
  · skip
    have chc2 := bv1.mp hc2
    replace e := zb_let e
    obtain ⟨v3, hvv3, e⟩ := e
    have bv3 := b_19 (r0 := 1) (x1 := x2) (g := g)
    rw [hvv3] at bv3
    replace e := zb_if e
    rcases e with ⟨hc4, e⟩ | ⟨hc4, e⟩
    · skip
      have chc4 := bv3.mp hc4
      replace e := zb_bind e
      obtain ⟨k5, hk5, e⟩ := e
      have bk5 := zm_ix_ko hk5
      replace e := zb_bind e
      obtain ⟨k6, hk6, e⟩ := e
      have bk6 := zm_ix_ko hk6
      replace e := zb_let e
      obtain ⟨g7, hg7, e⟩ := e
      replace f := zb_let f
      obtain ⟨v1001, hvv1001, f⟩ := f
      have bv1001 := b_132 (x1 := x1) (g := g1000) (by omega)
      rw [hvv1001] at bv1001
      replace f := zb_if f
      rcases f with ⟨hc1002, f⟩ | ⟨hc1002, f⟩
      · skip
        have chc1002 := bv1001.mp hc1002
        replace f := zb_let f
        obtain ⟨v1003, hvv1003, f⟩ := f
        have bv1003 := b_133 (x1 := x2) (g := g1000) (by omega)
        rw [hvv1003] at bv1003
        replace f := zb_if f
        rcases f with ⟨hc1004, f⟩ | ⟨hc1004, f⟩
        · skip
          have chc1004 := bv1003.mp hc1004
          try have y1001 := zi_mul (x := (7 : Int32)) (y := x1) (n := 7) (by decide) (by omega) (by omega)
          try have y1002 := zi_add (x := (9 : Int32)) (y := (7 * x1)) (by omega) (by omega)
          try have y1003 := zi_add (x := (9 + (7 * x1))) (y := (0 : Int32)) (by omega) (by omega)
          replace f := zb_bpair f
          obtain ⟨v1005, g1006, hvv1005, f⟩ := f
          obtain rfl : k5 = k6 := by omega
          obtain ⟨m1, m2⟩ := t_142 (n := 9 + 7 * k5 + 0) (by omega) hvv1005
          obtain ⟨e1, e2⟩ := zb_r2 e
          obtain ⟨f1, f2⟩ := zb_r2 f
          subst e1
          subst e2
          subst f1
          subst f2
          subst hg7
          subst m2
          refine ⟨?_, hR.up2 (d := k5) (j := 0) (by omega) (by omega) (by omega) (by omega)⟩
          rw [m1]
          exact hR.deeds (d := k5) (by omega) (by omega)
        · skip
          have chc1004 := zd_no bv1003 hc1004
          exfalso
          omega
      · skip
        have chc1002 := zd_no bv1001 hc1002
        exfalso
        omega
    · skip
      have chc4 := zd_no bv3 hc4
      replace f := zb_let f
      obtain ⟨v1001, hvv1001, f⟩ := f
      have bv1001 := b_132 (x1 := x1) (g := g1000) (by omega)
      rw [hvv1001] at bv1001
      replace f := zb_if f
      rcases f with ⟨hc1002, f⟩ | ⟨hc1002, f⟩
      · skip
        have chc1002 := bv1001.mp hc1002
        replace f := zb_let f
        obtain ⟨v1003, hvv1003, f⟩ := f
        have bv1003 := b_133 (x1 := x2) (g := g1000) (by omega)
        rw [hvv1003] at bv1003
        replace f := zb_if f
        rcases f with ⟨hc1004, f⟩ | ⟨hc1004, f⟩
        · skip
          have chc1004 := bv1003.mp hc1004
          try have y1004 := zi_mul (x := (7 : Int32)) (y := x1) (n := 7) (by decide) (by omega) (by omega)
          try have y1005 := zi_add (x := (9 : Int32)) (y := (7 * x1)) (by omega) (by omega)
          try have y1006 := zi_add (x := (9 + (7 * x1))) (y := (0 : Int32)) (by omega) (by omega)
          replace f := zb_bpair f
          obtain ⟨v1005, g1006, hvv1005, f⟩ := f
          exfalso
          omega
        · skip
          have chc1004 := zd_no bv1003 hc1004
          obtain ⟨e1, e2⟩ := zb_r2 e
          obtain ⟨f1, f2⟩ := zb_r2 f
          subst e1
          subst e2
          subst f1
          subst f2
          exact ⟨rfl, hR⟩
      · skip
        have chc1002 := zd_no bv1001 hc1002
        obtain ⟨e1, e2⟩ := zb_r2 e
        obtain ⟨f1, f2⟩ := zb_r2 f
        subst e1
        subst e2
        subst f1
        subst f2
        exact ⟨rfl, hR⟩
  · skip
    have chc2 := zd_no bv1 hc2
    replace f := zb_let f
    obtain ⟨v1001, hvv1001, f⟩ := f
    have bv1001 := b_132 (x1 := x1) (g := g1000) (by omega)
    rw [hvv1001] at bv1001
    replace f := zb_if f
    rcases f with ⟨hc1002, f⟩ | ⟨hc1002, f⟩
    · skip
      have chc1002 := bv1001.mp hc1002
      replace f := zb_let f
      obtain ⟨v1003, hvv1003, f⟩ := f
      have bv1003 := b_133 (x1 := x2) (g := g1000) (by omega)
      rw [hvv1003] at bv1003
      replace f := zb_if f
      rcases f with ⟨hc1004, f⟩ | ⟨hc1004, f⟩
      · skip
        have chc1004 := bv1003.mp hc1004
        try have y1007 := zi_mul (x := (7 : Int32)) (y := x1) (n := 7) (by decide) (by omega) (by omega)
        try have y1008 := zi_add (x := (9 : Int32)) (y := (7 * x1)) (by omega) (by omega)
        try have y1009 := zi_add (x := (9 + (7 * x1))) (y := (0 : Int32)) (by omega) (by omega)
        replace f := zb_bpair f
        obtain ⟨v1005, g1006, hvv1005, f⟩ := f
        exfalso
        omega
      · skip
        have chc1004 := zd_no bv1003 hc1004
        obtain ⟨e1, e2⟩ := zb_r2 e
        obtain ⟨f1, f2⟩ := zb_r2 f
        subst e1
        subst e2
        subst f1
        subst f2
        exact ⟨rfl, hR⟩
    · skip
      have chc1002 := zd_no bv1001 hc1002
      obtain ⟨e1, e2⟩ := zb_r2 e
      obtain ⟨f1, f2⟩ := zb_r2 f
      subst e1
      subst e2
      subst f1
      subst f2
      exact ⟨rfl, hR⟩
/-- EveningFirst.mark -/
theorem r_65 {x1 : Int32} {x2 : Int32} {v v' : Int32} {g g1000 g' g1' : G} (hI : Inv g) (hM : Inv g1000) (hR : Rel g g1000) (e : d_65 x1 x2 g = some (v, g')) (f : d_148 x1 x2 g1000 = some (v', g1')) : v = v' ∧ Rel g' g1' := by
  unfold d_65 at e
  unfold d_148 at f
  have hN := hR.nums
  have L1 := zl_1
  have L5 := zl_5
  have L7 := zl_7
  have L9 := zl_9
  have Lm1 := zl_m1
  replace e := zb_let e
  obtain ⟨v1, hvv1, e⟩ := e
  have bv1 := b_22 (r0 := 1) (x1 := x1) (x2 := x2) (g := g)
  rw [hvv1] at bv1
  replace e := zb_if e
  rcases e with ⟨hc2, e⟩ | ⟨hc2, e⟩
  · skip
    have chc2 := bv1.mp hc2
    replace e := zb_bind e
    obtain ⟨k3, hk3, e⟩ := e
    have bk3 := zm_ix_ko hk3
    replace e := zb_bind e
    obtain ⟨k4, hk4, e⟩ := e
    have bk4 := zm_ix_ko hk4
    replace e := zb_let e
    obtain ⟨g5, hg5, e⟩ := e
    replace f := zb_let f
    obtain ⟨v1001, hvv1001, f⟩ := f
    have bv1001 := b_132 (x1 := x1) (g := g1000) (by omega)
    rw [hvv1001] at bv1001
    replace f := zb_if f
    rcases f with ⟨hc1002, f⟩ | ⟨hc1002, f⟩
    · skip
      have chc1002 := bv1001.mp hc1002
      replace f := zb_let f
      obtain ⟨v1003, hvv1003, f⟩ := f
      have bv1003 := zin_a (x1 := x2) (show (0 : Int64).toInt = 0 from by decide) (show (2 : Int64).toInt = 2 from by decide)
      rw [hvv1003] at bv1003
      replace f := zb_if f
      rcases f with ⟨hc1004, f⟩ | ⟨hc1004, f⟩
      · skip
        have chc1004 := bv1003.mp hc1004
        try have y1001 := zi_mul (x := (7 : Int32)) (y := x1) (n := 7) (by decide) (by omega) (by omega)
        try have y1002 := zi_add (x := (9 : Int32)) (y := (7 * x1)) (by omega) (by omega)
        try have y1003 := zi_add (x := (9 + (7 * x1))) (y := (5 : Int32)) (by omega) (by omega)
        replace f := zb_bpair f
        obtain ⟨v1005, g1006, hvv1005, f⟩ := f
        obtain rfl : k3 = k4 := by omega
        obtain ⟨m1, m2⟩ := t_142 (n := 9 + 7 * k3 + 5) (by omega) hvv1005
        obtain ⟨e1, e2⟩ := zb_r2 e
        obtain ⟨f1, f2⟩ := zb_r2 f
        subst e1
        subst e2
        subst f1
        subst f2
        subst hg5
        subst m2
        refine ⟨?_, hR.up2 (d := k3) (j := 5) (by omega) (by omega) (by omega) (by omega)⟩
        rw [m1]
        exact hR.deeds (d := k3) (by omega) (by omega)
      · skip
        have chc1004 := zd_no bv1003 hc1004
        exfalso
        omega
    · skip
      have chc1002 := zd_no bv1001 hc1002
      exfalso
      omega
  · skip
    have chc2 := zd_no bv1 hc2
    replace f := zb_let f
    obtain ⟨v1001, hvv1001, f⟩ := f
    have bv1001 := b_132 (x1 := x1) (g := g1000) (by omega)
    rw [hvv1001] at bv1001
    replace f := zb_if f
    rcases f with ⟨hc1002, f⟩ | ⟨hc1002, f⟩
    · skip
      have chc1002 := bv1001.mp hc1002
      replace f := zb_let f
      obtain ⟨v1003, hvv1003, f⟩ := f
      have bv1003 := zin_a (x1 := x2) (show (0 : Int64).toInt = 0 from by decide) (show (2 : Int64).toInt = 2 from by decide)
      rw [hvv1003] at bv1003
      replace f := zb_if f
      rcases f with ⟨hc1004, f⟩ | ⟨hc1004, f⟩
      · skip
        have chc1004 := bv1003.mp hc1004
        try have y1004 := zi_mul (x := (7 : Int32)) (y := x1) (n := 7) (by decide) (by omega) (by omega)
        try have y1005 := zi_add (x := (9 : Int32)) (y := (7 * x1)) (by omega) (by omega)
        try have y1006 := zi_add (x := (9 + (7 * x1))) (y := (5 : Int32)) (by omega) (by omega)
        replace f := zb_bpair f
        obtain ⟨v1005, g1006, hvv1005, f⟩ := f
        exfalso
        omega
      · skip
        have chc1004 := zd_no bv1003 hc1004
        obtain ⟨e1, e2⟩ := zb_r2 e
        obtain ⟨f1, f2⟩ := zb_r2 f
        subst e1
        subst e2
        subst f1
        subst f2
        exact ⟨rfl, hR⟩
    · skip
      have chc1002 := zd_no bv1001 hc1002
      obtain ⟨e1, e2⟩ := zb_r2 e
      obtain ⟨f1, f2⟩ := zb_r2 f
      subst e1
      subst e2
      subst f1
      subst f2
      exact ⟨rfl, hR⟩
/-- EveningFirst.odd -/
theorem r_66 {x1 : Int32} {x2 : Int32} {v v' : Int32} {g g1000 g' g1' : G} (hI : Inv g) (hM : Inv g1000) (hR : Rel g g1000) (e : d_66 x1 x2 g = some (v, g')) (f : d_149 x1 x2 g1000 = some (v', g1')) : v = v' ∧ Rel g' g1' := by
  unfold d_66 at e
  unfold d_149 at f
  have hN := hR.nums
  have L0 := zl_0
  have L1 := zl_1
  have L10 := zl_10
  have L6 := zl_6
  have L7 := zl_7
  have L9 := zl_9
  have Lm1 := zl_m1
  replace e := zb_let e
  obtain ⟨v1, hvv1, e⟩ := e
  have bv1 := b_20 (r0 := 1) (x1 := x1) (g := g)
  rw [hvv1] at bv1
  replace e := zb_if e
  rcases e with ⟨hc2, e⟩ | ⟨hc2, e⟩
  · skip
    have chc2 := bv1.mp hc2
    replace e := zb_if e
    rcases e with ⟨hc3, e⟩ | ⟨hc3, e⟩
    · skip
      have chc3 := zc_ltT hc3
      replace f := zb_let f
      obtain ⟨v1001, hvv1001, f⟩ := f
      have bv1001 := b_132 (x1 := x1) (g := g1000) (by omega)
      rw [hvv1001] at bv1001
      replace f := zb_if f
      rcases f with ⟨hc1002, f⟩ | ⟨hc1002, f⟩
      · skip
        have chc1002 := bv1001.mp hc1002
        replace f := zb_let f
        obtain ⟨v1003, hvv1003, f⟩ := f
        have bv1003 := zin_a (x1 := x2) (show (0 : Int64).toInt = 0 from by decide) (show (10 : Int64).toInt = 10 from by decide)
        rw [hvv1003] at bv1003
        replace f := zb_if f
        rcases f with ⟨hc1004, f⟩ | ⟨hc1004, f⟩
        · skip
          have chc1004 := bv1003.mp hc1004
          try have y1001 := zi_mul (x := (7 : Int32)) (y := x1) (n := 7) (by decide) (by omega) (by omega)
          try have y1002 := zi_add (x := (9 : Int32)) (y := (7 * x1)) (by omega) (by omega)
          try have y1003 := zi_add (x := (9 + (7 * x1))) (y := (6 : Int32)) (by omega) (by omega)
          replace f := zb_bpair f
          obtain ⟨v1005, g1006, hvv1005, f⟩ := f
          exfalso
          omega
        · skip
          have chc1004 := zd_no bv1003 hc1004
          obtain ⟨e1, e2⟩ := zb_r2 e
          obtain ⟨f1, f2⟩ := zb_r2 f
          subst e1
          subst e2
          subst f1
          subst f2
          exact ⟨rfl, hR⟩
      · skip
        have chc1002 := zd_no bv1001 hc1002
        obtain ⟨e1, e2⟩ := zb_r2 e
        obtain ⟨f1, f2⟩ := zb_r2 f
        subst e1
        subst e2
        subst f1
        subst f2
        exact ⟨rfl, hR⟩
    · skip
      have chc3 := zc_ltF hc3
      replace e := zb_if e
      rcases e with ⟨hc4, e⟩ | ⟨hc4, e⟩
      · skip
        have chc4 := zc_leT hc4
        replace e := zb_bind e
        obtain ⟨k5, hk5, e⟩ := e
        have bk5 := zm_ix_ko hk5
        replace e := zb_bind e
        obtain ⟨k6, hk6, e⟩ := e
        have bk6 := zm_ix_ko hk6
        replace e := zb_let e
        obtain ⟨g7, hg7, e⟩ := e
        replace f := zb_let f
        obtain ⟨v1001, hvv1001, f⟩ := f
        have bv1001 := b_132 (x1 := x1) (g := g1000) (by omega)
        rw [hvv1001] at bv1001
        replace f := zb_if f
        rcases f with ⟨hc1002, f⟩ | ⟨hc1002, f⟩
        · skip
          have chc1002 := bv1001.mp hc1002
          replace f := zb_let f
          obtain ⟨v1003, hvv1003, f⟩ := f
          have bv1003 := zin_a (x1 := x2) (show (0 : Int64).toInt = 0 from by decide) (show (10 : Int64).toInt = 10 from by decide)
          rw [hvv1003] at bv1003
          replace f := zb_if f
          rcases f with ⟨hc1004, f⟩ | ⟨hc1004, f⟩
          · skip
            have chc1004 := bv1003.mp hc1004
            try have y1004 := zi_mul (x := (7 : Int32)) (y := x1) (n := 7) (by decide) (by omega) (by omega)
            try have y1005 := zi_add (x := (9 : Int32)) (y := (7 * x1)) (by omega) (by omega)
            try have y1006 := zi_add (x := (9 + (7 * x1))) (y := (6 : Int32)) (by omega) (by omega)
            replace f := zb_bpair f
            obtain ⟨v1005, g1006, hvv1005, f⟩ := f
            obtain rfl : k5 = k6 := by omega
            obtain ⟨m1, m2⟩ := t_142 (n := 9 + 7 * k5 + 6) (by omega) hvv1005
            obtain ⟨e1, e2⟩ := zb_r2 e
            obtain ⟨f1, f2⟩ := zb_r2 f
            subst e1
            subst e2
            subst f1
            subst f2
            subst hg7
            subst m2
            refine ⟨?_, hR.up2 (d := k5) (j := 6) (by omega) (by omega) (by omega) (by omega)⟩
            rw [m1]
            exact hR.deeds (d := k5) (by omega) (by omega)
          · skip
            have chc1004 := zd_no bv1003 hc1004
            exfalso
            omega
        · skip
          have chc1002 := zd_no bv1001 hc1002
          exfalso
          omega
      · skip
        have chc4 := zc_leF hc4
        replace f := zb_let f
        obtain ⟨v1001, hvv1001, f⟩ := f
        have bv1001 := b_132 (x1 := x1) (g := g1000) (by omega)
        rw [hvv1001] at bv1001
        replace f := zb_if f
        rcases f with ⟨hc1002, f⟩ | ⟨hc1002, f⟩
        · skip
          have chc1002 := bv1001.mp hc1002
          replace f := zb_let f
          obtain ⟨v1003, hvv1003, f⟩ := f
          have bv1003 := zin_a (x1 := x2) (show (0 : Int64).toInt = 0 from by decide) (show (10 : Int64).toInt = 10 from by decide)
          rw [hvv1003] at bv1003
          replace f := zb_if f
          rcases f with ⟨hc1004, f⟩ | ⟨hc1004, f⟩
          · skip
            have chc1004 := bv1003.mp hc1004
            try have y1007 := zi_mul (x := (7 : Int32)) (y := x1) (n := 7) (by decide) (by omega) (by omega)
            try have y1008 := zi_add (x := (9 : Int32)) (y := (7 * x1)) (by omega) (by omega)
            try have y1009 := zi_add (x := (9 + (7 * x1))) (y := (6 : Int32)) (by omega) (by omega)
            replace f := zb_bpair f
            obtain ⟨v1005, g1006, hvv1005, f⟩ := f
            exfalso
            omega
          · skip
            have chc1004 := zd_no bv1003 hc1004
            obtain ⟨e1, e2⟩ := zb_r2 e
            obtain ⟨f1, f2⟩ := zb_r2 f
            subst e1
            subst e2
            subst f1
            subst f2
            exact ⟨rfl, hR⟩
        · skip
          have chc1002 := zd_no bv1001 hc1002
          obtain ⟨e1, e2⟩ := zb_r2 e
          obtain ⟨f1, f2⟩ := zb_r2 f
          subst e1
          subst e2
          subst f1
          subst f2
          exact ⟨rfl, hR⟩
  · skip
    have chc2 := zd_no bv1 hc2
    replace f := zb_let f
    obtain ⟨v1001, hvv1001, f⟩ := f
    have bv1001 := b_132 (x1 := x1) (g := g1000) (by omega)
    rw [hvv1001] at bv1001
    replace f := zb_if f
    rcases f with ⟨hc1002, f⟩ | ⟨hc1002, f⟩
    · skip
      have chc1002 := bv1001.mp hc1002
      replace f := zb_let f
      obtain ⟨v1003, hvv1003, f⟩ := f
      have bv1003 := zin_a (x1 := x2) (show (0 : Int64).toInt = 0 from by decide) (show (10 : Int64).toInt = 10 from by decide)
      rw [hvv1003] at bv1003
      replace f := zb_if f
      rcases f with ⟨hc1004, f⟩ | ⟨hc1004, f⟩
      · skip
        have chc1004 := bv1003.mp hc1004
        try have y1010 := zi_mul (x := (7 : Int32)) (y := x1) (n := 7) (by decide) (by omega) (by omega)
        try have y1011 := zi_add (x := (9 : Int32)) (y := (7 * x1)) (by omega) (by omega)
        try have y1012 := zi_add (x := (9 + (7 * x1))) (y := (6 : Int32)) (by omega) (by omega)
        replace f := zb_bpair f
        obtain ⟨v1005, g1006, hvv1005, f⟩ := f
        exfalso
        omega
      · skip
        have chc1004 := zd_no bv1003 hc1004
        obtain ⟨e1, e2⟩ := zb_r2 e
        obtain ⟨f1, f2⟩ := zb_r2 f
        subst e1
        subst e2
        subst f1
        subst f2
        exact ⟨rfl, hR⟩
    · skip
      have chc1002 := zd_no bv1001 hc1002
      obtain ⟨e1, e2⟩ := zb_r2 e
      obtain ⟨f1, f2⟩ := zb_r2 f
      subst e1
      subst e2
      subst f1
      subst f2
      exact ⟨rfl, hR⟩
/-- EveningFirst.see -/
theorem r_79 {x1 : Int32} {x2 : Int32} {x3 : Int32} {x4 : Int32} {v v' : Int32} {g g1000 g' g1' : G} (hI : Inv g) (hM : Inv g1000) (hR : Rel g g1000) (hx4 : x4 = 0 ∨ x4 = 1) (e : d_79 x1 x2 x3 x4 g = some (v, g')) (f : d_175 x1 x2 x3 x4 g1000 = some (v', g1')) : v = v' ∧ Rel g' g1' := by
  unfold d_79 at e
  unfold d_175 at f
  have hN := hR.nums
  have L1 := zl_1
  have L2 := zl_2
  have L3 := zl_3
  have L4 := zl_4
  have L66 := zl_66
  have L8 := zl_8
  have Lm1 := zl_m1
  have Lm3 := zl_m3
  replace e := zb_let e
  obtain ⟨v1, hvv1, e⟩ := e
  have bv1 := b_96 (x1 := x1) (x2 := x2) (x3 := x3) (g := g)
  rw [hvv1] at bv1
  replace e := zb_if e
  rcases e with ⟨hc2, e⟩ | ⟨hc2, e⟩
  · skip
    have chc2 := bv1.mp hc2
    replace f := zb_let f
    obtain ⟨v1001, hvv1001, f⟩ := f
    have bv1001 := b_131 (x1 := x1) (g := g1000) (by omega)
    rw [hvv1001] at bv1001
    replace f := zb_if f
    rcases f with ⟨hc1002, f⟩ | ⟨hc1002, f⟩
    · skip
      have chc1002 := bv1001.mp hc1002
      replace f := zb_let f
      obtain ⟨v1003, hvv1003, f⟩ := f
      have bv1003 := b_134 (x0 := x2)
      rw [hvv1003] at bv1003
      replace f := zb_if f
      rcases f with ⟨hc1004, f⟩ | ⟨hc1004, f⟩
      · skip
        have chc1004 := bv1003.mp hc1004
        replace f := zb_let f
        obtain ⟨v1005, hvv1005, f⟩ := f
        have bv1005 := b_133 (x1 := x3) (g := g1000) (by omega)
        rw [hvv1005] at bv1005
        replace f := zb_if f
        rcases f with ⟨hc1006, f⟩ | ⟨hc1006, f⟩
        · skip
          have chc1006 := bv1005.mp hc1006
          have y1001 := hM.m65
          replace f := zb_if f
          rcases f with ⟨hc1007, f⟩ | ⟨hc1007, f⟩
          · skip
            have chc1007 := zc_neT hc1007
            try have y1002 := zi_mul (x := (4 : Int32)) (y := (g1000 114 65)) (n := 4) (by decide) (by omega) (by omega)
            try have y1003 := zi_add (x := (66 : Int32)) (y := (4 * (g1000 114 65))) (by omega) (by omega)
            replace f := zb_bind f
            obtain ⟨k1009, hk1009, f⟩ := f
            have bk1009 := zm_ix_ko hk1009
            replace f := zb_let f
            obtain ⟨g1008, hg1008, f⟩ := f
            try have y1004 := zi_add (x := (66 + (4 * (g1000 114 65)))) (y := (1 : Int32)) (by omega) (by omega)
            replace f := zb_bind f
            obtain ⟨k1011, hk1011, f⟩ := f
            have bk1011 := zm_ix_ko hk1011
            replace f := zb_let f
            obtain ⟨g1010, hg1010, f⟩ := f
            try have y1005 := zi_add (x := (66 + (4 * (g1000 114 65)))) (y := (2 : Int32)) (by omega) (by omega)
            replace f := zb_bind f
            obtain ⟨k1013, hk1013, f⟩ := f
            have bk1013 := zm_ix_ko hk1013
            replace f := zb_let f
            obtain ⟨g1012, hg1012, f⟩ := f
            replace f := zb_let f
            obtain ⟨v1014, hvv1014, f⟩ := f
            try have y1006 := zi_add (x := (66 + (4 * (g1000 114 65)))) (y := (3 : Int32)) (by omega) (by omega)
            replace f := zb_bind f
            obtain ⟨k1016, hk1016, f⟩ := f
            have bk1016 := zm_ix_ko hk1016
            replace f := zb_let f
            obtain ⟨g1015, hg1015, f⟩ := f
            have ug1015_114_65 : g1015 114 65 = g1012 114 65 := by rw [← hg1015]; exact zg_un (by omega)
            try have y1007 := zi_add (x := (g1015 114 65)) (y := (1 : Int32)) (by omega) (by omega)
            replace f := zb_let f
            obtain ⟨g1017, hg1017, f⟩ := f
            have ug1017_114_65 : g1017 114 65 = ((g1015 114 65) + 1) := by rw [← hg1017]; rfl
            exfalso
            omega
          · skip
            have chc1007 := zc_neF hc1007
            exfalso
            omega
        · skip
          have chc1006 := zd_no bv1005 hc1006
          obtain ⟨e1, e2⟩ := zb_r2 e
          obtain ⟨f1, f2⟩ := zb_r2 f
          subst e1
          subst e2
          subst f1
          subst f2
          exact ⟨rfl, hR⟩
      · skip
        have chc1004 := zd_no bv1003 hc1004
        obtain ⟨e1, e2⟩ := zb_r2 e
        obtain ⟨f1, f2⟩ := zb_r2 f
        subst e1
        subst e2
        subst f1
        subst f2
        exact ⟨rfl, hR⟩
    · skip
      have chc1002 := zd_no bv1001 hc1002
      obtain ⟨e1, e2⟩ := zb_r2 e
      obtain ⟨f1, f2⟩ := zb_r2 f
      subst e1
      subst e2
      subst f1
      subst f2
      exact ⟨rfl, hR⟩
  · skip
    have chc2 := zd_no bv1 hc2
    have y1 : 0 ≤ (g 1 3).toInt ∧ (g 1 3).toInt ≤ 8 := Inv.rd (r := 1) (c := 2) hI 3 rfl
    replace e := zb_if e
    rcases e with ⟨hc3, e⟩ | ⟨hc3, e⟩
    · skip
      have chc3 := zc_ltT hc3
      replace e := zb_bind e
      obtain ⟨k4, hk4, e⟩ := e
      have bk4 := zm_ix_ko hk4
      replace e := zb_let e
      obtain ⟨g5, hg5, e⟩ := e
      replace e := zb_let e
      obtain ⟨g6, hg6, e⟩ := e
      replace e := zb_let e
      obtain ⟨g7, hg7, e⟩ := e
      replace e := zb_if e
      rcases e with ⟨hc9, e⟩ | ⟨hc9, e⟩
      · skip
        replace e := zb_let e
        obtain ⟨g8, hg8, e⟩ := e
        have ug8_1_3 : g8 1 3 = g7 1 3 := by rw [← hg8]; exact zg_un (by omega)
        try have y2 := zi_add (x := (g8 1 3)) (y := (1 : Int32)) (by omega) (by omega)
        replace e := zb_let e
        obtain ⟨g10, hg10, e⟩ := e
        have ug10_1_3 : g10 1 3 = ((g8 1 3) + 1) := by rw [← hg10]; rfl
        replace f := zb_let f
        obtain ⟨v1001, hvv1001, f⟩ := f
        have bv1001 := b_131 (x1 := x1) (g := g1000) (by omega)
        rw [hvv1001] at bv1001
        replace f := zb_if f
        rcases f with ⟨hc1002, f⟩ | ⟨hc1002, f⟩
        · skip
          have chc1002 := bv1001.mp hc1002
          replace f := zb_let f
          obtain ⟨v1003, hvv1003, f⟩ := f
          have bv1003 := b_134 (x0 := x2)
          rw [hvv1003] at bv1003
          replace f := zb_if f
          rcases f with ⟨hc1004, f⟩ | ⟨hc1004, f⟩
          · skip
            have chc1004 := bv1003.mp hc1004
            replace f := zb_let f
            obtain ⟨v1005, hvv1005, f⟩ := f
            have bv1005 := b_133 (x1 := x3) (g := g1000) (by omega)
            rw [hvv1005] at bv1005
            replace f := zb_if f
            rcases f with ⟨hc1006, f⟩ | ⟨hc1006, f⟩
            · skip
              have chc1006 := bv1005.mp hc1006
              have y1008 := hM.m65
              replace f := zb_if f
              rcases f with ⟨hc1007, f⟩ | ⟨hc1007, f⟩
              · skip
                have chc1007 := zc_neT hc1007
                try have y1009 := zi_mul (x := (4 : Int32)) (y := (g1000 114 65)) (n := 4) (by decide) (by omega) (by omega)
                try have y1010 := zi_add (x := (66 : Int32)) (y := (4 * (g1000 114 65))) (by omega) (by omega)
                replace f := zb_bind f
                obtain ⟨k1009, hk1009, f⟩ := f
                have bk1009 := zm_ix_ko hk1009
                replace f := zb_let f
                obtain ⟨g1008, hg1008, f⟩ := f
                try have y1011 := zi_add (x := (66 + (4 * (g1000 114 65)))) (y := (1 : Int32)) (by omega) (by omega)
                replace f := zb_bind f
                obtain ⟨k1011, hk1011, f⟩ := f
                have bk1011 := zm_ix_ko hk1011
                replace f := zb_let f
                obtain ⟨g1010, hg1010, f⟩ := f
                try have y1012 := zi_add (x := (66 + (4 * (g1000 114 65)))) (y := (2 : Int32)) (by omega) (by omega)
                replace f := zb_bind f
                obtain ⟨k1013, hk1013, f⟩ := f
                have bk1013 := zm_ix_ko hk1013
                replace f := zb_let f
                obtain ⟨g1012, hg1012, f⟩ := f
                replace f := zb_let f
                obtain ⟨v1014, hvv1014, f⟩ := f
                try have y1013 := zi_add (x := (66 + (4 * (g1000 114 65)))) (y := (3 : Int32)) (by omega) (by omega)
                replace f := zb_bind f
                obtain ⟨k1016, hk1016, f⟩ := f
                have bk1016 := zm_ix_ko hk1016
                replace f := zb_let f
                obtain ⟨g1015, hg1015, f⟩ := f
                have ug1015_114_65 : g1015 114 65 = g1012 114 65 := by rw [← hg1015]; exact zg_un (by omega)
                try have y1014 := zi_add (x := (g1015 114 65)) (y := (1 : Int32)) (by omega) (by omega)
                replace f := zb_let f
                obtain ⟨g1017, hg1017, f⟩ := f
                have ug1017_114_65 : g1017 114 65 = ((g1015 114 65) + 1) := by rw [← hg1017]; rfl
                obtain rfl : k1009 = 66 + 4 * k4 + 0 := by omega
                obtain rfl : k1011 = 66 + 4 * k4 + 1 := by omega
                obtain rfl : k1013 = 66 + 4 * k4 + 2 := by omega
                obtain rfl : k1016 = 66 + 4 * k4 + 3 := by omega
                have D4 : v1014 = x4 := by rw [← hvv1014]; rcases hx4 with rfl | rfl <;> rfl
                have C0 : g10 (17 + k4) 0 = x1 := ((zg_fr hg10 (17 + k4) 0 (by omega)).trans ((zg_fr hg8 (17 + k4) 0 (by omega)).trans ((zg_fr hg7 (17 + k4) 0 (by omega)).trans ((zg_fr hg6 (17 + k4) 0 (by omega)).trans (show g5 (17 + k4) 0 = x1 by rw [← hg5]; exact zg_ue)))))
                have M0 : g1017 114 (66 + 4 * k4 + 0) = x1 := ((zg_fr hg1017 114 (66 + 4 * k4 + 0) (by omega)).trans ((zg_fr hg1015 114 (66 + 4 * k4 + 0) (by omega)).trans ((zg_fr hg1012 114 (66 + 4 * k4 + 0) (by omega)).trans ((zg_fr hg1010 114 (66 + 4 * k4 + 0) (by omega)).trans (show g1008 114 (66 + 4 * k4 + 0) = x1 by rw [← hg1008]; exact zg_ue)))))
                have C1 : g10 (17 + k4) 1 = x2 := ((zg_fr hg10 (17 + k4) 1 (by omega)).trans ((zg_fr hg8 (17 + k4) 1 (by omega)).trans ((zg_fr hg7 (17 + k4) 1 (by omega)).trans (show g6 (17 + k4) 1 = x2 by rw [← hg6]; exact zg_ue))))
                have M1 : g1017 114 (66 + 4 * k4 + 1) = x2 := ((zg_fr hg1017 114 (66 + 4 * k4 + 1) (by omega)).trans ((zg_fr hg1015 114 (66 + 4 * k4 + 1) (by omega)).trans ((zg_fr hg1012 114 (66 + 4 * k4 + 1) (by omega)).trans (show g1010 114 (66 + 4 * k4 + 1) = x2 by rw [← hg1010]; exact zg_ue))))
                have C2 : g10 (17 + k4) 2 = x3 := ((zg_fr hg10 (17 + k4) 2 (by omega)).trans ((zg_fr hg8 (17 + k4) 2 (by omega)).trans (show g7 (17 + k4) 2 = x3 by rw [← hg7]; exact zg_ue)))
                have M2 : g1017 114 (66 + 4 * k4 + 2) = x3 := ((zg_fr hg1017 114 (66 + 4 * k4 + 2) (by omega)).trans ((zg_fr hg1015 114 (66 + 4 * k4 + 2) (by omega)).trans (show g1012 114 (66 + 4 * k4 + 2) = x3 by rw [← hg1012]; exact zg_ue)))
                have C3 : g10 (17 + k4) 3 = x4 := ((zg_fr hg10 (17 + k4) 3 (by omega)).trans (show g8 (17 + k4) 3 = x4 by rw [← hg8]; exact zg_ue))
                have M3 : g1017 114 (66 + 4 * k4 + 3) = v1014 := ((zg_fr hg1017 114 (66 + 4 * k4 + 3) (by omega)).trans (show g1015 114 (66 + 4 * k4 + 3) = v1014 by rw [← hg1015]; exact zg_ue))
                rw [D4] at M3
                have C8 : g10 1 3 = ((g8 1 3) + 1) := (show g10 1 3 = ((g8 1 3) + 1) by rw [← hg10]; exact zg_ue)
                have M8 : g1017 114 65 = ((g1015 114 65) + 1) := (show g1017 114 65 = ((g1015 114 65) + 1) by rw [← hg1017]; exact zg_ue)
                have P1 : g8 1 3 = g 1 3 := ((zg_fr hg8 1 3 (by omega)).trans ((zg_fr hg7 1 3 (by omega)).trans ((zg_fr hg6 1 3 (by omega)).trans (zg_fr hg5 1 3 (by omega)))))
                have P2 : g1015 114 65 = g1000 114 65 := ((zg_fr hg1015 114 65 (by omega)).trans ((zg_fr hg1012 114 65 (by omega)).trans ((zg_fr hg1010 114 65 (by omega)).trans (zg_fr hg1008 114 65 (by omega)))))
                rw [P1] at C8
                rw [P2] at M8
                have hy := zi_add (x := g 1 3) (y := 1) (by omega) (by omega)
                have a3 : g 1 3 = g1000 114 65 := hR.2.2.1.2.2.2.2.1
                have U0 : g10 1 0 = g 1 0 := ((zg_fr hg10 1 0 (by omega)).trans ((zg_fr hg8 1 0 (by omega)).trans ((zg_fr hg7 1 0 (by omega)).trans ((zg_fr hg6 1 0 (by omega)).trans (zg_fr hg5 1 0 (by omega))))))
                have U1 : g10 1 1 = g 1 1 := ((zg_fr hg10 1 1 (by omega)).trans ((zg_fr hg8 1 1 (by omega)).trans ((zg_fr hg7 1 1 (by omega)).trans ((zg_fr hg6 1 1 (by omega)).trans (zg_fr hg5 1 1 (by omega))))))
                obtain ⟨e1, e2⟩ := zb_r2 e
                obtain ⟨f1, f2⟩ := zb_r2 f
                subst e1
                subst e2
                subst f1
                subst f2
                have hx5 : 0 ≤ x4.toInt ∧ x4.toInt ≤ 1 := by rcases hx4 with rfl | rfl <;> decide
                refine ⟨by rw [C8, M8, a3], hR.sees (n := k4) (by omega) (by omega) (fun r k h1 h2 => ((zg_fr hg10 r k (by omega)).trans ((zg_fr hg8 r k (by omega)).trans ((zg_fr hg7 r k (by omega)).trans ((zg_fr hg6 r k (by omega)).trans (zg_fr hg5 r k (by omega))))))) (fun r k h1 h2 => ((zg_fr hg1017 r k (by omega)).trans ((zg_fr hg1015 r k (by omega)).trans ((zg_fr hg1012 r k (by omega)).trans ((zg_fr hg1010 r k (by omega)).trans (zg_fr hg1008 r k (by omega))))))) ?_ (by rw [C8, M8, a3]) (by rw [C8, hy]; omega) ?_⟩
                · intro j hj
                  match j, hj with
                  | 0, _ => exact C0.trans M0.symm
                  | 1, _ => exact C1.trans M1.symm
                  | 2, _ => exact C2.trans M2.symm
                  | 3, _ => exact C3.trans M3.symm
                  | q + 4, h => exact absurd h (by omega)
                · unfold Wseen
                  rw [U0, U1, show g10 (1 + 16 + k4) 0 = _ from C0, show g10 (1 + 16 + k4) 1 = _ from C1, show g10 (1 + 16 + k4) 2 = _ from C2, show g10 (1 + 16 + k4) 3 = _ from C3]
                  omega
              · skip
                have chc1007 := zc_neF hc1007
                exfalso
                omega
            · skip
              have chc1006 := zd_no bv1005 hc1006
              exfalso
              omega
          · skip
            have chc1004 := zd_no bv1003 hc1004
            exfalso
            omega
        · skip
          have chc1002 := zd_no bv1001 hc1002
          exfalso
          omega
      · cases e
    · skip
      have chc3 := zc_ltF hc3
      replace f := zb_let f
      obtain ⟨v1001, hvv1001, f⟩ := f
      have bv1001 := b_131 (x1 := x1) (g := g1000) (by omega)
      rw [hvv1001] at bv1001
      replace f := zb_if f
      rcases f with ⟨hc1002, f⟩ | ⟨hc1002, f⟩
      · skip
        have chc1002 := bv1001.mp hc1002
        replace f := zb_let f
        obtain ⟨v1003, hvv1003, f⟩ := f
        have bv1003 := b_134 (x0 := x2)
        rw [hvv1003] at bv1003
        replace f := zb_if f
        rcases f with ⟨hc1004, f⟩ | ⟨hc1004, f⟩
        · skip
          have chc1004 := bv1003.mp hc1004
          replace f := zb_let f
          obtain ⟨v1005, hvv1005, f⟩ := f
          have bv1005 := b_133 (x1 := x3) (g := g1000) (by omega)
          rw [hvv1005] at bv1005
          replace f := zb_if f
          rcases f with ⟨hc1006, f⟩ | ⟨hc1006, f⟩
          · skip
            have chc1006 := bv1005.mp hc1006
            have y1015 := hM.m65
            replace f := zb_if f
            rcases f with ⟨hc1007, f⟩ | ⟨hc1007, f⟩
            · skip
              have chc1007 := zc_neT hc1007
              try have y1016 := zi_mul (x := (4 : Int32)) (y := (g1000 114 65)) (n := 4) (by decide) (by omega) (by omega)
              try have y1017 := zi_add (x := (66 : Int32)) (y := (4 * (g1000 114 65))) (by omega) (by omega)
              replace f := zb_bind f
              obtain ⟨k1009, hk1009, f⟩ := f
              have bk1009 := zm_ix_ko hk1009
              replace f := zb_let f
              obtain ⟨g1008, hg1008, f⟩ := f
              try have y1018 := zi_add (x := (66 + (4 * (g1000 114 65)))) (y := (1 : Int32)) (by omega) (by omega)
              replace f := zb_bind f
              obtain ⟨k1011, hk1011, f⟩ := f
              have bk1011 := zm_ix_ko hk1011
              replace f := zb_let f
              obtain ⟨g1010, hg1010, f⟩ := f
              try have y1019 := zi_add (x := (66 + (4 * (g1000 114 65)))) (y := (2 : Int32)) (by omega) (by omega)
              replace f := zb_bind f
              obtain ⟨k1013, hk1013, f⟩ := f
              have bk1013 := zm_ix_ko hk1013
              replace f := zb_let f
              obtain ⟨g1012, hg1012, f⟩ := f
              replace f := zb_let f
              obtain ⟨v1014, hvv1014, f⟩ := f
              try have y1020 := zi_add (x := (66 + (4 * (g1000 114 65)))) (y := (3 : Int32)) (by omega) (by omega)
              replace f := zb_bind f
              obtain ⟨k1016, hk1016, f⟩ := f
              have bk1016 := zm_ix_ko hk1016
              replace f := zb_let f
              obtain ⟨g1015, hg1015, f⟩ := f
              have ug1015_114_65 : g1015 114 65 = g1012 114 65 := by rw [← hg1015]; exact zg_un (by omega)
              try have y1021 := zi_add (x := (g1015 114 65)) (y := (1 : Int32)) (by omega) (by omega)
              replace f := zb_let f
              obtain ⟨g1017, hg1017, f⟩ := f
              have ug1017_114_65 : g1017 114 65 = ((g1015 114 65) + 1) := by rw [← hg1017]; rfl
              exfalso
              omega
            · skip
              have chc1007 := zc_neF hc1007
              obtain ⟨e1, e2⟩ := zb_r2 e
              obtain ⟨f1, f2⟩ := zb_r2 f
              subst e1
              subst e2
              subst f1
              subst f2
              exact ⟨rfl, hR⟩
          · skip
            have chc1006 := zd_no bv1005 hc1006
            exfalso
            omega
        · skip
          have chc1004 := zd_no bv1003 hc1004
          exfalso
          omega
      · skip
        have chc1002 := zd_no bv1001 hc1002
        exfalso
        omega
/-- EveningFirst.forget -/
theorem r_80 {x1 : Int32} {v v' : Int32} {g g1000 g' g1' : G} (hI : Inv g) (hM : Inv g1000) (hR : Rel g g1000) (e : d_80 x1 g = (v, g')) (f : d_176 x1 g1000 = some (v', g1')) : v = v' ∧ Rel g' g1' := by
  unfold d_80 at e
  unfold d_176 at f
  have hN := hR.nums
  have L0 := zl_0
  have L65 := zl_65
  have Lm1 := zl_m1
  replace e := zb_if e
  rcases e with ⟨hc1, e⟩ | ⟨hc1, e⟩
  · skip
    have chc1 := zc_ltT hc1
    replace f := zb_let f
    obtain ⟨v1001, hvv1001, f⟩ := f
    have y1001 := hM.m65
    have bv1001 := zin_a (x1 := x1) (show (0 : Int64).toInt = 0 from by decide) (zi_i64 (g1000 114 65))
    rw [hvv1001] at bv1001
    replace f := zb_if f
    rcases f with ⟨hc1002, f⟩ | ⟨hc1002, f⟩
    · skip
      have chc1002 := bv1001.mp hc1002
      replace f := zb_bpair f
      obtain ⟨v1003, g1004, hvv1003, f⟩ := f
      exfalso
      omega
    · skip
      have chc1002 := zd_no bv1001 hc1002
      obtain ⟨e1, e2⟩ := zb_q2 e
      obtain ⟨f1, f2⟩ := zb_r2 f
      subst e1
      subst e2
      subst f1
      subst f2
      exact ⟨rfl, hR⟩
  · skip
    have chc1 := zc_ltF hc1
    have y1 : 0 ≤ (g 1 3).toInt ∧ (g 1 3).toInt ≤ 8 := Inv.rd (r := 1) (c := 2) hI 3 rfl
    replace e := zb_if e
    rcases e with ⟨hc2, e⟩ | ⟨hc2, e⟩
    · skip
      have chc2 := zc_leT hc2
      replace e := zb_let e
      obtain ⟨g3, hg3, e⟩ := e
      replace f := zb_let f
      obtain ⟨v1001, hvv1001, f⟩ := f
      have y1002 := hM.m65
      have bv1001 := zin_a (x1 := x1) (show (0 : Int64).toInt = 0 from by decide) (zi_i64 (g1000 114 65))
      rw [hvv1001] at bv1001
      replace f := zb_if f
      rcases f with ⟨hc1002, f⟩ | ⟨hc1002, f⟩
      · skip
        have chc1002 := bv1001.mp hc1002
        replace f := zb_bpair f
        obtain ⟨v1003, g1004, hvv1003, f⟩ := f
        obtain ⟨m1, m2⟩ := t_142 (n := 65) (by decide) hvv1003
        obtain ⟨e1, e2⟩ := zb_q2 e
        obtain ⟨f1, f2⟩ := zb_r2 f
        subst e1
        subst e2
        subst f1
        subst f2
        subst hg3
        subst m2
        refine ⟨?_, hR.forgets (by omega)⟩
        rw [m1]
        exact hR.2.2.1.2.2.2.2.1
      · skip
        have chc1002 := zd_no bv1001 hc1002
        exfalso
        omega
    · skip
      have chc2 := zc_leF hc2
      replace f := zb_let f
      obtain ⟨v1001, hvv1001, f⟩ := f
      have y1003 := hM.m65
      have bv1001 := zin_a (x1 := x1) (show (0 : Int64).toInt = 0 from by decide) (zi_i64 (g1000 114 65))
      rw [hvv1001] at bv1001
      replace f := zb_if f
      rcases f with ⟨hc1002, f⟩ | ⟨hc1002, f⟩
      · skip
        have chc1002 := bv1001.mp hc1002
        replace f := zb_bpair f
        obtain ⟨v1003, g1004, hvv1003, f⟩ := f
        exfalso
        omega
      · skip
        have chc1002 := zd_no bv1001 hc1002
        obtain ⟨e1, e2⟩ := zb_q2 e
        obtain ⟨f1, f2⟩ := zb_r2 f
        subst e1
        subst e2
        subst f1
        subst f2
        exact ⟨rfl, hR⟩
