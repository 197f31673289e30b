/-! the lengths alone (printed by wip/tools/rel.py) -/
def QS (k : Nat) (c m : G) : Prop := ((c (105 + 2 * k) 0).toInt = -1 ∧ (m 119 k).toInt = -4) ∨ (c (105 + 2 * k) 0 = m 120 k ∧ 0 ≤ (c (105 + 2 * k) 0).toInt ∧ (m 119 k).toInt ≠ -4)
/-- EveningFirst.feed -/
theorem q_54 {x1 : Int32} {v v' : Int32} {g g1000 g' g1' : G} (hI : Inv g) (hM : Inv g1000) (hR : g 28 1 = g1000 113 14) (e : d_54 x1 g = some (v, g')) (f : d_111 x1 g1000 = some (v', g1')) : v = v' ∧ g' 28 1 = g1' 113 14 := by
  unfold d_54 at e
  unfold d_111 at f
  have hN := congrArg Int32.toInt hR
  have L0 := zl_0
  have L1 := zl_1
  have L127 := zl_127
  have L160 := zl_160
  have Lm1 := zl_m1
  have Lm3 := zl_m3
  replace e := zb_if e
  rcases e with ⟨hc1, e⟩ | ⟨hc1, e⟩
  · skip
    have chc1 := zc_ltT hc1
    replace f := zb_let f
    obtain ⟨v1001, hvv1001, f⟩ := f
    have bv1001 := zin_a (x1 := x1) (show (0 : Int64).toInt = 0 from by decide) (show (127 : Int64).toInt = 127 from by decide)
    rw [hvv1001] at bv1001
    replace f := zb_if f
    rcases f with ⟨hc1002, f⟩ | ⟨hc1002, f⟩
    · skip
      have chc1002 := bv1001.mp hc1002
      have y1001 : 0 ≤ (g1000 113 14).toInt ∧ (g1000 113 14).toInt ≤ 160 := Inv.rd (r := 113) (c := 8) hM 14 rfl
      replace f := zb_if f
      rcases f with ⟨hc1003, f⟩ | ⟨hc1003, f⟩
      · skip
        have chc1003 := zc_neT hc1003
        replace f := zb_bind f
        obtain ⟨k1005, hk1005, f⟩ := f
        have bk1005 := zm_ix_ko hk1005
        replace f := zb_let f
        obtain ⟨g1004, hg1004, f⟩ := f
        have ug1004_113_14 : g1004 113 14 = g1000 113 14 := by rw [← hg1004]; exact zg_un (by omega)
        try have y1002 := zi_add (x := (g1004 113 14)) (y := (1 : Int32)) (by omega) (by omega)
        replace f := zb_let f
        obtain ⟨g1006, hg1006, f⟩ := f
        have ug1006_113_14 : g1006 113 14 = ((g1004 113 14) + 1) := by rw [← hg1006]; rfl
        exfalso
        omega
      · skip
        have chc1003 := zc_neF hc1003
        exfalso
        omega
    · skip
      have chc1002 := zd_no bv1001 hc1002
      obtain ⟨e1, e2⟩ := zb_r2 e
      obtain ⟨f1, f2⟩ := zb_r2 f
      subst e1
      subst e2
      subst f1
      subst f2
      exact ⟨rfl, hR⟩
  · skip
    have chc1 := zc_ltF hc1
    replace e := zb_if e
    rcases e with ⟨hc2, e⟩ | ⟨hc2, e⟩
    · skip
      have chc2 := zc_leT hc2
      have y1 : 0 ≤ (g 28 1).toInt ∧ (g 28 1).toInt ≤ 160 := Inv.rd (r := 28) (c := 4) hI 1 rfl
      replace e := zb_if e
      rcases e with ⟨hc3, e⟩ | ⟨hc3, e⟩
      · skip
        have chc3 := zc_ltT hc3
        replace e := zb_bind e
        obtain ⟨k5, hk5, e⟩ := e
        have bk5 := zm_ix_ko hk5
        replace e := zb_let e
        obtain ⟨g4, hg4, e⟩ := e
        have ug4_28_1 : g4 28 1 = g 28 1 := by rw [← hg4]; exact zg_un (by omega)
        try have y2 := zi_add (x := (g4 28 1)) (y := (1 : Int32)) (by omega) (by omega)
        replace e := zb_let e
        obtain ⟨g6, hg6, e⟩ := e
        have ug6_28_1 : g6 28 1 = ((g4 28 1) + 1) := by rw [← hg6]; rfl
        replace f := zb_let f
        obtain ⟨v1001, hvv1001, f⟩ := f
        have bv1001 := zin_a (x1 := x1) (show (0 : Int64).toInt = 0 from by decide) (show (127 : Int64).toInt = 127 from by decide)
        rw [hvv1001] at bv1001
        replace f := zb_if f
        rcases f with ⟨hc1002, f⟩ | ⟨hc1002, f⟩
        · skip
          have chc1002 := bv1001.mp hc1002
          have y1003 : 0 ≤ (g1000 113 14).toInt ∧ (g1000 113 14).toInt ≤ 160 := Inv.rd (r := 113) (c := 8) hM 14 rfl
          replace f := zb_if f
          rcases f with ⟨hc1003, f⟩ | ⟨hc1003, f⟩
          · skip
            have chc1003 := zc_neT hc1003
            replace f := zb_bind f
            obtain ⟨k1005, hk1005, f⟩ := f
            have bk1005 := zm_ix_ko hk1005
            replace f := zb_let f
            obtain ⟨g1004, hg1004, f⟩ := f
            have ug1004_113_14 : g1004 113 14 = g1000 113 14 := by rw [← hg1004]; exact zg_un (by omega)
            try have y1004 := zi_add (x := (g1004 113 14)) (y := (1 : Int32)) (by omega) (by omega)
            replace f := zb_let f
            obtain ⟨g1006, hg1006, f⟩ := f
            have ug1006_113_14 : g1006 113 14 = ((g1004 113 14) + 1) := by rw [← hg1006]; rfl
            obtain ⟨e1, e2⟩ := zb_r2 e
            obtain ⟨f1, f2⟩ := zb_r2 f
            subst e1
            subst e2
            subst f1
            subst f2
            have a1 : g6 28 1 = g 28 1 + 1 := by rw [← hg6, ← hg4]; rfl
            have a2 : g1006 113 14 = g1000 113 14 + 1 := by rw [← hg1006, ← hg1004]; rfl
            rw [a1, a2, hR]
            exact ⟨rfl, rfl⟩
          · skip
            have chc1003 := zc_neF hc1003
            exfalso
            omega
        · skip
          have chc1002 := zd_no bv1001 hc1002
          exfalso
          omega
      · skip
        have chc3 := zc_ltF hc3
        replace f := zb_let f
        obtain ⟨v1001, hvv1001, f⟩ := f
        have bv1001 := zin_a (x1 := x1) (show (0 : Int64).toInt = 0 from by decide) (show (127 : Int64).toInt = 127 from by decide)
        rw [hvv1001] at bv1001
        replace f := zb_if f
        rcases f with ⟨hc1002, f⟩ | ⟨hc1002, f⟩
        · skip
          have chc1002 := bv1001.mp hc1002
          have y1005 : 0 ≤ (g1000 113 14).toInt ∧ (g1000 113 14).toInt ≤ 160 := Inv.rd (r := 113) (c := 8) hM 14 rfl
          replace f := zb_if f
          rcases f with ⟨hc1003, f⟩ | ⟨hc1003, f⟩
          · skip
            have chc1003 := zc_neT hc1003
            replace f := zb_bind f
            obtain ⟨k1005, hk1005, f⟩ := f
            have bk1005 := zm_ix_ko hk1005
            replace f := zb_let f
            obtain ⟨g1004, hg1004, f⟩ := f
            have ug1004_113_14 : g1004 113 14 = g1000 113 14 := by rw [← hg1004]; exact zg_un (by omega)
            try have y1006 := zi_add (x := (g1004 113 14)) (y := (1 : Int32)) (by omega) (by omega)
            replace f := zb_let f
            obtain ⟨g1006, hg1006, f⟩ := f
            have ug1006_113_14 : g1006 113 14 = ((g1004 113 14) + 1) := by rw [← hg1006]; rfl
            exfalso
            omega
          · skip
            have chc1003 := zc_neF hc1003
            obtain ⟨e1, e2⟩ := zb_r2 e
            obtain ⟨f1, f2⟩ := zb_r2 f
            subst e1
            subst e2
            subst f1
            subst f2
            exact ⟨rfl, hR⟩
        · skip
          have chc1002 := zd_no bv1001 hc1002
          exfalso
          omega
    · skip
      have chc2 := zc_leF hc2
      replace f := zb_let f
      obtain ⟨v1001, hvv1001, f⟩ := f
      have bv1001 := zin_a (x1 := x1) (show (0 : Int64).toInt = 0 from by decide) (show (127 : Int64).toInt = 127 from by decide)
      rw [hvv1001] at bv1001
      replace f := zb_if f
      rcases f with ⟨hc1002, f⟩ | ⟨hc1002, f⟩
      · skip
        have chc1002 := bv1001.mp hc1002
        have y1007 : 0 ≤ (g1000 113 14).toInt ∧ (g1000 113 14).toInt ≤ 160 := Inv.rd (r := 113) (c := 8) hM 14 rfl
        replace f := zb_if f
        rcases f with ⟨hc1003, f⟩ | ⟨hc1003, f⟩
        · skip
          have chc1003 := zc_neT hc1003
          replace f := zb_bind f
          obtain ⟨k1005, hk1005, f⟩ := f
          have bk1005 := zm_ix_ko hk1005
          replace f := zb_let f
          obtain ⟨g1004, hg1004, f⟩ := f
          have ug1004_113_14 : g1004 113 14 = g1000 113 14 := by rw [← hg1004]; exact zg_un (by omega)
          try have y1008 := zi_add (x := (g1004 113 14)) (y := (1 : Int32)) (by omega) (by omega)
          replace f := zb_let f
          obtain ⟨g1006, hg1006, f⟩ := f
          have ug1006_113_14 : g1006 113 14 = ((g1004 113 14) + 1) := by rw [← hg1006]; rfl
          exfalso
          omega
        · skip
          have chc1003 := zc_neF hc1003
          exfalso
          omega
      · skip
        have chc1002 := zd_no bv1001 hc1002
        obtain ⟨e1, e2⟩ := zb_r2 e
        obtain ⟨f1, f2⟩ := zb_r2 f
        subst e1
        subst e2
        subst f1
        subst f2
        exact ⟨rfl, hR⟩
/-- EveningFirst.end -/
theorem q_55 {x1 : Int32} {v v' : Int32} {g g1000 g' g1' : G} (hI : Inv g) (hM : Inv g1000) (hR : g 28 1 = g1000 113 14) (e : d_55 x1 g = (v, g')) (f : d_112 x1 g1000 = (v', g1')) : v = v' ∧ g' 28 1 = g1' 113 14 := by
  unfold d_55 at e
  unfold d_112 at f
  have hN := congrArg Int32.toInt hR
  have L0 := zl_0
  have Lm1 := zl_m1
  replace e := zb_if e
  rcases e with ⟨hc1, e⟩ | ⟨hc1, e⟩
  · skip
    have chc1 := zc_ltT hc1
    replace f := zb_let f
    obtain ⟨v1001, hvv1001, f⟩ := f
    have y1001 : 0 ≤ (g1000 113 14).toInt ∧ (g1000 113 14).toInt ≤ 160 := Inv.rd (r := 113) (c := 8) hM 14 rfl
    have bv1001 := zin_a (x1 := x1) (show (0 : Int64).toInt = 0 from by decide) (zi_i64 (g1000 113 14))
    rw [hvv1001] at bv1001
    replace f := zb_if f
    rcases f with ⟨hc1002, f⟩ | ⟨hc1002, f⟩
    · skip
      have chc1002 := bv1001.mp hc1002
      replace f := zb_let f
      obtain ⟨g1003, hg1003, f⟩ := f
      exfalso
      omega
    · skip
      have chc1002 := zd_no bv1001 hc1002
      obtain ⟨e1, e2⟩ := zb_q2 e
      obtain ⟨f1, f2⟩ := zb_q2 f
      subst e1
      subst e2
      subst f1
      subst f2
      exact ⟨rfl, hR⟩
  · skip
    have chc1 := zc_ltF hc1
    have y1 : 0 ≤ (g 28 1).toInt ∧ (g 28 1).toInt ≤ 160 := Inv.rd (r := 28) (c := 4) hI 1 rfl
    replace e := zb_if e
    rcases e with ⟨hc2, e⟩ | ⟨hc2, e⟩
    · skip
      have chc2 := zc_leT hc2
      replace e := zb_let e
      obtain ⟨g3, hg3, e⟩ := e
      replace f := zb_let f
      obtain ⟨v1001, hvv1001, f⟩ := f
      have y1002 : 0 ≤ (g1000 113 14).toInt ∧ (g1000 113 14).toInt ≤ 160 := Inv.rd (r := 113) (c := 8) hM 14 rfl
      have bv1001 := zin_a (x1 := x1) (show (0 : Int64).toInt = 0 from by decide) (zi_i64 (g1000 113 14))
      rw [hvv1001] at bv1001
      replace f := zb_if f
      rcases f with ⟨hc1002, f⟩ | ⟨hc1002, f⟩
      · skip
        have chc1002 := bv1001.mp hc1002
        replace f := zb_let f
        obtain ⟨g1003, hg1003, f⟩ := f
        obtain ⟨e1, e2⟩ := zb_q2 e
        obtain ⟨f1, f2⟩ := zb_q2 f
        subst e1
        subst e2
        subst f1
        subst f2
        subst hg3
        subst hg1003
        exact ⟨hR, rfl⟩
      · skip
        have chc1002 := zd_no bv1001 hc1002
        exfalso
        omega
    · skip
      have chc2 := zc_leF hc2
      replace f := zb_let f
      obtain ⟨v1001, hvv1001, f⟩ := f
      have y1003 : 0 ≤ (g1000 113 14).toInt ∧ (g1000 113 14).toInt ≤ 160 := Inv.rd (r := 113) (c := 8) hM 14 rfl
      have bv1001 := zin_a (x1 := x1) (show (0 : Int64).toInt = 0 from by decide) (zi_i64 (g1000 113 14))
      rw [hvv1001] at bv1001
      replace f := zb_if f
      rcases f with ⟨hc1002, f⟩ | ⟨hc1002, f⟩
      · skip
        have chc1002 := bv1001.mp hc1002
        replace f := zb_let f
        obtain ⟨g1003, hg1003, f⟩ := f
        exfalso
        omega
      · skip
        have chc1002 := zd_no bv1001 hc1002
        obtain ⟨e1, e2⟩ := zb_q2 e
        obtain ⟨f1, f2⟩ := zb_q2 f
        subst e1
        subst e2
        subst f1
        subst f2
        exact ⟨rfl, hR⟩
/-- EveningFirst.sheet -/
theorem q_85 {x1 : Int32} {x2 : Int32} {x3 : Int32} {v v' : Int32} {g g1000 g' g1' : G} (hI : Inv g) (hM : Inv g1000) (hR : ∀ k, k < 4 → QS k g g1000) (e : d_85 x1 x2 x3 g = some (v, g')) (f : d_184 x1 x2 x3 g1000 = some (v', g1')) : v = v' ∧ ∀ k, k < 4 → QS k g' g1' := by
  unfold d_85 at e
  unfold d_184 at f
  skip
  have L0 := zl_0
  have L1 := zl_1
  have L40 := zl_40
  have Lm1 := zl_m1
  have Lm14 := zl_m14
  replace e := zb_let e
  obtain ⟨v1, hvv1, e⟩ := e
  have bv1 := b_93 (x0 := x1)
  rw [hvv1] at bv1
  replace e := zb_if e
  rcases e with ⟨hc2, e⟩ | ⟨hc2, e⟩
  · skip
    have chc2 := bv1.mp hc2
    replace f := zb_let f
    obtain ⟨v1001, hvv1001, f⟩ := f
    have bv1001 := b_183 (x0 := x1) (x1 := x2)
    rw [hvv1001] at bv1001
    replace f := zb_if f
    rcases f with ⟨hc1002, f⟩ | ⟨hc1002, f⟩
    · skip
      have chc1002 := bv1001.mp hc1002
      replace f := zb_if f
      rcases f with ⟨hc1003, f⟩ | ⟨hc1003, f⟩
      · skip
        have chc1003 := zc_leT hc1003
        replace f := zb_if f
        rcases f with ⟨hc1004, f⟩ | ⟨hc1004, f⟩
        · skip
          have chc1004 := zc_geT hc1004
          replace f := zb_bind f
          obtain ⟨k1006, hk1006, f⟩ := f
          have bk1006 := zm_ix_ko hk1006
          replace f := zb_let f
          obtain ⟨g1005, hg1005, f⟩ := f
          replace f := zb_bind f
          obtain ⟨k1008, hk1008, f⟩ := f
          have bk1008 := zm_ix_ko hk1008
          replace f := zb_let f
          obtain ⟨g1007, hg1007, f⟩ := f
          exfalso
          omega
        · skip
          have chc1004 := zc_geF hc1004
          exfalso
          omega
      · skip
        have chc1003 := zc_leF hc1003
        obtain ⟨e1, e2⟩ := zb_r2 e
        obtain ⟨f1, f2⟩ := zb_r2 f
        subst e1
        subst e2
        subst f1
        subst f2
        exact ⟨rfl, hR⟩
    · skip
      have chc1002 := zd_no bv1001 hc1002
      obtain ⟨e1, e2⟩ := zb_r2 e
      obtain ⟨f1, f2⟩ := zb_r2 f
      subst e1
      subst e2
      subst f1
      subst f2
      exact ⟨rfl, hR⟩
  · skip
    have chc2 := zd_no bv1 hc2
    replace e := zb_let e
    obtain ⟨v3, hvv3, e⟩ := e
    have bv3 := b_94 (x0 := x2)
    rw [hvv3] at bv3
    replace e := zb_if e
    rcases e with ⟨hc4, e⟩ | ⟨hc4, e⟩
    · skip
      have chc4 := bv3.mp hc4
      replace f := zb_let f
      obtain ⟨v1001, hvv1001, f⟩ := f
      have bv1001 := b_183 (x0 := x1) (x1 := x2)
      rw [hvv1001] at bv1001
      replace f := zb_if f
      rcases f with ⟨hc1002, f⟩ | ⟨hc1002, f⟩
      · skip
        have chc1002 := bv1001.mp hc1002
        replace f := zb_if f
        rcases f with ⟨hc1003, f⟩ | ⟨hc1003, f⟩
        · skip
          have chc1003 := zc_leT hc1003
          replace f := zb_if f
          rcases f with ⟨hc1004, f⟩ | ⟨hc1004, f⟩
          · skip
            have chc1004 := zc_geT hc1004
            replace f := zb_bind f
            obtain ⟨k1006, hk1006, f⟩ := f
            have bk1006 := zm_ix_ko hk1006
            replace f := zb_let f
            obtain ⟨g1005, hg1005, f⟩ := f
            replace f := zb_bind f
            obtain ⟨k1008, hk1008, f⟩ := f
            have bk1008 := zm_ix_ko hk1008
            replace f := zb_let f
            obtain ⟨g1007, hg1007, f⟩ := f
            exfalso
            omega
          · skip
            have chc1004 := zc_geF hc1004
            exfalso
            omega
        · skip
          have chc1003 := zc_leF hc1003
          obtain ⟨e1, e2⟩ := zb_r2 e
          obtain ⟨f1, f2⟩ := zb_r2 f
          subst e1
          subst e2
          subst f1
          subst f2
          exact ⟨rfl, hR⟩
      · skip
        have chc1002 := zd_no bv1001 hc1002
        obtain ⟨e1, e2⟩ := zb_r2 e
        obtain ⟨f1, f2⟩ := zb_r2 f
        subst e1
        subst e2
        subst f1
        subst f2
        exact ⟨rfl, hR⟩
    · skip
      have chc4 := zd_no bv3 hc4
      replace e := zb_if e
      rcases e with ⟨hc5, e⟩ | ⟨hc5, e⟩
      · skip
        have chc5 := zc_leT hc5
        replace e := zb_if e
        rcases e with ⟨hc6, e⟩ | ⟨hc6, e⟩
        · skip
          have chc6 := zc_geT hc6
          replace e := zb_bind e
          obtain ⟨k7, hk7, e⟩ := e
          have bk7 := zm_ix_ko hk7
          replace e := zb_bind e
          obtain ⟨g8, hvg8, e⟩ := e
          replace f := zb_let f
          obtain ⟨v1001, hvv1001, f⟩ := f
          have bv1001 := b_183 (x0 := x1) (x1 := x2)
          rw [hvv1001] at bv1001
          replace f := zb_if f
          rcases f with ⟨hc1002, f⟩ | ⟨hc1002, f⟩
          · skip
            have chc1002 := bv1001.mp hc1002
            replace f := zb_if f
            rcases f with ⟨hc1003, f⟩ | ⟨hc1003, f⟩
            · skip
              have chc1003 := zc_leT hc1003
              replace f := zb_if f
              rcases f with ⟨hc1004, f⟩ | ⟨hc1004, f⟩
              · skip
                have chc1004 := zc_geT hc1004
                replace f := zb_bind f
                obtain ⟨k1006, hk1006, f⟩ := f
                have bk1006 := zm_ix_ko hk1006
                replace f := zb_let f
                obtain ⟨g1005, hg1005, f⟩ := f
                replace f := zb_bind f
                obtain ⟨k1008, hk1008, f⟩ := f
                have bk1008 := zm_ix_ko hk1008
                replace f := zb_let f
                obtain ⟨g1007, hg1007, f⟩ := f
                obtain rfl : k7 = k1006 := by omega
                obtain rfl : k7 = k1008 := by omega
                obtain ⟨t1, t2, t3, t4⟩ := t_47 hvg8
                obtain ⟨l0, l1, l2⟩ := l_184_40 (q := k7) (by omega) (by omega) 300 0 0 g1007 g1' v' (by omega) f
                obtain ⟨e1, e2⟩ := zb_r2 e
                subst e1
                subst e2
                have M0 : g1' 119 k7 = x2 := (l1 119 k7 (by omega)).trans ((zg_fr hg1007 119 k7 (by omega)).trans (by rw [← hg1005]; exact zg_ue))
                have M1 : g1' 120 k7 = x3 := (l1 120 k7 (by omega)).trans (by rw [← hg1007]; exact zg_ue)
                refine ⟨l0.symm, fun k hk => ?_⟩
                by_cases hh : k = k7
                · subst hh
                  exact Or.inr ⟨by rw [t3, M1], by rw [t3]; omega, by rw [M0]; omega⟩
                · have q := hR k hk
                  unfold QS at *
                  rw [t1 (105 + 2 * k) 0 (by omega) (by omega), (l1 119 k (by omega)).trans ((zg_fr hg1007 119 k (by omega)).trans (zg_fr hg1005 119 k (by omega))), (l1 120 k (by omega)).trans ((zg_fr hg1007 120 k (by omega)).trans (zg_fr hg1005 120 k (by omega)))]
                  exact q
              · skip
                have chc1004 := zc_geF hc1004
                exfalso
                omega
            · skip
              have chc1003 := zc_leF hc1003
              exfalso
              omega
          · skip
            have chc1002 := zd_no bv1001 hc1002
            exfalso
            omega
        · skip
          have chc6 := zc_geF hc6
          replace f := zb_let f
          obtain ⟨v1001, hvv1001, f⟩ := f
          have bv1001 := b_183 (x0 := x1) (x1 := x2)
          rw [hvv1001] at bv1001
          replace f := zb_if f
          rcases f with ⟨hc1002, f⟩ | ⟨hc1002, f⟩
          · skip
            have chc1002 := bv1001.mp hc1002
            replace f := zb_if f
            rcases f with ⟨hc1003, f⟩ | ⟨hc1003, f⟩
            · skip
              have chc1003 := zc_leT hc1003
              replace f := zb_if f
              rcases f with ⟨hc1004, f⟩ | ⟨hc1004, f⟩
              · skip
                have chc1004 := zc_geT hc1004
                replace f := zb_bind f
                obtain ⟨k1006, hk1006, f⟩ := f
                have bk1006 := zm_ix_ko hk1006
                replace f := zb_let f
                obtain ⟨g1005, hg1005, f⟩ := f
                replace f := zb_bind f
                obtain ⟨k1008, hk1008, f⟩ := f
                have bk1008 := zm_ix_ko hk1008
                replace f := zb_let f
                obtain ⟨g1007, hg1007, f⟩ := f
                exfalso
                omega
              · skip
                have chc1004 := zc_geF hc1004
                obtain ⟨e1, e2⟩ := zb_r2 e
                obtain ⟨f1, f2⟩ := zb_r2 f
                subst e1
                subst e2
                subst f1
                subst f2
                exact ⟨rfl, hR⟩
            · skip
              have chc1003 := zc_leF hc1003
              exfalso
              omega
          · skip
            have chc1002 := zd_no bv1001 hc1002
            exfalso
            omega
      · skip
        have chc5 := zc_leF hc5
        replace f := zb_let f
        obtain ⟨v1001, hvv1001, f⟩ := f
        have bv1001 := b_183 (x0 := x1) (x1 := x2)
        rw [hvv1001] at bv1001
        replace f := zb_if f
        rcases f with ⟨hc1002, f⟩ | ⟨hc1002, f⟩
        · skip
          have chc1002 := bv1001.mp hc1002
          replace f := zb_if f
          rcases f with ⟨hc1003, f⟩ | ⟨hc1003, f⟩
          · skip
            have chc1003 := zc_leT hc1003
            replace f := zb_if f
            rcases f with ⟨hc1004, f⟩ | ⟨hc1004, f⟩
            · skip
              have chc1004 := zc_geT hc1004
              replace f := zb_bind f
              obtain ⟨k1006, hk1006, f⟩ := f
              have bk1006 := zm_ix_ko hk1006
              replace f := zb_let f
              obtain ⟨g1005, hg1005, f⟩ := f
              replace f := zb_bind f
              obtain ⟨k1008, hk1008, f⟩ := f
              have bk1008 := zm_ix_ko hk1008
              replace f := zb_let f
              obtain ⟨g1007, hg1007, f⟩ := f
              exfalso
              omega
            · skip
              have chc1004 := zc_geF hc1004
              exfalso
              omega
          · skip
            have chc1003 := zc_leF hc1003
            obtain ⟨e1, e2⟩ := zb_r2 e
            obtain ⟨f1, f2⟩ := zb_r2 f
            subst e1
            subst e2
            subst f1
            subst f2
            exact ⟨rfl, hR⟩
        · skip
          have chc1002 := zd_no bv1001 hc1002
          obtain ⟨e1, e2⟩ := zb_r2 e
          obtain ⟨f1, f2⟩ := zb_r2 f
          subst e1
          subst e2
          subst f1
          subst f2
          exact ⟨rfl, hR⟩
/-- EveningFirst.lay -/
theorem q_86 {x1 : Int32} {x2 : Int32} {x3 : Int32} {v v' : Int32} {g g1000 g' g1' : G} (hI : Inv g) (hM : Inv g1000) (hR : ∀ k, k < 4 → QS k g g1000) (e : d_86 x1 x2 x3 g = some (v, g')) (f : d_185 x1 x2 x3 g1000 = some (v', g1')) : v = v' ∧ ∀ k, k < 4 → QS k g' g1' := by
  unfold d_86 at e
  unfold d_185 at f
  skip
  have L0 := zl_0
  have L1 := zl_1
  have L40 := zl_40
  have Lm1 := zl_m1
  have Lm10 := zl_m10
  have Lm11 := zl_m11
  have Lm12 := zl_m12
  have Lm4 := zl_m4
  replace e := zb_let e
  obtain ⟨v1, hvv1, e⟩ := e
  have bv1 := b_93 (x0 := x1)
  rw [hvv1] at bv1
  replace e := zb_if e
  rcases e with ⟨hc2, e⟩ | ⟨hc2, e⟩
  · skip
    have chc2 := bv1.mp hc2
    replace f := zb_let f
    obtain ⟨v1001, hvv1001, f⟩ := f
    have bv1001 := b_183 (x0 := x1) (x1 := (0 : Int32))
    rw [hvv1001] at bv1001
    replace f := zb_if f
    rcases f with ⟨hc1002, f⟩ | ⟨hc1002, f⟩
    · skip
      have chc1002 := bv1001.mp hc1002
      replace f := zb_bind f
      obtain ⟨k1003, hk1003, f⟩ := f
      have bk1003 := zm_ix_ko hk1003
      replace f := zb_if f
      rcases f with ⟨hc1004, f⟩ | ⟨hc1004, f⟩
      · skip
        have chc1004 := zc_neT hc1004
        replace f := zb_bind f
        obtain ⟨k1005, hk1005, f⟩ := f
        have bk1005 := zm_ix_ko hk1005
        replace f := zb_let f
        obtain ⟨v1006, hvv1006, f⟩ := f
        have y1001 : 0 ≤ (g1000 120 k1005).toInt ∧ (g1000 120 k1005).toInt ≤ 40 := Inv.rd (r := 120) (c := 9) hM k1005 rfl
        try have y1002 := zi_sub (x := (g1000 120 k1005)) (y := (1 : Int32)) (by omega) (by omega)
        have bv1006 := zin_a (x1 := x2) (show (0 : Int64).toInt = 0 from by decide) (zi_i64 ((g1000 120 k1005) - 1))
        rw [hvv1006] at bv1006
        replace f := zb_if f
        rcases f with ⟨hc1007, f⟩ | ⟨hc1007, f⟩
        · skip
          have chc1007 := bv1006.mp hc1007
          replace f := zb_bind f
          obtain ⟨k1008, hk1008, f⟩ := f
          have bk1008 := zm_ix_ko hk1008
          replace f := zb_if f
          rcases f with ⟨hc1009, f⟩ | ⟨hc1009, f⟩
          · skip
            have chc1009 := zc_neT hc1009
            replace f := zb_bind f
            obtain ⟨k1010, hk1010, f⟩ := f
            have bk1010 := zm_ix_ko hk1010
            replace f := zb_if f
            rcases f with ⟨hc1011, f⟩ | ⟨hc1011, f⟩
            · skip
              have chc1011 := zc_neT hc1011
              try have y1003 := zi_mul (x := (40 : Int32)) (y := x1) (n := 40) (by decide) (by omega) (by omega)
              try have y1004 := zi_add (x := (40 * x1)) (y := x2) (by omega) (by omega)
              replace f := zb_bind f
              obtain ⟨k1013, hk1013, f⟩ := f
              have bk1013 := zm_ix_ko hk1013
              replace f := zb_let f
              obtain ⟨g1012, hg1012, f⟩ := f
              exfalso
              omega
            · skip
              have chc1011 := zc_neF hc1011
              try have y1005 := zi_mul (x := (40 : Int32)) (y := x1) (n := 40) (by decide) (by omega) (by omega)
              try have y1006 := zi_add (x := (40 * x1)) (y := x2) (by omega) (by omega)
              replace f := zb_bind f
              obtain ⟨k1015, hk1015, f⟩ := f
              have bk1015 := zm_ix_ko hk1015
              replace f := zb_let f
              obtain ⟨g1014, hg1014, f⟩ := f
              exfalso
              omega
          · skip
            have chc1009 := zc_neF hc1009
            try have y1007 := zi_mul (x := (40 : Int32)) (y := x1) (n := 40) (by decide) (by omega) (by omega)
            try have y1008 := zi_add (x := (40 * x1)) (y := x2) (by omega) (by omega)
            replace f := zb_bind f
            obtain ⟨k1017, hk1017, f⟩ := f
            have bk1017 := zm_ix_ko hk1017
            replace f := zb_let f
            obtain ⟨g1016, hg1016, f⟩ := f
            exfalso
            omega
        · skip
          have chc1007 := zd_no bv1006 hc1007
          exfalso
          omega
      · skip
        have chc1004 := zc_neF hc1004
        exfalso
        omega
    · skip
      have chc1002 := zd_no bv1001 hc1002
      obtain ⟨e1, e2⟩ := zb_r2 e
      obtain ⟨f1, f2⟩ := zb_r2 f
      subst e1
      subst e2
      subst f1
      subst f2
      exact ⟨rfl, hR⟩
  · skip
    have chc2 := zd_no bv1 hc2
    replace e := zb_bind e
    obtain ⟨k3, hk3, e⟩ := e
    have bk3 := zm_ix_ko hk3
    replace e := zb_let e
    obtain ⟨v4, hvv4, e⟩ := e
    have bv4 := t_49 hvv4
    replace e := zb_if e
    rcases e with ⟨hc5, e⟩ | ⟨hc5, e⟩
    · skip
      have chc5 := zc_eqT hc5
      replace e := zb_bind e
      obtain ⟨k6, hk6, e⟩ := e
      have bk6 := zm_ix_ko hk6
      replace e := zb_bind e
      obtain ⟨g7, hvg7, e⟩ := e
      replace f := zb_let f
      obtain ⟨v1001, hvv1001, f⟩ := f
      have bv1001 := b_183 (x0 := x1) (x1 := (0 : Int32))
      rw [hvv1001] at bv1001
      replace f := zb_if f
      rcases f with ⟨hc1002, f⟩ | ⟨hc1002, f⟩
      · skip
        have chc1002 := bv1001.mp hc1002
        replace f := zb_bind f
        obtain ⟨k1003, hk1003, f⟩ := f
        have bk1003 := zm_ix_ko hk1003
        replace f := zb_if f
        rcases f with ⟨hc1004, f⟩ | ⟨hc1004, f⟩
        · skip
          have chc1004 := zc_neT hc1004
          replace f := zb_bind f
          obtain ⟨k1005, hk1005, f⟩ := f
          have bk1005 := zm_ix_ko hk1005
          replace f := zb_let f
          obtain ⟨v1006, hvv1006, f⟩ := f
          have y1009 : 0 ≤ (g1000 120 k1005).toInt ∧ (g1000 120 k1005).toInt ≤ 40 := Inv.rd (r := 120) (c := 9) hM k1005 rfl
          try have y1010 := zi_sub (x := (g1000 120 k1005)) (y := (1 : Int32)) (by omega) (by omega)
          have bv1006 := zin_a (x1 := x2) (show (0 : Int64).toInt = 0 from by decide) (zi_i64 ((g1000 120 k1005) - 1))
          rw [hvv1006] at bv1006
          replace f := zb_if f
          rcases f with ⟨hc1007, f⟩ | ⟨hc1007, f⟩
          · skip
            have chc1007 := bv1006.mp hc1007
            replace f := zb_bind f
            obtain ⟨k1008, hk1008, f⟩ := f
            have bk1008 := zm_ix_ko hk1008
            replace f := zb_if f
            rcases f with ⟨hc1009, f⟩ | ⟨hc1009, f⟩
            · skip
              have chc1009 := zc_neT hc1009
              replace f := zb_bind f
              obtain ⟨k1010, hk1010, f⟩ := f
              have bk1010 := zm_ix_ko hk1010
              replace f := zb_if f
              rcases f with ⟨hc1011, f⟩ | ⟨hc1011, f⟩
              · skip
                have chc1011 := zc_neT hc1011
                try have y1011 := zi_mul (x := (40 : Int32)) (y := x1) (n := 40) (by decide) (by omega) (by omega)
                try have y1012 := zi_add (x := (40 * x1)) (y := x2) (by omega) (by omega)
                replace f := zb_bind f
                obtain ⟨k1013, hk1013, f⟩ := f
                have bk1013 := zm_ix_ko hk1013
                replace f := zb_let f
                obtain ⟨g1012, hg1012, f⟩ := f
                obtain rfl : k3 = k6 := by omega
                obtain rfl : k3 = k1003 := by omega
                obtain rfl : k3 = k1005 := by omega
                obtain rfl : k3 = k1008 := by omega
                obtain rfl : k3 = k1010 := by omega
                rcases hR k3 (by omega) with ⟨s1, s2⟩ | ⟨s1, s2, s3⟩
                · exfalso
                  omega
                · have s1i := congrArg Int32.toInt s1
                  obtain ⟨i, hi⟩ : ∃ i : Nat, x2.toInt = i := ⟨x2.toInt.toNat, by omega⟩
                  have t := t_51 hvg7 hi
                  obtain ⟨e1, e2⟩ := zb_r2 e
                  obtain ⟨f1, f2⟩ := zb_r2 f
                  subst e1
                  subst e2
                  subst f1
                  subst f2
                  subst t
                  subst hg1012
                  refine ⟨rfl, fun k hk => ?_⟩
                  have q := hR k hk
                  unfold QS at *
                  rw [zg_un (r := 105 + 2 * k) (by omega), zg_un (r := 119) (by omega), zg_un (r := 120) (by omega)]
                  exact q
              · skip
                have chc1011 := zc_neF hc1011
                try have y1013 := zi_mul (x := (40 : Int32)) (y := x1) (n := 40) (by decide) (by omega) (by omega)
                try have y1014 := zi_add (x := (40 * x1)) (y := x2) (by omega) (by omega)
                replace f := zb_bind f
                obtain ⟨k1015, hk1015, f⟩ := f
                have bk1015 := zm_ix_ko hk1015
                replace f := zb_let f
                obtain ⟨g1014, hg1014, f⟩ := f
                obtain rfl : k3 = k6 := by omega
                obtain rfl : k3 = k1003 := by omega
                obtain rfl : k3 = k1005 := by omega
                obtain rfl : k3 = k1008 := by omega
                obtain rfl : k3 = k1010 := by omega
                rcases hR k3 (by omega) with ⟨s1, s2⟩ | ⟨s1, s2, s3⟩
                · exfalso
                  omega
                · have s1i := congrArg Int32.toInt s1
                  obtain ⟨i, hi⟩ : ∃ i : Nat, x2.toInt = i := ⟨x2.toInt.toNat, by omega⟩
                  have t := t_51 hvg7 hi
                  obtain ⟨e1, e2⟩ := zb_r2 e
                  obtain ⟨f1, f2⟩ := zb_r2 f
                  subst e1
                  subst e2
                  subst f1
                  subst f2
                  subst t
                  subst hg1014
                  refine ⟨rfl, fun k hk => ?_⟩
                  have q := hR k hk
                  unfold QS at *
                  rw [zg_un (r := 105 + 2 * k) (by omega), zg_un (r := 119) (by omega), zg_un (r := 120) (by omega)]
                  exact q
            · skip
              have chc1009 := zc_neF hc1009
              try have y1015 := zi_mul (x := (40 : Int32)) (y := x1) (n := 40) (by decide) (by omega) (by omega)
              try have y1016 := zi_add (x := (40 * x1)) (y := x2) (by omega) (by omega)
              replace f := zb_bind f
              obtain ⟨k1017, hk1017, f⟩ := f
              have bk1017 := zm_ix_ko hk1017
              replace f := zb_let f
              obtain ⟨g1016, hg1016, f⟩ := f
              obtain rfl : k3 = k6 := by omega
              obtain rfl : k3 = k1003 := by omega
              obtain rfl : k3 = k1005 := by omega
              obtain rfl : k3 = k1008 := by omega
              rcases hR k3 (by omega) with ⟨s1, s2⟩ | ⟨s1, s2, s3⟩
              · exfalso
                omega
              · have s1i := congrArg Int32.toInt s1
                obtain ⟨i, hi⟩ : ∃ i : Nat, x2.toInt = i := ⟨x2.toInt.toNat, by omega⟩
                have t := t_51 hvg7 hi
                obtain ⟨e1, e2⟩ := zb_r2 e
                obtain ⟨f1, f2⟩ := zb_r2 f
                subst e1
                subst e2
                subst f1
                subst f2
                subst t
                subst hg1016
                refine ⟨rfl, fun k hk => ?_⟩
                have q := hR k hk
                unfold QS at *
                rw [zg_un (r := 105 + 2 * k) (by omega), zg_un (r := 119) (by omega), zg_un (r := 120) (by omega)]
                exact q
          · skip
            have chc1007 := zd_no bv1006 hc1007
            obtain rfl : k3 = k6 := by omega
            obtain rfl : k3 = k1003 := by omega
            obtain rfl : k3 = k1005 := by omega
            rcases hR k3 (by omega) with ⟨s1, s2⟩ | ⟨s1, s2, s3⟩
            · exfalso
              omega
            · have s1i := congrArg Int32.toInt s1
              exfalso
              omega
        · skip
          have chc1004 := zc_neF hc1004
          obtain rfl : k3 = k6 := by omega
          obtain rfl : k3 = k1003 := by omega
          rcases hR k3 (by omega) with ⟨s1, s2⟩ | ⟨s1, s2, s3⟩
          · exfalso
            omega
          · have s1i := congrArg Int32.toInt s1
            exfalso
            omega
      · skip
        have chc1002 := zd_no bv1001 hc1002
        obtain rfl : k3 = k6 := by omega
        rcases hR k3 (by omega) with ⟨s1, s2⟩ | ⟨s1, s2, s3⟩
        · exfalso
          omega
        · have s1i := congrArg Int32.toInt s1
          exfalso
          omega
    · skip
      have chc5 := zc_eqF hc5
      try have y1 := zi_sub (x := (-10 : Int32)) (y := v4) (by omega) (by omega)
      replace f := zb_let f
      obtain ⟨v1001, hvv1001, f⟩ := f
      have bv1001 := b_183 (x0 := x1) (x1 := (0 : Int32))
      rw [hvv1001] at bv1001
      replace f := zb_if f
      rcases f with ⟨hc1002, f⟩ | ⟨hc1002, f⟩
      · skip
        have chc1002 := bv1001.mp hc1002
        replace f := zb_bind f
        obtain ⟨k1003, hk1003, f⟩ := f
        have bk1003 := zm_ix_ko hk1003
        replace f := zb_if f
        rcases f with ⟨hc1004, f⟩ | ⟨hc1004, f⟩
        · skip
          have chc1004 := zc_neT hc1004
          replace f := zb_bind f
          obtain ⟨k1005, hk1005, f⟩ := f
          have bk1005 := zm_ix_ko hk1005
          replace f := zb_let f
          obtain ⟨v1006, hvv1006, f⟩ := f
          have y1017 : 0 ≤ (g1000 120 k1005).toInt ∧ (g1000 120 k1005).toInt ≤ 40 := Inv.rd (r := 120) (c := 9) hM k1005 rfl
          try have y1018 := zi_sub (x := (g1000 120 k1005)) (y := (1 : Int32)) (by omega) (by omega)
          have bv1006 := zin_a (x1 := x2) (show (0 : Int64).toInt = 0 from by decide) (zi_i64 ((g1000 120 k1005) - 1))
          rw [hvv1006] at bv1006
          replace f := zb_if f
          rcases f with ⟨hc1007, f⟩ | ⟨hc1007, f⟩
          · skip
            have chc1007 := bv1006.mp hc1007
            replace f := zb_bind f
            obtain ⟨k1008, hk1008, f⟩ := f
            have bk1008 := zm_ix_ko hk1008
            replace f := zb_if f
            rcases f with ⟨hc1009, f⟩ | ⟨hc1009, f⟩
            · skip
              have chc1009 := zc_neT hc1009
              replace f := zb_bind f
              obtain ⟨k1010, hk1010, f⟩ := f
              have bk1010 := zm_ix_ko hk1010
              replace f := zb_if f
              rcases f with ⟨hc1011, f⟩ | ⟨hc1011, f⟩
              · skip
                have chc1011 := zc_neT hc1011
                try have y1019 := zi_mul (x := (40 : Int32)) (y := x1) (n := 40) (by decide) (by omega) (by omega)
                try have y1020 := zi_add (x := (40 * x1)) (y := x2) (by omega) (by omega)
                replace f := zb_bind f
                obtain ⟨k1013, hk1013, f⟩ := f
                have bk1013 := zm_ix_ko hk1013
                replace f := zb_let f
                obtain ⟨g1012, hg1012, f⟩ := f
                obtain rfl : k3 = k1003 := by omega
                obtain rfl : k3 = k1005 := by omega
                obtain rfl : k3 = k1008 := by omega
                obtain rfl : k3 = k1010 := by omega
                rcases hR k3 (by omega) with ⟨s1, s2⟩ | ⟨s1, s2, s3⟩
                · exfalso
                  omega
                · have s1i := congrArg Int32.toInt s1
                  exfalso
                  omega
              · skip
                have chc1011 := zc_neF hc1011
                try have y1021 := zi_mul (x := (40 : Int32)) (y := x1) (n := 40) (by decide) (by omega) (by omega)
                try have y1022 := zi_add (x := (40 * x1)) (y := x2) (by omega) (by omega)
                replace f := zb_bind f
                obtain ⟨k1015, hk1015, f⟩ := f
                have bk1015 := zm_ix_ko hk1015
                replace f := zb_let f
                obtain ⟨g1014, hg1014, f⟩ := f
                obtain rfl : k3 = k1003 := by omega
                obtain rfl : k3 = k1005 := by omega
                obtain rfl : k3 = k1008 := by omega
                obtain rfl : k3 = k1010 := by omega
                rcases hR k3 (by omega) with ⟨s1, s2⟩ | ⟨s1, s2, s3⟩
                · exfalso
                  omega
                · have s1i := congrArg Int32.toInt s1
                  exfalso
                  omega
            · skip
              have chc1009 := zc_neF hc1009
              try have y1023 := zi_mul (x := (40 : Int32)) (y := x1) (n := 40) (by decide) (by omega) (by omega)
              try have y1024 := zi_add (x := (40 * x1)) (y := x2) (by omega) (by omega)
              replace f := zb_bind f
              obtain ⟨k1017, hk1017, f⟩ := f
              have bk1017 := zm_ix_ko hk1017
              replace f := zb_let f
              obtain ⟨g1016, hg1016, f⟩ := f
              obtain rfl : k3 = k1003 := by omega
              obtain rfl : k3 = k1005 := by omega
              obtain rfl : k3 = k1008 := by omega
              rcases hR k3 (by omega) with ⟨s1, s2⟩ | ⟨s1, s2, s3⟩
              · exfalso
                omega
              · have s1i := congrArg Int32.toInt s1
                exfalso
                omega
          · skip
            have chc1007 := zd_no bv1006 hc1007
            obtain rfl : k3 = k1003 := by omega
            obtain rfl : k3 = k1005 := by omega
            rcases hR k3 (by omega) with ⟨s1, s2⟩ | ⟨s1, s2, s3⟩
            · skip
              first
                | (exfalso; omega)
                | (have L02 : (2 : Int32).toInt = 2 := (by decide); have w : v4 = 2 := Int32.toInt_inj.mp (by omega); obtain ⟨e1, e2⟩ := zb_r2 e; obtain ⟨f1, f2⟩ := zb_r2 f; subst e1; subst e2; subst f1; subst f2; rw [w]; exact ⟨by decide, hR⟩)
            · have s1i := congrArg Int32.toInt s1
              first
                | (exfalso; omega)
                | (have L02 : (2 : Int32).toInt = 2 := (by decide); have w : v4 = 2 := Int32.toInt_inj.mp (by omega); obtain ⟨e1, e2⟩ := zb_r2 e; obtain ⟨f1, f2⟩ := zb_r2 f; subst e1; subst e2; subst f1; subst f2; rw [w]; exact ⟨by decide, hR⟩)
        · skip
          have chc1004 := zc_neF hc1004
          obtain rfl : k3 = k1003 := by omega
          rcases hR k3 (by omega) with ⟨s1, s2⟩ | ⟨s1, s2, s3⟩
          · skip
            first
              | (exfalso; omega)
              | (have L01 : (1 : Int32).toInt = 1 := (by decide); have w : v4 = 1 := Int32.toInt_inj.mp (by omega); obtain ⟨e1, e2⟩ := zb_r2 e; obtain ⟨f1, f2⟩ := zb_r2 f; subst e1; subst e2; subst f1; subst f2; rw [w]; exact ⟨by decide, hR⟩)
          · have s1i := congrArg Int32.toInt s1
            first
              | (exfalso; omega)
              | (have L01 : (1 : Int32).toInt = 1 := (by decide); have w : v4 = 1 := Int32.toInt_inj.mp (by omega); obtain ⟨e1, e2⟩ := zb_r2 e; obtain ⟨f1, f2⟩ := zb_r2 f; subst e1; subst e2; subst f1; subst f2; rw [w]; exact ⟨by decide, hR⟩)
      · skip
        have chc1002 := zd_no bv1001 hc1002
        rcases hR k3 (by omega) with ⟨s1, s2⟩ | ⟨s1, s2, s3⟩
        · skip
          exfalso
          omega
        · have s1i := congrArg Int32.toInt s1
          exfalso
          omega
