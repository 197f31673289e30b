/-! plain answers (printed by wip/tools/rel.py) -/
/-- EveningFirst.fault -/
theorem r_57 {v v' : Int32} {g g1000 : G} (hI : Inv g) (hM : Inv g1000) (hR : Rel g g1000) (e : d_57 g = v) (f : d_130 g1000 = v') : v = v' ∧ Rel g g1000 := ⟨e.symm.trans (hR.2.1.trans f), hR⟩
/-- EveningFirst.rule -/
theorem r_58 {x1 : Int32} {v v' : Int32} {g g1000 : G} (hI : Inv g) (hM : Inv g1000) (hR : Rel g g1000) (e : d_58 x1 g = v) (f : d_139 x1 g1000 = v') : v = v' ∧ Rel g g1000 := by
  unfold d_58 at e
  unfold d_139 at f
  have hN := hR.nums
  have L0 := zl_0
  have L1 := zl_1
  have L2 := zl_2
  have Lm1 := zl_m1
  replace e := zb_if e
  rcases e with ⟨hc1, e⟩ | ⟨hc1, e⟩
  · skip
    have chc1 := zc_bT hc1
    have y1 : 0 ≤ (g 1 0).toInt ∧ (g 1 0).toInt ≤ 8 := Inv.rd (r := 1) (c := 2) hI 0 rfl
    replace f := zb_if f
    rcases f with ⟨hc1001, f⟩ | ⟨hc1001, f⟩
    · skip
      have chc1001 := zc_bT hc1001
      have y1001 : 0 ≤ (g1000 113 2).toInt ∧ (g1000 113 2).toInt ≤ 8 := Inv.rd (r := 113) (c := 8) hM 2 rfl
      have e1 := e
      have f1 := f
      subst e1
      subst f1
      exact ⟨hR.2.2.1.1, hR⟩
    · skip
      have chc1001 := zc_bF hc1001
      replace f := zb_if f
      rcases f with ⟨hc1002, f⟩ | ⟨hc1002, f⟩
      · skip
        have chc1002 := zc_bT hc1002
        have y1002 : 0 ≤ (g1000 113 3).toInt ∧ (g1000 113 3).toInt ≤ 4 := Inv.rd (r := 113) (c := 8) hM 3 rfl
        exfalso
        omega
      · skip
        have chc1002 := zc_bF hc1002
        replace f := zb_if f
        rcases f with ⟨hc1003, f⟩ | ⟨hc1003, f⟩
        · skip
          have chc1003 := zc_bT hc1003
          have y1003 := hM.m8
          exfalso
          omega
        · skip
          have chc1003 := zc_bF hc1003
          exfalso
          omega
  · skip
    have chc1 := zc_bF hc1
    replace e := zb_if e
    rcases e with ⟨hc2, e⟩ | ⟨hc2, e⟩
    · skip
      have chc2 := zc_bT hc2
      have y2 : 0 ≤ (g 1 1).toInt ∧ (g 1 1).toInt ≤ 4 := Inv.rd (r := 1) (c := 2) hI 1 rfl
      replace f := zb_if f
      rcases f with ⟨hc1001, f⟩ | ⟨hc1001, f⟩
      · skip
        have chc1001 := zc_bT hc1001
        have y1004 : 0 ≤ (g1000 113 2).toInt ∧ (g1000 113 2).toInt ≤ 8 := Inv.rd (r := 113) (c := 8) hM 2 rfl
        exfalso
        omega
      · skip
        have chc1001 := zc_bF hc1001
        replace f := zb_if f
        rcases f with ⟨hc1002, f⟩ | ⟨hc1002, f⟩
        · skip
          have chc1002 := zc_bT hc1002
          have y1005 : 0 ≤ (g1000 113 3).toInt ∧ (g1000 113 3).toInt ≤ 4 := Inv.rd (r := 113) (c := 8) hM 3 rfl
          have e1 := e
          have f1 := f
          subst e1
          subst f1
          exact ⟨hR.2.2.1.2.1, hR⟩
        · skip
          have chc1002 := zc_bF hc1002
          replace f := zb_if f
          rcases f with ⟨hc1003, f⟩ | ⟨hc1003, f⟩
          · skip
            have chc1003 := zc_bT hc1003
            have y1006 := hM.m8
            exfalso
            omega
          · skip
            have chc1003 := zc_bF hc1003
            exfalso
            omega
    · skip
      have chc2 := zc_bF hc2
      replace e := zb_if e
      rcases e with ⟨hc3, e⟩ | ⟨hc3, e⟩
      · skip
        have chc3 := zc_bT hc3
        have y3 : 0 ≤ (g 1 2).toInt ∧ (g 1 2).toInt ≤ 8 := Inv.rd (r := 1) (c := 2) hI 2 rfl
        replace f := zb_if f
        rcases f with ⟨hc1001, f⟩ | ⟨hc1001, f⟩
        · skip
          have chc1001 := zc_bT hc1001
          have y1007 : 0 ≤ (g1000 113 2).toInt ∧ (g1000 113 2).toInt ≤ 8 := Inv.rd (r := 113) (c := 8) hM 2 rfl
          exfalso
          omega
        · skip
          have chc1001 := zc_bF hc1001
          replace f := zb_if f
          rcases f with ⟨hc1002, f⟩ | ⟨hc1002, f⟩
          · skip
            have chc1002 := zc_bT hc1002
            have y1008 : 0 ≤ (g1000 113 3).toInt ∧ (g1000 113 3).toInt ≤ 4 := Inv.rd (r := 113) (c := 8) hM 3 rfl
            exfalso
            omega
          · skip
            have chc1002 := zc_bF hc1002
            replace f := zb_if f
            rcases f with ⟨hc1003, f⟩ | ⟨hc1003, f⟩
            · skip
              have chc1003 := zc_bT hc1003
              have y1009 := hM.m8
              have e1 := e
              have f1 := f
              subst e1
              subst f1
              exact ⟨hR.2.2.1.2.2.2.1, hR⟩
            · skip
              have chc1003 := zc_bF hc1003
              exfalso
              omega
      · skip
        have chc3 := zc_bF hc3
        replace f := zb_if f
        rcases f with ⟨hc1001, f⟩ | ⟨hc1001, f⟩
        · skip
          have chc1001 := zc_bT hc1001
          have y1010 : 0 ≤ (g1000 113 2).toInt ∧ (g1000 113 2).toInt ≤ 8 := Inv.rd (r := 113) (c := 8) hM 2 rfl
          exfalso
          omega
        · skip
          have chc1001 := zc_bF hc1001
          replace f := zb_if f
          rcases f with ⟨hc1002, f⟩ | ⟨hc1002, f⟩
          · skip
            have chc1002 := zc_bT hc1002
            have y1011 : 0 ≤ (g1000 113 3).toInt ∧ (g1000 113 3).toInt ≤ 4 := Inv.rd (r := 113) (c := 8) hM 3 rfl
            exfalso
            omega
          · skip
            have chc1002 := zc_bF hc1002
            replace f := zb_if f
            rcases f with ⟨hc1003, f⟩ | ⟨hc1003, f⟩
            · skip
              have chc1003 := zc_bT hc1003
              have y1012 := hM.m8
              exfalso
              omega
            · skip
              have chc1003 := zc_bF hc1003
              have e1 := e
              have f1 := f
              subst e1
              subst f1
              exact ⟨rfl, hR⟩
/-- EveningFirst.deed -/
theorem r_60 {x1 : Int32} {x2 : Int32} {v v' : Int32} {g g1000 : G} (hI : Inv g) (hM : Inv g1000) (hR : Rel g g1000) (e : d_60 x1 x2 g = some v) (f : d_141 x1 x2 g1000 = some v') : v = v' ∧ Rel g g1000 := by
  unfold d_60 at e
  unfold d_141 at f
  have hN := hR.nums
  have L0 := zl_0
  have L1 := zl_1
  have L2 := zl_2
  have L3 := zl_3
  have L4 := zl_4
  have L5 := zl_5
  have L6 := zl_6
  have Lm1 := zl_m1
  replace e := zb_let e
  obtain ⟨v1, hvv1, e⟩ := e
  have bv1 := b_20 (r0 := 1) (x1 := x1) (g := g)
  rw [hvv1] at bv1
  replace e := zb_if e
  rcases e with ⟨hc2, e⟩ | ⟨hc2, e⟩
  · skip
    have chc2 := bv1.mp hc2
    replace e := zb_bind e
    obtain ⟨k3, hk3, e⟩ := e
    have bk3 := zm_ix_ko hk3
    replace e := zb_if e
    rcases e with ⟨hc4, e⟩ | ⟨hc4, e⟩
    · skip
      have chc4 := zc_bT hc4
      replace f := zb_let f
      obtain ⟨v1001, hvv1001, f⟩ := f
      have bv1001 := b_132 (x1 := x1) (g := g1000) (by omega)
      rw [hvv1001] at bv1001
      replace f := zb_if f
      rcases f with ⟨hc1002, f⟩ | ⟨hc1002, f⟩
      · skip
        have chc1002 := bv1001.mp hc1002
        replace f := zb_let f
        obtain ⟨v1003, hvv1003, f⟩ := f
        have bv1003 := zin_a (x1 := x2) (show (0 : Int64).toInt = 0 from by decide) (show (6 : Int64).toInt = 6 from by decide)
        rw [hvv1003] at bv1003
        replace f := zb_if f
        rcases f with ⟨hc1004, f⟩ | ⟨hc1004, f⟩
        · skip
          have chc1004 := bv1003.mp hc1004
          replace f := zb_bind f
          obtain ⟨v1005, hvv1005, f⟩ := f
          rw [t_136 (d := k3) (n := 0) (by omega) (by omega) (by omega) (by omega)] at hvv1005
          have hv := Option.some.inj hvv1005
          have e1 := zb_r1 e
          have f1 := zb_r1 f
          subst e1
          subst f1
          exact ⟨(hR.deeds (d := k3) (j := 0) (by omega) (by omega)).trans hv, hR⟩
        · skip
          have chc1004 := zd_no bv1003 hc1004
          exfalso
          omega
      · skip
        have chc1002 := zd_no bv1001 hc1002
        exfalso
        omega
    · skip
      have chc4 := zc_bF hc4
      replace e := zb_if e
      rcases e with ⟨hc5, e⟩ | ⟨hc5, e⟩
      · skip
        have chc5 := zc_bT hc5
        have y1 : 0 ≤ (g (9 + k3) 1).toInt ∧ (g (9 + k3) 1).toInt ≤ 3 := Inv.rd (r := (9 + k3)) (c := 1) hI 1 (zg_deed (b := 1) rfl hk3)
        replace f := zb_let f
        obtain ⟨v1001, hvv1001, f⟩ := f
        have bv1001 := b_132 (x1 := x1) (g := g1000) (by omega)
        rw [hvv1001] at bv1001
        replace f := zb_if f
        rcases f with ⟨hc1002, f⟩ | ⟨hc1002, f⟩
        · skip
          have chc1002 := bv1001.mp hc1002
          replace f := zb_let f
          obtain ⟨v1003, hvv1003, f⟩ := f
          have bv1003 := zin_a (x1 := x2) (show (0 : Int64).toInt = 0 from by decide) (show (6 : Int64).toInt = 6 from by decide)
          rw [hvv1003] at bv1003
          replace f := zb_if f
          rcases f with ⟨hc1004, f⟩ | ⟨hc1004, f⟩
          · skip
            have chc1004 := bv1003.mp hc1004
            replace f := zb_bind f
            obtain ⟨v1005, hvv1005, f⟩ := f
            rw [t_136 (d := k3) (n := 1) (by omega) (by omega) (by omega) (by omega)] at hvv1005
            have hv := Option.some.inj hvv1005
            have e1 := zb_r1 e
            have f1 := zb_r1 f
            subst e1
            subst f1
            exact ⟨(hR.deeds (d := k3) (j := 1) (by omega) (by omega)).trans hv, hR⟩
          · skip
            have chc1004 := zd_no bv1003 hc1004
            exfalso
            omega
        · skip
          have chc1002 := zd_no bv1001 hc1002
          exfalso
          omega
      · skip
        have chc5 := zc_bF hc5
        replace e := zb_if e
        rcases e with ⟨hc6, e⟩ | ⟨hc6, e⟩
        · skip
          have chc6 := zc_bT hc6
          replace f := zb_let f
          obtain ⟨v1001, hvv1001, f⟩ := f
          have bv1001 := b_132 (x1 := x1) (g := g1000) (by omega)
          rw [hvv1001] at bv1001
          replace f := zb_if f
          rcases f with ⟨hc1002, f⟩ | ⟨hc1002, f⟩
          · skip
            have chc1002 := bv1001.mp hc1002
            replace f := zb_let f
            obtain ⟨v1003, hvv1003, f⟩ := f
            have bv1003 := zin_a (x1 := x2) (show (0 : Int64).toInt = 0 from by decide) (show (6 : Int64).toInt = 6 from by decide)
            rw [hvv1003] at bv1003
            replace f := zb_if f
            rcases f with ⟨hc1004, f⟩ | ⟨hc1004, f⟩
            · skip
              have chc1004 := bv1003.mp hc1004
              replace f := zb_bind f
              obtain ⟨v1005, hvv1005, f⟩ := f
              rw [t_136 (d := k3) (n := 2) (by omega) (by omega) (by omega) (by omega)] at hvv1005
              have hv := Option.some.inj hvv1005
              have e1 := zb_r1 e
              have f1 := zb_r1 f
              subst e1
              subst f1
              exact ⟨(hR.deeds (d := k3) (j := 2) (by omega) (by omega)).trans hv, hR⟩
            · skip
              have chc1004 := zd_no bv1003 hc1004
              exfalso
              omega
          · skip
            have chc1002 := zd_no bv1001 hc1002
            exfalso
            omega
        · skip
          have chc6 := zc_bF hc6
          replace e := zb_if e
          rcases e with ⟨hc7, e⟩ | ⟨hc7, e⟩
          · skip
            have chc7 := zc_bT hc7
            have y2 : 0 ≤ (g (9 + k3) 3).toInt ∧ (g (9 + k3) 3).toInt ≤ 5 := Inv.rd (r := (9 + k3)) (c := 1) hI 3 (zg_deed (b := 1) rfl hk3)
            replace f := zb_let f
            obtain ⟨v1001, hvv1001, f⟩ := f
            have bv1001 := b_132 (x1 := x1) (g := g1000) (by omega)
            rw [hvv1001] at bv1001
            replace f := zb_if f
            rcases f with ⟨hc1002, f⟩ | ⟨hc1002, f⟩
            · skip
              have chc1002 := bv1001.mp hc1002
              replace f := zb_let f
              obtain ⟨v1003, hvv1003, f⟩ := f
              have bv1003 := zin_a (x1 := x2) (show (0 : Int64).toInt = 0 from by decide) (show (6 : Int64).toInt = 6 from by decide)
              rw [hvv1003] at bv1003
              replace f := zb_if f
              rcases f with ⟨hc1004, f⟩ | ⟨hc1004, f⟩
              · skip
                have chc1004 := bv1003.mp hc1004
                replace f := zb_bind f
                obtain ⟨v1005, hvv1005, f⟩ := f
                rw [t_136 (d := k3) (n := 3) (by omega) (by omega) (by omega) (by omega)] at hvv1005
                have hv := Option.some.inj hvv1005
                have e1 := zb_r1 e
                have f1 := zb_r1 f
                subst e1
                subst f1
                exact ⟨(hR.deeds (d := k3) (j := 3) (by omega) (by omega)).trans hv, hR⟩
              · skip
                have chc1004 := zd_no bv1003 hc1004
                exfalso
                omega
            · skip
              have chc1002 := zd_no bv1001 hc1002
              exfalso
              omega
          · skip
            have chc7 := zc_bF hc7
            replace e := zb_if e
            rcases e with ⟨hc8, e⟩ | ⟨hc8, e⟩
            · skip
              have chc8 := zc_bT hc8
              replace f := zb_let f
              obtain ⟨v1001, hvv1001, f⟩ := f
              have bv1001 := b_132 (x1 := x1) (g := g1000) (by omega)
              rw [hvv1001] at bv1001
              replace f := zb_if f
              rcases f with ⟨hc1002, f⟩ | ⟨hc1002, f⟩
              · skip
                have chc1002 := bv1001.mp hc1002
                replace f := zb_let f
                obtain ⟨v1003, hvv1003, f⟩ := f
                have bv1003 := zin_a (x1 := x2) (show (0 : Int64).toInt = 0 from by decide) (show (6 : Int64).toInt = 6 from by decide)
                rw [hvv1003] at bv1003
                replace f := zb_if f
                rcases f with ⟨hc1004, f⟩ | ⟨hc1004, f⟩
                · skip
                  have chc1004 := bv1003.mp hc1004
                  replace f := zb_bind f
                  obtain ⟨v1005, hvv1005, f⟩ := f
                  rw [t_136 (d := k3) (n := 4) (by omega) (by omega) (by omega) (by omega)] at hvv1005
                  have hv := Option.some.inj hvv1005
                  have e1 := zb_r1 e
                  have f1 := zb_r1 f
                  subst e1
                  subst f1
                  exact ⟨(hR.deeds (d := k3) (j := 4) (by omega) (by omega)).trans hv, hR⟩
                · skip
                  have chc1004 := zd_no bv1003 hc1004
                  exfalso
                  omega
              · skip
                have chc1002 := zd_no bv1001 hc1002
                exfalso
                omega
            · skip
              have chc8 := zc_bF hc8
              replace e := zb_if e
              rcases e with ⟨hc9, e⟩ | ⟨hc9, e⟩
              · skip
                have chc9 := zc_bT hc9
                replace f := zb_let f
                obtain ⟨v1001, hvv1001, f⟩ := f
                have bv1001 := b_132 (x1 := x1) (g := g1000) (by omega)
                rw [hvv1001] at bv1001
                replace f := zb_if f
                rcases f with ⟨hc1002, f⟩ | ⟨hc1002, f⟩
                · skip
                  have chc1002 := bv1001.mp hc1002
                  replace f := zb_let f
                  obtain ⟨v1003, hvv1003, f⟩ := f
                  have bv1003 := zin_a (x1 := x2) (show (0 : Int64).toInt = 0 from by decide) (show (6 : Int64).toInt = 6 from by decide)
                  rw [hvv1003] at bv1003
                  replace f := zb_if f
                  rcases f with ⟨hc1004, f⟩ | ⟨hc1004, f⟩
                  · skip
                    have chc1004 := bv1003.mp hc1004
                    replace f := zb_bind f
                    obtain ⟨v1005, hvv1005, f⟩ := f
                    rw [t_136 (d := k3) (n := 5) (by omega) (by omega) (by omega) (by omega)] at hvv1005
                    have hv := Option.some.inj hvv1005
                    have e1 := zb_r1 e
                    have f1 := zb_r1 f
                    subst e1
                    subst f1
                    exact ⟨(hR.deeds (d := k3) (j := 5) (by omega) (by omega)).trans hv, hR⟩
                  · skip
                    have chc1004 := zd_no bv1003 hc1004
                    exfalso
                    omega
                · skip
                  have chc1002 := zd_no bv1001 hc1002
                  exfalso
                  omega
              · skip
                have chc9 := zc_bF hc9
                replace e := zb_if e
                rcases e with ⟨hc10, e⟩ | ⟨hc10, e⟩
                · skip
                  have chc10 := zc_bT hc10
                  replace f := zb_let f
                  obtain ⟨v1001, hvv1001, f⟩ := f
                  have bv1001 := b_132 (x1 := x1) (g := g1000) (by omega)
                  rw [hvv1001] at bv1001
                  replace f := zb_if f
                  rcases f with ⟨hc1002, f⟩ | ⟨hc1002, f⟩
                  · skip
                    have chc1002 := bv1001.mp hc1002
                    replace f := zb_let f
                    obtain ⟨v1003, hvv1003, f⟩ := f
                    have bv1003 := zin_a (x1 := x2) (show (0 : Int64).toInt = 0 from by decide) (show (6 : Int64).toInt = 6 from by decide)
                    rw [hvv1003] at bv1003
                    replace f := zb_if f
                    rcases f with ⟨hc1004, f⟩ | ⟨hc1004, f⟩
                    · skip
                      have chc1004 := bv1003.mp hc1004
                      replace f := zb_bind f
                      obtain ⟨v1005, hvv1005, f⟩ := f
                      rw [t_136 (d := k3) (n := 6) (by omega) (by omega) (by omega) (by omega)] at hvv1005
                      have hv := Option.some.inj hvv1005
                      have e1 := zb_r1 e
                      have f1 := zb_r1 f
                      subst e1
                      subst f1
                      exact ⟨(hR.deeds (d := k3) (j := 6) (by omega) (by omega)).trans hv, hR⟩
                    · skip
                      have chc1004 := zd_no bv1003 hc1004
                      exfalso
                      omega
                  · skip
                    have chc1002 := zd_no bv1001 hc1002
                    exfalso
                    omega
                · skip
                  have chc10 := zc_bF hc10
                  replace f := zb_let f
                  obtain ⟨v1001, hvv1001, f⟩ := f
                  have bv1001 := b_132 (x1 := x1) (g := g1000) (by omega)
                  rw [hvv1001] at bv1001
                  replace f := zb_if f
                  rcases f with ⟨hc1002, f⟩ | ⟨hc1002, f⟩
                  · skip
                    have chc1002 := bv1001.mp hc1002
                    replace f := zb_let f
                    obtain ⟨v1003, hvv1003, f⟩ := f
                    have bv1003 := zin_a (x1 := x2) (show (0 : Int64).toInt = 0 from by decide) (show (6 : Int64).toInt = 6 from by decide)
                    rw [hvv1003] at bv1003
                    replace f := zb_if f
                    rcases f with ⟨hc1004, f⟩ | ⟨hc1004, f⟩
                    · skip
                      have chc1004 := bv1003.mp hc1004
                      replace f := zb_bind f
                      obtain ⟨v1005, hvv1005, f⟩ := f
                      exfalso
                      omega
                    · skip
                      have chc1004 := zd_no bv1003 hc1004
                      have e1 := zb_r1 e
                      have f1 := zb_r1 f
                      subst e1
                      subst f1
                      exact ⟨rfl, hR⟩
                  · skip
                    have chc1002 := zd_no bv1001 hc1002
                    have e1 := zb_r1 e
                    have f1 := zb_r1 f
                    subst e1
                    subst f1
                    exact ⟨rfl, hR⟩
  · skip
    have chc2 := zd_no bv1 hc2
    replace f := zb_let f
    obtain ⟨v1001, hvv1001, f⟩ := f
    have bv1001 := b_132 (x1 := x1) (g := g1000) (by omega)
    rw [hvv1001] at bv1001
    replace f := zb_if f
    rcases f with ⟨hc1002, f⟩ | ⟨hc1002, f⟩
    · skip
      have chc1002 := bv1001.mp hc1002
      replace f := zb_let f
      obtain ⟨v1003, hvv1003, f⟩ := f
      have bv1003 := zin_a (x1 := x2) (show (0 : Int64).toInt = 0 from by decide) (show (6 : Int64).toInt = 6 from by decide)
      rw [hvv1003] at bv1003
      replace f := zb_if f
      rcases f with ⟨hc1004, f⟩ | ⟨hc1004, f⟩
      · skip
        have chc1004 := bv1003.mp hc1004
        replace f := zb_bind f
        obtain ⟨v1005, hvv1005, f⟩ := f
        exfalso
        omega
      · skip
        have chc1004 := zd_no bv1003 hc1004
        have e1 := zb_r1 e
        have f1 := zb_r1 f
        subst e1
        subst f1
        exact ⟨rfl, hR⟩
    · skip
      have chc1002 := zd_no bv1001 hc1002
      have e1 := zb_r1 e
      have f1 := zb_r1 f
      subst e1
      subst f1
      exact ⟨rfl, hR⟩
