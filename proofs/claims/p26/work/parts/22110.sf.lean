/-! printed by wip/tools/safe.py -/
theorem s_110_2 : ∀ (f : Nat) (x1 : Int32) (g : G), Inv g → 0 ≤ x1.toInt ∧ x1.toInt ≤ 98 ∧ 98 - x1.toInt < (f : Int) → S1 (d_110_2 f x1 g) (fun q : G => Inv q ∧ True) := by
  intro f
  induction f with
  | zero =>
    intro x1 g hI hp
    exfalso
    omega
  | succ f ih =>
    intro x1 g hI hp
    rw [d_110_2.eq_2]
    have L1 := zl_1
    have L98 := zl_98
    have yp14 : 0 ≤ (g 113 5).toInt ∧ (g 113 5).toInt ≤ 8 := Inv.rd (r := 113) (c := 8) hI 5 rfl
    have yp15 : 0 ≤ (g 113 6).toInt ∧ (g 113 6).toInt ≤ 4 := Inv.rd (r := 113) (c := 8) hI 6 rfl
    refine S1.ite (fun hc1 => ?_) (fun hc1 => ?_)
    · skip
      have chc1 := zc_geT hc1
      have y1 : 0 ≤ (g 113 5).toInt ∧ (g 113 5).toInt ≤ 8 := Inv.rd (r := 113) (c := 8) hI 5 rfl
      refine S1.lt ?_
      intro g2 hg2
      have Ig2 : Inv g2 := Inv.up hI hg2 rfl (show 0 ≤ (g 113 5).toInt ∧ (g 113 5).toInt ≤ 8 by omega)
      have u2 : (g2 113 5).toInt = (g 113 5).toInt := by rw [← hg2]; rfl
      have u3 : (g2 113 6).toInt = (g 113 6).toInt := by rw [← hg2]; rfl
      have y4 : 0 ≤ (g2 113 6).toInt ∧ (g2 113 6).toInt ≤ 4 := Inv.rd (r := 113) (c := 8) Ig2 6 rfl
      refine S1.lt ?_
      intro g3 hg3
      have Ig3 : Inv g3 := Inv.up Ig2 hg3 rfl (show 0 ≤ (g2 113 6).toInt ∧ (g2 113 6).toInt ≤ 4 by omega)
      have u5 : (g3 113 5).toInt = (g2 113 5).toInt := by rw [← hg3]; rfl
      have u6 : (g3 113 6).toInt = (g2 113 6).toInt := by rw [← hg3]; rfl
      refine S1.lt ?_
      intro g4 hg4
      have Ig4 : Inv g4 := Inv.up Ig3 hg4 rfl trivial
      have u7 : (g4 113 5).toInt = (g3 113 5).toInt := by rw [← hg4]; rfl
      have u8 : (g4 113 6).toInt = (g3 113 6).toInt := by rw [← hg4]; rfl
      refine S1.lt ?_
      intro g5 hg5
      have Ig5 : Inv g5 := Inv.up Ig4 hg5 rfl trivial
      have u9 : (g5 113 5).toInt = (g4 113 5).toInt := by rw [← hg5]; rfl
      have u10 : (g5 113 6).toInt = (g4 113 6).toInt := by rw [← hg5]; rfl
      exact S1.ret (show Inv g5 ∧ True from ⟨Ig5, trivial⟩)
    · skip
      have chc1 := zc_geF hc1
      refine S1.ix (by omega) ?_
      intro k6 hk6 bk6
      refine S1.ix (by omega) ?_
      intro k8 hk8 bk8
      refine S1.lt ?_
      intro g7 hg7
      have Ig7 : Inv g7 := Inv.up hI hg7 rfl (bdP_st (by omega) (stP_eq (show k6 = k8 by omega) (hI.dr (k := k6) (by omega))))
      have u11 : (g7 113 5).toInt = (g 113 5).toInt := by rw [← hg7]; rfl
      have u12 : (g7 113 6).toInt = (g 113 6).toInt := by rw [← hg7]; rfl
      try have y13 := zi_add (x := x1) (y := (1 : Int32)) (by omega) (by omega)
      exact (ih (x1 + 1) g7 Ig7 (by omega))
/-- EveningFirstModel.keepDraft -/
theorem s_110 (g : G) (hI : Inv g) (hp : True) : S1 (d_110 g) (fun q : G => Inv q ∧ True) := by
  unfold d_110
  have L0 := zl_0
  exact (s_110_2 300 (0 : Int32) g hI (by omega))
theorem s_129_44 (x1 : Int32) (g : G) (hI : Inv g) (hp : True) : S1 (d_129_44 x1 g) (fun q : Int32 × G => Inv q.2 ∧ True) := by
  unfold d_129_44
  have Lm10 := zl_m10
  have L0 := zl_0
  have L1 := zl_1
  have L6 := zl_6
  have yp158 : 0 ≤ (g 113 14).toInt ∧ (g 113 14).toInt ≤ 160 := Inv.rd (r := 113) (c := 8) hI 14 rfl
  have yp159 : 0 ≤ (g 113 15).toInt ∧ (g 113 15).toInt ≤ 160 := Inv.rd (r := 113) (c := 8) hI 15 rfl
  have yp160 : 0 ≤ (g 113 16).toInt ∧ (g 113 16).toInt ≤ 160 := Inv.rd (r := 113) (c := 8) hI 16 rfl
  have yp161 : 0 ≤ (g 113 19).toInt ∧ (g 113 19).toInt ≤ 6 := Inv.rd (r := 113) (c := 8) hI 19 rfl
  have yp162 : 0 ≤ (g 113 5).toInt ∧ (g 113 5).toInt ≤ 8 := Inv.rd (r := 113) (c := 8) hI 5 rfl
  have yp163 : 0 ≤ (g 113 6).toInt ∧ (g 113 6).toInt ≤ 4 := Inv.rd (r := 113) (c := 8) hI 6 rfl
  have yp164 := hI.d8
  have y1 : 0 ≤ (g 113 19).toInt ∧ (g 113 19).toInt ≤ 6 := Inv.rd (r := 113) (c := 8) hI 19 rfl
  refine S1.ite (fun hc6 => ?_) (fun hc6 => ?_)
  · skip
    have chc6 := zc_neT hc6
    refine S1.lt ?_
    intro g7 hg7
    have Ig7 : Inv g7 := Inv.up hI hg7 rfl (show 0 ≤ (0 : Int32).toInt ∧ (0 : Int32).toInt ≤ 160 by omega)
    have u2 : (g7 113 5).toInt = (g 113 5).toInt := by rw [← hg7]; rfl
    have u3 : (g7 113 6).toInt = (g 113 6).toInt := by rw [← hg7]; rfl
    have u4 : (g7 113 10).toInt = (g 113 10).toInt := by rw [← hg7]; rfl
    have u5 : (g7 113 11).toInt = (g 113 11).toInt := by rw [← hg7]; rfl
    have u6 : (g7 113 12).toInt = (g 113 12).toInt := by rw [← hg7]; rfl
    have u7 : (g7 113 14).toInt = (0 : Int32).toInt := by rw [← hg7]; rfl
    have u8 : (g7 113 15).toInt = (g 113 15).toInt := by rw [← hg7]; rfl
    have u9 : (g7 113 16).toInt = (g 113 16).toInt := by rw [← hg7]; rfl
    have u10 : (g7 113 17).toInt = (g 113 17).toInt := by rw [← hg7]; rfl
    have u11 : (g7 113 18).toInt = (g 113 18).toInt := by rw [← hg7]; rfl
    have u12 : (g7 113 19).toInt = (g 113 19).toInt := by rw [← hg7]; rfl
    have u13 : (g7 113 20).toInt = (g 113 20).toInt := by rw [← hg7]; rfl
    have u14 : (g7 116 8).toInt = (g 116 8).toInt := by rw [← hg7]; rfl
    have y15 : 0 ≤ (g7 113 19).toInt ∧ (g7 113 19).toInt ≤ 6 := Inv.rd (r := 113) (c := 8) Ig7 19 rfl
    refine S1.ite (fun hc8 => ?_) (fun hc8 => ?_)
    · skip
      have chc8 := zc_leT hc8
      refine S1.bd (s_110 g7 Ig7 trivial) ?_
      intro g9 hvg9 hRg9
      have hRg9 : Inv g9 ∧ True := hRg9
      have y16 : 0 ≤ (g9 113 5).toInt ∧ (g9 113 5).toInt ≤ 8 := Inv.rd (r := 113) (c := 8) hRg9.1 5 rfl
      have y17 : 0 ≤ (g9 113 6).toInt ∧ (g9 113 6).toInt ≤ 4 := Inv.rd (r := 113) (c := 8) hRg9.1 6 rfl
      have y18 : 0 ≤ (g9 113 14).toInt ∧ (g9 113 14).toInt ≤ 160 := Inv.rd (r := 113) (c := 8) hRg9.1 14 rfl
      have y19 : 0 ≤ (g9 113 15).toInt ∧ (g9 113 15).toInt ≤ 160 := Inv.rd (r := 113) (c := 8) hRg9.1 15 rfl
      have y20 : 0 ≤ (g9 113 16).toInt ∧ (g9 113 16).toInt ≤ 160 := Inv.rd (r := 113) (c := 8) hRg9.1 16 rfl
      have y21 : 0 ≤ (g9 113 19).toInt ∧ (g9 113 19).toInt ≤ 6 := Inv.rd (r := 113) (c := 8) hRg9.1 19 rfl
      have y22 := hRg9.1.d8
      exact S1.ret (show Inv g9 ∧ True from ⟨hRg9.1, trivial⟩)
    · skip
      have chc8 := zc_leF hc8
      try have y23 := zi_sub (x := (-10 : Int32)) (y := (g7 113 20)) (by omega) (by omega)
      exact S1.ret (show Inv g7 ∧ True from ⟨Ig7, trivial⟩)
  · skip
    have chc6 := zc_neF hc6
    have y24 : 0 ≤ (g 113 5).toInt ∧ (g 113 5).toInt ≤ 8 := Inv.rd (r := 113) (c := 8) hI 5 rfl
    refine S1.ite (fun hc10 => ?_) (fun hc10 => ?_)
    · skip
      have chc10 := zc_geT hc10
      refine S1.lc (s_113 (0 : Int32) (6 : Int32) g hI (by omega)) ?_
      intro g11 hvg11 hRg11
      have hRg11 : Inv g11 ∧ ((g11 113 6).toInt = (g 113 6).toInt ∧ (g11 113 14).toInt = (g 113 14).toInt ∧ (g11 116 8).toInt = (g 116 8).toInt ∧ (g11 113 15).toInt = (g 113 15).toInt ∧ (g11 113 16).toInt = (g 113 16).toInt ∧ (g11 113 17).toInt = (g 113 17).toInt ∧ (g11 113 18).toInt = (g 113 18).toInt ∧ ((g 113 19).toInt ≠ 0 → (g11 113 19).toInt ≠ 0) ∧ ((0 : Int32).toInt = 0 → (g11 113 19).toInt ≠ 0) ∧ ((0 : Int32).toInt ≠ 0 → (g11 113 19).toInt = (g 113 19).toInt)) := hRg11
      have y25 : 0 ≤ (g 113 14).toInt ∧ (g 113 14).toInt ≤ 160 := Inv.rd (r := 113) (c := 8) hI 14 rfl
      have y26 : 0 ≤ (g 113 15).toInt ∧ (g 113 15).toInt ≤ 160 := Inv.rd (r := 113) (c := 8) hI 15 rfl
      have y27 : 0 ≤ (g 113 16).toInt ∧ (g 113 16).toInt ≤ 160 := Inv.rd (r := 113) (c := 8) hI 16 rfl
      have y28 : 0 ≤ (g 113 6).toInt ∧ (g 113 6).toInt ≤ 4 := Inv.rd (r := 113) (c := 8) hI 6 rfl
      have y29 := hI.d8
      have y30 : 0 ≤ (g11 113 5).toInt ∧ (g11 113 5).toInt ≤ 8 := Inv.rd (r := 113) (c := 8) hRg11.1 5 rfl
      have y31 : 0 ≤ (g11 113 6).toInt ∧ (g11 113 6).toInt ≤ 4 := Inv.rd (r := 113) (c := 8) hRg11.1 6 rfl
      have y32 : 0 ≤ (g11 113 14).toInt ∧ (g11 113 14).toInt ≤ 160 := Inv.rd (r := 113) (c := 8) hRg11.1 14 rfl
      have y33 : 0 ≤ (g11 113 15).toInt ∧ (g11 113 15).toInt ≤ 160 := Inv.rd (r := 113) (c := 8) hRg11.1 15 rfl
      have y34 : 0 ≤ (g11 113 16).toInt ∧ (g11 113 16).toInt ≤ 160 := Inv.rd (r := 113) (c := 8) hRg11.1 16 rfl
      have y35 : 0 ≤ (g11 113 19).toInt ∧ (g11 113 19).toInt ≤ 6 := Inv.rd (r := 113) (c := 8) hRg11.1 19 rfl
      have y36 := hRg11.1.d8
      refine S1.lt ?_
      intro g12 hg12
      have Ig12 : Inv g12 := Inv.up hRg11.1 hg12 rfl (show 0 ≤ (0 : Int32).toInt ∧ (0 : Int32).toInt ≤ 160 by omega)
      have u37 : (g12 113 5).toInt = (g11 113 5).toInt := by rw [← hg12]; rfl
      have u38 : (g12 113 6).toInt = (g11 113 6).toInt := by rw [← hg12]; rfl
      have u39 : (g12 113 10).toInt = (g11 113 10).toInt := by rw [← hg12]; rfl
      have u40 : (g12 113 11).toInt = (g11 113 11).toInt := by rw [← hg12]; rfl
      have u41 : (g12 113 12).toInt = (g11 113 12).toInt := by rw [← hg12]; rfl
      have u42 : (g12 113 14).toInt = (0 : Int32).toInt := by rw [← hg12]; rfl
      have u43 : (g12 113 15).toInt = (g11 113 15).toInt := by rw [← hg12]; rfl
      have u44 : (g12 113 16).toInt = (g11 113 16).toInt := by rw [← hg12]; rfl
      have u45 : (g12 113 17).toInt = (g11 113 17).toInt := by rw [← hg12]; rfl
      have u46 : (g12 113 18).toInt = (g11 113 18).toInt := by rw [← hg12]; rfl
      have u47 : (g12 113 19).toInt = (g11 113 19).toInt := by rw [← hg12]; rfl
      have u48 : (g12 113 20).toInt = (g11 113 20).toInt := by rw [← hg12]; rfl
      have u49 : (g12 116 8).toInt = (g11 116 8).toInt := by rw [← hg12]; rfl
      have y50 : 0 ≤ (g12 113 19).toInt ∧ (g12 113 19).toInt ≤ 6 := Inv.rd (r := 113) (c := 8) Ig12 19 rfl
      refine S1.ite (fun hc13 => ?_) (fun hc13 => ?_)
      · skip
        have chc13 := zc_leT hc13
        refine S1.bd (s_110 g12 Ig12 trivial) ?_
        intro g14 hvg14 hRg14
        have hRg14 : Inv g14 ∧ True := hRg14
        have y51 : 0 ≤ (g14 113 5).toInt ∧ (g14 113 5).toInt ≤ 8 := Inv.rd (r := 113) (c := 8) hRg14.1 5 rfl
        have y52 : 0 ≤ (g14 113 6).toInt ∧ (g14 113 6).toInt ≤ 4 := Inv.rd (r := 113) (c := 8) hRg14.1 6 rfl
        have y53 : 0 ≤ (g14 113 14).toInt ∧ (g14 113 14).toInt ≤ 160 := Inv.rd (r := 113) (c := 8) hRg14.1 14 rfl
        have y54 : 0 ≤ (g14 113 15).toInt ∧ (g14 113 15).toInt ≤ 160 := Inv.rd (r := 113) (c := 8) hRg14.1 15 rfl
        have y55 : 0 ≤ (g14 113 16).toInt ∧ (g14 113 16).toInt ≤ 160 := Inv.rd (r := 113) (c := 8) hRg14.1 16 rfl
        have y56 : 0 ≤ (g14 113 19).toInt ∧ (g14 113 19).toInt ≤ 6 := Inv.rd (r := 113) (c := 8) hRg14.1 19 rfl
        have y57 := hRg14.1.d8
        exact S1.ret (show Inv g14 ∧ True from ⟨hRg14.1, trivial⟩)
      · skip
        have chc13 := zc_leF hc13
        try have y58 := zi_sub (x := (-10 : Int32)) (y := (g12 113 20)) (by omega) (by omega)
        exact S1.ret (show Inv g12 ∧ True from ⟨Ig12, trivial⟩)
    · skip
      have chc10 := zc_geF hc10
      have y59 : 0 ≤ (g 113 6).toInt ∧ (g 113 6).toInt ≤ 4 := Inv.rd (r := 113) (c := 8) hI 6 rfl
      refine S1.ite (fun hc15 => ?_) (fun hc15 => ?_)
      · skip
        have chc15 := zc_geT hc15
        refine S1.lc (s_113 (0 : Int32) (6 : Int32) g hI (by omega)) ?_
        intro g16 hvg16 hRg16
        have hRg16 : Inv g16 ∧ ((g16 113 6).toInt = (g 113 6).toInt ∧ (g16 113 14).toInt = (g 113 14).toInt ∧ (g16 116 8).toInt = (g 116 8).toInt ∧ (g16 113 15).toInt = (g 113 15).toInt ∧ (g16 113 16).toInt = (g 113 16).toInt ∧ (g16 113 17).toInt = (g 113 17).toInt ∧ (g16 113 18).toInt = (g 113 18).toInt ∧ ((g 113 19).toInt ≠ 0 → (g16 113 19).toInt ≠ 0) ∧ ((0 : Int32).toInt = 0 → (g16 113 19).toInt ≠ 0) ∧ ((0 : Int32).toInt ≠ 0 → (g16 113 19).toInt = (g 113 19).toInt)) := hRg16
        have y60 : 0 ≤ (g 113 14).toInt ∧ (g 113 14).toInt ≤ 160 := Inv.rd (r := 113) (c := 8) hI 14 rfl
        have y61 : 0 ≤ (g 113 15).toInt ∧ (g 113 15).toInt ≤ 160 := Inv.rd (r := 113) (c := 8) hI 15 rfl
        have y62 : 0 ≤ (g 113 16).toInt ∧ (g 113 16).toInt ≤ 160 := Inv.rd (r := 113) (c := 8) hI 16 rfl
        have y63 := hI.d8
        have y64 : 0 ≤ (g16 113 5).toInt ∧ (g16 113 5).toInt ≤ 8 := Inv.rd (r := 113) (c := 8) hRg16.1 5 rfl
        have y65 : 0 ≤ (g16 113 6).toInt ∧ (g16 113 6).toInt ≤ 4 := Inv.rd (r := 113) (c := 8) hRg16.1 6 rfl
        have y66 : 0 ≤ (g16 113 14).toInt ∧ (g16 113 14).toInt ≤ 160 := Inv.rd (r := 113) (c := 8) hRg16.1 14 rfl
        have y67 : 0 ≤ (g16 113 15).toInt ∧ (g16 113 15).toInt ≤ 160 := Inv.rd (r := 113) (c := 8) hRg16.1 15 rfl
        have y68 : 0 ≤ (g16 113 16).toInt ∧ (g16 113 16).toInt ≤ 160 := Inv.rd (r := 113) (c := 8) hRg16.1 16 rfl
        have y69 : 0 ≤ (g16 113 19).toInt ∧ (g16 113 19).toInt ≤ 6 := Inv.rd (r := 113) (c := 8) hRg16.1 19 rfl
        have y70 := hRg16.1.d8
        refine S1.lt ?_
        intro g17 hg17
        have Ig17 : Inv g17 := Inv.up hRg16.1 hg17 rfl (show 0 ≤ (0 : Int32).toInt ∧ (0 : Int32).toInt ≤ 160 by omega)
        have u71 : (g17 113 5).toInt = (g16 113 5).toInt := by rw [← hg17]; rfl
        have u72 : (g17 113 6).toInt = (g16 113 6).toInt := by rw [← hg17]; rfl
        have u73 : (g17 113 10).toInt = (g16 113 10).toInt := by rw [← hg17]; rfl
        have u74 : (g17 113 11).toInt = (g16 113 11).toInt := by rw [← hg17]; rfl
        have u75 : (g17 113 12).toInt = (g16 113 12).toInt := by rw [← hg17]; rfl
        have u76 : (g17 113 14).toInt = (0 : Int32).toInt := by rw [← hg17]; rfl
        have u77 : (g17 113 15).toInt = (g16 113 15).toInt := by rw [← hg17]; rfl
        have u78 : (g17 113 16).toInt = (g16 113 16).toInt := by rw [← hg17]; rfl
        have u79 : (g17 113 17).toInt = (g16 113 17).toInt := by rw [← hg17]; rfl
        have u80 : (g17 113 18).toInt = (g16 113 18).toInt := by rw [← hg17]; rfl
        have u81 : (g17 113 19).toInt = (g16 113 19).toInt := by rw [← hg17]; rfl
        have u82 : (g17 113 20).toInt = (g16 113 20).toInt := by rw [← hg17]; rfl
        have u83 : (g17 116 8).toInt = (g16 116 8).toInt := by rw [← hg17]; rfl
        have y84 : 0 ≤ (g17 113 19).toInt ∧ (g17 113 19).toInt ≤ 6 := Inv.rd (r := 113) (c := 8) Ig17 19 rfl
        refine S1.ite (fun hc18 => ?_) (fun hc18 => ?_)
        · skip
          have chc18 := zc_leT hc18
          refine S1.bd (s_110 g17 Ig17 trivial) ?_
          intro g19 hvg19 hRg19
          have hRg19 : Inv g19 ∧ True := hRg19
          have y85 : 0 ≤ (g19 113 5).toInt ∧ (g19 113 5).toInt ≤ 8 := Inv.rd (r := 113) (c := 8) hRg19.1 5 rfl
          have y86 : 0 ≤ (g19 113 6).toInt ∧ (g19 113 6).toInt ≤ 4 := Inv.rd (r := 113) (c := 8) hRg19.1 6 rfl
          have y87 : 0 ≤ (g19 113 14).toInt ∧ (g19 113 14).toInt ≤ 160 := Inv.rd (r := 113) (c := 8) hRg19.1 14 rfl
          have y88 : 0 ≤ (g19 113 15).toInt ∧ (g19 113 15).toInt ≤ 160 := Inv.rd (r := 113) (c := 8) hRg19.1 15 rfl
          have y89 : 0 ≤ (g19 113 16).toInt ∧ (g19 113 16).toInt ≤ 160 := Inv.rd (r := 113) (c := 8) hRg19.1 16 rfl
          have y90 : 0 ≤ (g19 113 19).toInt ∧ (g19 113 19).toInt ≤ 6 := Inv.rd (r := 113) (c := 8) hRg19.1 19 rfl
          have y91 := hRg19.1.d8
          exact S1.ret (show Inv g19 ∧ True from ⟨hRg19.1, trivial⟩)
        · skip
          have chc18 := zc_leF hc18
          try have y92 := zi_sub (x := (-10 : Int32)) (y := (g17 113 20)) (by omega) (by omega)
          exact S1.ret (show Inv g17 ∧ True from ⟨Ig17, trivial⟩)
      · skip
        have chc15 := zc_geF hc15
        have y93 := hI.d8
        refine S1.ite (fun hc20 => ?_) (fun hc20 => ?_)
        · skip
          have chc20 := zc_geT hc20
          refine S1.lc (s_113 (0 : Int32) (6 : Int32) g hI (by omega)) ?_
          intro g21 hvg21 hRg21
          have hRg21 : Inv g21 ∧ ((g21 113 6).toInt = (g 113 6).toInt ∧ (g21 113 14).toInt = (g 113 14).toInt ∧ (g21 116 8).toInt = (g 116 8).toInt ∧ (g21 113 15).toInt = (g 113 15).toInt ∧ (g21 113 16).toInt = (g 113 16).toInt ∧ (g21 113 17).toInt = (g 113 17).toInt ∧ (g21 113 18).toInt = (g 113 18).toInt ∧ ((g 113 19).toInt ≠ 0 → (g21 113 19).toInt ≠ 0) ∧ ((0 : Int32).toInt = 0 → (g21 113 19).toInt ≠ 0) ∧ ((0 : Int32).toInt ≠ 0 → (g21 113 19).toInt = (g 113 19).toInt)) := hRg21
          have y94 : 0 ≤ (g 113 14).toInt ∧ (g 113 14).toInt ≤ 160 := Inv.rd (r := 113) (c := 8) hI 14 rfl
          have y95 : 0 ≤ (g 113 15).toInt ∧ (g 113 15).toInt ≤ 160 := Inv.rd (r := 113) (c := 8) hI 15 rfl
          have y96 : 0 ≤ (g 113 16).toInt ∧ (g 113 16).toInt ≤ 160 := Inv.rd (r := 113) (c := 8) hI 16 rfl
          have y97 : 0 ≤ (g21 113 5).toInt ∧ (g21 113 5).toInt ≤ 8 := Inv.rd (r := 113) (c := 8) hRg21.1 5 rfl
          have y98 : 0 ≤ (g21 113 6).toInt ∧ (g21 113 6).toInt ≤ 4 := Inv.rd (r := 113) (c := 8) hRg21.1 6 rfl
          have y99 : 0 ≤ (g21 113 14).toInt ∧ (g21 113 14).toInt ≤ 160 := Inv.rd (r := 113) (c := 8) hRg21.1 14 rfl
          have y100 : 0 ≤ (g21 113 15).toInt ∧ (g21 113 15).toInt ≤ 160 := Inv.rd (r := 113) (c := 8) hRg21.1 15 rfl
          have y101 : 0 ≤ (g21 113 16).toInt ∧ (g21 113 16).toInt ≤ 160 := Inv.rd (r := 113) (c := 8) hRg21.1 16 rfl
          have y102 : 0 ≤ (g21 113 19).toInt ∧ (g21 113 19).toInt ≤ 6 := Inv.rd (r := 113) (c := 8) hRg21.1 19 rfl
          have y103 := hRg21.1.d8
          refine S1.lt ?_
          intro g22 hg22
          have Ig22 : Inv g22 := Inv.up hRg21.1 hg22 rfl (show 0 ≤ (0 : Int32).toInt ∧ (0 : Int32).toInt ≤ 160 by omega)
          have u104 : (g22 113 5).toInt = (g21 113 5).toInt := by rw [← hg22]; rfl
          have u105 : (g22 113 6).toInt = (g21 113 6).toInt := by rw [← hg22]; rfl
          have u106 : (g22 113 10).toInt = (g21 113 10).toInt := by rw [← hg22]; rfl
          have u107 : (g22 113 11).toInt = (g21 113 11).toInt := by rw [← hg22]; rfl
          have u108 : (g22 113 12).toInt = (g21 113 12).toInt := by rw [← hg22]; rfl
          have u109 : (g22 113 14).toInt = (0 : Int32).toInt := by rw [← hg22]; rfl
          have u110 : (g22 113 15).toInt = (g21 113 15).toInt := by rw [← hg22]; rfl
          have u111 : (g22 113 16).toInt = (g21 113 16).toInt := by rw [← hg22]; rfl
          have u112 : (g22 113 17).toInt = (g21 113 17).toInt := by rw [← hg22]; rfl
          have u113 : (g22 113 18).toInt = (g21 113 18).toInt := by rw [← hg22]; rfl
          have u114 : (g22 113 19).toInt = (g21 113 19).toInt := by rw [← hg22]; rfl
          have u115 : (g22 113 20).toInt = (g21 113 20).toInt := by rw [← hg22]; rfl
          have u116 : (g22 116 8).toInt = (g21 116 8).toInt := by rw [← hg22]; rfl
          have y117 : 0 ≤ (g22 113 19).toInt ∧ (g22 113 19).toInt ≤ 6 := Inv.rd (r := 113) (c := 8) Ig22 19 rfl
          refine S1.ite (fun hc23 => ?_) (fun hc23 => ?_)
          · skip
            have chc23 := zc_leT hc23
            refine S1.bd (s_110 g22 Ig22 trivial) ?_
            intro g24 hvg24 hRg24
            have hRg24 : Inv g24 ∧ True := hRg24
            have y118 : 0 ≤ (g24 113 5).toInt ∧ (g24 113 5).toInt ≤ 8 := Inv.rd (r := 113) (c := 8) hRg24.1 5 rfl
            have y119 : 0 ≤ (g24 113 6).toInt ∧ (g24 113 6).toInt ≤ 4 := Inv.rd (r := 113) (c := 8) hRg24.1 6 rfl
            have y120 : 0 ≤ (g24 113 14).toInt ∧ (g24 113 14).toInt ≤ 160 := Inv.rd (r := 113) (c := 8) hRg24.1 14 rfl
            have y121 : 0 ≤ (g24 113 15).toInt ∧ (g24 113 15).toInt ≤ 160 := Inv.rd (r := 113) (c := 8) hRg24.1 15 rfl
            have y122 : 0 ≤ (g24 113 16).toInt ∧ (g24 113 16).toInt ≤ 160 := Inv.rd (r := 113) (c := 8) hRg24.1 16 rfl
            have y123 : 0 ≤ (g24 113 19).toInt ∧ (g24 113 19).toInt ≤ 6 := Inv.rd (r := 113) (c := 8) hRg24.1 19 rfl
            have y124 := hRg24.1.d8
            exact S1.ret (show Inv g24 ∧ True from ⟨hRg24.1, trivial⟩)
          · skip
            have chc23 := zc_leF hc23
            try have y125 := zi_sub (x := (-10 : Int32)) (y := (g22 113 20)) (by omega) (by omega)
            exact S1.ret (show Inv g22 ∧ True from ⟨Ig22, trivial⟩)
        · skip
          have chc20 := zc_geF hc20
          refine S1.lc (s_113 (1 : Int32) (6 : Int32) g hI (by omega)) ?_
          intro g25 hvg25 hRg25
          have hRg25 : Inv g25 ∧ ((g25 113 6).toInt = (g 113 6).toInt ∧ (g25 113 14).toInt = (g 113 14).toInt ∧ (g25 116 8).toInt = (g 116 8).toInt ∧ (g25 113 15).toInt = (g 113 15).toInt ∧ (g25 113 16).toInt = (g 113 16).toInt ∧ (g25 113 17).toInt = (g 113 17).toInt ∧ (g25 113 18).toInt = (g 113 18).toInt ∧ ((g 113 19).toInt ≠ 0 → (g25 113 19).toInt ≠ 0) ∧ ((1 : Int32).toInt = 0 → (g25 113 19).toInt ≠ 0) ∧ ((1 : Int32).toInt ≠ 0 → (g25 113 19).toInt = (g 113 19).toInt)) := hRg25
          have y126 : 0 ≤ (g 113 14).toInt ∧ (g 113 14).toInt ≤ 160 := Inv.rd (r := 113) (c := 8) hI 14 rfl
          have y127 : 0 ≤ (g 113 15).toInt ∧ (g 113 15).toInt ≤ 160 := Inv.rd (r := 113) (c := 8) hI 15 rfl
          have y128 : 0 ≤ (g 113 16).toInt ∧ (g 113 16).toInt ≤ 160 := Inv.rd (r := 113) (c := 8) hI 16 rfl
          have y129 : 0 ≤ (g25 113 5).toInt ∧ (g25 113 5).toInt ≤ 8 := Inv.rd (r := 113) (c := 8) hRg25.1 5 rfl
          have y130 : 0 ≤ (g25 113 6).toInt ∧ (g25 113 6).toInt ≤ 4 := Inv.rd (r := 113) (c := 8) hRg25.1 6 rfl
          have y131 : 0 ≤ (g25 113 14).toInt ∧ (g25 113 14).toInt ≤ 160 := Inv.rd (r := 113) (c := 8) hRg25.1 14 rfl
          have y132 : 0 ≤ (g25 113 15).toInt ∧ (g25 113 15).toInt ≤ 160 := Inv.rd (r := 113) (c := 8) hRg25.1 15 rfl
          have y133 : 0 ≤ (g25 113 16).toInt ∧ (g25 113 16).toInt ≤ 160 := Inv.rd (r := 113) (c := 8) hRg25.1 16 rfl
          have y134 : 0 ≤ (g25 113 19).toInt ∧ (g25 113 19).toInt ≤ 6 := Inv.rd (r := 113) (c := 8) hRg25.1 19 rfl
          have y135 := hRg25.1.d8
          refine S1.lt ?_
          intro g26 hg26
          have Ig26 : Inv g26 := Inv.up hRg25.1 hg26 rfl (show 0 ≤ (0 : Int32).toInt ∧ (0 : Int32).toInt ≤ 160 by omega)
          have u136 : (g26 113 5).toInt = (g25 113 5).toInt := by rw [← hg26]; rfl
          have u137 : (g26 113 6).toInt = (g25 113 6).toInt := by rw [← hg26]; rfl
          have u138 : (g26 113 10).toInt = (g25 113 10).toInt := by rw [← hg26]; rfl
          have u139 : (g26 113 11).toInt = (g25 113 11).toInt := by rw [← hg26]; rfl
          have u140 : (g26 113 12).toInt = (g25 113 12).toInt := by rw [← hg26]; rfl
          have u141 : (g26 113 14).toInt = (0 : Int32).toInt := by rw [← hg26]; rfl
          have u142 : (g26 113 15).toInt = (g25 113 15).toInt := by rw [← hg26]; rfl
          have u143 : (g26 113 16).toInt = (g25 113 16).toInt := by rw [← hg26]; rfl
          have u144 : (g26 113 17).toInt = (g25 113 17).toInt := by rw [← hg26]; rfl
          have u145 : (g26 113 18).toInt = (g25 113 18).toInt := by rw [← hg26]; rfl
          have u146 : (g26 113 19).toInt = (g25 113 19).toInt := by rw [← hg26]; rfl
          have u147 : (g26 113 20).toInt = (g25 113 20).toInt := by rw [← hg26]; rfl
          have u148 : (g26 116 8).toInt = (g25 116 8).toInt := by rw [← hg26]; rfl
          have y149 : 0 ≤ (g26 113 19).toInt ∧ (g26 113 19).toInt ≤ 6 := Inv.rd (r := 113) (c := 8) Ig26 19 rfl
          refine S1.ite (fun hc27 => ?_) (fun hc27 => ?_)
          · skip
            have chc27 := zc_leT hc27
            refine S1.bd (s_110 g26 Ig26 trivial) ?_
            intro g28 hvg28 hRg28
            have hRg28 : Inv g28 ∧ True := hRg28
            have y150 : 0 ≤ (g28 113 5).toInt ∧ (g28 113 5).toInt ≤ 8 := Inv.rd (r := 113) (c := 8) hRg28.1 5 rfl
            have y151 : 0 ≤ (g28 113 6).toInt ∧ (g28 113 6).toInt ≤ 4 := Inv.rd (r := 113) (c := 8) hRg28.1 6 rfl
            have y152 : 0 ≤ (g28 113 14).toInt ∧ (g28 113 14).toInt ≤ 160 := Inv.rd (r := 113) (c := 8) hRg28.1 14 rfl
            have y153 : 0 ≤ (g28 113 15).toInt ∧ (g28 113 15).toInt ≤ 160 := Inv.rd (r := 113) (c := 8) hRg28.1 15 rfl
            have y154 : 0 ≤ (g28 113 16).toInt ∧ (g28 113 16).toInt ≤ 160 := Inv.rd (r := 113) (c := 8) hRg28.1 16 rfl
            have y155 : 0 ≤ (g28 113 19).toInt ∧ (g28 113 19).toInt ≤ 6 := Inv.rd (r := 113) (c := 8) hRg28.1 19 rfl
            have y156 := hRg28.1.d8
            exact S1.ret (show Inv g28 ∧ True from ⟨hRg28.1, trivial⟩)
          · skip
            have chc27 := zc_leF hc27
            try have y157 := zi_sub (x := (-10 : Int32)) (y := (g26 113 20)) (by omega) (by omega)
            exact S1.ret (show Inv g26 ∧ True from ⟨Ig26, trivial⟩)
theorem s_129_20 : ∀ (f : Nat) (x1 : Int32) (g : G), Inv g → 1 ≤ (f : Int) ∧ ((g 113 19).toInt = 0 ∧ (g 113 17).toInt ≠ 0 → 161 - (g 113 15).toInt < (f : Int)) → S1 (d_129_20 f x1 g) (fun q : Int32 × G => Inv q.2 ∧ True) := by
  intro f
  induction f with
  | zero =>
    intro x1 g hI hp
    exfalso
    have yp170 : 0 ≤ (g 113 15).toInt ∧ (g 113 15).toInt ≤ 160 := Inv.rd (r := 113) (c := 8) hI 15 rfl
    have yp171 : 0 ≤ (g 113 19).toInt ∧ (g 113 19).toInt ≤ 6 := Inv.rd (r := 113) (c := 8) hI 19 rfl
    omega
  | succ f ih =>
    intro x1 g hI hp
    rw [d_129_20.eq_2]
    have L0 := zl_0
    have L1 := zl_1
    have yp172 : 0 ≤ (g 113 15).toInt ∧ (g 113 15).toInt ≤ 160 := Inv.rd (r := 113) (c := 8) hI 15 rfl
    have yp173 : 0 ≤ (g 113 19).toInt ∧ (g 113 19).toInt ≤ 6 := Inv.rd (r := 113) (c := 8) hI 19 rfl
    have y165 : 0 ≤ (g 113 19).toInt ∧ (g 113 19).toInt ≤ 6 := Inv.rd (r := 113) (c := 8) hI 19 rfl
    refine S1.ite (fun hc5 => ?_) (fun hc5 => ?_)
    · skip
      have chc5 := zc_neT hc5
      exact (s_129_44 x1 g hI trivial)
    · skip
      have chc5 := zc_neF hc5
      refine S1.ite (fun hc29 => ?_) (fun hc29 => ?_)
      · skip
        have chc29 := zc_eqT hc29
        exact (s_129_44 x1 g hI trivial)
      · skip
        have chc29 := zc_eqF hc29
        refine S1.bd (s_128 g hI trivial) ?_
        intro g30 hvg30 hRg30
        have hRg30 : Inv g30 ∧ ((g 113 15).toInt ≤ (g30 113 15).toInt ∧ ((g30 113 19).toInt = 0 ∧ (g30 113 17).toInt ≠ 0 → (g 113 15).toInt < (g30 113 15).toInt)) := hRg30
        have y166 : 0 ≤ (g 113 15).toInt ∧ (g 113 15).toInt ≤ 160 := Inv.rd (r := 113) (c := 8) hI 15 rfl
        have y167 : 0 ≤ (g30 113 15).toInt ∧ (g30 113 15).toInt ≤ 160 := Inv.rd (r := 113) (c := 8) hRg30.1 15 rfl
        have y168 : 0 ≤ (g30 113 19).toInt ∧ (g30 113 19).toInt ≤ 6 := Inv.rd (r := 113) (c := 8) hRg30.1 19 rfl
        try have y169 := zi_add (x := x1) (y := (1 : Int32)) (by omega) (by omega)
        exact (ih (x1 + 1) g30 hRg30.1 (by omega))
/-- EveningFirstModel.text -/
theorem s_129 (g : G) (hI : Inv g) (hp : True) : S1 (d_129 g) (fun q : Int32 × G => Inv q.2 ∧ True) := by
  unfold d_129
  have L0 := zl_0
  have yp196 : 0 ≤ (g 113 14).toInt ∧ (g 113 14).toInt ≤ 160 := Inv.rd (r := 113) (c := 8) hI 14 rfl
  have yp197 : 0 ≤ (g 113 15).toInt ∧ (g 113 15).toInt ≤ 160 := Inv.rd (r := 113) (c := 8) hI 15 rfl
  have yp198 : 0 ≤ (g 113 19).toInt ∧ (g 113 19).toInt ≤ 6 := Inv.rd (r := 113) (c := 8) hI 19 rfl
  have yp199 : 0 ≤ (g 113 6).toInt ∧ (g 113 6).toInt ≤ 4 := Inv.rd (r := 113) (c := 8) hI 6 rfl
  have yp200 := hI.d8
  refine S1.lt ?_
  intro g1 hg1
  have Ig1 : Inv g1 := Inv.up hI hg1 rfl (show 0 ≤ (0 : Int32).toInt ∧ (0 : Int32).toInt ≤ 6 by omega)
  have u174 : (g1 113 6).toInt = (g 113 6).toInt := by rw [← hg1]; rfl
  have u175 : (g1 113 14).toInt = (g 113 14).toInt := by rw [← hg1]; rfl
  have u176 : (g1 113 15).toInt = (g 113 15).toInt := by rw [← hg1]; rfl
  have u177 : (g1 113 17).toInt = (g 113 17).toInt := by rw [← hg1]; rfl
  have u178 : (g1 113 19).toInt = (0 : Int32).toInt := by rw [← hg1]; rfl
  have u179 : (g1 116 8).toInt = (g 116 8).toInt := by rw [← hg1]; rfl
  refine S1.lt ?_
  intro g2 hg2
  have Ig2 : Inv g2 := Inv.up Ig1 hg2 rfl (show 0 ≤ (0 : Int32).toInt ∧ (0 : Int32).toInt ≤ 160 by omega)
  have u180 : (g2 113 6).toInt = (g1 113 6).toInt := by rw [← hg2]; rfl
  have u181 : (g2 113 14).toInt = (g1 113 14).toInt := by rw [← hg2]; rfl
  have u182 : (g2 113 15).toInt = (0 : Int32).toInt := by rw [← hg2]; rfl
  have u183 : (g2 113 17).toInt = (g1 113 17).toInt := by rw [← hg2]; rfl
  have u184 : (g2 113 19).toInt = (g1 113 19).toInt := by rw [← hg2]; rfl
  have u185 : (g2 116 8).toInt = (g1 116 8).toInt := by rw [← hg2]; rfl
  refine S1.bd (s_109 g2 Ig2 trivial) ?_
  intro g3 hvg3 hRg3
  have hRg3 : Inv g3 ∧ True := hRg3
  have y186 : 0 ≤ (g3 113 6).toInt ∧ (g3 113 6).toInt ≤ 4 := Inv.rd (r := 113) (c := 8) hRg3.1 6 rfl
  have y187 : 0 ≤ (g3 113 14).toInt ∧ (g3 113 14).toInt ≤ 160 := Inv.rd (r := 113) (c := 8) hRg3.1 14 rfl
  have y188 : 0 ≤ (g3 113 15).toInt ∧ (g3 113 15).toInt ≤ 160 := Inv.rd (r := 113) (c := 8) hRg3.1 15 rfl
  have y189 : 0 ≤ (g3 113 19).toInt ∧ (g3 113 19).toInt ≤ 6 := Inv.rd (r := 113) (c := 8) hRg3.1 19 rfl
  have y190 := hRg3.1.d8
  refine S1.bd (s_119 g3 hRg3.1 trivial) ?_
  intro g4 hvg4 hRg4
  have hRg4 : Inv g4 ∧ ((g4 113 6).toInt = (g3 113 6).toInt ∧ (g4 113 14).toInt = (g3 113 14).toInt ∧ (g4 116 8).toInt = (g3 116 8).toInt ∧ ((g3 113 19).toInt ≠ 0 → (g4 113 19).toInt ≠ 0) ∧ (g3 113 15).toInt ≤ (g4 113 15).toInt ∧ ((g4 113 19).toInt = 0 ∧ (g4 113 17).toInt ≠ 0 → (g3 113 15).toInt < (g4 113 15).toInt)) := hRg4
  have y191 : 0 ≤ (g4 113 6).toInt ∧ (g4 113 6).toInt ≤ 4 := Inv.rd (r := 113) (c := 8) hRg4.1 6 rfl
  have y192 : 0 ≤ (g4 113 14).toInt ∧ (g4 113 14).toInt ≤ 160 := Inv.rd (r := 113) (c := 8) hRg4.1 14 rfl
  have y193 : 0 ≤ (g4 113 15).toInt ∧ (g4 113 15).toInt ≤ 160 := Inv.rd (r := 113) (c := 8) hRg4.1 15 rfl
  have y194 : 0 ≤ (g4 113 19).toInt ∧ (g4 113 19).toInt ≤ 6 := Inv.rd (r := 113) (c := 8) hRg4.1 19 rfl
  have y195 := hRg4.1.d8
  exact (s_129_20 300 (0 : Int32) g4 hRg4.1 (by omega))
