/-! printed by wip/tools/safe.py -/
theorem s_128_91 (x1 : Int32) (s1 : Int32) (g : G) (hI : Inv g) (hp : ((g 113 19).toInt = 0 → (x1.toInt = 1 → (g 113 6).toInt ≤ 3) ∧ (x1.toInt = 2 → (g 116 8).toInt ≤ 7))) : S1 (d_128_91 x1 s1 g) (fun q : G => Inv q ∧ ((g 113 15).toInt ≤ (q 113 15).toInt ∧ ((q 113 19).toInt = 0 ∧ (q 113 17).toInt ≠ 0 → (g 113 15).toInt < (q 113 15).toInt))) := by
  unfold d_128_91
  have L0 := zl_0
  have L1 := zl_1
  have L2 := zl_2
  have L3 := zl_3
  have L4 := zl_4
  have yp181 : 0 ≤ (g 113 14).toInt ∧ (g 113 14).toInt ≤ 160 := Inv.rd (r := 113) (c := 8) hI 14 rfl
  have yp182 : 0 ≤ (g 113 15).toInt ∧ (g 113 15).toInt ≤ 160 := Inv.rd (r := 113) (c := 8) hI 15 rfl
  have yp183 : 0 ≤ (g 113 16).toInt ∧ (g 113 16).toInt ≤ 160 := Inv.rd (r := 113) (c := 8) hI 16 rfl
  have yp184 : 0 ≤ (g 113 19).toInt ∧ (g 113 19).toInt ≤ 6 := Inv.rd (r := 113) (c := 8) hI 19 rfl
  have yp185 : 0 ≤ (g 113 6).toInt ∧ (g 113 6).toInt ≤ 4 := Inv.rd (r := 113) (c := 8) hI 6 rfl
  have yp186 := hI.d8
  refine S1.lc (s_113 s1 (4 : Int32) g hI (by omega)) ?_
  intro g8 hvg8 hRg8
  have hRg8 : Inv g8 ∧ ((g8 113 6).toInt = (g 113 6).toInt ∧ (g8 113 14).toInt = (g 113 14).toInt ∧ (g8 116 8).toInt = (g 116 8).toInt ∧ (g8 113 15).toInt = (g 113 15).toInt ∧ (g8 113 16).toInt = (g 113 16).toInt ∧ (g8 113 17).toInt = (g 113 17).toInt ∧ (g8 113 18).toInt = (g 113 18).toInt ∧ ((g 113 19).toInt ≠ 0 → (g8 113 19).toInt ≠ 0) ∧ (s1.toInt = 0 → (g8 113 19).toInt ≠ 0) ∧ (s1.toInt ≠ 0 → (g8 113 19).toInt = (g 113 19).toInt)) := hRg8
  have y1 : 0 ≤ (g 113 14).toInt ∧ (g 113 14).toInt ≤ 160 := Inv.rd (r := 113) (c := 8) hI 14 rfl
  have y2 : 0 ≤ (g 113 15).toInt ∧ (g 113 15).toInt ≤ 160 := Inv.rd (r := 113) (c := 8) hI 15 rfl
  have y3 : 0 ≤ (g 113 16).toInt ∧ (g 113 16).toInt ≤ 160 := Inv.rd (r := 113) (c := 8) hI 16 rfl
  have y4 : 0 ≤ (g 113 19).toInt ∧ (g 113 19).toInt ≤ 6 := Inv.rd (r := 113) (c := 8) hI 19 rfl
  have y5 : 0 ≤ (g 113 6).toInt ∧ (g 113 6).toInt ≤ 4 := Inv.rd (r := 113) (c := 8) hI 6 rfl
  have y6 := hI.d8
  have y7 : 0 ≤ (g8 113 6).toInt ∧ (g8 113 6).toInt ≤ 4 := Inv.rd (r := 113) (c := 8) hRg8.1 6 rfl
  have y8 : 0 ≤ (g8 113 14).toInt ∧ (g8 113 14).toInt ≤ 160 := Inv.rd (r := 113) (c := 8) hRg8.1 14 rfl
  have y9 : 0 ≤ (g8 113 15).toInt ∧ (g8 113 15).toInt ≤ 160 := Inv.rd (r := 113) (c := 8) hRg8.1 15 rfl
  have y10 : 0 ≤ (g8 113 16).toInt ∧ (g8 113 16).toInt ≤ 160 := Inv.rd (r := 113) (c := 8) hRg8.1 16 rfl
  have y11 : 0 ≤ (g8 113 19).toInt ∧ (g8 113 19).toInt ≤ 6 := Inv.rd (r := 113) (c := 8) hRg8.1 19 rfl
  have y12 := hRg8.1.d8
  refine S1.ite (fun hc9 => ?_) (fun hc9 => ?_)
  · skip
    have chc9 := zc_neT hc9
    refine S1.lt ?_
    intro g10 hg10
    have Ig10 : Inv g10 := Inv.up hRg8.1 hg10 rfl trivial
    have u13 : (g10 113 6).toInt = (g8 113 6).toInt := by rw [← hg10]; rfl
    have u14 : (g10 113 7).toInt = (1 : Int32).toInt := by rw [← hg10]; rfl
    have u15 : (g10 113 14).toInt = (g8 113 14).toInt := by rw [← hg10]; rfl
    have u16 : (g10 113 15).toInt = (g8 113 15).toInt := by rw [← hg10]; rfl
    have u17 : (g10 113 16).toInt = (g8 113 16).toInt := by rw [← hg10]; rfl
    have u18 : (g10 113 17).toInt = (g8 113 17).toInt := by rw [← hg10]; rfl
    have u19 : (g10 113 18).toInt = (g8 113 18).toInt := by rw [← hg10]; rfl
    have u20 : (g10 113 19).toInt = (g8 113 19).toInt := by rw [← hg10]; rfl
    have u21 : (g10 116 8).toInt = (g8 116 8).toInt := by rw [← hg10]; rfl
    refine S1.bd (s_119 g10 Ig10 trivial) ?_
    intro g11 hvg11 hRg11
    have hRg11 : Inv g11 ∧ ((g11 113 6).toInt = (g10 113 6).toInt ∧ (g11 113 14).toInt = (g10 113 14).toInt ∧ (g11 116 8).toInt = (g10 116 8).toInt ∧ ((g10 113 19).toInt ≠ 0 → (g11 113 19).toInt ≠ 0) ∧ (g10 113 15).toInt ≤ (g11 113 15).toInt ∧ ((g11 113 19).toInt = 0 ∧ (g11 113 17).toInt ≠ 0 → (g10 113 15).toInt < (g11 113 15).toInt)) := hRg11
    have y22 : 0 ≤ (g10 113 14).toInt ∧ (g10 113 14).toInt ≤ 160 := Inv.rd (r := 113) (c := 8) Ig10 14 rfl
    have y23 : 0 ≤ (g10 113 15).toInt ∧ (g10 113 15).toInt ≤ 160 := Inv.rd (r := 113) (c := 8) Ig10 15 rfl
    have y24 : 0 ≤ (g10 113 19).toInt ∧ (g10 113 19).toInt ≤ 6 := Inv.rd (r := 113) (c := 8) Ig10 19 rfl
    have y25 : 0 ≤ (g10 113 6).toInt ∧ (g10 113 6).toInt ≤ 4 := Inv.rd (r := 113) (c := 8) Ig10 6 rfl
    have y26 := Ig10.d8
    have y27 : 0 ≤ (g11 113 6).toInt ∧ (g11 113 6).toInt ≤ 4 := Inv.rd (r := 113) (c := 8) hRg11.1 6 rfl
    have y28 : 0 ≤ (g11 113 14).toInt ∧ (g11 113 14).toInt ≤ 160 := Inv.rd (r := 113) (c := 8) hRg11.1 14 rfl
    have y29 : 0 ≤ (g11 113 15).toInt ∧ (g11 113 15).toInt ≤ 160 := Inv.rd (r := 113) (c := 8) hRg11.1 15 rfl
    have y30 : 0 ≤ (g11 113 16).toInt ∧ (g11 113 16).toInt ≤ 160 := Inv.rd (r := 113) (c := 8) hRg11.1 16 rfl
    have y31 : 0 ≤ (g11 113 19).toInt ∧ (g11 113 19).toInt ≤ 6 := Inv.rd (r := 113) (c := 8) hRg11.1 19 rfl
    have y32 := hRg11.1.d8
    refine S1.ite (fun hc12 => ?_) (fun hc12 => ?_)
    · skip
      have chc12 := zc_leT hc12
      refine S1.bd (s_127 x1 g11 hRg11.1 (by omega)) ?_
      intro g13 hvg13 hRg13
      have hRg13 : Inv g13 ∧ (((g11 113 19).toInt ≠ 0 → (g13 113 19).toInt ≠ 0) ∧ (g11 113 15).toInt ≤ (g13 113 15).toInt) := hRg13
      have y33 : 0 ≤ (g13 113 6).toInt ∧ (g13 113 6).toInt ≤ 4 := Inv.rd (r := 113) (c := 8) hRg13.1 6 rfl
      have y34 : 0 ≤ (g13 113 14).toInt ∧ (g13 113 14).toInt ≤ 160 := Inv.rd (r := 113) (c := 8) hRg13.1 14 rfl
      have y35 : 0 ≤ (g13 113 15).toInt ∧ (g13 113 15).toInt ≤ 160 := Inv.rd (r := 113) (c := 8) hRg13.1 15 rfl
      have y36 : 0 ≤ (g13 113 16).toInt ∧ (g13 113 16).toInt ≤ 160 := Inv.rd (r := 113) (c := 8) hRg13.1 16 rfl
      have y37 : 0 ≤ (g13 113 19).toInt ∧ (g13 113 19).toInt ≤ 6 := Inv.rd (r := 113) (c := 8) hRg13.1 19 rfl
      have y38 := hRg13.1.d8
      refine S1.ite (fun hc14 => ?_) (fun hc14 => ?_)
      · skip
        have chc14 := zc_neT hc14
        refine S1.bd (s_119 g13 hRg13.1 trivial) ?_
        intro g15 hvg15 hRg15
        have hRg15 : Inv g15 ∧ ((g15 113 6).toInt = (g13 113 6).toInt ∧ (g15 113 14).toInt = (g13 113 14).toInt ∧ (g15 116 8).toInt = (g13 116 8).toInt ∧ ((g13 113 19).toInt ≠ 0 → (g15 113 19).toInt ≠ 0) ∧ (g13 113 15).toInt ≤ (g15 113 15).toInt ∧ ((g15 113 19).toInt = 0 ∧ (g15 113 17).toInt ≠ 0 → (g13 113 15).toInt < (g15 113 15).toInt)) := hRg15
        have y39 : 0 ≤ (g15 113 6).toInt ∧ (g15 113 6).toInt ≤ 4 := Inv.rd (r := 113) (c := 8) hRg15.1 6 rfl
        have y40 : 0 ≤ (g15 113 14).toInt ∧ (g15 113 14).toInt ≤ 160 := Inv.rd (r := 113) (c := 8) hRg15.1 14 rfl
        have y41 : 0 ≤ (g15 113 15).toInt ∧ (g15 113 15).toInt ≤ 160 := Inv.rd (r := 113) (c := 8) hRg15.1 15 rfl
        have y42 : 0 ≤ (g15 113 16).toInt ∧ (g15 113 16).toInt ≤ 160 := Inv.rd (r := 113) (c := 8) hRg15.1 16 rfl
        have y43 : 0 ≤ (g15 113 19).toInt ∧ (g15 113 19).toInt ≤ 6 := Inv.rd (r := 113) (c := 8) hRg15.1 19 rfl
        have y44 := hRg15.1.d8
        exact S1.ret (show Inv g15 ∧ ((g 113 15).toInt ≤ (g15 113 15).toInt ∧ ((g15 113 19).toInt = 0 ∧ (g15 113 17).toInt ≠ 0 → (g 113 15).toInt < (g15 113 15).toInt)) from ⟨hRg15.1, (by omega)⟩)
      · skip
        have chc14 := zc_neF hc14
        refine S1.ite (fun hc16 => ?_) (fun hc16 => ?_)
        · skip
          have chc16 := zc_neT hc16
          refine S1.lc (s_113 (0 : Int32) (2 : Int32) g13 hRg13.1 (by omega)) ?_
          intro g17 hvg17 hRg17
          have hRg17 : Inv g17 ∧ ((g17 113 6).toInt = (g13 113 6).toInt ∧ (g17 113 14).toInt = (g13 113 14).toInt ∧ (g17 116 8).toInt = (g13 116 8).toInt ∧ (g17 113 15).toInt = (g13 113 15).toInt ∧ (g17 113 16).toInt = (g13 113 16).toInt ∧ (g17 113 17).toInt = (g13 113 17).toInt ∧ (g17 113 18).toInt = (g13 113 18).toInt ∧ ((g13 113 19).toInt ≠ 0 → (g17 113 19).toInt ≠ 0) ∧ ((0 : Int32).toInt = 0 → (g17 113 19).toInt ≠ 0) ∧ ((0 : Int32).toInt ≠ 0 → (g17 113 19).toInt = (g13 113 19).toInt)) := hRg17
          have y45 : 0 ≤ (g17 113 6).toInt ∧ (g17 113 6).toInt ≤ 4 := Inv.rd (r := 113) (c := 8) hRg17.1 6 rfl
          have y46 : 0 ≤ (g17 113 14).toInt ∧ (g17 113 14).toInt ≤ 160 := Inv.rd (r := 113) (c := 8) hRg17.1 14 rfl
          have y47 : 0 ≤ (g17 113 15).toInt ∧ (g17 113 15).toInt ≤ 160 := Inv.rd (r := 113) (c := 8) hRg17.1 15 rfl
          have y48 : 0 ≤ (g17 113 16).toInt ∧ (g17 113 16).toInt ≤ 160 := Inv.rd (r := 113) (c := 8) hRg17.1 16 rfl
          have y49 : 0 ≤ (g17 113 19).toInt ∧ (g17 113 19).toInt ≤ 6 := Inv.rd (r := 113) (c := 8) hRg17.1 19 rfl
          have y50 := hRg17.1.d8
          refine S1.bd (s_119 g17 hRg17.1 trivial) ?_
          intro g18 hvg18 hRg18
          have hRg18 : Inv g18 ∧ ((g18 113 6).toInt = (g17 113 6).toInt ∧ (g18 113 14).toInt = (g17 113 14).toInt ∧ (g18 116 8).toInt = (g17 116 8).toInt ∧ ((g17 113 19).toInt ≠ 0 → (g18 113 19).toInt ≠ 0) ∧ (g17 113 15).toInt ≤ (g18 113 15).toInt ∧ ((g18 113 19).toInt = 0 ∧ (g18 113 17).toInt ≠ 0 → (g17 113 15).toInt < (g18 113 15).toInt)) := hRg18
          have y51 : 0 ≤ (g18 113 6).toInt ∧ (g18 113 6).toInt ≤ 4 := Inv.rd (r := 113) (c := 8) hRg18.1 6 rfl
          have y52 : 0 ≤ (g18 113 14).toInt ∧ (g18 113 14).toInt ≤ 160 := Inv.rd (r := 113) (c := 8) hRg18.1 14 rfl
          have y53 : 0 ≤ (g18 113 15).toInt ∧ (g18 113 15).toInt ≤ 160 := Inv.rd (r := 113) (c := 8) hRg18.1 15 rfl
          have y54 : 0 ≤ (g18 113 16).toInt ∧ (g18 113 16).toInt ≤ 160 := Inv.rd (r := 113) (c := 8) hRg18.1 16 rfl
          have y55 : 0 ≤ (g18 113 19).toInt ∧ (g18 113 19).toInt ≤ 6 := Inv.rd (r := 113) (c := 8) hRg18.1 19 rfl
          have y56 := hRg18.1.d8
          exact S1.ret (show Inv g18 ∧ ((g 113 15).toInt ≤ (g18 113 15).toInt ∧ ((g18 113 19).toInt = 0 ∧ (g18 113 17).toInt ≠ 0 → (g 113 15).toInt < (g18 113 15).toInt)) from ⟨hRg18.1, (by omega)⟩)
        · skip
          have chc16 := zc_neF hc16
          refine S1.lc (s_113 (1 : Int32) (2 : Int32) g13 hRg13.1 (by omega)) ?_
          intro g19 hvg19 hRg19
          have hRg19 : Inv g19 ∧ ((g19 113 6).toInt = (g13 113 6).toInt ∧ (g19 113 14).toInt = (g13 113 14).toInt ∧ (g19 116 8).toInt = (g13 116 8).toInt ∧ (g19 113 15).toInt = (g13 113 15).toInt ∧ (g19 113 16).toInt = (g13 113 16).toInt ∧ (g19 113 17).toInt = (g13 113 17).toInt ∧ (g19 113 18).toInt = (g13 113 18).toInt ∧ ((g13 113 19).toInt ≠ 0 → (g19 113 19).toInt ≠ 0) ∧ ((1 : Int32).toInt = 0 → (g19 113 19).toInt ≠ 0) ∧ ((1 : Int32).toInt ≠ 0 → (g19 113 19).toInt = (g13 113 19).toInt)) := hRg19
          have y57 : 0 ≤ (g19 113 6).toInt ∧ (g19 113 6).toInt ≤ 4 := Inv.rd (r := 113) (c := 8) hRg19.1 6 rfl
          have y58 : 0 ≤ (g19 113 14).toInt ∧ (g19 113 14).toInt ≤ 160 := Inv.rd (r := 113) (c := 8) hRg19.1 14 rfl
          have y59 : 0 ≤ (g19 113 15).toInt ∧ (g19 113 15).toInt ≤ 160 := Inv.rd (r := 113) (c := 8) hRg19.1 15 rfl
          have y60 : 0 ≤ (g19 113 16).toInt ∧ (g19 113 16).toInt ≤ 160 := Inv.rd (r := 113) (c := 8) hRg19.1 16 rfl
          have y61 : 0 ≤ (g19 113 19).toInt ∧ (g19 113 19).toInt ≤ 6 := Inv.rd (r := 113) (c := 8) hRg19.1 19 rfl
          have y62 := hRg19.1.d8
          refine S1.bd (s_119 g19 hRg19.1 trivial) ?_
          intro g20 hvg20 hRg20
          have hRg20 : Inv g20 ∧ ((g20 113 6).toInt = (g19 113 6).toInt ∧ (g20 113 14).toInt = (g19 113 14).toInt ∧ (g20 116 8).toInt = (g19 116 8).toInt ∧ ((g19 113 19).toInt ≠ 0 → (g20 113 19).toInt ≠ 0) ∧ (g19 113 15).toInt ≤ (g20 113 15).toInt ∧ ((g20 113 19).toInt = 0 ∧ (g20 113 17).toInt ≠ 0 → (g19 113 15).toInt < (g20 113 15).toInt)) := hRg20
          have y63 : 0 ≤ (g20 113 6).toInt ∧ (g20 113 6).toInt ≤ 4 := Inv.rd (r := 113) (c := 8) hRg20.1 6 rfl
          have y64 : 0 ≤ (g20 113 14).toInt ∧ (g20 113 14).toInt ≤ 160 := Inv.rd (r := 113) (c := 8) hRg20.1 14 rfl
          have y65 : 0 ≤ (g20 113 15).toInt ∧ (g20 113 15).toInt ≤ 160 := Inv.rd (r := 113) (c := 8) hRg20.1 15 rfl
          have y66 : 0 ≤ (g20 113 16).toInt ∧ (g20 113 16).toInt ≤ 160 := Inv.rd (r := 113) (c := 8) hRg20.1 16 rfl
          have y67 : 0 ≤ (g20 113 19).toInt ∧ (g20 113 19).toInt ≤ 6 := Inv.rd (r := 113) (c := 8) hRg20.1 19 rfl
          have y68 := hRg20.1.d8
          exact S1.ret (show Inv g20 ∧ ((g 113 15).toInt ≤ (g20 113 15).toInt ∧ ((g20 113 19).toInt = 0 ∧ (g20 113 17).toInt ≠ 0 → (g 113 15).toInt < (g20 113 15).toInt)) from ⟨hRg20.1, (by omega)⟩)
    · skip
      have chc12 := zc_leF hc12
      exact S1.ret (show Inv g11 ∧ ((g 113 15).toInt ≤ (g11 113 15).toInt ∧ ((g11 113 19).toInt = 0 ∧ (g11 113 17).toInt ≠ 0 → (g 113 15).toInt < (g11 113 15).toInt)) from ⟨hRg11.1, (by omega)⟩)
  · skip
    have chc9 := zc_neF hc9
    refine S1.ite (fun hc21 => ?_) (fun hc21 => ?_)
    · skip
      have chc21 := zc_neT hc21
      refine S1.lt ?_
      intro g22 hg22
      have Ig22 : Inv g22 := Inv.up hRg8.1 hg22 rfl trivial
      have u69 : (g22 113 6).toInt = (g8 113 6).toInt := by rw [← hg22]; rfl
      have u70 : (g22 113 7).toInt = (0 : Int32).toInt := by rw [← hg22]; rfl
      have u71 : (g22 113 14).toInt = (g8 113 14).toInt := by rw [← hg22]; rfl
      have u72 : (g22 113 15).toInt = (g8 113 15).toInt := by rw [← hg22]; rfl
      have u73 : (g22 113 16).toInt = (g8 113 16).toInt := by rw [← hg22]; rfl
      have u74 : (g22 113 17).toInt = (g8 113 17).toInt := by rw [← hg22]; rfl
      have u75 : (g22 113 18).toInt = (g8 113 18).toInt := by rw [← hg22]; rfl
      have u76 : (g22 113 19).toInt = (g8 113 19).toInt := by rw [← hg22]; rfl
      have u77 : (g22 116 8).toInt = (g8 116 8).toInt := by rw [← hg22]; rfl
      refine S1.bd (s_119 g22 Ig22 trivial) ?_
      intro g23 hvg23 hRg23
      have hRg23 : Inv g23 ∧ ((g23 113 6).toInt = (g22 113 6).toInt ∧ (g23 113 14).toInt = (g22 113 14).toInt ∧ (g23 116 8).toInt = (g22 116 8).toInt ∧ ((g22 113 19).toInt ≠ 0 → (g23 113 19).toInt ≠ 0) ∧ (g22 113 15).toInt ≤ (g23 113 15).toInt ∧ ((g23 113 19).toInt = 0 ∧ (g23 113 17).toInt ≠ 0 → (g22 113 15).toInt < (g23 113 15).toInt)) := hRg23
      have y78 : 0 ≤ (g22 113 14).toInt ∧ (g22 113 14).toInt ≤ 160 := Inv.rd (r := 113) (c := 8) Ig22 14 rfl
      have y79 : 0 ≤ (g22 113 15).toInt ∧ (g22 113 15).toInt ≤ 160 := Inv.rd (r := 113) (c := 8) Ig22 15 rfl
      have y80 : 0 ≤ (g22 113 19).toInt ∧ (g22 113 19).toInt ≤ 6 := Inv.rd (r := 113) (c := 8) Ig22 19 rfl
      have y81 : 0 ≤ (g22 113 6).toInt ∧ (g22 113 6).toInt ≤ 4 := Inv.rd (r := 113) (c := 8) Ig22 6 rfl
      have y82 := Ig22.d8
      have y83 : 0 ≤ (g23 113 6).toInt ∧ (g23 113 6).toInt ≤ 4 := Inv.rd (r := 113) (c := 8) hRg23.1 6 rfl
      have y84 : 0 ≤ (g23 113 14).toInt ∧ (g23 113 14).toInt ≤ 160 := Inv.rd (r := 113) (c := 8) hRg23.1 14 rfl
      have y85 : 0 ≤ (g23 113 15).toInt ∧ (g23 113 15).toInt ≤ 160 := Inv.rd (r := 113) (c := 8) hRg23.1 15 rfl
      have y86 : 0 ≤ (g23 113 16).toInt ∧ (g23 113 16).toInt ≤ 160 := Inv.rd (r := 113) (c := 8) hRg23.1 16 rfl
      have y87 : 0 ≤ (g23 113 19).toInt ∧ (g23 113 19).toInt ≤ 6 := Inv.rd (r := 113) (c := 8) hRg23.1 19 rfl
      have y88 := hRg23.1.d8
      refine S1.ite (fun hc24 => ?_) (fun hc24 => ?_)
      · skip
        have chc24 := zc_leT hc24
        refine S1.bd (s_127 x1 g23 hRg23.1 (by omega)) ?_
        intro g25 hvg25 hRg25
        have hRg25 : Inv g25 ∧ (((g23 113 19).toInt ≠ 0 → (g25 113 19).toInt ≠ 0) ∧ (g23 113 15).toInt ≤ (g25 113 15).toInt) := hRg25
        have y89 : 0 ≤ (g25 113 6).toInt ∧ (g25 113 6).toInt ≤ 4 := Inv.rd (r := 113) (c := 8) hRg25.1 6 rfl
        have y90 : 0 ≤ (g25 113 14).toInt ∧ (g25 113 14).toInt ≤ 160 := Inv.rd (r := 113) (c := 8) hRg25.1 14 rfl
        have y91 : 0 ≤ (g25 113 15).toInt ∧ (g25 113 15).toInt ≤ 160 := Inv.rd (r := 113) (c := 8) hRg25.1 15 rfl
        have y92 : 0 ≤ (g25 113 16).toInt ∧ (g25 113 16).toInt ≤ 160 := Inv.rd (r := 113) (c := 8) hRg25.1 16 rfl
        have y93 : 0 ≤ (g25 113 19).toInt ∧ (g25 113 19).toInt ≤ 6 := Inv.rd (r := 113) (c := 8) hRg25.1 19 rfl
        have y94 := hRg25.1.d8
        refine S1.ite (fun hc26 => ?_) (fun hc26 => ?_)
        · skip
          have chc26 := zc_neT hc26
          refine S1.bd (s_119 g25 hRg25.1 trivial) ?_
          intro g27 hvg27 hRg27
          have hRg27 : Inv g27 ∧ ((g27 113 6).toInt = (g25 113 6).toInt ∧ (g27 113 14).toInt = (g25 113 14).toInt ∧ (g27 116 8).toInt = (g25 116 8).toInt ∧ ((g25 113 19).toInt ≠ 0 → (g27 113 19).toInt ≠ 0) ∧ (g25 113 15).toInt ≤ (g27 113 15).toInt ∧ ((g27 113 19).toInt = 0 ∧ (g27 113 17).toInt ≠ 0 → (g25 113 15).toInt < (g27 113 15).toInt)) := hRg27
          have y95 : 0 ≤ (g27 113 6).toInt ∧ (g27 113 6).toInt ≤ 4 := Inv.rd (r := 113) (c := 8) hRg27.1 6 rfl
          have y96 : 0 ≤ (g27 113 14).toInt ∧ (g27 113 14).toInt ≤ 160 := Inv.rd (r := 113) (c := 8) hRg27.1 14 rfl
          have y97 : 0 ≤ (g27 113 15).toInt ∧ (g27 113 15).toInt ≤ 160 := Inv.rd (r := 113) (c := 8) hRg27.1 15 rfl
          have y98 : 0 ≤ (g27 113 16).toInt ∧ (g27 113 16).toInt ≤ 160 := Inv.rd (r := 113) (c := 8) hRg27.1 16 rfl
          have y99 : 0 ≤ (g27 113 19).toInt ∧ (g27 113 19).toInt ≤ 6 := Inv.rd (r := 113) (c := 8) hRg27.1 19 rfl
          have y100 := hRg27.1.d8
          exact S1.ret (show Inv g27 ∧ ((g 113 15).toInt ≤ (g27 113 15).toInt ∧ ((g27 113 19).toInt = 0 ∧ (g27 113 17).toInt ≠ 0 → (g 113 15).toInt < (g27 113 15).toInt)) from ⟨hRg27.1, (by omega)⟩)
        · skip
          have chc26 := zc_neF hc26
          refine S1.ite (fun hc28 => ?_) (fun hc28 => ?_)
          · skip
            have chc28 := zc_neT hc28
            refine S1.lc (s_113 (0 : Int32) (2 : Int32) g25 hRg25.1 (by omega)) ?_
            intro g29 hvg29 hRg29
            have hRg29 : Inv g29 ∧ ((g29 113 6).toInt = (g25 113 6).toInt ∧ (g29 113 14).toInt = (g25 113 14).toInt ∧ (g29 116 8).toInt = (g25 116 8).toInt ∧ (g29 113 15).toInt = (g25 113 15).toInt ∧ (g29 113 16).toInt = (g25 113 16).toInt ∧ (g29 113 17).toInt = (g25 113 17).toInt ∧ (g29 113 18).toInt = (g25 113 18).toInt ∧ ((g25 113 19).toInt ≠ 0 → (g29 113 19).toInt ≠ 0) ∧ ((0 : Int32).toInt = 0 → (g29 113 19).toInt ≠ 0) ∧ ((0 : Int32).toInt ≠ 0 → (g29 113 19).toInt = (g25 113 19).toInt)) := hRg29
            have y101 : 0 ≤ (g29 113 6).toInt ∧ (g29 113 6).toInt ≤ 4 := Inv.rd (r := 113) (c := 8) hRg29.1 6 rfl
            have y102 : 0 ≤ (g29 113 14).toInt ∧ (g29 113 14).toInt ≤ 160 := Inv.rd (r := 113) (c := 8) hRg29.1 14 rfl
            have y103 : 0 ≤ (g29 113 15).toInt ∧ (g29 113 15).toInt ≤ 160 := Inv.rd (r := 113) (c := 8) hRg29.1 15 rfl
            have y104 : 0 ≤ (g29 113 16).toInt ∧ (g29 113 16).toInt ≤ 160 := Inv.rd (r := 113) (c := 8) hRg29.1 16 rfl
            have y105 : 0 ≤ (g29 113 19).toInt ∧ (g29 113 19).toInt ≤ 6 := Inv.rd (r := 113) (c := 8) hRg29.1 19 rfl
            have y106 := hRg29.1.d8
            refine S1.bd (s_119 g29 hRg29.1 trivial) ?_
            intro g30 hvg30 hRg30
            have hRg30 : Inv g30 ∧ ((g30 113 6).toInt = (g29 113 6).toInt ∧ (g30 113 14).toInt = (g29 113 14).toInt ∧ (g30 116 8).toInt = (g29 116 8).toInt ∧ ((g29 113 19).toInt ≠ 0 → (g30 113 19).toInt ≠ 0) ∧ (g29 113 15).toInt ≤ (g30 113 15).toInt ∧ ((g30 113 19).toInt = 0 ∧ (g30 113 17).toInt ≠ 0 → (g29 113 15).toInt < (g30 113 15).toInt)) := hRg30
            have y107 : 0 ≤ (g30 113 6).toInt ∧ (g30 113 6).toInt ≤ 4 := Inv.rd (r := 113) (c := 8) hRg30.1 6 rfl
            have y108 : 0 ≤ (g30 113 14).toInt ∧ (g30 113 14).toInt ≤ 160 := Inv.rd (r := 113) (c := 8) hRg30.1 14 rfl
            have y109 : 0 ≤ (g30 113 15).toInt ∧ (g30 113 15).toInt ≤ 160 := Inv.rd (r := 113) (c := 8) hRg30.1 15 rfl
            have y110 : 0 ≤ (g30 113 16).toInt ∧ (g30 113 16).toInt ≤ 160 := Inv.rd (r := 113) (c := 8) hRg30.1 16 rfl
            have y111 : 0 ≤ (g30 113 19).toInt ∧ (g30 113 19).toInt ≤ 6 := Inv.rd (r := 113) (c := 8) hRg30.1 19 rfl
            have y112 := hRg30.1.d8
            exact S1.ret (show Inv g30 ∧ ((g 113 15).toInt ≤ (g30 113 15).toInt ∧ ((g30 113 19).toInt = 0 ∧ (g30 113 17).toInt ≠ 0 → (g 113 15).toInt < (g30 113 15).toInt)) from ⟨hRg30.1, (by omega)⟩)
          · skip
            have chc28 := zc_neF hc28
            refine S1.lc (s_113 (1 : Int32) (2 : Int32) g25 hRg25.1 (by omega)) ?_
            intro g31 hvg31 hRg31
            have hRg31 : Inv g31 ∧ ((g31 113 6).toInt = (g25 113 6).toInt ∧ (g31 113 14).toInt = (g25 113 14).toInt ∧ (g31 116 8).toInt = (g25 116 8).toInt ∧ (g31 113 15).toInt = (g25 113 15).toInt ∧ (g31 113 16).toInt = (g25 113 16).toInt ∧ (g31 113 17).toInt = (g25 113 17).toInt ∧ (g31 113 18).toInt = (g25 113 18).toInt ∧ ((g25 113 19).toInt ≠ 0 → (g31 113 19).toInt ≠ 0) ∧ ((1 : Int32).toInt = 0 → (g31 113 19).toInt ≠ 0) ∧ ((1 : Int32).toInt ≠ 0 → (g31 113 19).toInt = (g25 113 19).toInt)) := hRg31
            have y113 : 0 ≤ (g31 113 6).toInt ∧ (g31 113 6).toInt ≤ 4 := Inv.rd (r := 113) (c := 8) hRg31.1 6 rfl
            have y114 : 0 ≤ (g31 113 14).toInt ∧ (g31 113 14).toInt ≤ 160 := Inv.rd (r := 113) (c := 8) hRg31.1 14 rfl
            have y115 : 0 ≤ (g31 113 15).toInt ∧ (g31 113 15).toInt ≤ 160 := Inv.rd (r := 113) (c := 8) hRg31.1 15 rfl
            have y116 : 0 ≤ (g31 113 16).toInt ∧ (g31 113 16).toInt ≤ 160 := Inv.rd (r := 113) (c := 8) hRg31.1 16 rfl
            have y117 : 0 ≤ (g31 113 19).toInt ∧ (g31 113 19).toInt ≤ 6 := Inv.rd (r := 113) (c := 8) hRg31.1 19 rfl
            have y118 := hRg31.1.d8
            refine S1.bd (s_119 g31 hRg31.1 trivial) ?_
            intro g32 hvg32 hRg32
            have hRg32 : Inv g32 ∧ ((g32 113 6).toInt = (g31 113 6).toInt ∧ (g32 113 14).toInt = (g31 113 14).toInt ∧ (g32 116 8).toInt = (g31 116 8).toInt ∧ ((g31 113 19).toInt ≠ 0 → (g32 113 19).toInt ≠ 0) ∧ (g31 113 15).toInt ≤ (g32 113 15).toInt ∧ ((g32 113 19).toInt = 0 ∧ (g32 113 17).toInt ≠ 0 → (g31 113 15).toInt < (g32 113 15).toInt)) := hRg32
            have y119 : 0 ≤ (g32 113 6).toInt ∧ (g32 113 6).toInt ≤ 4 := Inv.rd (r := 113) (c := 8) hRg32.1 6 rfl
            have y120 : 0 ≤ (g32 113 14).toInt ∧ (g32 113 14).toInt ≤ 160 := Inv.rd (r := 113) (c := 8) hRg32.1 14 rfl
            have y121 : 0 ≤ (g32 113 15).toInt ∧ (g32 113 15).toInt ≤ 160 := Inv.rd (r := 113) (c := 8) hRg32.1 15 rfl
            have y122 : 0 ≤ (g32 113 16).toInt ∧ (g32 113 16).toInt ≤ 160 := Inv.rd (r := 113) (c := 8) hRg32.1 16 rfl
            have y123 : 0 ≤ (g32 113 19).toInt ∧ (g32 113 19).toInt ≤ 6 := Inv.rd (r := 113) (c := 8) hRg32.1 19 rfl
            have y124 := hRg32.1.d8
            exact S1.ret (show Inv g32 ∧ ((g 113 15).toInt ≤ (g32 113 15).toInt ∧ ((g32 113 19).toInt = 0 ∧ (g32 113 17).toInt ≠ 0 → (g 113 15).toInt < (g32 113 15).toInt)) from ⟨hRg32.1, (by omega)⟩)
      · skip
        have chc24 := zc_leF hc24
        exact S1.ret (show Inv g23 ∧ ((g 113 15).toInt ≤ (g23 113 15).toInt ∧ ((g23 113 19).toInt = 0 ∧ (g23 113 17).toInt ≠ 0 → (g 113 15).toInt < (g23 113 15).toInt)) from ⟨hRg23.1, (by omega)⟩)
    · skip
      have chc21 := zc_neF hc21
      refine S1.lt ?_
      intro g33 hg33
      have Ig33 : Inv g33 := Inv.up hRg8.1 hg33 rfl trivial
      have u125 : (g33 113 6).toInt = (g8 113 6).toInt := by rw [← hg33]; rfl
      have u126 : (g33 113 7).toInt = (1 : Int32).toInt := by rw [← hg33]; rfl
      have u127 : (g33 113 14).toInt = (g8 113 14).toInt := by rw [← hg33]; rfl
      have u128 : (g33 113 15).toInt = (g8 113 15).toInt := by rw [← hg33]; rfl
      have u129 : (g33 113 16).toInt = (g8 113 16).toInt := by rw [← hg33]; rfl
      have u130 : (g33 113 17).toInt = (g8 113 17).toInt := by rw [← hg33]; rfl
      have u131 : (g33 113 18).toInt = (g8 113 18).toInt := by rw [← hg33]; rfl
      have u132 : (g33 113 19).toInt = (g8 113 19).toInt := by rw [← hg33]; rfl
      have u133 : (g33 116 8).toInt = (g8 116 8).toInt := by rw [← hg33]; rfl
      refine S1.bd (s_119 g33 Ig33 trivial) ?_
      intro g34 hvg34 hRg34
      have hRg34 : Inv g34 ∧ ((g34 113 6).toInt = (g33 113 6).toInt ∧ (g34 113 14).toInt = (g33 113 14).toInt ∧ (g34 116 8).toInt = (g33 116 8).toInt ∧ ((g33 113 19).toInt ≠ 0 → (g34 113 19).toInt ≠ 0) ∧ (g33 113 15).toInt ≤ (g34 113 15).toInt ∧ ((g34 113 19).toInt = 0 ∧ (g34 113 17).toInt ≠ 0 → (g33 113 15).toInt < (g34 113 15).toInt)) := hRg34
      have y134 : 0 ≤ (g33 113 14).toInt ∧ (g33 113 14).toInt ≤ 160 := Inv.rd (r := 113) (c := 8) Ig33 14 rfl
      have y135 : 0 ≤ (g33 113 15).toInt ∧ (g33 113 15).toInt ≤ 160 := Inv.rd (r := 113) (c := 8) Ig33 15 rfl
      have y136 : 0 ≤ (g33 113 19).toInt ∧ (g33 113 19).toInt ≤ 6 := Inv.rd (r := 113) (c := 8) Ig33 19 rfl
      have y137 : 0 ≤ (g33 113 6).toInt ∧ (g33 113 6).toInt ≤ 4 := Inv.rd (r := 113) (c := 8) Ig33 6 rfl
      have y138 := Ig33.d8
      have y139 : 0 ≤ (g34 113 6).toInt ∧ (g34 113 6).toInt ≤ 4 := Inv.rd (r := 113) (c := 8) hRg34.1 6 rfl
      have y140 : 0 ≤ (g34 113 14).toInt ∧ (g34 113 14).toInt ≤ 160 := Inv.rd (r := 113) (c := 8) hRg34.1 14 rfl
      have y141 : 0 ≤ (g34 113 15).toInt ∧ (g34 113 15).toInt ≤ 160 := Inv.rd (r := 113) (c := 8) hRg34.1 15 rfl
      have y142 : 0 ≤ (g34 113 16).toInt ∧ (g34 113 16).toInt ≤ 160 := Inv.rd (r := 113) (c := 8) hRg34.1 16 rfl
      have y143 : 0 ≤ (g34 113 19).toInt ∧ (g34 113 19).toInt ≤ 6 := Inv.rd (r := 113) (c := 8) hRg34.1 19 rfl
      have y144 := hRg34.1.d8
      refine S1.ite (fun hc35 => ?_) (fun hc35 => ?_)
      · skip
        have chc35 := zc_leT hc35
        refine S1.bd (s_127 x1 g34 hRg34.1 (by omega)) ?_
        intro g36 hvg36 hRg36
        have hRg36 : Inv g36 ∧ (((g34 113 19).toInt ≠ 0 → (g36 113 19).toInt ≠ 0) ∧ (g34 113 15).toInt ≤ (g36 113 15).toInt) := hRg36
        have y145 : 0 ≤ (g36 113 6).toInt ∧ (g36 113 6).toInt ≤ 4 := Inv.rd (r := 113) (c := 8) hRg36.1 6 rfl
        have y146 : 0 ≤ (g36 113 14).toInt ∧ (g36 113 14).toInt ≤ 160 := Inv.rd (r := 113) (c := 8) hRg36.1 14 rfl
        have y147 : 0 ≤ (g36 113 15).toInt ∧ (g36 113 15).toInt ≤ 160 := Inv.rd (r := 113) (c := 8) hRg36.1 15 rfl
        have y148 : 0 ≤ (g36 113 16).toInt ∧ (g36 113 16).toInt ≤ 160 := Inv.rd (r := 113) (c := 8) hRg36.1 16 rfl
        have y149 : 0 ≤ (g36 113 19).toInt ∧ (g36 113 19).toInt ≤ 6 := Inv.rd (r := 113) (c := 8) hRg36.1 19 rfl
        have y150 := hRg36.1.d8
        refine S1.ite (fun hc37 => ?_) (fun hc37 => ?_)
        · skip
          have chc37 := zc_neT hc37
          refine S1.bd (s_119 g36 hRg36.1 trivial) ?_
          intro g38 hvg38 hRg38
          have hRg38 : Inv g38 ∧ ((g38 113 6).toInt = (g36 113 6).toInt ∧ (g38 113 14).toInt = (g36 113 14).toInt ∧ (g38 116 8).toInt = (g36 116 8).toInt ∧ ((g36 113 19).toInt ≠ 0 → (g38 113 19).toInt ≠ 0) ∧ (g36 113 15).toInt ≤ (g38 113 15).toInt ∧ ((g38 113 19).toInt = 0 ∧ (g38 113 17).toInt ≠ 0 → (g36 113 15).toInt < (g38 113 15).toInt)) := hRg38
          have y151 : 0 ≤ (g38 113 6).toInt ∧ (g38 113 6).toInt ≤ 4 := Inv.rd (r := 113) (c := 8) hRg38.1 6 rfl
          have y152 : 0 ≤ (g38 113 14).toInt ∧ (g38 113 14).toInt ≤ 160 := Inv.rd (r := 113) (c := 8) hRg38.1 14 rfl
          have y153 : 0 ≤ (g38 113 15).toInt ∧ (g38 113 15).toInt ≤ 160 := Inv.rd (r := 113) (c := 8) hRg38.1 15 rfl
          have y154 : 0 ≤ (g38 113 16).toInt ∧ (g38 113 16).toInt ≤ 160 := Inv.rd (r := 113) (c := 8) hRg38.1 16 rfl
          have y155 : 0 ≤ (g38 113 19).toInt ∧ (g38 113 19).toInt ≤ 6 := Inv.rd (r := 113) (c := 8) hRg38.1 19 rfl
          have y156 := hRg38.1.d8
          exact S1.ret (show Inv g38 ∧ ((g 113 15).toInt ≤ (g38 113 15).toInt ∧ ((g38 113 19).toInt = 0 ∧ (g38 113 17).toInt ≠ 0 → (g 113 15).toInt < (g38 113 15).toInt)) from ⟨hRg38.1, (by omega)⟩)
        · skip
          have chc37 := zc_neF hc37
          refine S1.ite (fun hc39 => ?_) (fun hc39 => ?_)
          · skip
            have chc39 := zc_neT hc39
            refine S1.lc (s_113 (0 : Int32) (2 : Int32) g36 hRg36.1 (by omega)) ?_
            intro g40 hvg40 hRg40
            have hRg40 : Inv g40 ∧ ((g40 113 6).toInt = (g36 113 6).toInt ∧ (g40 113 14).toInt = (g36 113 14).toInt ∧ (g40 116 8).toInt = (g36 116 8).toInt ∧ (g40 113 15).toInt = (g36 113 15).toInt ∧ (g40 113 16).toInt = (g36 113 16).toInt ∧ (g40 113 17).toInt = (g36 113 17).toInt ∧ (g40 113 18).toInt = (g36 113 18).toInt ∧ ((g36 113 19).toInt ≠ 0 → (g40 113 19).toInt ≠ 0) ∧ ((0 : Int32).toInt = 0 → (g40 113 19).toInt ≠ 0) ∧ ((0 : Int32).toInt ≠ 0 → (g40 113 19).toInt = (g36 113 19).toInt)) := hRg40
            have y157 : 0 ≤ (g40 113 6).toInt ∧ (g40 113 6).toInt ≤ 4 := Inv.rd (r := 113) (c := 8) hRg40.1 6 rfl
            have y158 : 0 ≤ (g40 113 14).toInt ∧ (g40 113 14).toInt ≤ 160 := Inv.rd (r := 113) (c := 8) hRg40.1 14 rfl
            have y159 : 0 ≤ (g40 113 15).toInt ∧ (g40 113 15).toInt ≤ 160 := Inv.rd (r := 113) (c := 8) hRg40.1 15 rfl
            have y160 : 0 ≤ (g40 113 16).toInt ∧ (g40 113 16).toInt ≤ 160 := Inv.rd (r := 113) (c := 8) hRg40.1 16 rfl
            have y161 : 0 ≤ (g40 113 19).toInt ∧ (g40 113 19).toInt ≤ 6 := Inv.rd (r := 113) (c := 8) hRg40.1 19 rfl
            have y162 := hRg40.1.d8
            refine S1.bd (s_119 g40 hRg40.1 trivial) ?_
            intro g41 hvg41 hRg41
            have hRg41 : Inv g41 ∧ ((g41 113 6).toInt = (g40 113 6).toInt ∧ (g41 113 14).toInt = (g40 113 14).toInt ∧ (g41 116 8).toInt = (g40 116 8).toInt ∧ ((g40 113 19).toInt ≠ 0 → (g41 113 19).toInt ≠ 0) ∧ (g40 113 15).toInt ≤ (g41 113 15).toInt ∧ ((g41 113 19).toInt = 0 ∧ (g41 113 17).toInt ≠ 0 → (g40 113 15).toInt < (g41 113 15).toInt)) := hRg41
            have y163 : 0 ≤ (g41 113 6).toInt ∧ (g41 113 6).toInt ≤ 4 := Inv.rd (r := 113) (c := 8) hRg41.1 6 rfl
            have y164 : 0 ≤ (g41 113 14).toInt ∧ (g41 113 14).toInt ≤ 160 := Inv.rd (r := 113) (c := 8) hRg41.1 14 rfl
            have y165 : 0 ≤ (g41 113 15).toInt ∧ (g41 113 15).toInt ≤ 160 := Inv.rd (r := 113) (c := 8) hRg41.1 15 rfl
            have y166 : 0 ≤ (g41 113 16).toInt ∧ (g41 113 16).toInt ≤ 160 := Inv.rd (r := 113) (c := 8) hRg41.1 16 rfl
            have y167 : 0 ≤ (g41 113 19).toInt ∧ (g41 113 19).toInt ≤ 6 := Inv.rd (r := 113) (c := 8) hRg41.1 19 rfl
            have y168 := hRg41.1.d8
            exact S1.ret (show Inv g41 ∧ ((g 113 15).toInt ≤ (g41 113 15).toInt ∧ ((g41 113 19).toInt = 0 ∧ (g41 113 17).toInt ≠ 0 → (g 113 15).toInt < (g41 113 15).toInt)) from ⟨hRg41.1, (by omega)⟩)
          · skip
            have chc39 := zc_neF hc39
            refine S1.lc (s_113 (1 : Int32) (2 : Int32) g36 hRg36.1 (by omega)) ?_
            intro g42 hvg42 hRg42
            have hRg42 : Inv g42 ∧ ((g42 113 6).toInt = (g36 113 6).toInt ∧ (g42 113 14).toInt = (g36 113 14).toInt ∧ (g42 116 8).toInt = (g36 116 8).toInt ∧ (g42 113 15).toInt = (g36 113 15).toInt ∧ (g42 113 16).toInt = (g36 113 16).toInt ∧ (g42 113 17).toInt = (g36 113 17).toInt ∧ (g42 113 18).toInt = (g36 113 18).toInt ∧ ((g36 113 19).toInt ≠ 0 → (g42 113 19).toInt ≠ 0) ∧ ((1 : Int32).toInt = 0 → (g42 113 19).toInt ≠ 0) ∧ ((1 : Int32).toInt ≠ 0 → (g42 113 19).toInt = (g36 113 19).toInt)) := hRg42
            have y169 : 0 ≤ (g42 113 6).toInt ∧ (g42 113 6).toInt ≤ 4 := Inv.rd (r := 113) (c := 8) hRg42.1 6 rfl
            have y170 : 0 ≤ (g42 113 14).toInt ∧ (g42 113 14).toInt ≤ 160 := Inv.rd (r := 113) (c := 8) hRg42.1 14 rfl
            have y171 : 0 ≤ (g42 113 15).toInt ∧ (g42 113 15).toInt ≤ 160 := Inv.rd (r := 113) (c := 8) hRg42.1 15 rfl
            have y172 : 0 ≤ (g42 113 16).toInt ∧ (g42 113 16).toInt ≤ 160 := Inv.rd (r := 113) (c := 8) hRg42.1 16 rfl
            have y173 : 0 ≤ (g42 113 19).toInt ∧ (g42 113 19).toInt ≤ 6 := Inv.rd (r := 113) (c := 8) hRg42.1 19 rfl
            have y174 := hRg42.1.d8
            refine S1.bd (s_119 g42 hRg42.1 trivial) ?_
            intro g43 hvg43 hRg43
            have hRg43 : Inv g43 ∧ ((g43 113 6).toInt = (g42 113 6).toInt ∧ (g43 113 14).toInt = (g42 113 14).toInt ∧ (g43 116 8).toInt = (g42 116 8).toInt ∧ ((g42 113 19).toInt ≠ 0 → (g43 113 19).toInt ≠ 0) ∧ (g42 113 15).toInt ≤ (g43 113 15).toInt ∧ ((g43 113 19).toInt = 0 ∧ (g43 113 17).toInt ≠ 0 → (g42 113 15).toInt < (g43 113 15).toInt)) := hRg43
            have y175 : 0 ≤ (g43 113 6).toInt ∧ (g43 113 6).toInt ≤ 4 := Inv.rd (r := 113) (c := 8) hRg43.1 6 rfl
            have y176 : 0 ≤ (g43 113 14).toInt ∧ (g43 113 14).toInt ≤ 160 := Inv.rd (r := 113) (c := 8) hRg43.1 14 rfl
            have y177 : 0 ≤ (g43 113 15).toInt ∧ (g43 113 15).toInt ≤ 160 := Inv.rd (r := 113) (c := 8) hRg43.1 15 rfl
            have y178 : 0 ≤ (g43 113 16).toInt ∧ (g43 113 16).toInt ≤ 160 := Inv.rd (r := 113) (c := 8) hRg43.1 16 rfl
            have y179 : 0 ≤ (g43 113 19).toInt ∧ (g43 113 19).toInt ≤ 6 := Inv.rd (r := 113) (c := 8) hRg43.1 19 rfl
            have y180 := hRg43.1.d8
            exact S1.ret (show Inv g43 ∧ ((g 113 15).toInt ≤ (g43 113 15).toInt ∧ ((g43 113 19).toInt = 0 ∧ (g43 113 17).toInt ≠ 0 → (g 113 15).toInt < (g43 113 15).toInt)) from ⟨hRg43.1, (by omega)⟩)
      · skip
        have chc35 := zc_leF hc35
        exact S1.ret (show Inv g34 ∧ ((g 113 15).toInt ≤ (g34 113 15).toInt ∧ ((g34 113 19).toInt = 0 ∧ (g34 113 17).toInt ≠ 0 → (g 113 15).toInt < (g34 113 15).toInt)) from ⟨hRg34.1, (by omega)⟩)
theorem s_128_48 (x1 : Int32) (g : G) (hI : Inv g) (hp : ((g 113 19).toInt = 0 → x1.toInt = 1 → (g 113 6).toInt ≤ 3)) : S1 (d_128_48 x1 g) (fun q : G => Inv q ∧ ((g 113 15).toInt ≤ (q 113 15).toInt ∧ ((q 113 19).toInt = 0 ∧ (q 113 17).toInt ≠ 0 → (g 113 15).toInt < (q 113 15).toInt))) := by
  unfold d_128_48
  have L0 := zl_0
  have L1 := zl_1
  have L2 := zl_2
  have L5 := zl_5
  have L8 := zl_8
  have yp222 : 0 ≤ (g 113 14).toInt ∧ (g 113 14).toInt ≤ 160 := Inv.rd (r := 113) (c := 8) hI 14 rfl
  have yp223 : 0 ≤ (g 113 15).toInt ∧ (g 113 15).toInt ≤ 160 := Inv.rd (r := 113) (c := 8) hI 15 rfl
  have yp224 : 0 ≤ (g 113 16).toInt ∧ (g 113 16).toInt ≤ 160 := Inv.rd (r := 113) (c := 8) hI 16 rfl
  have yp225 : 0 ≤ (g 113 19).toInt ∧ (g 113 19).toInt ≤ 6 := Inv.rd (r := 113) (c := 8) hI 19 rfl
  have yp226 : 0 ≤ (g 113 6).toInt ∧ (g 113 6).toInt ≤ 4 := Inv.rd (r := 113) (c := 8) hI 6 rfl
  have yp227 := hI.d8
  refine S1.ite (fun hc5 => ?_) (fun hc5 => ?_)
  · skip
    have chc5 := zc_neT hc5
    refine S1.lc (s_113 (1 : Int32) (5 : Int32) g hI (by omega)) ?_
    intro g6 hvg6 hRg6
    have hRg6 : Inv g6 ∧ ((g6 113 6).toInt = (g 113 6).toInt ∧ (g6 113 14).toInt = (g 113 14).toInt ∧ (g6 116 8).toInt = (g 116 8).toInt ∧ (g6 113 15).toInt = (g 113 15).toInt ∧ (g6 113 16).toInt = (g 113 16).toInt ∧ (g6 113 17).toInt = (g 113 17).toInt ∧ (g6 113 18).toInt = (g 113 18).toInt ∧ ((g 113 19).toInt ≠ 0 → (g6 113 19).toInt ≠ 0) ∧ ((1 : Int32).toInt = 0 → (g6 113 19).toInt ≠ 0) ∧ ((1 : Int32).toInt ≠ 0 → (g6 113 19).toInt = (g 113 19).toInt)) := hRg6
    have y187 : 0 ≤ (g 113 14).toInt ∧ (g 113 14).toInt ≤ 160 := Inv.rd (r := 113) (c := 8) hI 14 rfl
    have y188 : 0 ≤ (g 113 15).toInt ∧ (g 113 15).toInt ≤ 160 := Inv.rd (r := 113) (c := 8) hI 15 rfl
    have y189 : 0 ≤ (g 113 16).toInt ∧ (g 113 16).toInt ≤ 160 := Inv.rd (r := 113) (c := 8) hI 16 rfl
    have y190 : 0 ≤ (g 113 19).toInt ∧ (g 113 19).toInt ≤ 6 := Inv.rd (r := 113) (c := 8) hI 19 rfl
    have y191 : 0 ≤ (g 113 6).toInt ∧ (g 113 6).toInt ≤ 4 := Inv.rd (r := 113) (c := 8) hI 6 rfl
    have y192 := hI.d8
    have y193 : 0 ≤ (g6 113 6).toInt ∧ (g6 113 6).toInt ≤ 4 := Inv.rd (r := 113) (c := 8) hRg6.1 6 rfl
    have y194 : 0 ≤ (g6 113 14).toInt ∧ (g6 113 14).toInt ≤ 160 := Inv.rd (r := 113) (c := 8) hRg6.1 14 rfl
    have y195 : 0 ≤ (g6 113 15).toInt ∧ (g6 113 15).toInt ≤ 160 := Inv.rd (r := 113) (c := 8) hRg6.1 15 rfl
    have y196 : 0 ≤ (g6 113 16).toInt ∧ (g6 113 16).toInt ≤ 160 := Inv.rd (r := 113) (c := 8) hRg6.1 16 rfl
    have y197 : 0 ≤ (g6 113 19).toInt ∧ (g6 113 19).toInt ≤ 6 := Inv.rd (r := 113) (c := 8) hRg6.1 19 rfl
    have y198 := hRg6.1.d8
    refine S1.ite (fun hc7 => ?_) (fun hc7 => ?_)
    · skip
      have chc7 := zc_neT hc7
      refine S1.mono (s_128_91 x1 (1 : Int32) g6 hRg6.1 (by omega)) ?_
      rintro v0 hq
      have hq : Inv v0 ∧ ((g6 113 15).toInt ≤ (v0 113 15).toInt ∧ ((v0 113 19).toInt = 0 ∧ (v0 113 17).toInt ≠ 0 → (g6 113 15).toInt < (v0 113 15).toInt)) := hq
      exact ⟨hq.1, (by omega)⟩
    · skip
      have chc7 := zc_neF hc7
      refine S1.ite (fun hc44 => ?_) (fun hc44 => ?_)
      · skip
        have chc44 := zc_neT hc44
        refine S1.mono (s_128_91 x1 (0 : Int32) g6 hRg6.1 (by omega)) ?_
        rintro v0 hq
        have hq : Inv v0 ∧ ((g6 113 15).toInt ≤ (v0 113 15).toInt ∧ ((v0 113 19).toInt = 0 ∧ (v0 113 17).toInt ≠ 0 → (g6 113 15).toInt < (v0 113 15).toInt)) := hq
        exact ⟨hq.1, (by omega)⟩
      · skip
        have chc44 := zc_neF hc44
        refine S1.mono (s_128_91 x1 (1 : Int32) g6 hRg6.1 (by omega)) ?_
        rintro v0 hq
        have hq : Inv v0 ∧ ((g6 113 15).toInt ≤ (v0 113 15).toInt ∧ ((v0 113 19).toInt = 0 ∧ (v0 113 17).toInt ≠ 0 → (g6 113 15).toInt < (v0 113 15).toInt)) := hq
        exact ⟨hq.1, (by omega)⟩
  · skip
    have chc5 := zc_neF hc5
    have y199 := hI.d8
    refine S1.ite (fun hc45 => ?_) (fun hc45 => ?_)
    · skip
      have chc45 := zc_geT hc45
      refine S1.lc (s_113 (0 : Int32) (5 : Int32) g hI (by omega)) ?_
      intro g46 hvg46 hRg46
      have hRg46 : Inv g46 ∧ ((g46 113 6).toInt = (g 113 6).toInt ∧ (g46 113 14).toInt = (g 113 14).toInt ∧ (g46 116 8).toInt = (g 116 8).toInt ∧ (g46 113 15).toInt = (g 113 15).toInt ∧ (g46 113 16).toInt = (g 113 16).toInt ∧ (g46 113 17).toInt = (g 113 17).toInt ∧ (g46 113 18).toInt = (g 113 18).toInt ∧ ((g 113 19).toInt ≠ 0 → (g46 113 19).toInt ≠ 0) ∧ ((0 : Int32).toInt = 0 → (g46 113 19).toInt ≠ 0) ∧ ((0 : Int32).toInt ≠ 0 → (g46 113 19).toInt = (g 113 19).toInt)) := hRg46
      have y200 : 0 ≤ (g 113 14).toInt ∧ (g 113 14).toInt ≤ 160 := Inv.rd (r := 113) (c := 8) hI 14 rfl
      have y201 : 0 ≤ (g 113 15).toInt ∧ (g 113 15).toInt ≤ 160 := Inv.rd (r := 113) (c := 8) hI 15 rfl
      have y202 : 0 ≤ (g 113 16).toInt ∧ (g 113 16).toInt ≤ 160 := Inv.rd (r := 113) (c := 8) hI 16 rfl
      have y203 : 0 ≤ (g 113 19).toInt ∧ (g 113 19).toInt ≤ 6 := Inv.rd (r := 113) (c := 8) hI 19 rfl
      have y204 : 0 ≤ (g 113 6).toInt ∧ (g 113 6).toInt ≤ 4 := Inv.rd (r := 113) (c := 8) hI 6 rfl
      have y205 : 0 ≤ (g46 113 6).toInt ∧ (g46 113 6).toInt ≤ 4 := Inv.rd (r := 113) (c := 8) hRg46.1 6 rfl
      have y206 : 0 ≤ (g46 113 14).toInt ∧ (g46 113 14).toInt ≤ 160 := Inv.rd (r := 113) (c := 8) hRg46.1 14 rfl
      have y207 : 0 ≤ (g46 113 15).toInt ∧ (g46 113 15).toInt ≤ 160 := Inv.rd (r := 113) (c := 8) hRg46.1 15 rfl
      have y208 : 0 ≤ (g46 113 16).toInt ∧ (g46 113 16).toInt ≤ 160 := Inv.rd (r := 113) (c := 8) hRg46.1 16 rfl
      have y209 : 0 ≤ (g46 113 19).toInt ∧ (g46 113 19).toInt ≤ 6 := Inv.rd (r := 113) (c := 8) hRg46.1 19 rfl
      have y210 := hRg46.1.d8
      refine S1.ite (fun hc47 => ?_) (fun hc47 => ?_)
      · skip
        have chc47 := zc_neT hc47
        refine S1.mono (s_128_91 x1 (1 : Int32) g46 hRg46.1 (by omega)) ?_
        rintro v0 hq
        have hq : Inv v0 ∧ ((g46 113 15).toInt ≤ (v0 113 15).toInt ∧ ((v0 113 19).toInt = 0 ∧ (v0 113 17).toInt ≠ 0 → (g46 113 15).toInt < (v0 113 15).toInt)) := hq
        exact ⟨hq.1, (by omega)⟩
      · skip
        have chc47 := zc_neF hc47
        refine S1.ite (fun hc48 => ?_) (fun hc48 => ?_)
        · skip
          have chc48 := zc_neT hc48
          refine S1.mono (s_128_91 x1 (0 : Int32) g46 hRg46.1 (by omega)) ?_
          rintro v0 hq
          have hq : Inv v0 ∧ ((g46 113 15).toInt ≤ (v0 113 15).toInt ∧ ((v0 113 19).toInt = 0 ∧ (v0 113 17).toInt ≠ 0 → (g46 113 15).toInt < (v0 113 15).toInt)) := hq
          exact ⟨hq.1, (by omega)⟩
        · skip
          have chc48 := zc_neF hc48
          refine S1.mono (s_128_91 x1 (1 : Int32) g46 hRg46.1 (by omega)) ?_
          rintro v0 hq
          have hq : Inv v0 ∧ ((g46 113 15).toInt ≤ (v0 113 15).toInt ∧ ((v0 113 19).toInt = 0 ∧ (v0 113 17).toInt ≠ 0 → (g46 113 15).toInt < (v0 113 15).toInt)) := hq
          exact ⟨hq.1, (by omega)⟩
    · skip
      have chc45 := zc_geF hc45
      refine S1.lc (s_113 (1 : Int32) (5 : Int32) g hI (by omega)) ?_
      intro g49 hvg49 hRg49
      have hRg49 : Inv g49 ∧ ((g49 113 6).toInt = (g 113 6).toInt ∧ (g49 113 14).toInt = (g 113 14).toInt ∧ (g49 116 8).toInt = (g 116 8).toInt ∧ (g49 113 15).toInt = (g 113 15).toInt ∧ (g49 113 16).toInt = (g 113 16).toInt ∧ (g49 113 17).toInt = (g 113 17).toInt ∧ (g49 113 18).toInt = (g 113 18).toInt ∧ ((g 113 19).toInt ≠ 0 → (g49 113 19).toInt ≠ 0) ∧ ((1 : Int32).toInt = 0 → (g49 113 19).toInt ≠ 0) ∧ ((1 : Int32).toInt ≠ 0 → (g49 113 19).toInt = (g 113 19).toInt)) := hRg49
      have y211 : 0 ≤ (g 113 14).toInt ∧ (g 113 14).toInt ≤ 160 := Inv.rd (r := 113) (c := 8) hI 14 rfl
      have y212 : 0 ≤ (g 113 15).toInt ∧ (g 113 15).toInt ≤ 160 := Inv.rd (r := 113) (c := 8) hI 15 rfl
      have y213 : 0 ≤ (g 113 16).toInt ∧ (g 113 16).toInt ≤ 160 := Inv.rd (r := 113) (c := 8) hI 16 rfl
      have y214 : 0 ≤ (g 113 19).toInt ∧ (g 113 19).toInt ≤ 6 := Inv.rd (r := 113) (c := 8) hI 19 rfl
      have y215 : 0 ≤ (g 113 6).toInt ∧ (g 113 6).toInt ≤ 4 := Inv.rd (r := 113) (c := 8) hI 6 rfl
      have y216 : 0 ≤ (g49 113 6).toInt ∧ (g49 113 6).toInt ≤ 4 := Inv.rd (r := 113) (c := 8) hRg49.1 6 rfl
      have y217 : 0 ≤ (g49 113 14).toInt ∧ (g49 113 14).toInt ≤ 160 := Inv.rd (r := 113) (c := 8) hRg49.1 14 rfl
      have y218 : 0 ≤ (g49 113 15).toInt ∧ (g49 113 15).toInt ≤ 160 := Inv.rd (r := 113) (c := 8) hRg49.1 15 rfl
      have y219 : 0 ≤ (g49 113 16).toInt ∧ (g49 113 16).toInt ≤ 160 := Inv.rd (r := 113) (c := 8) hRg49.1 16 rfl
      have y220 : 0 ≤ (g49 113 19).toInt ∧ (g49 113 19).toInt ≤ 6 := Inv.rd (r := 113) (c := 8) hRg49.1 19 rfl
      have y221 := hRg49.1.d8
      refine S1.ite (fun hc50 => ?_) (fun hc50 => ?_)
      · skip
        have chc50 := zc_neT hc50
        refine S1.mono (s_128_91 x1 (1 : Int32) g49 hRg49.1 (by omega)) ?_
        rintro v0 hq
        have hq : Inv v0 ∧ ((g49 113 15).toInt ≤ (v0 113 15).toInt ∧ ((v0 113 19).toInt = 0 ∧ (v0 113 17).toInt ≠ 0 → (g49 113 15).toInt < (v0 113 15).toInt)) := hq
        exact ⟨hq.1, (by omega)⟩
      · skip
        have chc50 := zc_neF hc50
        refine S1.ite (fun hc51 => ?_) (fun hc51 => ?_)
        · skip
          have chc51 := zc_neT hc51
          refine S1.mono (s_128_91 x1 (0 : Int32) g49 hRg49.1 (by omega)) ?_
          rintro v0 hq
          have hq : Inv v0 ∧ ((g49 113 15).toInt ≤ (v0 113 15).toInt ∧ ((v0 113 19).toInt = 0 ∧ (v0 113 17).toInt ≠ 0 → (g49 113 15).toInt < (v0 113 15).toInt)) := hq
          exact ⟨hq.1, (by omega)⟩
        · skip
          have chc51 := zc_neF hc51
          refine S1.mono (s_128_91 x1 (1 : Int32) g49 hRg49.1 (by omega)) ?_
          rintro v0 hq
          have hq : Inv v0 ∧ ((g49 113 15).toInt ≤ (v0 113 15).toInt ∧ ((v0 113 19).toInt = 0 ∧ (v0 113 17).toInt ≠ 0 → (g49 113 15).toInt < (v0 113 15).toInt)) := hq
          exact ⟨hq.1, (by omega)⟩
theorem s_128_17 (s0 : Int32) (g : G) (hI : Inv g) (hp : True) : S1 (d_128_17 s0 g) (fun q : G => Inv q ∧ ((g 113 15).toInt ≤ (q 113 15).toInt ∧ ((q 113 19).toInt = 0 ∧ (q 113 17).toInt ≠ 0 → (g 113 15).toInt < (q 113 15).toInt))) := by
  unfold d_128_17
  have Lm4 := zl_m4
  have L0 := zl_0
  have L1 := zl_1
  have L2 := zl_2
  have L4 := zl_4
  have L5 := zl_5
  have yp264 : 0 ≤ (g 113 14).toInt ∧ (g 113 14).toInt ≤ 160 := Inv.rd (r := 113) (c := 8) hI 14 rfl
  have yp265 : 0 ≤ (g 113 15).toInt ∧ (g 113 15).toInt ≤ 160 := Inv.rd (r := 113) (c := 8) hI 15 rfl
  have yp266 : 0 ≤ (g 113 16).toInt ∧ (g 113 16).toInt ≤ 160 := Inv.rd (r := 113) (c := 8) hI 16 rfl
  have yp267 : 0 ≤ (g 113 19).toInt ∧ (g 113 19).toInt ≤ 6 := Inv.rd (r := 113) (c := 8) hI 19 rfl
  have yp268 : 0 ≤ (g 113 6).toInt ∧ (g 113 6).toInt ≤ 4 := Inv.rd (r := 113) (c := 8) hI 6 rfl
  have yp269 := hI.d8
  refine S1.ite (fun hc2 => ?_) (fun hc2 => ?_)
  · skip
    have chc2 := zc_eqT hc2
    refine S1.lc (s_113 (0 : Int32) (2 : Int32) g hI (by omega)) ?_
    intro g3 hvg3 hRg3
    have hRg3 : Inv g3 ∧ ((g3 113 6).toInt = (g 113 6).toInt ∧ (g3 113 14).toInt = (g 113 14).toInt ∧ (g3 116 8).toInt = (g 116 8).toInt ∧ (g3 113 15).toInt = (g 113 15).toInt ∧ (g3 113 16).toInt = (g 113 16).toInt ∧ (g3 113 17).toInt = (g 113 17).toInt ∧ (g3 113 18).toInt = (g 113 18).toInt ∧ ((g 113 19).toInt ≠ 0 → (g3 113 19).toInt ≠ 0) ∧ ((0 : Int32).toInt = 0 → (g3 113 19).toInt ≠ 0) ∧ ((0 : Int32).toInt ≠ 0 → (g3 113 19).toInt = (g 113 19).toInt)) := hRg3
    have y228 : 0 ≤ (g 113 14).toInt ∧ (g 113 14).toInt ≤ 160 := Inv.rd (r := 113) (c := 8) hI 14 rfl
    have y229 : 0 ≤ (g 113 15).toInt ∧ (g 113 15).toInt ≤ 160 := Inv.rd (r := 113) (c := 8) hI 15 rfl
    have y230 : 0 ≤ (g 113 16).toInt ∧ (g 113 16).toInt ≤ 160 := Inv.rd (r := 113) (c := 8) hI 16 rfl
    have y231 : 0 ≤ (g 113 19).toInt ∧ (g 113 19).toInt ≤ 6 := Inv.rd (r := 113) (c := 8) hI 19 rfl
    have y232 : 0 ≤ (g 113 6).toInt ∧ (g 113 6).toInt ≤ 4 := Inv.rd (r := 113) (c := 8) hI 6 rfl
    have y233 := hI.d8
    have y234 : 0 ≤ (g3 113 6).toInt ∧ (g3 113 6).toInt ≤ 4 := Inv.rd (r := 113) (c := 8) hRg3.1 6 rfl
    have y235 : 0 ≤ (g3 113 14).toInt ∧ (g3 113 14).toInt ≤ 160 := Inv.rd (r := 113) (c := 8) hRg3.1 14 rfl
    have y236 : 0 ≤ (g3 113 15).toInt ∧ (g3 113 15).toInt ≤ 160 := Inv.rd (r := 113) (c := 8) hRg3.1 15 rfl
    have y237 : 0 ≤ (g3 113 16).toInt ∧ (g3 113 16).toInt ≤ 160 := Inv.rd (r := 113) (c := 8) hRg3.1 16 rfl
    have y238 : 0 ≤ (g3 113 19).toInt ∧ (g3 113 19).toInt ≤ 6 := Inv.rd (r := 113) (c := 8) hRg3.1 19 rfl
    have y239 := hRg3.1.d8
    refine S1.ite (fun hc4 => ?_) (fun hc4 => ?_)
    · skip
      have chc4 := zc_neT hc4
      refine S1.mono (s_128_48 s0 g3 hRg3.1 (by omega)) ?_
      rintro v0 hq
      have hq : Inv v0 ∧ ((g3 113 15).toInt ≤ (v0 113 15).toInt ∧ ((v0 113 19).toInt = 0 ∧ (v0 113 17).toInt ≠ 0 → (g3 113 15).toInt < (v0 113 15).toInt)) := hq
      exact ⟨hq.1, (by omega)⟩
    · skip
      have chc4 := zc_neF hc4
      refine S1.ite (fun hc52 => ?_) (fun hc52 => ?_)
      · skip
        have chc52 := zc_geT hc52
        refine S1.lc (s_113 (0 : Int32) (5 : Int32) g3 hRg3.1 (by omega)) ?_
        intro g53 hvg53 hRg53
        have hRg53 : Inv g53 ∧ ((g53 113 6).toInt = (g3 113 6).toInt ∧ (g53 113 14).toInt = (g3 113 14).toInt ∧ (g53 116 8).toInt = (g3 116 8).toInt ∧ (g53 113 15).toInt = (g3 113 15).toInt ∧ (g53 113 16).toInt = (g3 113 16).toInt ∧ (g53 113 17).toInt = (g3 113 17).toInt ∧ (g53 113 18).toInt = (g3 113 18).toInt ∧ ((g3 113 19).toInt ≠ 0 → (g53 113 19).toInt ≠ 0) ∧ ((0 : Int32).toInt = 0 → (g53 113 19).toInt ≠ 0) ∧ ((0 : Int32).toInt ≠ 0 → (g53 113 19).toInt = (g3 113 19).toInt)) := hRg53
        have y240 : 0 ≤ (g53 113 6).toInt ∧ (g53 113 6).toInt ≤ 4 := Inv.rd (r := 113) (c := 8) hRg53.1 6 rfl
        have y241 : 0 ≤ (g53 113 14).toInt ∧ (g53 113 14).toInt ≤ 160 := Inv.rd (r := 113) (c := 8) hRg53.1 14 rfl
        have y242 : 0 ≤ (g53 113 15).toInt ∧ (g53 113 15).toInt ≤ 160 := Inv.rd (r := 113) (c := 8) hRg53.1 15 rfl
        have y243 : 0 ≤ (g53 113 16).toInt ∧ (g53 113 16).toInt ≤ 160 := Inv.rd (r := 113) (c := 8) hRg53.1 16 rfl
        have y244 : 0 ≤ (g53 113 19).toInt ∧ (g53 113 19).toInt ≤ 6 := Inv.rd (r := 113) (c := 8) hRg53.1 19 rfl
        have y245 := hRg53.1.d8
        refine S1.ite (fun hc54 => ?_) (fun hc54 => ?_)
        · skip
          have chc54 := zc_neT hc54
          refine S1.mono (s_128_91 s0 (1 : Int32) g53 hRg53.1 (by omega)) ?_
          rintro v0 hq
          have hq : Inv v0 ∧ ((g53 113 15).toInt ≤ (v0 113 15).toInt ∧ ((v0 113 19).toInt = 0 ∧ (v0 113 17).toInt ≠ 0 → (g53 113 15).toInt < (v0 113 15).toInt)) := hq
          exact ⟨hq.1, (by omega)⟩
        · skip
          have chc54 := zc_neF hc54
          refine S1.ite (fun hc55 => ?_) (fun hc55 => ?_)
          · skip
            have chc55 := zc_neT hc55
            refine S1.mono (s_128_91 s0 (0 : Int32) g53 hRg53.1 (by omega)) ?_
            rintro v0 hq
            have hq : Inv v0 ∧ ((g53 113 15).toInt ≤ (v0 113 15).toInt ∧ ((v0 113 19).toInt = 0 ∧ (v0 113 17).toInt ≠ 0 → (g53 113 15).toInt < (v0 113 15).toInt)) := hq
            exact ⟨hq.1, (by omega)⟩
          · skip
            have chc55 := zc_neF hc55
            refine S1.mono (s_128_91 s0 (1 : Int32) g53 hRg53.1 (by omega)) ?_
            rintro v0 hq
            have hq : Inv v0 ∧ ((g53 113 15).toInt ≤ (v0 113 15).toInt ∧ ((v0 113 19).toInt = 0 ∧ (v0 113 17).toInt ≠ 0 → (g53 113 15).toInt < (v0 113 15).toInt)) := hq
            exact ⟨hq.1, (by omega)⟩
      · skip
        have chc52 := zc_geF hc52
        refine S1.mono (s_128_48 s0 g3 hRg3.1 (by omega)) ?_
        rintro v0 hq
        have hq : Inv v0 ∧ ((g3 113 15).toInt ≤ (v0 113 15).toInt ∧ ((v0 113 19).toInt = 0 ∧ (v0 113 17).toInt ≠ 0 → (g3 113 15).toInt < (v0 113 15).toInt)) := hq
        exact ⟨hq.1, (by omega)⟩
  · skip
    have chc2 := zc_eqF hc2
    refine S1.lc (s_113 (1 : Int32) (2 : Int32) g hI (by omega)) ?_
    intro g56 hvg56 hRg56
    have hRg56 : Inv g56 ∧ ((g56 113 6).toInt = (g 113 6).toInt ∧ (g56 113 14).toInt = (g 113 14).toInt ∧ (g56 116 8).toInt = (g 116 8).toInt ∧ (g56 113 15).toInt = (g 113 15).toInt ∧ (g56 113 16).toInt = (g 113 16).toInt ∧ (g56 113 17).toInt = (g 113 17).toInt ∧ (g56 113 18).toInt = (g 113 18).toInt ∧ ((g 113 19).toInt ≠ 0 → (g56 113 19).toInt ≠ 0) ∧ ((1 : Int32).toInt = 0 → (g56 113 19).toInt ≠ 0) ∧ ((1 : Int32).toInt ≠ 0 → (g56 113 19).toInt = (g 113 19).toInt)) := hRg56
    have y246 : 0 ≤ (g 113 14).toInt ∧ (g 113 14).toInt ≤ 160 := Inv.rd (r := 113) (c := 8) hI 14 rfl
    have y247 : 0 ≤ (g 113 15).toInt ∧ (g 113 15).toInt ≤ 160 := Inv.rd (r := 113) (c := 8) hI 15 rfl
    have y248 : 0 ≤ (g 113 16).toInt ∧ (g 113 16).toInt ≤ 160 := Inv.rd (r := 113) (c := 8) hI 16 rfl
    have y249 : 0 ≤ (g 113 19).toInt ∧ (g 113 19).toInt ≤ 6 := Inv.rd (r := 113) (c := 8) hI 19 rfl
    have y250 : 0 ≤ (g 113 6).toInt ∧ (g 113 6).toInt ≤ 4 := Inv.rd (r := 113) (c := 8) hI 6 rfl
    have y251 := hI.d8
    have y252 : 0 ≤ (g56 113 6).toInt ∧ (g56 113 6).toInt ≤ 4 := Inv.rd (r := 113) (c := 8) hRg56.1 6 rfl
    have y253 : 0 ≤ (g56 113 14).toInt ∧ (g56 113 14).toInt ≤ 160 := Inv.rd (r := 113) (c := 8) hRg56.1 14 rfl
    have y254 : 0 ≤ (g56 113 15).toInt ∧ (g56 113 15).toInt ≤ 160 := Inv.rd (r := 113) (c := 8) hRg56.1 15 rfl
    have y255 : 0 ≤ (g56 113 16).toInt ∧ (g56 113 16).toInt ≤ 160 := Inv.rd (r := 113) (c := 8) hRg56.1 16 rfl
    have y256 : 0 ≤ (g56 113 19).toInt ∧ (g56 113 19).toInt ≤ 6 := Inv.rd (r := 113) (c := 8) hRg56.1 19 rfl
    have y257 := hRg56.1.d8
    refine S1.ite (fun hc57 => ?_) (fun hc57 => ?_)
    · skip
      have chc57 := zc_neT hc57
      refine S1.mono (s_128_48 s0 g56 hRg56.1 (by omega)) ?_
      rintro v0 hq
      have hq : Inv v0 ∧ ((g56 113 15).toInt ≤ (v0 113 15).toInt ∧ ((v0 113 19).toInt = 0 ∧ (v0 113 17).toInt ≠ 0 → (g56 113 15).toInt < (v0 113 15).toInt)) := hq
      exact ⟨hq.1, (by omega)⟩
    · skip
      have chc57 := zc_neF hc57
      refine S1.ite (fun hc58 => ?_) (fun hc58 => ?_)
      · skip
        have chc58 := zc_geT hc58
        refine S1.lc (s_113 (0 : Int32) (5 : Int32) g56 hRg56.1 (by omega)) ?_
        intro g59 hvg59 hRg59
        have hRg59 : Inv g59 ∧ ((g59 113 6).toInt = (g56 113 6).toInt ∧ (g59 113 14).toInt = (g56 113 14).toInt ∧ (g59 116 8).toInt = (g56 116 8).toInt ∧ (g59 113 15).toInt = (g56 113 15).toInt ∧ (g59 113 16).toInt = (g56 113 16).toInt ∧ (g59 113 17).toInt = (g56 113 17).toInt ∧ (g59 113 18).toInt = (g56 113 18).toInt ∧ ((g56 113 19).toInt ≠ 0 → (g59 113 19).toInt ≠ 0) ∧ ((0 : Int32).toInt = 0 → (g59 113 19).toInt ≠ 0) ∧ ((0 : Int32).toInt ≠ 0 → (g59 113 19).toInt = (g56 113 19).toInt)) := hRg59
        have y258 : 0 ≤ (g59 113 6).toInt ∧ (g59 113 6).toInt ≤ 4 := Inv.rd (r := 113) (c := 8) hRg59.1 6 rfl
        have y259 : 0 ≤ (g59 113 14).toInt ∧ (g59 113 14).toInt ≤ 160 := Inv.rd (r := 113) (c := 8) hRg59.1 14 rfl
        have y260 : 0 ≤ (g59 113 15).toInt ∧ (g59 113 15).toInt ≤ 160 := Inv.rd (r := 113) (c := 8) hRg59.1 15 rfl
        have y261 : 0 ≤ (g59 113 16).toInt ∧ (g59 113 16).toInt ≤ 160 := Inv.rd (r := 113) (c := 8) hRg59.1 16 rfl
        have y262 : 0 ≤ (g59 113 19).toInt ∧ (g59 113 19).toInt ≤ 6 := Inv.rd (r := 113) (c := 8) hRg59.1 19 rfl
        have y263 := hRg59.1.d8
        refine S1.ite (fun hc60 => ?_) (fun hc60 => ?_)
        · skip
          have chc60 := zc_neT hc60
          refine S1.mono (s_128_91 s0 (1 : Int32) g59 hRg59.1 (by omega)) ?_
          rintro v0 hq
          have hq : Inv v0 ∧ ((g59 113 15).toInt ≤ (v0 113 15).toInt ∧ ((v0 113 19).toInt = 0 ∧ (v0 113 17).toInt ≠ 0 → (g59 113 15).toInt < (v0 113 15).toInt)) := hq
          exact ⟨hq.1, (by omega)⟩
        · skip
          have chc60 := zc_neF hc60
          refine S1.ite (fun hc61 => ?_) (fun hc61 => ?_)
          · skip
            have chc61 := zc_neT hc61
            refine S1.mono (s_128_91 s0 (0 : Int32) g59 hRg59.1 (by omega)) ?_
            rintro v0 hq
            have hq : Inv v0 ∧ ((g59 113 15).toInt ≤ (v0 113 15).toInt ∧ ((v0 113 19).toInt = 0 ∧ (v0 113 17).toInt ≠ 0 → (g59 113 15).toInt < (v0 113 15).toInt)) := hq
            exact ⟨hq.1, (by omega)⟩
          · skip
            have chc61 := zc_neF hc61
            refine S1.mono (s_128_91 s0 (1 : Int32) g59 hRg59.1 (by omega)) ?_
            rintro v0 hq
            have hq : Inv v0 ∧ ((g59 113 15).toInt ≤ (v0 113 15).toInt ∧ ((v0 113 19).toInt = 0 ∧ (v0 113 17).toInt ≠ 0 → (g59 113 15).toInt < (v0 113 15).toInt)) := hq
            exact ⟨hq.1, (by omega)⟩
      · skip
        have chc58 := zc_geF hc58
        refine S1.mono (s_128_48 s0 g56 hRg56.1 (by omega)) ?_
        rintro v0 hq
        have hq : Inv v0 ∧ ((g56 113 15).toInt ≤ (v0 113 15).toInt ∧ ((v0 113 19).toInt = 0 ∧ (v0 113 17).toInt ≠ 0 → (g56 113 15).toInt < (v0 113 15).toInt)) := hq
        exact ⟨hq.1, (by omega)⟩
/-- EveningFirstModel.readLine -/
theorem s_128 (g : G) (hI : Inv g) (hp : True) : S1 (d_128 g) (fun q : G => Inv q ∧ ((g 113 15).toInt ≤ (q 113 15).toInt ∧ ((q 113 19).toInt = 0 ∧ (q 113 17).toInt ≠ 0 → (g 113 15).toInt < (q 113 15).toInt))) := by
  unfold d_128
  have Lm4 := zl_m4
  have L1 := zl_1
  have yp270 : 0 ≤ (g 113 15).toInt ∧ (g 113 15).toInt ≤ 160 := Inv.rd (r := 113) (c := 8) hI 15 rfl
  have yp271 : 0 ≤ (g 113 19).toInt ∧ (g 113 19).toInt ≤ 6 := Inv.rd (r := 113) (c := 8) hI 19 rfl
  refine S1.ite (fun hc1 => ?_) (fun hc1 => ?_)
  · skip
    have chc1 := zc_neT hc1
    exact (s_128_17 (-4 : Int32) g hI trivial)
  · skip
    have chc1 := zc_neF hc1
    refine S1.bd (s_117 g hI trivial) ?_
    intro v62 hvv62 hRv62
    have hRv62 : True ∧ True := hRv62
    exact (s_128_17 v62 g hI trivial)
