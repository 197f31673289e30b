/-! printed by wip/tools/safe.py -/
/-- EveningFirstModel.readHis -/
theorem s_124 (g : G) (hI : Inv g) (hp : True) : S1 (d_124 g) (fun q : Int32 × G => Inv q.2 ∧ ((q.2 113 6).toInt = (g 113 6).toInt ∧ (q.2 113 14).toInt = (g 113 14).toInt ∧ (q.2 116 8).toInt = (g 116 8).toInt ∧ ((g 113 19).toInt ≠ 0 → (q.2 113 19).toInt ≠ 0) ∧ (g 113 15).toInt ≤ (q.2 113 15).toInt ∧ 0 ≤ q.1.toInt ∧ q.1.toInt ≤ 3)) := by
  unfold d_124
  have L0 := zl_0
  have L3 := zl_3
  have yp32 : 0 ≤ (g 113 14).toInt ∧ (g 113 14).toInt ≤ 160 := Inv.rd (r := 113) (c := 8) hI 14 rfl
  have yp33 : 0 ≤ (g 113 15).toInt ∧ (g 113 15).toInt ≤ 160 := Inv.rd (r := 113) (c := 8) hI 15 rfl
  have yp34 : 0 ≤ (g 113 19).toInt ∧ (g 113 19).toInt ≤ 6 := Inv.rd (r := 113) (c := 8) hI 19 rfl
  have yp35 : 0 ≤ (g 113 6).toInt ∧ (g 113 6).toInt ≤ 4 := Inv.rd (r := 113) (c := 8) hI 6 rfl
  have yp36 := hI.d8
  refine S1.bp (s_121 (0 : Int32) (3 : Int32) g hI (by omega)) ?_
  intro v1 g2 hvv1 hRv1
  have hRv1 : Inv g2 ∧ ((g2 113 6).toInt = (g 113 6).toInt ∧ (g2 113 14).toInt = (g 113 14).toInt ∧ (g2 116 8).toInt = (g 116 8).toInt ∧ ((g 113 19).toInt ≠ 0 → (g2 113 19).toInt ≠ 0) ∧ (g 113 15).toInt ≤ (g2 113 15).toInt ∧ ((g2 113 19).toInt = 0 ∧ (g2 113 17).toInt ≠ 0 → (g 113 15).toInt < (g2 113 15).toInt) ∧ (v1.toInt = 0 ∨ (0 : Int32).toInt ≤ v1.toInt ∧ v1.toInt ≤ (3 : Int32).toInt)) := hRv1
  have y1 : 0 ≤ (g 113 14).toInt ∧ (g 113 14).toInt ≤ 160 := Inv.rd (r := 113) (c := 8) hI 14 rfl
  have y2 : 0 ≤ (g 113 15).toInt ∧ (g 113 15).toInt ≤ 160 := Inv.rd (r := 113) (c := 8) hI 15 rfl
  have y3 : 0 ≤ (g 113 19).toInt ∧ (g 113 19).toInt ≤ 6 := Inv.rd (r := 113) (c := 8) hI 19 rfl
  have y4 : 0 ≤ (g 113 6).toInt ∧ (g 113 6).toInt ≤ 4 := Inv.rd (r := 113) (c := 8) hI 6 rfl
  have y5 := hI.d8
  have y6 : 0 ≤ (g2 113 6).toInt ∧ (g2 113 6).toInt ≤ 4 := Inv.rd (r := 113) (c := 8) hRv1.1 6 rfl
  have y7 : 0 ≤ (g2 113 14).toInt ∧ (g2 113 14).toInt ≤ 160 := Inv.rd (r := 113) (c := 8) hRv1.1 14 rfl
  have y8 : 0 ≤ (g2 113 15).toInt ∧ (g2 113 15).toInt ≤ 160 := Inv.rd (r := 113) (c := 8) hRv1.1 15 rfl
  have y9 : 0 ≤ (g2 113 19).toInt ∧ (g2 113 19).toInt ≤ 6 := Inv.rd (r := 113) (c := 8) hRv1.1 19 rfl
  have y10 := hRv1.1.d8
  refine S1.ite (fun hc3 => ?_) (fun hc3 => ?_)
  · skip
    have chc3 := zc_neT hc3
    refine S1.lt ?_
    intro g4 hg4
    have Ig4 : Inv g4 := Inv.up hRv1.1 hg4 rfl trivial
    have u11 : (g4 113 6).toInt = (g2 113 6).toInt := by rw [← hg4]; rfl
    have u12 : (g4 113 11).toInt = (g2 113 11).toInt := by rw [← hg4]; rfl
    have u13 : (g4 113 14).toInt = (g2 113 14).toInt := by rw [← hg4]; rfl
    have u14 : (g4 113 15).toInt = (g2 113 15).toInt := by rw [← hg4]; rfl
    have u15 : (g4 113 17).toInt = (g2 113 17).toInt := by rw [← hg4]; rfl
    have u16 : (g4 113 19).toInt = (g2 113 19).toInt := by rw [← hg4]; rfl
    have u17 : (g4 116 8).toInt = (g2 116 8).toInt := by rw [← hg4]; rfl
    exact S1.ret (show Inv g4 ∧ ((g4 113 6).toInt = (g 113 6).toInt ∧ (g4 113 14).toInt = (g 113 14).toInt ∧ (g4 116 8).toInt = (g 116 8).toInt ∧ ((g 113 19).toInt ≠ 0 → (g4 113 19).toInt ≠ 0) ∧ (g 113 15).toInt ≤ (g4 113 15).toInt ∧ 0 ≤ v1.toInt ∧ v1.toInt ≤ 3) from ⟨Ig4, (by omega)⟩)
  · skip
    have chc3 := zc_neF hc3
    refine S1.ite (fun hc5 => ?_) (fun hc5 => ?_)
    · skip
      have chc5 := zc_leT hc5
      refine S1.lt ?_
      intro g6 hg6
      have Ig6 : Inv g6 := Inv.up hRv1.1 hg6 rfl trivial
      have u18 : (g6 113 6).toInt = (g2 113 6).toInt := by rw [← hg6]; rfl
      have u19 : (g6 113 11).toInt = (g2 113 11).toInt := by rw [← hg6]; rfl
      have u20 : (g6 113 14).toInt = (g2 113 14).toInt := by rw [← hg6]; rfl
      have u21 : (g6 113 15).toInt = (g2 113 15).toInt := by rw [← hg6]; rfl
      have u22 : (g6 113 17).toInt = (g2 113 17).toInt := by rw [← hg6]; rfl
      have u23 : (g6 113 19).toInt = (g2 113 19).toInt := by rw [← hg6]; rfl
      have u24 : (g6 116 8).toInt = (g2 116 8).toInt := by rw [← hg6]; rfl
      exact S1.ret (show Inv g6 ∧ ((g6 113 6).toInt = (g 113 6).toInt ∧ (g6 113 14).toInt = (g 113 14).toInt ∧ (g6 116 8).toInt = (g 116 8).toInt ∧ ((g 113 19).toInt ≠ 0 → (g6 113 19).toInt ≠ 0) ∧ (g 113 15).toInt ≤ (g6 113 15).toInt ∧ 0 ≤ v1.toInt ∧ v1.toInt ≤ 3) from ⟨Ig6, (by omega)⟩)
    · skip
      have chc5 := zc_leF hc5
      refine S1.lt ?_
      intro g7 hg7
      have Ig7 : Inv g7 := Inv.up hRv1.1 hg7 rfl trivial
      have u25 : (g7 113 6).toInt = (g2 113 6).toInt := by rw [← hg7]; rfl
      have u26 : (g7 113 11).toInt = v1.toInt := by rw [← hg7]; rfl
      have u27 : (g7 113 14).toInt = (g2 113 14).toInt := by rw [← hg7]; rfl
      have u28 : (g7 113 15).toInt = (g2 113 15).toInt := by rw [← hg7]; rfl
      have u29 : (g7 113 17).toInt = (g2 113 17).toInt := by rw [← hg7]; rfl
      have u30 : (g7 113 19).toInt = (g2 113 19).toInt := by rw [← hg7]; rfl
      have u31 : (g7 116 8).toInt = (g2 116 8).toInt := by rw [← hg7]; rfl
      exact S1.ret (show Inv g7 ∧ ((g7 113 6).toInt = (g 113 6).toInt ∧ (g7 113 14).toInt = (g 113 14).toInt ∧ (g7 116 8).toInt = (g 116 8).toInt ∧ ((g 113 19).toInt ≠ 0 → (g7 113 19).toInt ≠ 0) ∧ (g 113 15).toInt ≤ (g7 113 15).toInt ∧ 0 ≤ v1.toInt ∧ v1.toInt ≤ 3) from ⟨Ig7, (by omega)⟩)
theorem s_125_46 (x1 : Int32) (x2 : Int32) (s1 : Int32) (g : G) (hI : Inv g) (hp : x1.toInt = 9 + 7 * (g 116 8).toInt ∧ (g 116 8).toInt ≤ 7 ∧ 0 ≤ x2.toInt ∧ x2.toInt ≤ 7) : S1 (d_125_46 x1 x2 s1 g) (fun q : G => Inv q ∧ (((g 113 19).toInt ≠ 0 → (q 113 19).toInt ≠ 0) ∧ (g 113 15).toInt ≤ (q 113 15).toInt)) := by
  unfold d_125_46
  have L0 := zl_0
  have L1 := zl_1
  have L2 := zl_2
  have L3 := zl_3
  have L4 := zl_4
  have L5 := zl_5
  have yp90 : 0 ≤ (g 113 14).toInt ∧ (g 113 14).toInt ≤ 160 := Inv.rd (r := 113) (c := 8) hI 14 rfl
  have yp91 : 0 ≤ (g 113 15).toInt ∧ (g 113 15).toInt ≤ 160 := Inv.rd (r := 113) (c := 8) hI 15 rfl
  have yp92 : 0 ≤ (g 113 19).toInt ∧ (g 113 19).toInt ≤ 6 := Inv.rd (r := 113) (c := 8) hI 19 rfl
  have yp93 : 0 ≤ (g 113 6).toInt ∧ (g 113 6).toInt ≤ 4 := Inv.rd (r := 113) (c := 8) hI 6 rfl
  have yp94 := hI.d8
  refine S1.lt ?_
  intro g4 hg4
  have Ig4 : Inv g4 := Inv.up hI hg4 rfl trivial
  have u1 : (g4 113 6).toInt = (g 113 6).toInt := by rw [← hg4]; rfl
  have u2 : (g4 113 14).toInt = (g 113 14).toInt := by rw [← hg4]; rfl
  have u3 : (g4 113 15).toInt = (g 113 15).toInt := by rw [← hg4]; rfl
  have u4 : (g4 113 17).toInt = (g 113 17).toInt := by rw [← hg4]; rfl
  have u5 : (g4 113 19).toInt = (g 113 19).toInt := by rw [← hg4]; rfl
  have u6 : (g4 116 8).toInt = (g 116 8).toInt := by rw [← hg4]; rfl
  try have y7 := zi_add (x := x1) (y := (0 : Int32)) (by omega) (by omega)
  refine S1.ix (by omega) ?_
  intro k6 hk6 bk6
  refine S1.lt ?_
  intro g5 hg5
  have Ig5 : Inv g5 := Inv.up Ig4 hg5 rfl (bdP_dr (by omega) ((stP_d (d := (g 116 8).toInt) (o := 0) (by omega) (by omega) (by omega)).mpr ⟨fun w => by omega, fun w => by omega⟩))
  have u8 : (g5 113 6).toInt = (g4 113 6).toInt := by rw [← hg5]; rfl
  have u9 : (g5 113 14).toInt = (g4 113 14).toInt := by rw [← hg5]; rfl
  have u10 : (g5 113 15).toInt = (g4 113 15).toInt := by rw [← hg5]; rfl
  have u11 : (g5 113 17).toInt = (g4 113 17).toInt := by rw [← hg5]; rfl
  have u12 : (g5 113 19).toInt = (g4 113 19).toInt := by rw [← hg5]; rfl
  try have u13 : (g5 116 8).toInt = (g4 116 8).toInt := zg_upk hg5 (by omega)
  refine S1.bp (s_124 g5 Ig5 trivial) ?_
  intro v7 g8 hvv7 hRv7
  have hRv7 : Inv g8 ∧ ((g8 113 6).toInt = (g5 113 6).toInt ∧ (g8 113 14).toInt = (g5 113 14).toInt ∧ (g8 116 8).toInt = (g5 116 8).toInt ∧ ((g5 113 19).toInt ≠ 0 → (g8 113 19).toInt ≠ 0) ∧ (g5 113 15).toInt ≤ (g8 113 15).toInt ∧ 0 ≤ v7.toInt ∧ v7.toInt ≤ 3) := hRv7
  have y14 : 0 ≤ (g5 113 14).toInt ∧ (g5 113 14).toInt ≤ 160 := Inv.rd (r := 113) (c := 8) Ig5 14 rfl
  have y15 : 0 ≤ (g5 113 15).toInt ∧ (g5 113 15).toInt ≤ 160 := Inv.rd (r := 113) (c := 8) Ig5 15 rfl
  have y16 : 0 ≤ (g5 113 19).toInt ∧ (g5 113 19).toInt ≤ 6 := Inv.rd (r := 113) (c := 8) Ig5 19 rfl
  have y17 : 0 ≤ (g5 113 6).toInt ∧ (g5 113 6).toInt ≤ 4 := Inv.rd (r := 113) (c := 8) Ig5 6 rfl
  have y18 := Ig5.d8
  have y19 : 0 ≤ (g8 113 6).toInt ∧ (g8 113 6).toInt ≤ 4 := Inv.rd (r := 113) (c := 8) hRv7.1 6 rfl
  have y20 : 0 ≤ (g8 113 14).toInt ∧ (g8 113 14).toInt ≤ 160 := Inv.rd (r := 113) (c := 8) hRv7.1 14 rfl
  have y21 : 0 ≤ (g8 113 15).toInt ∧ (g8 113 15).toInt ≤ 160 := Inv.rd (r := 113) (c := 8) hRv7.1 15 rfl
  have y22 : 0 ≤ (g8 113 19).toInt ∧ (g8 113 19).toInt ≤ 6 := Inv.rd (r := 113) (c := 8) hRv7.1 19 rfl
  have y23 := hRv7.1.d8
  try have y24 := zi_add (x := x1) (y := (1 : Int32)) (by omega) (by omega)
  refine S1.ix (by omega) ?_
  intro k10 hk10 bk10
  refine S1.lt ?_
  intro g9 hg9
  have Ig9 : Inv g9 := Inv.up hRv7.1 hg9 rfl (bdP_dr (by omega) ((stP_d (d := (g 116 8).toInt) (o := 1) (by omega) (by omega) (by omega)).mpr ⟨fun w => by omega, fun w => by omega⟩))
  have u25 : (g9 113 6).toInt = (g8 113 6).toInt := by rw [← hg9]; rfl
  have u26 : (g9 113 14).toInt = (g8 113 14).toInt := by rw [← hg9]; rfl
  have u27 : (g9 113 15).toInt = (g8 113 15).toInt := by rw [← hg9]; rfl
  have u28 : (g9 113 17).toInt = (g8 113 17).toInt := by rw [← hg9]; rfl
  have u29 : (g9 113 19).toInt = (g8 113 19).toInt := by rw [← hg9]; rfl
  try have u30 : (g9 116 8).toInt = (g8 116 8).toInt := zg_upk hg9 (by omega)
  refine S1.bp (s_124 g9 Ig9 trivial) ?_
  intro v11 g12 hvv11 hRv11
  have hRv11 : Inv g12 ∧ ((g12 113 6).toInt = (g9 113 6).toInt ∧ (g12 113 14).toInt = (g9 113 14).toInt ∧ (g12 116 8).toInt = (g9 116 8).toInt ∧ ((g9 113 19).toInt ≠ 0 → (g12 113 19).toInt ≠ 0) ∧ (g9 113 15).toInt ≤ (g12 113 15).toInt ∧ 0 ≤ v11.toInt ∧ v11.toInt ≤ 3) := hRv11
  have y31 : 0 ≤ (g9 113 14).toInt ∧ (g9 113 14).toInt ≤ 160 := Inv.rd (r := 113) (c := 8) Ig9 14 rfl
  have y32 : 0 ≤ (g9 113 15).toInt ∧ (g9 113 15).toInt ≤ 160 := Inv.rd (r := 113) (c := 8) Ig9 15 rfl
  have y33 : 0 ≤ (g9 113 19).toInt ∧ (g9 113 19).toInt ≤ 6 := Inv.rd (r := 113) (c := 8) Ig9 19 rfl
  have y34 : 0 ≤ (g9 113 6).toInt ∧ (g9 113 6).toInt ≤ 4 := Inv.rd (r := 113) (c := 8) Ig9 6 rfl
  have y35 := Ig9.d8
  have y36 : 0 ≤ (g12 113 6).toInt ∧ (g12 113 6).toInt ≤ 4 := Inv.rd (r := 113) (c := 8) hRv11.1 6 rfl
  have y37 : 0 ≤ (g12 113 14).toInt ∧ (g12 113 14).toInt ≤ 160 := Inv.rd (r := 113) (c := 8) hRv11.1 14 rfl
  have y38 : 0 ≤ (g12 113 15).toInt ∧ (g12 113 15).toInt ≤ 160 := Inv.rd (r := 113) (c := 8) hRv11.1 15 rfl
  have y39 : 0 ≤ (g12 113 19).toInt ∧ (g12 113 19).toInt ≤ 6 := Inv.rd (r := 113) (c := 8) hRv11.1 19 rfl
  have y40 := hRv11.1.d8
  try have y41 := zi_add (x := x1) (y := (2 : Int32)) (by omega) (by omega)
  refine S1.ix (by omega) ?_
  intro k14 hk14 bk14
  refine S1.lt ?_
  intro g13 hg13
  have Ig13 : Inv g13 := Inv.up hRv11.1 hg13 rfl (bdP_dr (by omega) ((stP_d (d := (g 116 8).toInt) (o := 2) (by omega) (by omega) (by omega)).mpr ⟨fun w => by omega, fun w => by omega⟩))
  have u42 : (g13 113 6).toInt = (g12 113 6).toInt := by rw [← hg13]; rfl
  have u43 : (g13 113 14).toInt = (g12 113 14).toInt := by rw [← hg13]; rfl
  have u44 : (g13 113 15).toInt = (g12 113 15).toInt := by rw [← hg13]; rfl
  have u45 : (g13 113 17).toInt = (g12 113 17).toInt := by rw [← hg13]; rfl
  have u46 : (g13 113 19).toInt = (g12 113 19).toInt := by rw [← hg13]; rfl
  try have u47 : (g13 116 8).toInt = (g12 116 8).toInt := zg_upk hg13 (by omega)
  refine S1.bp (s_121 (0 : Int32) (5 : Int32) g13 Ig13 (by omega)) ?_
  intro v15 g16 hvv15 hRv15
  have hRv15 : Inv g16 ∧ ((g16 113 6).toInt = (g13 113 6).toInt ∧ (g16 113 14).toInt = (g13 113 14).toInt ∧ (g16 116 8).toInt = (g13 116 8).toInt ∧ ((g13 113 19).toInt ≠ 0 → (g16 113 19).toInt ≠ 0) ∧ (g13 113 15).toInt ≤ (g16 113 15).toInt ∧ ((g16 113 19).toInt = 0 ∧ (g16 113 17).toInt ≠ 0 → (g13 113 15).toInt < (g16 113 15).toInt) ∧ (v15.toInt = 0 ∨ (0 : Int32).toInt ≤ v15.toInt ∧ v15.toInt ≤ (5 : Int32).toInt)) := hRv15
  have y48 : 0 ≤ (g13 113 14).toInt ∧ (g13 113 14).toInt ≤ 160 := Inv.rd (r := 113) (c := 8) Ig13 14 rfl
  have y49 : 0 ≤ (g13 113 15).toInt ∧ (g13 113 15).toInt ≤ 160 := Inv.rd (r := 113) (c := 8) Ig13 15 rfl
  have y50 : 0 ≤ (g13 113 19).toInt ∧ (g13 113 19).toInt ≤ 6 := Inv.rd (r := 113) (c := 8) Ig13 19 rfl
  have y51 : 0 ≤ (g13 113 6).toInt ∧ (g13 113 6).toInt ≤ 4 := Inv.rd (r := 113) (c := 8) Ig13 6 rfl
  have y52 := Ig13.d8
  have y53 : 0 ≤ (g16 113 6).toInt ∧ (g16 113 6).toInt ≤ 4 := Inv.rd (r := 113) (c := 8) hRv15.1 6 rfl
  have y54 : 0 ≤ (g16 113 14).toInt ∧ (g16 113 14).toInt ≤ 160 := Inv.rd (r := 113) (c := 8) hRv15.1 14 rfl
  have y55 : 0 ≤ (g16 113 15).toInt ∧ (g16 113 15).toInt ≤ 160 := Inv.rd (r := 113) (c := 8) hRv15.1 15 rfl
  have y56 : 0 ≤ (g16 113 19).toInt ∧ (g16 113 19).toInt ≤ 6 := Inv.rd (r := 113) (c := 8) hRv15.1 19 rfl
  have y57 := hRv15.1.d8
  try have y58 := zi_add (x := x1) (y := (3 : Int32)) (by omega) (by omega)
  refine S1.ix (by omega) ?_
  intro k18 hk18 bk18
  refine S1.lt ?_
  intro g17 hg17
  have Ig17 : Inv g17 := Inv.up hRv15.1 hg17 rfl (bdP_dr (by omega) ((stP_d (d := (g 116 8).toInt) (o := 3) (by omega) (by omega) (by omega)).mpr ⟨fun w => by omega, fun w => by omega⟩))
  have u59 : (g17 113 6).toInt = (g16 113 6).toInt := by rw [← hg17]; rfl
  have u60 : (g17 113 14).toInt = (g16 113 14).toInt := by rw [← hg17]; rfl
  have u61 : (g17 113 15).toInt = (g16 113 15).toInt := by rw [← hg17]; rfl
  have u62 : (g17 113 17).toInt = (g16 113 17).toInt := by rw [← hg17]; rfl
  have u63 : (g17 113 19).toInt = (g16 113 19).toInt := by rw [← hg17]; rfl
  try have u64 : (g17 116 8).toInt = (g16 116 8).toInt := zg_upk hg17 (by omega)
  refine S1.bp (s_122 g17 Ig17 trivial) ?_
  intro v19 g20 hvv19 hRv19
  have hRv19 : Inv g20 ∧ ((g20 113 6).toInt = (g17 113 6).toInt ∧ (g20 113 14).toInt = (g17 113 14).toInt ∧ (g20 116 8).toInt = (g17 116 8).toInt ∧ ((g17 113 19).toInt ≠ 0 → (g20 113 19).toInt ≠ 0) ∧ (g17 113 15).toInt ≤ (g20 113 15).toInt) := hRv19
  have y65 : 0 ≤ (g17 113 14).toInt ∧ (g17 113 14).toInt ≤ 160 := Inv.rd (r := 113) (c := 8) Ig17 14 rfl
  have y66 : 0 ≤ (g17 113 15).toInt ∧ (g17 113 15).toInt ≤ 160 := Inv.rd (r := 113) (c := 8) Ig17 15 rfl
  have y67 : 0 ≤ (g17 113 19).toInt ∧ (g17 113 19).toInt ≤ 6 := Inv.rd (r := 113) (c := 8) Ig17 19 rfl
  have y68 : 0 ≤ (g17 113 6).toInt ∧ (g17 113 6).toInt ≤ 4 := Inv.rd (r := 113) (c := 8) Ig17 6 rfl
  have y69 := Ig17.d8
  have y70 : 0 ≤ (g20 113 6).toInt ∧ (g20 113 6).toInt ≤ 4 := Inv.rd (r := 113) (c := 8) hRv19.1 6 rfl
  have y71 : 0 ≤ (g20 113 14).toInt ∧ (g20 113 14).toInt ≤ 160 := Inv.rd (r := 113) (c := 8) hRv19.1 14 rfl
  have y72 : 0 ≤ (g20 113 15).toInt ∧ (g20 113 15).toInt ≤ 160 := Inv.rd (r := 113) (c := 8) hRv19.1 15 rfl
  have y73 : 0 ≤ (g20 113 19).toInt ∧ (g20 113 19).toInt ≤ 6 := Inv.rd (r := 113) (c := 8) hRv19.1 19 rfl
  have y74 := hRv19.1.d8
  try have y75 := zi_add (x := x1) (y := (4 : Int32)) (by omega) (by omega)
  refine S1.ix (by omega) ?_
  intro k22 hk22 bk22
  refine S1.lt ?_
  intro g21 hg21
  have Ig21 : Inv g21 := Inv.up hRv19.1 hg21 rfl (bdP_dr (by omega) ((stP_d (d := (g 116 8).toInt) (o := 4) (by omega) (by omega) (by omega)).mpr ⟨fun w => by omega, fun w => by omega⟩))
  have u76 : (g21 113 6).toInt = (g20 113 6).toInt := by rw [← hg21]; rfl
  have u77 : (g21 113 14).toInt = (g20 113 14).toInt := by rw [← hg21]; rfl
  have u78 : (g21 113 15).toInt = (g20 113 15).toInt := by rw [← hg21]; rfl
  have u79 : (g21 113 17).toInt = (g20 113 17).toInt := by rw [← hg21]; rfl
  have u80 : (g21 113 19).toInt = (g20 113 19).toInt := by rw [← hg21]; rfl
  try have u81 : (g21 116 8).toInt = (g20 116 8).toInt := zg_upk hg21 (by omega)
  have y82 := Ig21.d8
  try have y83 := zi_add (x := (g21 116 8)) (y := (1 : Int32)) (by omega) (by omega)
  refine S1.lt ?_
  intro g23 hg23
  have Ig23 : Inv g23 := Inv.up Ig21 hg23 rfl (bdP_dr (by omega) ((stP_m (by omega)).mpr (by omega)))
  have u84 : (g23 113 6).toInt = (g21 113 6).toInt := by rw [← hg23]; rfl
  have u85 : (g23 113 14).toInt = (g21 113 14).toInt := by rw [← hg23]; rfl
  have u86 : (g23 113 15).toInt = (g21 113 15).toInt := by rw [← hg23]; rfl
  have u87 : (g23 113 17).toInt = (g21 113 17).toInt := by rw [← hg23]; rfl
  have u88 : (g23 113 19).toInt = (g21 113 19).toInt := by rw [← hg23]; rfl
  have u89 : (g23 116 8).toInt = ((g21 116 8) + 1).toInt := by rw [← hg23]; rfl
  exact S1.ret (show Inv g23 ∧ (((g 113 19).toInt ≠ 0 → (g23 113 19).toInt ≠ 0) ∧ (g 113 15).toInt ≤ (g23 113 15).toInt) from ⟨Ig23, (by omega)⟩)
/-- EveningFirstModel.readDeed -/
theorem s_125 (g : G) (hI : Inv g) (hp : (g 116 8).toInt ≤ 7) : S1 (d_125 g) (fun q : G => Inv q ∧ (((g 113 19).toInt ≠ 0 → (q 113 19).toInt ≠ 0) ∧ (g 113 15).toInt ≤ (q 113 15).toInt)) := by
  unfold d_125
  have L0 := zl_0
  have L7 := zl_7
  have L9 := zl_9
  have yp111 : 0 ≤ (g 113 14).toInt ∧ (g 113 14).toInt ≤ 160 := Inv.rd (r := 113) (c := 8) hI 14 rfl
  have yp112 : 0 ≤ (g 113 15).toInt ∧ (g 113 15).toInt ≤ 160 := Inv.rd (r := 113) (c := 8) hI 15 rfl
  have yp113 : 0 ≤ (g 113 19).toInt ∧ (g 113 19).toInt ≤ 6 := Inv.rd (r := 113) (c := 8) hI 19 rfl
  have yp114 : 0 ≤ (g 113 6).toInt ∧ (g 113 6).toInt ≤ 4 := Inv.rd (r := 113) (c := 8) hI 6 rfl
  have yp115 := hI.d8
  refine S1.bp (s_121 (0 : Int32) (7 : Int32) g hI (by omega)) ?_
  intro v1 g2 hvv1 hRv1
  have hRv1 : Inv g2 ∧ ((g2 113 6).toInt = (g 113 6).toInt ∧ (g2 113 14).toInt = (g 113 14).toInt ∧ (g2 116 8).toInt = (g 116 8).toInt ∧ ((g 113 19).toInt ≠ 0 → (g2 113 19).toInt ≠ 0) ∧ (g 113 15).toInt ≤ (g2 113 15).toInt ∧ ((g2 113 19).toInt = 0 ∧ (g2 113 17).toInt ≠ 0 → (g 113 15).toInt < (g2 113 15).toInt) ∧ (v1.toInt = 0 ∨ (0 : Int32).toInt ≤ v1.toInt ∧ v1.toInt ≤ (7 : Int32).toInt)) := hRv1
  have y95 : 0 ≤ (g 113 14).toInt ∧ (g 113 14).toInt ≤ 160 := Inv.rd (r := 113) (c := 8) hI 14 rfl
  have y96 : 0 ≤ (g 113 15).toInt ∧ (g 113 15).toInt ≤ 160 := Inv.rd (r := 113) (c := 8) hI 15 rfl
  have y97 : 0 ≤ (g 113 19).toInt ∧ (g 113 19).toInt ≤ 6 := Inv.rd (r := 113) (c := 8) hI 19 rfl
  have y98 : 0 ≤ (g 113 6).toInt ∧ (g 113 6).toInt ≤ 4 := Inv.rd (r := 113) (c := 8) hI 6 rfl
  have y99 := hI.d8
  have y100 : 0 ≤ (g2 113 6).toInt ∧ (g2 113 6).toInt ≤ 4 := Inv.rd (r := 113) (c := 8) hRv1.1 6 rfl
  have y101 : 0 ≤ (g2 113 14).toInt ∧ (g2 113 14).toInt ≤ 160 := Inv.rd (r := 113) (c := 8) hRv1.1 14 rfl
  have y102 : 0 ≤ (g2 113 15).toInt ∧ (g2 113 15).toInt ≤ 160 := Inv.rd (r := 113) (c := 8) hRv1.1 15 rfl
  have y103 : 0 ≤ (g2 113 19).toInt ∧ (g2 113 19).toInt ≤ 6 := Inv.rd (r := 113) (c := 8) hRv1.1 19 rfl
  have y104 := hRv1.1.d8
  refine S1.ite (fun hc3 => ?_) (fun hc3 => ?_)
  · skip
    have chc3 := zc_neT hc3
    try have y105 := zi_mul (x := (7 : Int32)) (y := (g 116 8)) (n := 7) (by decide) (by omega) (by omega)
    try have y106 := zi_add (x := (9 : Int32)) (y := (7 * (g 116 8))) (by omega) (by omega)
    refine S1.mono (s_125_46 (9 + (7 * (g 116 8))) v1 (g2 113 10) g2 hRv1.1 (by omega)) ?_
    rintro v0 hq
    have hq : Inv v0 ∧ (((g2 113 19).toInt ≠ 0 → (v0 113 19).toInt ≠ 0) ∧ (g2 113 15).toInt ≤ (v0 113 15).toInt) := hq
    exact ⟨hq.1, (by omega)⟩
  · skip
    have chc3 := zc_neF hc3
    refine S1.ite (fun hc24 => ?_) (fun hc24 => ?_)
    · skip
      have chc24 := zc_leT hc24
      try have y107 := zi_mul (x := (7 : Int32)) (y := (g 116 8)) (n := 7) (by decide) (by omega) (by omega)
      try have y108 := zi_add (x := (9 : Int32)) (y := (7 * (g 116 8))) (by omega) (by omega)
      refine S1.mono (s_125_46 (9 + (7 * (g 116 8))) v1 (g2 113 10) g2 hRv1.1 (by omega)) ?_
      rintro v0 hq
      have hq : Inv v0 ∧ (((g2 113 19).toInt ≠ 0 → (v0 113 19).toInt ≠ 0) ∧ (g2 113 15).toInt ≤ (v0 113 15).toInt) := hq
      exact ⟨hq.1, (by omega)⟩
    · skip
      have chc24 := zc_leF hc24
      try have y109 := zi_mul (x := (7 : Int32)) (y := (g 116 8)) (n := 7) (by decide) (by omega) (by omega)
      try have y110 := zi_add (x := (9 : Int32)) (y := (7 * (g 116 8))) (by omega) (by omega)
      refine S1.mono (s_125_46 (9 + (7 * (g 116 8))) v1 v1 g2 hRv1.1 (by omega)) ?_
      rintro v0 hq
      have hq : Inv v0 ∧ (((g2 113 19).toInt ≠ 0 → (v0 113 19).toInt ≠ 0) ∧ (g2 113 15).toInt ≤ (v0 113 15).toInt) := hq
      exact ⟨hq.1, (by omega)⟩
/-- EveningFirstModel.readFresh -/
theorem s_126 (x1 : Int32) (g : G) (hI : Inv g) (hp : True) : S1 (d_126 x1 g) (fun q : Int32 × G => Inv q.2 ∧ ((q.2 113 6).toInt = (g 113 6).toInt ∧ (q.2 113 14).toInt = (g 113 14).toInt ∧ (q.2 116 8).toInt = (g 116 8).toInt ∧ ((g 113 19).toInt ≠ 0 → (q.2 113 19).toInt ≠ 0) ∧ (g 113 15).toInt ≤ (q.2 113 15).toInt ∧ 0 ≤ q.1.toInt ∧ q.1.toInt ≤ 7)) := by
  unfold d_126
  have L0 := zl_0
  have L1 := zl_1
  have L4 := zl_4
  have L7 := zl_7
  have L31 := zl_31
  have yp164 : 0 ≤ (g 113 14).toInt ∧ (g 113 14).toInt ≤ 160 := Inv.rd (r := 113) (c := 8) hI 14 rfl
  have yp165 : 0 ≤ (g 113 15).toInt ∧ (g 113 15).toInt ≤ 160 := Inv.rd (r := 113) (c := 8) hI 15 rfl
  have yp166 : 0 ≤ (g 113 16).toInt ∧ (g 113 16).toInt ≤ 160 := Inv.rd (r := 113) (c := 8) hI 16 rfl
  have yp167 : 0 ≤ (g 113 19).toInt ∧ (g 113 19).toInt ≤ 6 := Inv.rd (r := 113) (c := 8) hI 19 rfl
  have yp168 : 0 ≤ (g 113 6).toInt ∧ (g 113 6).toInt ≤ 4 := Inv.rd (r := 113) (c := 8) hI 6 rfl
  have yp169 := hI.d8
  refine S1.pc (s_120 (0 : Int32) (7 : Int32) g hI (by omega)) ?_
  intro v1 g2 hvv1 hRv1
  have hRv1 : Inv g2 ∧ ((g2 113 6).toInt = (g 113 6).toInt ∧ (g2 113 14).toInt = (g 113 14).toInt ∧ (g2 116 8).toInt = (g 116 8).toInt ∧ ((g 113 19).toInt ≠ 0 → (g2 113 19).toInt ≠ 0) ∧ (g2 113 15).toInt = (g 113 15).toInt ∧ (v1.toInt = 0 ∨ (0 : Int32).toInt ≤ v1.toInt ∧ v1.toInt ≤ (7 : Int32).toInt)) := hRv1
  have y1 : 0 ≤ (g 113 14).toInt ∧ (g 113 14).toInt ≤ 160 := Inv.rd (r := 113) (c := 8) hI 14 rfl
  have y2 : 0 ≤ (g 113 15).toInt ∧ (g 113 15).toInt ≤ 160 := Inv.rd (r := 113) (c := 8) hI 15 rfl
  have y3 : 0 ≤ (g 113 19).toInt ∧ (g 113 19).toInt ≤ 6 := Inv.rd (r := 113) (c := 8) hI 19 rfl
  have y4 : 0 ≤ (g 113 6).toInt ∧ (g 113 6).toInt ≤ 4 := Inv.rd (r := 113) (c := 8) hI 6 rfl
  have y5 := hI.d8
  have y6 : 0 ≤ (g2 113 6).toInt ∧ (g2 113 6).toInt ≤ 4 := Inv.rd (r := 113) (c := 8) hRv1.1 6 rfl
  have y7 : 0 ≤ (g2 113 14).toInt ∧ (g2 113 14).toInt ≤ 160 := Inv.rd (r := 113) (c := 8) hRv1.1 14 rfl
  have y8 : 0 ≤ (g2 113 15).toInt ∧ (g2 113 15).toInt ≤ 160 := Inv.rd (r := 113) (c := 8) hRv1.1 15 rfl
  have y9 : 0 ≤ (g2 113 16).toInt ∧ (g2 113 16).toInt ≤ 160 := Inv.rd (r := 113) (c := 8) hRv1.1 16 rfl
  have y10 : 0 ≤ (g2 113 19).toInt ∧ (g2 113 19).toInt ≤ 6 := Inv.rd (r := 113) (c := 8) hRv1.1 19 rfl
  have y11 := hRv1.1.d8
  refine S1.ite (fun hc3 => ?_) (fun hc3 => ?_)
  · skip
    have chc3 := zc_neT hc3
    refine S1.ite (fun hc4 => ?_) (fun hc4 => ?_)
    · skip
      have chc4 := zc_neT hc4
      refine S1.bd (s_119 g2 hRv1.1 trivial) ?_
      intro g5 hvg5 hRg5
      have hRg5 : Inv g5 ∧ ((g5 113 6).toInt = (g2 113 6).toInt ∧ (g5 113 14).toInt = (g2 113 14).toInt ∧ (g5 116 8).toInt = (g2 116 8).toInt ∧ ((g2 113 19).toInt ≠ 0 → (g5 113 19).toInt ≠ 0) ∧ (g2 113 15).toInt ≤ (g5 113 15).toInt ∧ ((g5 113 19).toInt = 0 ∧ (g5 113 17).toInt ≠ 0 → (g2 113 15).toInt < (g5 113 15).toInt)) := hRg5
      have y12 : 0 ≤ (g5 113 6).toInt ∧ (g5 113 6).toInt ≤ 4 := Inv.rd (r := 113) (c := 8) hRg5.1 6 rfl
      have y13 : 0 ≤ (g5 113 14).toInt ∧ (g5 113 14).toInt ≤ 160 := Inv.rd (r := 113) (c := 8) hRg5.1 14 rfl
      have y14 : 0 ≤ (g5 113 15).toInt ∧ (g5 113 15).toInt ≤ 160 := Inv.rd (r := 113) (c := 8) hRg5.1 15 rfl
      have y15 : 0 ≤ (g5 113 16).toInt ∧ (g5 113 16).toInt ≤ 160 := Inv.rd (r := 113) (c := 8) hRg5.1 16 rfl
      have y16 : 0 ≤ (g5 113 19).toInt ∧ (g5 113 19).toInt ≤ 6 := Inv.rd (r := 113) (c := 8) hRg5.1 19 rfl
      have y17 := hRg5.1.d8
      exact S1.ret (show Inv g5 ∧ ((g5 113 6).toInt = (g 113 6).toInt ∧ (g5 113 14).toInt = (g 113 14).toInt ∧ (g5 116 8).toInt = (g 116 8).toInt ∧ ((g 113 19).toInt ≠ 0 → (g5 113 19).toInt ≠ 0) ∧ (g 113 15).toInt ≤ (g5 113 15).toInt ∧ 0 ≤ v1.toInt ∧ v1.toInt ≤ 7) from ⟨hRg5.1, (by omega)⟩)
    · skip
      have chc4 := zc_neF hc4
      refine S1.ite (fun hc6 => ?_) (fun hc6 => ?_)
      · skip
        have chc6 := zc_leT hc6
        refine S1.lt ?_
        intro g7 hg7
        have Ig7 : Inv g7 := Inv.up hRv1.1 hg7 rfl trivial
        have u18 : (g7 113 6).toInt = (g2 113 6).toInt := by rw [← hg7]; rfl
        have u19 : (g7 113 12).toInt = (g2 113 12).toInt := by rw [← hg7]; rfl
        have u20 : (g7 113 14).toInt = (g2 113 14).toInt := by rw [← hg7]; rfl
        have u21 : (g7 113 15).toInt = (g2 113 15).toInt := by rw [← hg7]; rfl
        have u22 : (g7 113 16).toInt = (g2 113 16).toInt := by rw [← hg7]; rfl
        have u23 : (g7 113 17).toInt = (g2 113 17).toInt := by rw [← hg7]; rfl
        have u24 : (g7 113 18).toInt = (g2 113 18).toInt := by rw [← hg7]; rfl
        have u25 : (g7 113 19).toInt = (g2 113 19).toInt := by rw [← hg7]; rfl
        have u26 : (g7 116 8).toInt = (g2 116 8).toInt := by rw [← hg7]; rfl
        refine S1.bd (s_119 g7 Ig7 trivial) ?_
        intro g8 hvg8 hRg8
        have hRg8 : Inv g8 ∧ ((g8 113 6).toInt = (g7 113 6).toInt ∧ (g8 113 14).toInt = (g7 113 14).toInt ∧ (g8 116 8).toInt = (g7 116 8).toInt ∧ ((g7 113 19).toInt ≠ 0 → (g8 113 19).toInt ≠ 0) ∧ (g7 113 15).toInt ≤ (g8 113 15).toInt ∧ ((g8 113 19).toInt = 0 ∧ (g8 113 17).toInt ≠ 0 → (g7 113 15).toInt < (g8 113 15).toInt)) := hRg8
        have y27 : 0 ≤ (g7 113 14).toInt ∧ (g7 113 14).toInt ≤ 160 := Inv.rd (r := 113) (c := 8) Ig7 14 rfl
        have y28 : 0 ≤ (g7 113 15).toInt ∧ (g7 113 15).toInt ≤ 160 := Inv.rd (r := 113) (c := 8) Ig7 15 rfl
        have y29 : 0 ≤ (g7 113 19).toInt ∧ (g7 113 19).toInt ≤ 6 := Inv.rd (r := 113) (c := 8) Ig7 19 rfl
        have y30 : 0 ≤ (g7 113 6).toInt ∧ (g7 113 6).toInt ≤ 4 := Inv.rd (r := 113) (c := 8) Ig7 6 rfl
        have y31 := Ig7.d8
        have y32 : 0 ≤ (g8 113 6).toInt ∧ (g8 113 6).toInt ≤ 4 := Inv.rd (r := 113) (c := 8) hRg8.1 6 rfl
        have y33 : 0 ≤ (g8 113 14).toInt ∧ (g8 113 14).toInt ≤ 160 := Inv.rd (r := 113) (c := 8) hRg8.1 14 rfl
        have y34 : 0 ≤ (g8 113 15).toInt ∧ (g8 113 15).toInt ≤ 160 := Inv.rd (r := 113) (c := 8) hRg8.1 15 rfl
        have y35 : 0 ≤ (g8 113 16).toInt ∧ (g8 113 16).toInt ≤ 160 := Inv.rd (r := 113) (c := 8) hRg8.1 16 rfl
        have y36 : 0 ≤ (g8 113 19).toInt ∧ (g8 113 19).toInt ≤ 6 := Inv.rd (r := 113) (c := 8) hRg8.1 19 rfl
        have y37 := hRg8.1.d8
        exact S1.ret (show Inv g8 ∧ ((g8 113 6).toInt = (g 113 6).toInt ∧ (g8 113 14).toInt = (g 113 14).toInt ∧ (g8 116 8).toInt = (g 116 8).toInt ∧ ((g 113 19).toInt ≠ 0 → (g8 113 19).toInt ≠ 0) ∧ (g 113 15).toInt ≤ (g8 113 15).toInt ∧ 0 ≤ v1.toInt ∧ v1.toInt ≤ 7) from ⟨hRg8.1, (by omega)⟩)
      · skip
        have chc6 := zc_leF hc6
        refine S1.lt ?_
        intro g9 hg9
        have Ig9 : Inv g9 := Inv.up hRv1.1 hg9 rfl trivial
        have u38 : (g9 113 6).toInt = (g2 113 6).toInt := by rw [← hg9]; rfl
        have u39 : (g9 113 12).toInt = v1.toInt := by rw [← hg9]; rfl
        have u40 : (g9 113 14).toInt = (g2 113 14).toInt := by rw [← hg9]; rfl
        have u41 : (g9 113 15).toInt = (g2 113 15).toInt := by rw [← hg9]; rfl
        have u42 : (g9 113 16).toInt = (g2 113 16).toInt := by rw [← hg9]; rfl
        have u43 : (g9 113 17).toInt = (g2 113 17).toInt := by rw [← hg9]; rfl
        have u44 : (g9 113 18).toInt = (g2 113 18).toInt := by rw [← hg9]; rfl
        have u45 : (g9 113 19).toInt = (g2 113 19).toInt := by rw [← hg9]; rfl
        have u46 : (g9 116 8).toInt = (g2 116 8).toInt := by rw [← hg9]; rfl
        refine S1.bd (s_119 g9 Ig9 trivial) ?_
        intro g10 hvg10 hRg10
        have hRg10 : Inv g10 ∧ ((g10 113 6).toInt = (g9 113 6).toInt ∧ (g10 113 14).toInt = (g9 113 14).toInt ∧ (g10 116 8).toInt = (g9 116 8).toInt ∧ ((g9 113 19).toInt ≠ 0 → (g10 113 19).toInt ≠ 0) ∧ (g9 113 15).toInt ≤ (g10 113 15).toInt ∧ ((g10 113 19).toInt = 0 ∧ (g10 113 17).toInt ≠ 0 → (g9 113 15).toInt < (g10 113 15).toInt)) := hRg10
        have y47 : 0 ≤ (g9 113 14).toInt ∧ (g9 113 14).toInt ≤ 160 := Inv.rd (r := 113) (c := 8) Ig9 14 rfl
        have y48 : 0 ≤ (g9 113 15).toInt ∧ (g9 113 15).toInt ≤ 160 := Inv.rd (r := 113) (c := 8) Ig9 15 rfl
        have y49 : 0 ≤ (g9 113 19).toInt ∧ (g9 113 19).toInt ≤ 6 := Inv.rd (r := 113) (c := 8) Ig9 19 rfl
        have y50 : 0 ≤ (g9 113 6).toInt ∧ (g9 113 6).toInt ≤ 4 := Inv.rd (r := 113) (c := 8) Ig9 6 rfl
        have y51 := Ig9.d8
        have y52 : 0 ≤ (g10 113 6).toInt ∧ (g10 113 6).toInt ≤ 4 := Inv.rd (r := 113) (c := 8) hRg10.1 6 rfl
        have y53 : 0 ≤ (g10 113 14).toInt ∧ (g10 113 14).toInt ≤ 160 := Inv.rd (r := 113) (c := 8) hRg10.1 14 rfl
        have y54 : 0 ≤ (g10 113 15).toInt ∧ (g10 113 15).toInt ≤ 160 := Inv.rd (r := 113) (c := 8) hRg10.1 15 rfl
        have y55 : 0 ≤ (g10 113 16).toInt ∧ (g10 113 16).toInt ≤ 160 := Inv.rd (r := 113) (c := 8) hRg10.1 16 rfl
        have y56 : 0 ≤ (g10 113 19).toInt ∧ (g10 113 19).toInt ≤ 6 := Inv.rd (r := 113) (c := 8) hRg10.1 19 rfl
        have y57 := hRg10.1.d8
        exact S1.ret (show Inv g10 ∧ ((g10 113 6).toInt = (g 113 6).toInt ∧ (g10 113 14).toInt = (g 113 14).toInt ∧ (g10 116 8).toInt = (g 116 8).toInt ∧ ((g 113 19).toInt ≠ 0 → (g10 113 19).toInt ≠ 0) ∧ (g 113 15).toInt ≤ (g10 113 15).toInt ∧ 0 ≤ v1.toInt ∧ v1.toInt ≤ 7) from ⟨hRg10.1, (by omega)⟩)
  · skip
    have chc3 := zc_neF hc3
    try have y58 := zi_and (x := v1) (y := (31 : Int32)) (by omega)
    try have y59 := zi_and (x := (x1 >>> (v1 &&& 31))) (y := (1 : Int32)) (by omega)
    refine S1.ite (fun hc11 => ?_) (fun hc11 => ?_)
    · skip
      have chc11 := zc_neT hc11
      refine S1.lc (s_113 (0 : Int32) (4 : Int32) g2 hRv1.1 (by omega)) ?_
      intro g12 hvg12 hRg12
      have hRg12 : Inv g12 ∧ ((g12 113 6).toInt = (g2 113 6).toInt ∧ (g12 113 14).toInt = (g2 113 14).toInt ∧ (g12 116 8).toInt = (g2 116 8).toInt ∧ (g12 113 15).toInt = (g2 113 15).toInt ∧ (g12 113 16).toInt = (g2 113 16).toInt ∧ (g12 113 17).toInt = (g2 113 17).toInt ∧ (g12 113 18).toInt = (g2 113 18).toInt ∧ ((g2 113 19).toInt ≠ 0 → (g12 113 19).toInt ≠ 0) ∧ ((0 : Int32).toInt = 0 → (g12 113 19).toInt ≠ 0) ∧ ((0 : Int32).toInt ≠ 0 → (g12 113 19).toInt = (g2 113 19).toInt)) := hRg12
      have y60 : 0 ≤ (g12 113 6).toInt ∧ (g12 113 6).toInt ≤ 4 := Inv.rd (r := 113) (c := 8) hRg12.1 6 rfl
      have y61 : 0 ≤ (g12 113 14).toInt ∧ (g12 113 14).toInt ≤ 160 := Inv.rd (r := 113) (c := 8) hRg12.1 14 rfl
      have y62 : 0 ≤ (g12 113 15).toInt ∧ (g12 113 15).toInt ≤ 160 := Inv.rd (r := 113) (c := 8) hRg12.1 15 rfl
      have y63 : 0 ≤ (g12 113 16).toInt ∧ (g12 113 16).toInt ≤ 160 := Inv.rd (r := 113) (c := 8) hRg12.1 16 rfl
      have y64 : 0 ≤ (g12 113 19).toInt ∧ (g12 113 19).toInt ≤ 6 := Inv.rd (r := 113) (c := 8) hRg12.1 19 rfl
      have y65 := hRg12.1.d8
      refine S1.ite (fun hc13 => ?_) (fun hc13 => ?_)
      · skip
        have chc13 := zc_neT hc13
        refine S1.bd (s_119 g12 hRg12.1 trivial) ?_
        intro g14 hvg14 hRg14
        have hRg14 : Inv g14 ∧ ((g14 113 6).toInt = (g12 113 6).toInt ∧ (g14 113 14).toInt = (g12 113 14).toInt ∧ (g14 116 8).toInt = (g12 116 8).toInt ∧ ((g12 113 19).toInt ≠ 0 → (g14 113 19).toInt ≠ 0) ∧ (g12 113 15).toInt ≤ (g14 113 15).toInt ∧ ((g14 113 19).toInt = 0 ∧ (g14 113 17).toInt ≠ 0 → (g12 113 15).toInt < (g14 113 15).toInt)) := hRg14
        have y66 : 0 ≤ (g14 113 6).toInt ∧ (g14 113 6).toInt ≤ 4 := Inv.rd (r := 113) (c := 8) hRg14.1 6 rfl
        have y67 : 0 ≤ (g14 113 14).toInt ∧ (g14 113 14).toInt ≤ 160 := Inv.rd (r := 113) (c := 8) hRg14.1 14 rfl
        have y68 : 0 ≤ (g14 113 15).toInt ∧ (g14 113 15).toInt ≤ 160 := Inv.rd (r := 113) (c := 8) hRg14.1 15 rfl
        have y69 : 0 ≤ (g14 113 16).toInt ∧ (g14 113 16).toInt ≤ 160 := Inv.rd (r := 113) (c := 8) hRg14.1 16 rfl
        have y70 : 0 ≤ (g14 113 19).toInt ∧ (g14 113 19).toInt ≤ 6 := Inv.rd (r := 113) (c := 8) hRg14.1 19 rfl
        have y71 := hRg14.1.d8
        exact S1.ret (show Inv g14 ∧ ((g14 113 6).toInt = (g 113 6).toInt ∧ (g14 113 14).toInt = (g 113 14).toInt ∧ (g14 116 8).toInt = (g 116 8).toInt ∧ ((g 113 19).toInt ≠ 0 → (g14 113 19).toInt ≠ 0) ∧ (g 113 15).toInt ≤ (g14 113 15).toInt ∧ 0 ≤ v1.toInt ∧ v1.toInt ≤ 7) from ⟨hRg14.1, (by omega)⟩)
      · skip
        have chc13 := zc_neF hc13
        refine S1.ite (fun hc15 => ?_) (fun hc15 => ?_)
        · skip
          have chc15 := zc_leT hc15
          refine S1.lt ?_
          intro g16 hg16
          have Ig16 : Inv g16 := Inv.up hRg12.1 hg16 rfl trivial
          have u72 : (g16 113 6).toInt = (g12 113 6).toInt := by rw [← hg16]; rfl
          have u73 : (g16 113 12).toInt = (g12 113 12).toInt := by rw [← hg16]; rfl
          have u74 : (g16 113 14).toInt = (g12 113 14).toInt := by rw [← hg16]; rfl
          have u75 : (g16 113 15).toInt = (g12 113 15).toInt := by rw [← hg16]; rfl
          have u76 : (g16 113 16).toInt = (g12 113 16).toInt := by rw [← hg16]; rfl
          have u77 : (g16 113 17).toInt = (g12 113 17).toInt := by rw [← hg16]; rfl
          have u78 : (g16 113 18).toInt = (g12 113 18).toInt := by rw [← hg16]; rfl
          have u79 : (g16 113 19).toInt = (g12 113 19).toInt := by rw [← hg16]; rfl
          have u80 : (g16 116 8).toInt = (g12 116 8).toInt := by rw [← hg16]; rfl
          refine S1.bd (s_119 g16 Ig16 trivial) ?_
          intro g17 hvg17 hRg17
          have hRg17 : Inv g17 ∧ ((g17 113 6).toInt = (g16 113 6).toInt ∧ (g17 113 14).toInt = (g16 113 14).toInt ∧ (g17 116 8).toInt = (g16 116 8).toInt ∧ ((g16 113 19).toInt ≠ 0 → (g17 113 19).toInt ≠ 0) ∧ (g16 113 15).toInt ≤ (g17 113 15).toInt ∧ ((g17 113 19).toInt = 0 ∧ (g17 113 17).toInt ≠ 0 → (g16 113 15).toInt < (g17 113 15).toInt)) := hRg17
          have y81 : 0 ≤ (g16 113 14).toInt ∧ (g16 113 14).toInt ≤ 160 := Inv.rd (r := 113) (c := 8) Ig16 14 rfl
          have y82 : 0 ≤ (g16 113 15).toInt ∧ (g16 113 15).toInt ≤ 160 := Inv.rd (r := 113) (c := 8) Ig16 15 rfl
          have y83 : 0 ≤ (g16 113 19).toInt ∧ (g16 113 19).toInt ≤ 6 := Inv.rd (r := 113) (c := 8) Ig16 19 rfl
          have y84 : 0 ≤ (g16 113 6).toInt ∧ (g16 113 6).toInt ≤ 4 := Inv.rd (r := 113) (c := 8) Ig16 6 rfl
          have y85 := Ig16.d8
          have y86 : 0 ≤ (g17 113 6).toInt ∧ (g17 113 6).toInt ≤ 4 := Inv.rd (r := 113) (c := 8) hRg17.1 6 rfl
          have y87 : 0 ≤ (g17 113 14).toInt ∧ (g17 113 14).toInt ≤ 160 := Inv.rd (r := 113) (c := 8) hRg17.1 14 rfl
          have y88 : 0 ≤ (g17 113 15).toInt ∧ (g17 113 15).toInt ≤ 160 := Inv.rd (r := 113) (c := 8) hRg17.1 15 rfl
          have y89 : 0 ≤ (g17 113 16).toInt ∧ (g17 113 16).toInt ≤ 160 := Inv.rd (r := 113) (c := 8) hRg17.1 16 rfl
          have y90 : 0 ≤ (g17 113 19).toInt ∧ (g17 113 19).toInt ≤ 6 := Inv.rd (r := 113) (c := 8) hRg17.1 19 rfl
          have y91 := hRg17.1.d8
          exact S1.ret (show Inv g17 ∧ ((g17 113 6).toInt = (g 113 6).toInt ∧ (g17 113 14).toInt = (g 113 14).toInt ∧ (g17 116 8).toInt = (g 116 8).toInt ∧ ((g 113 19).toInt ≠ 0 → (g17 113 19).toInt ≠ 0) ∧ (g 113 15).toInt ≤ (g17 113 15).toInt ∧ 0 ≤ v1.toInt ∧ v1.toInt ≤ 7) from ⟨hRg17.1, (by omega)⟩)
        · skip
          have chc15 := zc_leF hc15
          refine S1.lt ?_
          intro g18 hg18
          have Ig18 : Inv g18 := Inv.up hRg12.1 hg18 rfl trivial
          have u92 : (g18 113 6).toInt = (g12 113 6).toInt := by rw [← hg18]; rfl
          have u93 : (g18 113 12).toInt = v1.toInt := by rw [← hg18]; rfl
          have u94 : (g18 113 14).toInt = (g12 113 14).toInt := by rw [← hg18]; rfl
          have u95 : (g18 113 15).toInt = (g12 113 15).toInt := by rw [← hg18]; rfl
          have u96 : (g18 113 16).toInt = (g12 113 16).toInt := by rw [← hg18]; rfl
          have u97 : (g18 113 17).toInt = (g12 113 17).toInt := by rw [← hg18]; rfl
          have u98 : (g18 113 18).toInt = (g12 113 18).toInt := by rw [← hg18]; rfl
          have u99 : (g18 113 19).toInt = (g12 113 19).toInt := by rw [← hg18]; rfl
          have u100 : (g18 116 8).toInt = (g12 116 8).toInt := by rw [← hg18]; rfl
          refine S1.bd (s_119 g18 Ig18 trivial) ?_
          intro g19 hvg19 hRg19
          have hRg19 : Inv g19 ∧ ((g19 113 6).toInt = (g18 113 6).toInt ∧ (g19 113 14).toInt = (g18 113 14).toInt ∧ (g19 116 8).toInt = (g18 116 8).toInt ∧ ((g18 113 19).toInt ≠ 0 → (g19 113 19).toInt ≠ 0) ∧ (g18 113 15).toInt ≤ (g19 113 15).toInt ∧ ((g19 113 19).toInt = 0 ∧ (g19 113 17).toInt ≠ 0 → (g18 113 15).toInt < (g19 113 15).toInt)) := hRg19
          have y101 : 0 ≤ (g18 113 14).toInt ∧ (g18 113 14).toInt ≤ 160 := Inv.rd (r := 113) (c := 8) Ig18 14 rfl
          have y102 : 0 ≤ (g18 113 15).toInt ∧ (g18 113 15).toInt ≤ 160 := Inv.rd (r := 113) (c := 8) Ig18 15 rfl
          have y103 : 0 ≤ (g18 113 19).toInt ∧ (g18 113 19).toInt ≤ 6 := Inv.rd (r := 113) (c := 8) Ig18 19 rfl
          have y104 : 0 ≤ (g18 113 6).toInt ∧ (g18 113 6).toInt ≤ 4 := Inv.rd (r := 113) (c := 8) Ig18 6 rfl
          have y105 := Ig18.d8
          have y106 : 0 ≤ (g19 113 6).toInt ∧ (g19 113 6).toInt ≤ 4 := Inv.rd (r := 113) (c := 8) hRg19.1 6 rfl
          have y107 : 0 ≤ (g19 113 14).toInt ∧ (g19 113 14).toInt ≤ 160 := Inv.rd (r := 113) (c := 8) hRg19.1 14 rfl
          have y108 : 0 ≤ (g19 113 15).toInt ∧ (g19 113 15).toInt ≤ 160 := Inv.rd (r := 113) (c := 8) hRg19.1 15 rfl
          have y109 : 0 ≤ (g19 113 16).toInt ∧ (g19 113 16).toInt ≤ 160 := Inv.rd (r := 113) (c := 8) hRg19.1 16 rfl
          have y110 : 0 ≤ (g19 113 19).toInt ∧ (g19 113 19).toInt ≤ 6 := Inv.rd (r := 113) (c := 8) hRg19.1 19 rfl
          have y111 := hRg19.1.d8
          exact S1.ret (show Inv g19 ∧ ((g19 113 6).toInt = (g 113 6).toInt ∧ (g19 113 14).toInt = (g 113 14).toInt ∧ (g19 116 8).toInt = (g 116 8).toInt ∧ ((g 113 19).toInt ≠ 0 → (g19 113 19).toInt ≠ 0) ∧ (g 113 15).toInt ≤ (g19 113 15).toInt ∧ 0 ≤ v1.toInt ∧ v1.toInt ≤ 7) from ⟨hRg19.1, (by omega)⟩)
    · skip
      have chc11 := zc_neF hc11
      refine S1.lc (s_113 (1 : Int32) (4 : Int32) g2 hRv1.1 (by omega)) ?_
      intro g20 hvg20 hRg20
      have hRg20 : Inv g20 ∧ ((g20 113 6).toInt = (g2 113 6).toInt ∧ (g20 113 14).toInt = (g2 113 14).toInt ∧ (g20 116 8).toInt = (g2 116 8).toInt ∧ (g20 113 15).toInt = (g2 113 15).toInt ∧ (g20 113 16).toInt = (g2 113 16).toInt ∧ (g20 113 17).toInt = (g2 113 17).toInt ∧ (g20 113 18).toInt = (g2 113 18).toInt ∧ ((g2 113 19).toInt ≠ 0 → (g20 113 19).toInt ≠ 0) ∧ ((1 : Int32).toInt = 0 → (g20 113 19).toInt ≠ 0) ∧ ((1 : Int32).toInt ≠ 0 → (g20 113 19).toInt = (g2 113 19).toInt)) := hRg20
      have y112 : 0 ≤ (g20 113 6).toInt ∧ (g20 113 6).toInt ≤ 4 := Inv.rd (r := 113) (c := 8) hRg20.1 6 rfl
      have y113 : 0 ≤ (g20 113 14).toInt ∧ (g20 113 14).toInt ≤ 160 := Inv.rd (r := 113) (c := 8) hRg20.1 14 rfl
      have y114 : 0 ≤ (g20 113 15).toInt ∧ (g20 113 15).toInt ≤ 160 := Inv.rd (r := 113) (c := 8) hRg20.1 15 rfl
      have y115 : 0 ≤ (g20 113 16).toInt ∧ (g20 113 16).toInt ≤ 160 := Inv.rd (r := 113) (c := 8) hRg20.1 16 rfl
      have y116 : 0 ≤ (g20 113 19).toInt ∧ (g20 113 19).toInt ≤ 6 := Inv.rd (r := 113) (c := 8) hRg20.1 19 rfl
      have y117 := hRg20.1.d8
      refine S1.ite (fun hc21 => ?_) (fun hc21 => ?_)
      · skip
        have chc21 := zc_neT hc21
        refine S1.bd (s_119 g20 hRg20.1 trivial) ?_
        intro g22 hvg22 hRg22
        have hRg22 : Inv g22 ∧ ((g22 113 6).toInt = (g20 113 6).toInt ∧ (g22 113 14).toInt = (g20 113 14).toInt ∧ (g22 116 8).toInt = (g20 116 8).toInt ∧ ((g20 113 19).toInt ≠ 0 → (g22 113 19).toInt ≠ 0) ∧ (g20 113 15).toInt ≤ (g22 113 15).toInt ∧ ((g22 113 19).toInt = 0 ∧ (g22 113 17).toInt ≠ 0 → (g20 113 15).toInt < (g22 113 15).toInt)) := hRg22
        have y118 : 0 ≤ (g22 113 6).toInt ∧ (g22 113 6).toInt ≤ 4 := Inv.rd (r := 113) (c := 8) hRg22.1 6 rfl
        have y119 : 0 ≤ (g22 113 14).toInt ∧ (g22 113 14).toInt ≤ 160 := Inv.rd (r := 113) (c := 8) hRg22.1 14 rfl
        have y120 : 0 ≤ (g22 113 15).toInt ∧ (g22 113 15).toInt ≤ 160 := Inv.rd (r := 113) (c := 8) hRg22.1 15 rfl
        have y121 : 0 ≤ (g22 113 16).toInt ∧ (g22 113 16).toInt ≤ 160 := Inv.rd (r := 113) (c := 8) hRg22.1 16 rfl
        have y122 : 0 ≤ (g22 113 19).toInt ∧ (g22 113 19).toInt ≤ 6 := Inv.rd (r := 113) (c := 8) hRg22.1 19 rfl
        have y123 := hRg22.1.d8
        exact S1.ret (show Inv g22 ∧ ((g22 113 6).toInt = (g 113 6).toInt ∧ (g22 113 14).toInt = (g 113 14).toInt ∧ (g22 116 8).toInt = (g 116 8).toInt ∧ ((g 113 19).toInt ≠ 0 → (g22 113 19).toInt ≠ 0) ∧ (g 113 15).toInt ≤ (g22 113 15).toInt ∧ 0 ≤ v1.toInt ∧ v1.toInt ≤ 7) from ⟨hRg22.1, (by omega)⟩)
      · skip
        have chc21 := zc_neF hc21
        refine S1.ite (fun hc23 => ?_) (fun hc23 => ?_)
        · skip
          have chc23 := zc_leT hc23
          refine S1.lt ?_
          intro g24 hg24
          have Ig24 : Inv g24 := Inv.up hRg20.1 hg24 rfl trivial
          have u124 : (g24 113 6).toInt = (g20 113 6).toInt := by rw [← hg24]; rfl
          have u125 : (g24 113 12).toInt = (g20 113 12).toInt := by rw [← hg24]; rfl
          have u126 : (g24 113 14).toInt = (g20 113 14).toInt := by rw [← hg24]; rfl
          have u127 : (g24 113 15).toInt = (g20 113 15).toInt := by rw [← hg24]; rfl
          have u128 : (g24 113 16).toInt = (g20 113 16).toInt := by rw [← hg24]; rfl
          have u129 : (g24 113 17).toInt = (g20 113 17).toInt := by rw [← hg24]; rfl
          have u130 : (g24 113 18).toInt = (g20 113 18).toInt := by rw [← hg24]; rfl
          have u131 : (g24 113 19).toInt = (g20 113 19).toInt := by rw [← hg24]; rfl
          have u132 : (g24 116 8).toInt = (g20 116 8).toInt := by rw [← hg24]; rfl
          refine S1.bd (s_119 g24 Ig24 trivial) ?_
          intro g25 hvg25 hRg25
          have hRg25 : Inv g25 ∧ ((g25 113 6).toInt = (g24 113 6).toInt ∧ (g25 113 14).toInt = (g24 113 14).toInt ∧ (g25 116 8).toInt = (g24 116 8).toInt ∧ ((g24 113 19).toInt ≠ 0 → (g25 113 19).toInt ≠ 0) ∧ (g24 113 15).toInt ≤ (g25 113 15).toInt ∧ ((g25 113 19).toInt = 0 ∧ (g25 113 17).toInt ≠ 0 → (g24 113 15).toInt < (g25 113 15).toInt)) := hRg25
          have y133 : 0 ≤ (g24 113 14).toInt ∧ (g24 113 14).toInt ≤ 160 := Inv.rd (r := 113) (c := 8) Ig24 14 rfl
          have y134 : 0 ≤ (g24 113 15).toInt ∧ (g24 113 15).toInt ≤ 160 := Inv.rd (r := 113) (c := 8) Ig24 15 rfl
          have y135 : 0 ≤ (g24 113 19).toInt ∧ (g24 113 19).toInt ≤ 6 := Inv.rd (r := 113) (c := 8) Ig24 19 rfl
          have y136 : 0 ≤ (g24 113 6).toInt ∧ (g24 113 6).toInt ≤ 4 := Inv.rd (r := 113) (c := 8) Ig24 6 rfl
          have y137 := Ig24.d8
          have y138 : 0 ≤ (g25 113 6).toInt ∧ (g25 113 6).toInt ≤ 4 := Inv.rd (r := 113) (c := 8) hRg25.1 6 rfl
          have y139 : 0 ≤ (g25 113 14).toInt ∧ (g25 113 14).toInt ≤ 160 := Inv.rd (r := 113) (c := 8) hRg25.1 14 rfl
          have y140 : 0 ≤ (g25 113 15).toInt ∧ (g25 113 15).toInt ≤ 160 := Inv.rd (r := 113) (c := 8) hRg25.1 15 rfl
          have y141 : 0 ≤ (g25 113 16).toInt ∧ (g25 113 16).toInt ≤ 160 := Inv.rd (r := 113) (c := 8) hRg25.1 16 rfl
          have y142 : 0 ≤ (g25 113 19).toInt ∧ (g25 113 19).toInt ≤ 6 := Inv.rd (r := 113) (c := 8) hRg25.1 19 rfl
          have y143 := hRg25.1.d8
          exact S1.ret (show Inv g25 ∧ ((g25 113 6).toInt = (g 113 6).toInt ∧ (g25 113 14).toInt = (g 113 14).toInt ∧ (g25 116 8).toInt = (g 116 8).toInt ∧ ((g 113 19).toInt ≠ 0 → (g25 113 19).toInt ≠ 0) ∧ (g 113 15).toInt ≤ (g25 113 15).toInt ∧ 0 ≤ v1.toInt ∧ v1.toInt ≤ 7) from ⟨hRg25.1, (by omega)⟩)
        · skip
          have chc23 := zc_leF hc23
          refine S1.lt ?_
          intro g26 hg26
          have Ig26 : Inv g26 := Inv.up hRg20.1 hg26 rfl trivial
          have u144 : (g26 113 6).toInt = (g20 113 6).toInt := by rw [← hg26]; rfl
          have u145 : (g26 113 12).toInt = v1.toInt := by rw [← hg26]; rfl
          have u146 : (g26 113 14).toInt = (g20 113 14).toInt := by rw [← hg26]; rfl
          have u147 : (g26 113 15).toInt = (g20 113 15).toInt := by rw [← hg26]; rfl
          have u148 : (g26 113 16).toInt = (g20 113 16).toInt := by rw [← hg26]; rfl
          have u149 : (g26 113 17).toInt = (g20 113 17).toInt := by rw [← hg26]; rfl
          have u150 : (g26 113 18).toInt = (g20 113 18).toInt := by rw [← hg26]; rfl
          have u151 : (g26 113 19).toInt = (g20 113 19).toInt := by rw [← hg26]; rfl
          have u152 : (g26 116 8).toInt = (g20 116 8).toInt := by rw [← hg26]; rfl
          refine S1.bd (s_119 g26 Ig26 trivial) ?_
          intro g27 hvg27 hRg27
          have hRg27 : Inv g27 ∧ ((g27 113 6).toInt = (g26 113 6).toInt ∧ (g27 113 14).toInt = (g26 113 14).toInt ∧ (g27 116 8).toInt = (g26 116 8).toInt ∧ ((g26 113 19).toInt ≠ 0 → (g27 113 19).toInt ≠ 0) ∧ (g26 113 15).toInt ≤ (g27 113 15).toInt ∧ ((g27 113 19).toInt = 0 ∧ (g27 113 17).toInt ≠ 0 → (g26 113 15).toInt < (g27 113 15).toInt)) := hRg27
          have y153 : 0 ≤ (g26 113 14).toInt ∧ (g26 113 14).toInt ≤ 160 := Inv.rd (r := 113) (c := 8) Ig26 14 rfl
          have y154 : 0 ≤ (g26 113 15).toInt ∧ (g26 113 15).toInt ≤ 160 := Inv.rd (r := 113) (c := 8) Ig26 15 rfl
          have y155 : 0 ≤ (g26 113 19).toInt ∧ (g26 113 19).toInt ≤ 6 := Inv.rd (r := 113) (c := 8) Ig26 19 rfl
          have y156 : 0 ≤ (g26 113 6).toInt ∧ (g26 113 6).toInt ≤ 4 := Inv.rd (r := 113) (c := 8) Ig26 6 rfl
          have y157 := Ig26.d8
          have y158 : 0 ≤ (g27 113 6).toInt ∧ (g27 113 6).toInt ≤ 4 := Inv.rd (r := 113) (c := 8) hRg27.1 6 rfl
          have y159 : 0 ≤ (g27 113 14).toInt ∧ (g27 113 14).toInt ≤ 160 := Inv.rd (r := 113) (c := 8) hRg27.1 14 rfl
          have y160 : 0 ≤ (g27 113 15).toInt ∧ (g27 113 15).toInt ≤ 160 := Inv.rd (r := 113) (c := 8) hRg27.1 15 rfl
          have y161 : 0 ≤ (g27 113 16).toInt ∧ (g27 113 16).toInt ≤ 160 := Inv.rd (r := 113) (c := 8) hRg27.1 16 rfl
          have y162 : 0 ≤ (g27 113 19).toInt ∧ (g27 113 19).toInt ≤ 6 := Inv.rd (r := 113) (c := 8) hRg27.1 19 rfl
          have y163 := hRg27.1.d8
          exact S1.ret (show Inv g27 ∧ ((g27 113 6).toInt = (g 113 6).toInt ∧ (g27 113 14).toInt = (g 113 14).toInt ∧ (g27 116 8).toInt = (g 116 8).toInt ∧ ((g 113 19).toInt ≠ 0 → (g27 113 19).toInt ≠ 0) ∧ (g 113 15).toInt ≤ (g27 113 15).toInt ∧ 0 ≤ v1.toInt ∧ v1.toInt ≤ 7) from ⟨hRg27.1, (by omega)⟩)
