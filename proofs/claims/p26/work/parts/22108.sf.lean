/-! printed by wip/tools/safe.py -/
/-- EveningFirstModel.readLineOf -/
theorem s_127 (x1 : Int32) (g : G) (hI : Inv g) (hp : (x1.toInt = 1 → (g 113 6).toInt ≤ 3) ∧ (x1.toInt = 2 → (g 116 8).toInt ≤ 7)) : S1 (d_127 x1 g) (fun q : G => Inv q ∧ (((g 113 19).toInt ≠ 0 → (q 113 19).toInt ≠ 0) ∧ (g 113 15).toInt ≤ (q 113 15).toInt)) := by
  unfold d_127
  have L0 := zl_0
  have L1 := zl_1
  have L2 := zl_2
  have L3 := zl_3
  have L4 := zl_4
  have L5 := zl_5
  have L6 := zl_6
  have L7 := zl_7
  have L8 := zl_8
  have L9 := zl_9
  have L10 := zl_10
  have L31 := zl_31
  have yp202 : 0 ≤ (g 113 14).toInt ∧ (g 113 14).toInt ≤ 160 := Inv.rd (r := 113) (c := 8) hI 14 rfl
  have yp203 : 0 ≤ (g 113 15).toInt ∧ (g 113 15).toInt ≤ 160 := Inv.rd (r := 113) (c := 8) hI 15 rfl
  have yp204 : 0 ≤ (g 113 19).toInt ∧ (g 113 19).toInt ≤ 6 := Inv.rd (r := 113) (c := 8) hI 19 rfl
  have yp205 : 0 ≤ (g 113 6).toInt ∧ (g 113 6).toInt ≤ 4 := Inv.rd (r := 113) (c := 8) hI 6 rfl
  have yp206 := hI.d8
  refine S1.ite (fun hc1 => ?_) (fun hc1 => ?_)
  · skip
    have chc1 := zc_bT hc1
    refine S1.bp (s_121 (2 : Int32) (8 : Int32) g hI (by omega)) ?_
    intro v2 g3 hvv2 hRv2
    have hRv2 : Inv g3 ∧ ((g3 113 6).toInt = (g 113 6).toInt ∧ (g3 113 14).toInt = (g 113 14).toInt ∧ (g3 116 8).toInt = (g 116 8).toInt ∧ ((g 113 19).toInt ≠ 0 → (g3 113 19).toInt ≠ 0) ∧ (g 113 15).toInt ≤ (g3 113 15).toInt ∧ ((g3 113 19).toInt = 0 ∧ (g3 113 17).toInt ≠ 0 → (g 113 15).toInt < (g3 113 15).toInt) ∧ (v2.toInt = 0 ∨ (2 : Int32).toInt ≤ v2.toInt ∧ v2.toInt ≤ (8 : Int32).toInt)) := hRv2
    have y1 : 0 ≤ (g 113 14).toInt ∧ (g 113 14).toInt ≤ 160 := Inv.rd (r := 113) (c := 8) hI 14 rfl
    have y2 : 0 ≤ (g 113 15).toInt ∧ (g 113 15).toInt ≤ 160 := Inv.rd (r := 113) (c := 8) hI 15 rfl
    have y3 : 0 ≤ (g 113 19).toInt ∧ (g 113 19).toInt ≤ 6 := Inv.rd (r := 113) (c := 8) hI 19 rfl
    have y4 : 0 ≤ (g 113 6).toInt ∧ (g 113 6).toInt ≤ 4 := Inv.rd (r := 113) (c := 8) hI 6 rfl
    have y5 := hI.d8
    have y6 : 0 ≤ (g3 113 6).toInt ∧ (g3 113 6).toInt ≤ 4 := Inv.rd (r := 113) (c := 8) hRv2.1 6 rfl
    have y7 : 0 ≤ (g3 113 14).toInt ∧ (g3 113 14).toInt ≤ 160 := Inv.rd (r := 113) (c := 8) hRv2.1 14 rfl
    have y8 : 0 ≤ (g3 113 15).toInt ∧ (g3 113 15).toInt ≤ 160 := Inv.rd (r := 113) (c := 8) hRv2.1 15 rfl
    have y9 : 0 ≤ (g3 113 19).toInt ∧ (g3 113 19).toInt ≤ 6 := Inv.rd (r := 113) (c := 8) hRv2.1 19 rfl
    have y10 := hRv2.1.d8
    refine S1.lt ?_
    intro g4 hg4
    have Ig4 : Inv g4 := Inv.up hRv2.1 hg4 rfl (show 0 ≤ v2.toInt ∧ v2.toInt ≤ 8 by omega)
    have u11 : (g4 113 6).toInt = (g3 113 6).toInt := by rw [← hg4]; rfl
    have u12 : (g4 113 8).toInt = (g3 113 8).toInt := by rw [← hg4]; rfl
    have u13 : (g4 113 9).toInt = (g3 113 9).toInt := by rw [← hg4]; rfl
    have u14 : (g4 113 14).toInt = (g3 113 14).toInt := by rw [← hg4]; rfl
    have u15 : (g4 113 15).toInt = (g3 113 15).toInt := by rw [← hg4]; rfl
    have u16 : (g4 113 17).toInt = (g3 113 17).toInt := by rw [← hg4]; rfl
    have u17 : (g4 113 19).toInt = (g3 113 19).toInt := by rw [← hg4]; rfl
    have u18 : (g4 116 8).toInt = (g3 116 8).toInt := by rw [← hg4]; rfl
    exact S1.ret (show Inv g4 ∧ (((g 113 19).toInt ≠ 0 → (g4 113 19).toInt ≠ 0) ∧ (g 113 15).toInt ≤ (g4 113 15).toInt) from ⟨Ig4, (by omega)⟩)
  · skip
    have chc1 := zc_bF hc1
    refine S1.ite (fun hc5 => ?_) (fun hc5 => ?_)
    · skip
      have chc5 := zc_bT hc5
      have y19 : 0 ≤ (g 113 6).toInt ∧ (g 113 6).toInt ≤ 4 := Inv.rd (r := 113) (c := 8) hI 6 rfl
      refine S1.bd (s_123 g hI (by omega)) ?_
      intro g6 hvg6 hRg6
      have hRg6 : Inv g6 ∧ (((g 113 19).toInt ≠ 0 → (g6 113 19).toInt ≠ 0) ∧ (g 113 15).toInt ≤ (g6 113 15).toInt) := hRg6
      have y20 : 0 ≤ (g 113 15).toInt ∧ (g 113 15).toInt ≤ 160 := Inv.rd (r := 113) (c := 8) hI 15 rfl
      have y21 : 0 ≤ (g 113 19).toInt ∧ (g 113 19).toInt ≤ 6 := Inv.rd (r := 113) (c := 8) hI 19 rfl
      have y22 : 0 ≤ (g6 113 6).toInt ∧ (g6 113 6).toInt ≤ 4 := Inv.rd (r := 113) (c := 8) hRg6.1 6 rfl
      have y23 : 0 ≤ (g6 113 14).toInt ∧ (g6 113 14).toInt ≤ 160 := Inv.rd (r := 113) (c := 8) hRg6.1 14 rfl
      have y24 : 0 ≤ (g6 113 15).toInt ∧ (g6 113 15).toInt ≤ 160 := Inv.rd (r := 113) (c := 8) hRg6.1 15 rfl
      have y25 : 0 ≤ (g6 113 19).toInt ∧ (g6 113 19).toInt ≤ 6 := Inv.rd (r := 113) (c := 8) hRg6.1 19 rfl
      have y26 := hRg6.1.d8
      exact S1.ret (show Inv g6 ∧ (((g 113 19).toInt ≠ 0 → (g6 113 19).toInt ≠ 0) ∧ (g 113 15).toInt ≤ (g6 113 15).toInt) from ⟨hRg6.1, (by omega)⟩)
    · skip
      have chc5 := zc_bF hc5
      refine S1.ite (fun hc7 => ?_) (fun hc7 => ?_)
      · skip
        have chc7 := zc_bT hc7
        have y27 := hI.d8
        refine S1.bd (s_125 g hI (by omega)) ?_
        intro g8 hvg8 hRg8
        have hRg8 : Inv g8 ∧ (((g 113 19).toInt ≠ 0 → (g8 113 19).toInt ≠ 0) ∧ (g 113 15).toInt ≤ (g8 113 15).toInt) := hRg8
        have y28 : 0 ≤ (g 113 15).toInt ∧ (g 113 15).toInt ≤ 160 := Inv.rd (r := 113) (c := 8) hI 15 rfl
        have y29 : 0 ≤ (g 113 19).toInt ∧ (g 113 19).toInt ≤ 6 := Inv.rd (r := 113) (c := 8) hI 19 rfl
        have y30 : 0 ≤ (g8 113 6).toInt ∧ (g8 113 6).toInt ≤ 4 := Inv.rd (r := 113) (c := 8) hRg8.1 6 rfl
        have y31 : 0 ≤ (g8 113 14).toInt ∧ (g8 113 14).toInt ≤ 160 := Inv.rd (r := 113) (c := 8) hRg8.1 14 rfl
        have y32 : 0 ≤ (g8 113 15).toInt ∧ (g8 113 15).toInt ≤ 160 := Inv.rd (r := 113) (c := 8) hRg8.1 15 rfl
        have y33 : 0 ≤ (g8 113 19).toInt ∧ (g8 113 19).toInt ≤ 6 := Inv.rd (r := 113) (c := 8) hRg8.1 19 rfl
        have y34 := hRg8.1.d8
        exact S1.ret (show Inv g8 ∧ (((g 113 19).toInt ≠ 0 → (g8 113 19).toInt ≠ 0) ∧ (g 113 15).toInt ≤ (g8 113 15).toInt) from ⟨hRg8.1, (by omega)⟩)
      · skip
        have chc7 := zc_bF hc7
        refine S1.ite (fun hc9 => ?_) (fun hc9 => ?_)
        · skip
          have chc9 := zc_bT hc9
          refine S1.bp (s_126 (g 113 8) g hI trivial) ?_
          intro v10 g11 hvv10 hRv10
          have hRv10 : Inv g11 ∧ ((g11 113 6).toInt = (g 113 6).toInt ∧ (g11 113 14).toInt = (g 113 14).toInt ∧ (g11 116 8).toInt = (g 116 8).toInt ∧ ((g 113 19).toInt ≠ 0 → (g11 113 19).toInt ≠ 0) ∧ (g 113 15).toInt ≤ (g11 113 15).toInt ∧ 0 ≤ v10.toInt ∧ v10.toInt ≤ 7) := hRv10
          have y35 : 0 ≤ (g 113 14).toInt ∧ (g 113 14).toInt ≤ 160 := Inv.rd (r := 113) (c := 8) hI 14 rfl
          have y36 : 0 ≤ (g 113 15).toInt ∧ (g 113 15).toInt ≤ 160 := Inv.rd (r := 113) (c := 8) hI 15 rfl
          have y37 : 0 ≤ (g 113 19).toInt ∧ (g 113 19).toInt ≤ 6 := Inv.rd (r := 113) (c := 8) hI 19 rfl
          have y38 : 0 ≤ (g 113 6).toInt ∧ (g 113 6).toInt ≤ 4 := Inv.rd (r := 113) (c := 8) hI 6 rfl
          have y39 := hI.d8
          have y40 : 0 ≤ (g11 113 6).toInt ∧ (g11 113 6).toInt ≤ 4 := Inv.rd (r := 113) (c := 8) hRv10.1 6 rfl
          have y41 : 0 ≤ (g11 113 14).toInt ∧ (g11 113 14).toInt ≤ 160 := Inv.rd (r := 113) (c := 8) hRv10.1 14 rfl
          have y42 : 0 ≤ (g11 113 15).toInt ∧ (g11 113 15).toInt ≤ 160 := Inv.rd (r := 113) (c := 8) hRv10.1 15 rfl
          have y43 : 0 ≤ (g11 113 19).toInt ∧ (g11 113 19).toInt ≤ 6 := Inv.rd (r := 113) (c := 8) hRv10.1 19 rfl
          have y44 := hRv10.1.d8
          try have y45 := zi_and (x := v10) (y := (31 : Int32)) (by omega)
          try have y46 := zi_shl1 (x := v10) (by omega)
          refine S1.lt ?_
          intro g12 hg12
          have Ig12 : Inv g12 := Inv.up hRv10.1 hg12 rfl trivial
          have u47 : (g12 113 6).toInt = (g11 113 6).toInt := by rw [← hg12]; rfl
          have u48 : (g12 113 8).toInt = ((g11 113 8) ||| ((1 : Int32) <<< (v10 &&& 31))).toInt := by rw [← hg12]; rfl
          have u49 : (g12 113 9).toInt = (g11 113 9).toInt := by rw [← hg12]; rfl
          have u50 : (g12 113 14).toInt = (g11 113 14).toInt := by rw [← hg12]; rfl
          have u51 : (g12 113 15).toInt = (g11 113 15).toInt := by rw [← hg12]; rfl
          have u52 : (g12 113 17).toInt = (g11 113 17).toInt := by rw [← hg12]; rfl
          have u53 : (g12 113 19).toInt = (g11 113 19).toInt := by rw [← hg12]; rfl
          have u54 : (g12 116 8).toInt = (g11 116 8).toInt := by rw [← hg12]; rfl
          refine S1.ite (fun hc13 => ?_) (fun hc13 => ?_)
          · skip
            have chc13 := zc_neT hc13
            try have y55 := zi_mul (x := (7 : Int32)) (y := v10) (n := 7) (by decide) (by omega) (by omega)
            try have y56 := zi_add (x := (9 : Int32)) (y := (7 * v10)) (by omega) (by omega)
            try have y57 := zi_add (x := (9 + (7 * v10))) (y := (5 : Int32)) (by omega) (by omega)
            refine S1.ix (by omega) ?_
            intro k15 hk15 bk15
            refine S1.lt ?_
            intro g14 hg14
            have Ig14 : Inv g14 := Inv.up Ig12 hg14 rfl (bdP_dr (by omega) ((stP_d (d := v10.toInt) (o := 5) (by omega) (by omega) (by omega)).mpr ⟨fun w => by omega, fun w => by omega⟩))
            have u58 : (g14 113 6).toInt = (g12 113 6).toInt := by rw [← hg14]; rfl
            have u59 : (g14 113 8).toInt = (g12 113 8).toInt := by rw [← hg14]; rfl
            have u60 : (g14 113 9).toInt = (g12 113 9).toInt := by rw [← hg14]; rfl
            have u61 : (g14 113 14).toInt = (g12 113 14).toInt := by rw [← hg14]; rfl
            have u62 : (g14 113 15).toInt = (g12 113 15).toInt := by rw [← hg14]; rfl
            have u63 : (g14 113 17).toInt = (g12 113 17).toInt := by rw [← hg14]; rfl
            have u64 : (g14 113 19).toInt = (g12 113 19).toInt := by rw [← hg14]; rfl
            try have u65 : (g14 116 8).toInt = (g12 116 8).toInt := zg_upk hg14 (by omega)
            exact S1.ret (show Inv g14 ∧ (((g 113 19).toInt ≠ 0 → (g14 113 19).toInt ≠ 0) ∧ (g 113 15).toInt ≤ (g14 113 15).toInt) from ⟨Ig14, (by omega)⟩)
          · skip
            have chc13 := zc_neF hc13
            try have y66 := zi_mul (x := (7 : Int32)) (y := v10) (n := 7) (by decide) (by omega) (by omega)
            try have y67 := zi_add (x := (9 : Int32)) (y := (7 * v10)) (by omega) (by omega)
            try have y68 := zi_add (x := (9 + (7 * v10))) (y := (5 : Int32)) (by omega) (by omega)
            refine S1.ix (by omega) ?_
            intro k17 hk17 bk17
            refine S1.lt ?_
            intro g16 hg16
            have Ig16 : Inv g16 := Inv.up Ig12 hg16 rfl (bdP_dr (by omega) ((stP_d (d := v10.toInt) (o := 5) (by omega) (by omega) (by omega)).mpr ⟨fun w => by omega, fun w => by omega⟩))
            have u69 : (g16 113 6).toInt = (g12 113 6).toInt := by rw [← hg16]; rfl
            have u70 : (g16 113 8).toInt = (g12 113 8).toInt := by rw [← hg16]; rfl
            have u71 : (g16 113 9).toInt = (g12 113 9).toInt := by rw [← hg16]; rfl
            have u72 : (g16 113 14).toInt = (g12 113 14).toInt := by rw [← hg16]; rfl
            have u73 : (g16 113 15).toInt = (g12 113 15).toInt := by rw [← hg16]; rfl
            have u74 : (g16 113 17).toInt = (g12 113 17).toInt := by rw [← hg16]; rfl
            have u75 : (g16 113 19).toInt = (g12 113 19).toInt := by rw [← hg16]; rfl
            try have u76 : (g16 116 8).toInt = (g12 116 8).toInt := zg_upk hg16 (by omega)
            exact S1.ret (show Inv g16 ∧ (((g 113 19).toInt ≠ 0 → (g16 113 19).toInt ≠ 0) ∧ (g 113 15).toInt ≤ (g16 113 15).toInt) from ⟨Ig16, (by omega)⟩)
        · skip
          have chc9 := zc_bF hc9
          refine S1.ite (fun hc18 => ?_) (fun hc18 => ?_)
          · skip
            have chc18 := zc_bT hc18
            refine S1.bp (s_126 (g 113 8) g hI trivial) ?_
            intro v19 g20 hvv19 hRv19
            have hRv19 : Inv g20 ∧ ((g20 113 6).toInt = (g 113 6).toInt ∧ (g20 113 14).toInt = (g 113 14).toInt ∧ (g20 116 8).toInt = (g 116 8).toInt ∧ ((g 113 19).toInt ≠ 0 → (g20 113 19).toInt ≠ 0) ∧ (g 113 15).toInt ≤ (g20 113 15).toInt ∧ 0 ≤ v19.toInt ∧ v19.toInt ≤ 7) := hRv19
            have y77 : 0 ≤ (g 113 14).toInt ∧ (g 113 14).toInt ≤ 160 := Inv.rd (r := 113) (c := 8) hI 14 rfl
            have y78 : 0 ≤ (g 113 15).toInt ∧ (g 113 15).toInt ≤ 160 := Inv.rd (r := 113) (c := 8) hI 15 rfl
            have y79 : 0 ≤ (g 113 19).toInt ∧ (g 113 19).toInt ≤ 6 := Inv.rd (r := 113) (c := 8) hI 19 rfl
            have y80 : 0 ≤ (g 113 6).toInt ∧ (g 113 6).toInt ≤ 4 := Inv.rd (r := 113) (c := 8) hI 6 rfl
            have y81 := hI.d8
            have y82 : 0 ≤ (g20 113 6).toInt ∧ (g20 113 6).toInt ≤ 4 := Inv.rd (r := 113) (c := 8) hRv19.1 6 rfl
            have y83 : 0 ≤ (g20 113 14).toInt ∧ (g20 113 14).toInt ≤ 160 := Inv.rd (r := 113) (c := 8) hRv19.1 14 rfl
            have y84 : 0 ≤ (g20 113 15).toInt ∧ (g20 113 15).toInt ≤ 160 := Inv.rd (r := 113) (c := 8) hRv19.1 15 rfl
            have y85 : 0 ≤ (g20 113 19).toInt ∧ (g20 113 19).toInt ≤ 6 := Inv.rd (r := 113) (c := 8) hRv19.1 19 rfl
            have y86 := hRv19.1.d8
            try have y87 := zi_and (x := v19) (y := (31 : Int32)) (by omega)
            try have y88 := zi_shl1 (x := v19) (by omega)
            refine S1.lt ?_
            intro g21 hg21
            have Ig21 : Inv g21 := Inv.up hRv19.1 hg21 rfl trivial
            have u89 : (g21 113 6).toInt = (g20 113 6).toInt := by rw [← hg21]; rfl
            have u90 : (g21 113 8).toInt = ((g20 113 8) ||| ((1 : Int32) <<< (v19 &&& 31))).toInt := by rw [← hg21]; rfl
            have u91 : (g21 113 9).toInt = (g20 113 9).toInt := by rw [← hg21]; rfl
            have u92 : (g21 113 14).toInt = (g20 113 14).toInt := by rw [← hg21]; rfl
            have u93 : (g21 113 15).toInt = (g20 113 15).toInt := by rw [← hg21]; rfl
            have u94 : (g21 113 17).toInt = (g20 113 17).toInt := by rw [← hg21]; rfl
            have u95 : (g21 113 19).toInt = (g20 113 19).toInt := by rw [← hg21]; rfl
            have u96 : (g21 116 8).toInt = (g20 116 8).toInt := by rw [← hg21]; rfl
            refine S1.ite (fun hc22 => ?_) (fun hc22 => ?_)
            · skip
              have chc22 := zc_neT hc22
              try have y97 := zi_mul (x := (7 : Int32)) (y := v19) (n := 7) (by decide) (by omega) (by omega)
              try have y98 := zi_add (x := (9 : Int32)) (y := (7 * v19)) (by omega) (by omega)
              try have y99 := zi_add (x := (9 + (7 * v19))) (y := (5 : Int32)) (by omega) (by omega)
              refine S1.ix (by omega) ?_
              intro k24 hk24 bk24
              refine S1.lt ?_
              intro g23 hg23
              have Ig23 : Inv g23 := Inv.up Ig21 hg23 rfl (bdP_dr (by omega) ((stP_d (d := v19.toInt) (o := 5) (by omega) (by omega) (by omega)).mpr ⟨fun w => by omega, fun w => by omega⟩))
              have u100 : (g23 113 6).toInt = (g21 113 6).toInt := by rw [← hg23]; rfl
              have u101 : (g23 113 8).toInt = (g21 113 8).toInt := by rw [← hg23]; rfl
              have u102 : (g23 113 9).toInt = (g21 113 9).toInt := by rw [← hg23]; rfl
              have u103 : (g23 113 14).toInt = (g21 113 14).toInt := by rw [← hg23]; rfl
              have u104 : (g23 113 15).toInt = (g21 113 15).toInt := by rw [← hg23]; rfl
              have u105 : (g23 113 17).toInt = (g21 113 17).toInt := by rw [← hg23]; rfl
              have u106 : (g23 113 19).toInt = (g21 113 19).toInt := by rw [← hg23]; rfl
              try have u107 : (g23 116 8).toInt = (g21 116 8).toInt := zg_upk hg23 (by omega)
              exact S1.ret (show Inv g23 ∧ (((g 113 19).toInt ≠ 0 → (g23 113 19).toInt ≠ 0) ∧ (g 113 15).toInt ≤ (g23 113 15).toInt) from ⟨Ig23, (by omega)⟩)
            · skip
              have chc22 := zc_neF hc22
              try have y108 := zi_mul (x := (7 : Int32)) (y := v19) (n := 7) (by decide) (by omega) (by omega)
              try have y109 := zi_add (x := (9 : Int32)) (y := (7 * v19)) (by omega) (by omega)
              try have y110 := zi_add (x := (9 + (7 * v19))) (y := (5 : Int32)) (by omega) (by omega)
              refine S1.ix (by omega) ?_
              intro k26 hk26 bk26
              refine S1.lt ?_
              intro g25 hg25
              have Ig25 : Inv g25 := Inv.up Ig21 hg25 rfl (bdP_dr (by omega) ((stP_d (d := v19.toInt) (o := 5) (by omega) (by omega) (by omega)).mpr ⟨fun w => by omega, fun w => by omega⟩))
              have u111 : (g25 113 6).toInt = (g21 113 6).toInt := by rw [← hg25]; rfl
              have u112 : (g25 113 8).toInt = (g21 113 8).toInt := by rw [← hg25]; rfl
              have u113 : (g25 113 9).toInt = (g21 113 9).toInt := by rw [← hg25]; rfl
              have u114 : (g25 113 14).toInt = (g21 113 14).toInt := by rw [← hg25]; rfl
              have u115 : (g25 113 15).toInt = (g21 113 15).toInt := by rw [← hg25]; rfl
              have u116 : (g25 113 17).toInt = (g21 113 17).toInt := by rw [← hg25]; rfl
              have u117 : (g25 113 19).toInt = (g21 113 19).toInt := by rw [← hg25]; rfl
              try have u118 : (g25 116 8).toInt = (g21 116 8).toInt := zg_upk hg25 (by omega)
              exact S1.ret (show Inv g25 ∧ (((g 113 19).toInt ≠ 0 → (g25 113 19).toInt ≠ 0) ∧ (g 113 15).toInt ≤ (g25 113 15).toInt) from ⟨Ig25, (by omega)⟩)
          · skip
            have chc18 := zc_bF hc18
            refine S1.ite (fun hc27 => ?_) (fun hc27 => ?_)
            · skip
              have chc27 := zc_bT hc27
              refine S1.bp (s_126 (g 113 9) g hI trivial) ?_
              intro v28 g29 hvv28 hRv28
              have hRv28 : Inv g29 ∧ ((g29 113 6).toInt = (g 113 6).toInt ∧ (g29 113 14).toInt = (g 113 14).toInt ∧ (g29 116 8).toInt = (g 116 8).toInt ∧ ((g 113 19).toInt ≠ 0 → (g29 113 19).toInt ≠ 0) ∧ (g 113 15).toInt ≤ (g29 113 15).toInt ∧ 0 ≤ v28.toInt ∧ v28.toInt ≤ 7) := hRv28
              have y119 : 0 ≤ (g 113 14).toInt ∧ (g 113 14).toInt ≤ 160 := Inv.rd (r := 113) (c := 8) hI 14 rfl
              have y120 : 0 ≤ (g 113 15).toInt ∧ (g 113 15).toInt ≤ 160 := Inv.rd (r := 113) (c := 8) hI 15 rfl
              have y121 : 0 ≤ (g 113 19).toInt ∧ (g 113 19).toInt ≤ 6 := Inv.rd (r := 113) (c := 8) hI 19 rfl
              have y122 : 0 ≤ (g 113 6).toInt ∧ (g 113 6).toInt ≤ 4 := Inv.rd (r := 113) (c := 8) hI 6 rfl
              have y123 := hI.d8
              have y124 : 0 ≤ (g29 113 6).toInt ∧ (g29 113 6).toInt ≤ 4 := Inv.rd (r := 113) (c := 8) hRv28.1 6 rfl
              have y125 : 0 ≤ (g29 113 14).toInt ∧ (g29 113 14).toInt ≤ 160 := Inv.rd (r := 113) (c := 8) hRv28.1 14 rfl
              have y126 : 0 ≤ (g29 113 15).toInt ∧ (g29 113 15).toInt ≤ 160 := Inv.rd (r := 113) (c := 8) hRv28.1 15 rfl
              have y127 : 0 ≤ (g29 113 19).toInt ∧ (g29 113 19).toInt ≤ 6 := Inv.rd (r := 113) (c := 8) hRv28.1 19 rfl
              have y128 := hRv28.1.d8
              try have y129 := zi_and (x := v28) (y := (31 : Int32)) (by omega)
              try have y130 := zi_shl1 (x := v28) (by omega)
              refine S1.lt ?_
              intro g30 hg30
              have Ig30 : Inv g30 := Inv.up hRv28.1 hg30 rfl trivial
              have u131 : (g30 113 6).toInt = (g29 113 6).toInt := by rw [← hg30]; rfl
              have u132 : (g30 113 8).toInt = (g29 113 8).toInt := by rw [← hg30]; rfl
              have u133 : (g30 113 9).toInt = ((g29 113 9) ||| ((1 : Int32) <<< (v28 &&& 31))).toInt := by rw [← hg30]; rfl
              have u134 : (g30 113 14).toInt = (g29 113 14).toInt := by rw [← hg30]; rfl
              have u135 : (g30 113 15).toInt = (g29 113 15).toInt := by rw [← hg30]; rfl
              have u136 : (g30 113 17).toInt = (g29 113 17).toInt := by rw [← hg30]; rfl
              have u137 : (g30 113 19).toInt = (g29 113 19).toInt := by rw [← hg30]; rfl
              have u138 : (g30 116 8).toInt = (g29 116 8).toInt := by rw [← hg30]; rfl
              refine S1.bp (s_121 (0 : Int32) (10 : Int32) g30 Ig30 (by omega)) ?_
              intro v31 g32 hvv31 hRv31
              have hRv31 : Inv g32 ∧ ((g32 113 6).toInt = (g30 113 6).toInt ∧ (g32 113 14).toInt = (g30 113 14).toInt ∧ (g32 116 8).toInt = (g30 116 8).toInt ∧ ((g30 113 19).toInt ≠ 0 → (g32 113 19).toInt ≠ 0) ∧ (g30 113 15).toInt ≤ (g32 113 15).toInt ∧ ((g32 113 19).toInt = 0 ∧ (g32 113 17).toInt ≠ 0 → (g30 113 15).toInt < (g32 113 15).toInt) ∧ (v31.toInt = 0 ∨ (0 : Int32).toInt ≤ v31.toInt ∧ v31.toInt ≤ (10 : Int32).toInt)) := hRv31
              have y139 : 0 ≤ (g30 113 14).toInt ∧ (g30 113 14).toInt ≤ 160 := Inv.rd (r := 113) (c := 8) Ig30 14 rfl
              have y140 : 0 ≤ (g30 113 15).toInt ∧ (g30 113 15).toInt ≤ 160 := Inv.rd (r := 113) (c := 8) Ig30 15 rfl
              have y141 : 0 ≤ (g30 113 19).toInt ∧ (g30 113 19).toInt ≤ 6 := Inv.rd (r := 113) (c := 8) Ig30 19 rfl
              have y142 : 0 ≤ (g30 113 6).toInt ∧ (g30 113 6).toInt ≤ 4 := Inv.rd (r := 113) (c := 8) Ig30 6 rfl
              have y143 := Ig30.d8
              have y144 : 0 ≤ (g32 113 6).toInt ∧ (g32 113 6).toInt ≤ 4 := Inv.rd (r := 113) (c := 8) hRv31.1 6 rfl
              have y145 : 0 ≤ (g32 113 14).toInt ∧ (g32 113 14).toInt ≤ 160 := Inv.rd (r := 113) (c := 8) hRv31.1 14 rfl
              have y146 : 0 ≤ (g32 113 15).toInt ∧ (g32 113 15).toInt ≤ 160 := Inv.rd (r := 113) (c := 8) hRv31.1 15 rfl
              have y147 : 0 ≤ (g32 113 19).toInt ∧ (g32 113 19).toInt ≤ 6 := Inv.rd (r := 113) (c := 8) hRv31.1 19 rfl
              have y148 := hRv31.1.d8
              try have y149 := zi_mul (x := (7 : Int32)) (y := v28) (n := 7) (by decide) (by omega) (by omega)
              try have y150 := zi_add (x := (9 : Int32)) (y := (7 * v28)) (by omega) (by omega)
              try have y151 := zi_add (x := (9 + (7 * v28))) (y := (6 : Int32)) (by omega) (by omega)
              refine S1.ix (by omega) ?_
              intro k34 hk34 bk34
              refine S1.lt ?_
              intro g33 hg33
              have Ig33 : Inv g33 := Inv.up hRv31.1 hg33 rfl (bdP_dr (by omega) ((stP_d (d := v28.toInt) (o := 6) (by omega) (by omega) (by omega)).mpr ⟨fun w => by omega, fun w => by omega⟩))
              have u152 : (g33 113 6).toInt = (g32 113 6).toInt := by rw [← hg33]; rfl
              have u153 : (g33 113 8).toInt = (g32 113 8).toInt := by rw [← hg33]; rfl
              have u154 : (g33 113 9).toInt = (g32 113 9).toInt := by rw [← hg33]; rfl
              have u155 : (g33 113 14).toInt = (g32 113 14).toInt := by rw [← hg33]; rfl
              have u156 : (g33 113 15).toInt = (g32 113 15).toInt := by rw [← hg33]; rfl
              have u157 : (g33 113 17).toInt = (g32 113 17).toInt := by rw [← hg33]; rfl
              have u158 : (g33 113 19).toInt = (g32 113 19).toInt := by rw [← hg33]; rfl
              try have u159 : (g33 116 8).toInt = (g32 116 8).toInt := zg_upk hg33 (by omega)
              exact S1.ret (show Inv g33 ∧ (((g 113 19).toInt ≠ 0 → (g33 113 19).toInt ≠ 0) ∧ (g 113 15).toInt ≤ (g33 113 15).toInt) from ⟨Ig33, (by omega)⟩)
            · skip
              have chc27 := zc_bF hc27
              refine S1.bp (s_126 (g 113 8) g hI trivial) ?_
              intro v35 g36 hvv35 hRv35
              have hRv35 : Inv g36 ∧ ((g36 113 6).toInt = (g 113 6).toInt ∧ (g36 113 14).toInt = (g 113 14).toInt ∧ (g36 116 8).toInt = (g 116 8).toInt ∧ ((g 113 19).toInt ≠ 0 → (g36 113 19).toInt ≠ 0) ∧ (g 113 15).toInt ≤ (g36 113 15).toInt ∧ 0 ≤ v35.toInt ∧ v35.toInt ≤ 7) := hRv35
              have y160 : 0 ≤ (g 113 14).toInt ∧ (g 113 14).toInt ≤ 160 := Inv.rd (r := 113) (c := 8) hI 14 rfl
              have y161 : 0 ≤ (g 113 15).toInt ∧ (g 113 15).toInt ≤ 160 := Inv.rd (r := 113) (c := 8) hI 15 rfl
              have y162 : 0 ≤ (g 113 19).toInt ∧ (g 113 19).toInt ≤ 6 := Inv.rd (r := 113) (c := 8) hI 19 rfl
              have y163 : 0 ≤ (g 113 6).toInt ∧ (g 113 6).toInt ≤ 4 := Inv.rd (r := 113) (c := 8) hI 6 rfl
              have y164 := hI.d8
              have y165 : 0 ≤ (g36 113 6).toInt ∧ (g36 113 6).toInt ≤ 4 := Inv.rd (r := 113) (c := 8) hRv35.1 6 rfl
              have y166 : 0 ≤ (g36 113 14).toInt ∧ (g36 113 14).toInt ≤ 160 := Inv.rd (r := 113) (c := 8) hRv35.1 14 rfl
              have y167 : 0 ≤ (g36 113 15).toInt ∧ (g36 113 15).toInt ≤ 160 := Inv.rd (r := 113) (c := 8) hRv35.1 15 rfl
              have y168 : 0 ≤ (g36 113 19).toInt ∧ (g36 113 19).toInt ≤ 6 := Inv.rd (r := 113) (c := 8) hRv35.1 19 rfl
              have y169 := hRv35.1.d8
              try have y170 := zi_and (x := v35) (y := (31 : Int32)) (by omega)
              try have y171 := zi_shl1 (x := v35) (by omega)
              refine S1.lt ?_
              intro g37 hg37
              have Ig37 : Inv g37 := Inv.up hRv35.1 hg37 rfl trivial
              have u172 : (g37 113 6).toInt = (g36 113 6).toInt := by rw [← hg37]; rfl
              have u173 : (g37 113 8).toInt = ((g36 113 8) ||| ((1 : Int32) <<< (v35 &&& 31))).toInt := by rw [← hg37]; rfl
              have u174 : (g37 113 9).toInt = (g36 113 9).toInt := by rw [← hg37]; rfl
              have u175 : (g37 113 14).toInt = (g36 113 14).toInt := by rw [← hg37]; rfl
              have u176 : (g37 113 15).toInt = (g36 113 15).toInt := by rw [← hg37]; rfl
              have u177 : (g37 113 17).toInt = (g36 113 17).toInt := by rw [← hg37]; rfl
              have u178 : (g37 113 19).toInt = (g36 113 19).toInt := by rw [← hg37]; rfl
              have u179 : (g37 116 8).toInt = (g36 116 8).toInt := by rw [← hg37]; rfl
              refine S1.ite (fun hc38 => ?_) (fun hc38 => ?_)
              · skip
                have chc38 := zc_neT hc38
                try have y180 := zi_mul (x := (7 : Int32)) (y := v35) (n := 7) (by decide) (by omega) (by omega)
                try have y181 := zi_add (x := (9 : Int32)) (y := (7 * v35)) (by omega) (by omega)
                try have y182 := zi_add (x := (9 + (7 * v35))) (y := (5 : Int32)) (by omega) (by omega)
                refine S1.ix (by omega) ?_
                intro k40 hk40 bk40
                refine S1.lt ?_
                intro g39 hg39
                have Ig39 : Inv g39 := Inv.up Ig37 hg39 rfl (bdP_dr (by omega) ((stP_d (d := v35.toInt) (o := 5) (by omega) (by omega) (by omega)).mpr ⟨fun w => by omega, fun w => by omega⟩))
                have u183 : (g39 113 6).toInt = (g37 113 6).toInt := by rw [← hg39]; rfl
                have u184 : (g39 113 8).toInt = (g37 113 8).toInt := by rw [← hg39]; rfl
                have u185 : (g39 113 9).toInt = (g37 113 9).toInt := by rw [← hg39]; rfl
                have u186 : (g39 113 14).toInt = (g37 113 14).toInt := by rw [← hg39]; rfl
                have u187 : (g39 113 15).toInt = (g37 113 15).toInt := by rw [← hg39]; rfl
                have u188 : (g39 113 17).toInt = (g37 113 17).toInt := by rw [← hg39]; rfl
                have u189 : (g39 113 19).toInt = (g37 113 19).toInt := by rw [← hg39]; rfl
                try have u190 : (g39 116 8).toInt = (g37 116 8).toInt := zg_upk hg39 (by omega)
                exact S1.ret (show Inv g39 ∧ (((g 113 19).toInt ≠ 0 → (g39 113 19).toInt ≠ 0) ∧ (g 113 15).toInt ≤ (g39 113 15).toInt) from ⟨Ig39, (by omega)⟩)
              · skip
                have chc38 := zc_neF hc38
                try have y191 := zi_mul (x := (7 : Int32)) (y := v35) (n := 7) (by decide) (by omega) (by omega)
                try have y192 := zi_add (x := (9 : Int32)) (y := (7 * v35)) (by omega) (by omega)
                try have y193 := zi_add (x := (9 + (7 * v35))) (y := (5 : Int32)) (by omega) (by omega)
                refine S1.ix (by omega) ?_
                intro k42 hk42 bk42
                refine S1.lt ?_
                intro g41 hg41
                have Ig41 : Inv g41 := Inv.up Ig37 hg41 rfl (bdP_dr (by omega) ((stP_d (d := v35.toInt) (o := 5) (by omega) (by omega) (by omega)).mpr ⟨fun w => by omega, fun w => by omega⟩))
                have u194 : (g41 113 6).toInt = (g37 113 6).toInt := by rw [← hg41]; rfl
                have u195 : (g41 113 8).toInt = (g37 113 8).toInt := by rw [← hg41]; rfl
                have u196 : (g41 113 9).toInt = (g37 113 9).toInt := by rw [← hg41]; rfl
                have u197 : (g41 113 14).toInt = (g37 113 14).toInt := by rw [← hg41]; rfl
                have u198 : (g41 113 15).toInt = (g37 113 15).toInt := by rw [← hg41]; rfl
                have u199 : (g41 113 17).toInt = (g37 113 17).toInt := by rw [← hg41]; rfl
                have u200 : (g41 113 19).toInt = (g37 113 19).toInt := by rw [← hg41]; rfl
                try have u201 : (g41 116 8).toInt = (g37 116 8).toInt := zg_upk hg41 (by omega)
                exact S1.ret (show Inv g41 ∧ (((g 113 19).toInt ≠ 0 → (g41 113 19).toInt ≠ 0) ∧ (g 113 15).toInt ≤ (g41 113 15).toInt) from ⟨Ig41, (by omega)⟩)
