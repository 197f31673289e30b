/-! printed by wip/tools/safe.py -/
/-- EveningFirst$Reader.takeDeed -/
theorem s_34 (g : G) (hI : Inv g) (hp : (g 28 10).toInt ≤ (g 28 1).toInt) : S1 (d_34 g) (fun q : Bool × G => Inv q.2 ∧ ((q.2 28 10).toInt ≤ (q.2 28 1).toInt) ∧ (q.1 = true → True) ∧ (q.1 = false → True)) := by
  unfold d_34
  have L0 := zl_0
  have L1 := zl_1
  have L3 := zl_3
  have L5 := zl_5
  have L7 := zl_7
  have L8 := zl_8
  have yp76 : 0 ≤ (g 28 1).toInt ∧ (g 28 1).toInt ≤ 160 := Inv.rd (r := 28) (c := 4) hI 1 rfl
  have yp77 : 0 ≤ (g 28 10).toInt ∧ (g 28 10).toInt ≤ 160 := Inv.rd (r := 28) (c := 4) hI 10 rfl
  have yp78 : 0 ≤ (g 28 9).toInt ∧ (g 28 9).toInt ≤ 160 := Inv.rd (r := 28) (c := 4) hI 9 rfl
  have yp79 : 0 ≤ (g 30 2).toInt ∧ (g 30 2).toInt ≤ 8 := Inv.rd (r := 30) (c := 2) hI 2 rfl
  have y1 : 0 ≤ (g 30 2).toInt ∧ (g 30 2).toInt ≤ 8 := Inv.rd (r := 30) (c := 2) hI 2 rfl
  refine S1.ite (fun hc1 => ?_) (fun hc1 => ?_)
  · skip
    have chc1 := zc_ltT hc1
    refine S1.ix (by omega) ?_
    intro k2 hk2 bk2
    try have y2 := zi_add (x := (g 30 2)) (y := (1 : Int32)) (by omega) (by omega)
    refine S1.lt ?_
    intro g3 hg3
    have Ig3 : Inv g3 := Inv.up hI hg3 rfl (show 0 ≤ ((g 30 2) + 1).toInt ∧ ((g 30 2) + 1).toInt ≤ 8 by omega)
    have u3 : (g3 28 1).toInt = (g 28 1).toInt := by rw [← hg3]; rfl
    have u4 : (g3 28 2).toInt = (g 28 2).toInt := by rw [← hg3]; rfl
    have u5 : (g3 28 9).toInt = (g 28 9).toInt := by rw [← hg3]; rfl
    have u6 : (g3 28 10).toInt = (g 28 10).toInt := by rw [← hg3]; rfl
    have u7 : (g3 28 11).toInt = (g 28 11).toInt := by rw [← hg3]; rfl
    have u8 : (g3 30 2).toInt = ((g 30 2) + 1).toInt := by rw [← hg3]; rfl
    have y9 : 0 ≤ (g3 28 1).toInt ∧ (g3 28 1).toInt ≤ 160 := Inv.rd (r := 28) (c := 4) Ig3 1 rfl
    have y10 : 0 ≤ (g3 28 10).toInt ∧ (g3 28 10).toInt ≤ 160 := Inv.rd (r := 28) (c := 4) Ig3 10 rfl
    refine S1.bp (s_38 (0 : Int32) (7 : Int32) g3 Ig3 (by omega)) ?_
    intro v4 g5 hvv4 hRv4
    have hRv4 : Inv g5 ∧ ((g5 28 10).toInt ≤ (g5 28 1).toInt) ∧ (v4 = true → (0 : Int32).toInt ≤ (g5 28 11).toInt ∧ (g5 28 11).toInt ≤ (7 : Int32).toInt) ∧ (v4 = false → True) := hRv4
    have y11 : 0 ≤ (g5 28 1).toInt ∧ (g5 28 1).toInt ≤ 160 := Inv.rd (r := 28) (c := 4) hRv4.1 1 rfl
    have y12 : 0 ≤ (g5 28 9).toInt ∧ (g5 28 9).toInt ≤ 160 := Inv.rd (r := 28) (c := 4) hRv4.1 9 rfl
    have y13 : 0 ≤ (g5 28 10).toInt ∧ (g5 28 10).toInt ≤ 160 := Inv.rd (r := 28) (c := 4) hRv4.1 10 rfl
    have y14 : 0 ≤ (g5 30 2).toInt ∧ (g5 30 2).toInt ≤ 8 := Inv.rd (r := 30) (c := 2) hRv4.1 2 rfl
    refine S1.ite (fun hc6 => ?_) (fun hc6 => ?_)
    · skip
      have chc6 := hRv4.2.2.1 hc6
      refine S1.lt ?_
      intro g7 hg7
      have Ig7 : Inv g7 := Inv.up hRv4.1 hg7 (zg_deed (b := 30) rfl hk2) trivial
      have u15 : (g7 28 1).toInt = (g5 28 1).toInt := zg_upc hg7 (zg_deed (b := 30) rfl hk2) (by decide)
      have u16 : (g7 28 2).toInt = (g5 28 2).toInt := zg_upc hg7 (zg_deed (b := 30) rfl hk2) (by decide)
      have u17 : (g7 28 9).toInt = (g5 28 9).toInt := zg_upc hg7 (zg_deed (b := 30) rfl hk2) (by decide)
      have u18 : (g7 28 10).toInt = (g5 28 10).toInt := zg_upc hg7 (zg_deed (b := 30) rfl hk2) (by decide)
      have u19 : (g7 28 11).toInt = (g5 28 11).toInt := zg_upc hg7 (zg_deed (b := 30) rfl hk2) (by decide)
      have u20 : (g7 30 2).toInt = (g5 30 2).toInt := zg_upc hg7 (zg_deed (b := 30) rfl hk2) (by decide)
      have y21 : 0 ≤ (g7 28 1).toInt ∧ (g7 28 1).toInt ≤ 160 := Inv.rd (r := 28) (c := 4) Ig7 1 rfl
      have y22 : 0 ≤ (g7 28 10).toInt ∧ (g7 28 10).toInt ≤ 160 := Inv.rd (r := 28) (c := 4) Ig7 10 rfl
      refine S1.bp (s_38 (0 : Int32) (3 : Int32) g7 Ig7 (by omega)) ?_
      intro v8 g9 hvv8 hRv8
      have hRv8 : Inv g9 ∧ ((g9 28 10).toInt ≤ (g9 28 1).toInt) ∧ (v8 = true → (0 : Int32).toInt ≤ (g9 28 11).toInt ∧ (g9 28 11).toInt ≤ (3 : Int32).toInt) ∧ (v8 = false → True) := hRv8
      have y23 : 0 ≤ (g9 28 1).toInt ∧ (g9 28 1).toInt ≤ 160 := Inv.rd (r := 28) (c := 4) hRv8.1 1 rfl
      have y24 : 0 ≤ (g9 28 9).toInt ∧ (g9 28 9).toInt ≤ 160 := Inv.rd (r := 28) (c := 4) hRv8.1 9 rfl
      have y25 : 0 ≤ (g9 28 10).toInt ∧ (g9 28 10).toInt ≤ 160 := Inv.rd (r := 28) (c := 4) hRv8.1 10 rfl
      have y26 : 0 ≤ (g9 30 2).toInt ∧ (g9 30 2).toInt ≤ 8 := Inv.rd (r := 30) (c := 2) hRv8.1 2 rfl
      refine S1.ite (fun hc10 => ?_) (fun hc10 => ?_)
      · skip
        have chc10 := hRv8.2.2.1 hc10
        refine S1.lt ?_
        intro g11 hg11
        have Ig11 : Inv g11 := Inv.up hRv8.1 hg11 (zg_deed (b := 30) rfl hk2) (show 0 ≤ (g9 28 11).toInt ∧ (g9 28 11).toInt ≤ 3 by omega)
        have u27 : (g11 28 1).toInt = (g9 28 1).toInt := zg_upc hg11 (zg_deed (b := 30) rfl hk2) (by decide)
        have u28 : (g11 28 2).toInt = (g9 28 2).toInt := zg_upc hg11 (zg_deed (b := 30) rfl hk2) (by decide)
        have u29 : (g11 28 9).toInt = (g9 28 9).toInt := zg_upc hg11 (zg_deed (b := 30) rfl hk2) (by decide)
        have u30 : (g11 28 10).toInt = (g9 28 10).toInt := zg_upc hg11 (zg_deed (b := 30) rfl hk2) (by decide)
        have u31 : (g11 28 11).toInt = (g9 28 11).toInt := zg_upc hg11 (zg_deed (b := 30) rfl hk2) (by decide)
        have u32 : (g11 30 2).toInt = (g9 30 2).toInt := zg_upc hg11 (zg_deed (b := 30) rfl hk2) (by decide)
        have y33 : 0 ≤ (g11 28 1).toInt ∧ (g11 28 1).toInt ≤ 160 := Inv.rd (r := 28) (c := 4) Ig11 1 rfl
        have y34 : 0 ≤ (g11 28 10).toInt ∧ (g11 28 10).toInt ≤ 160 := Inv.rd (r := 28) (c := 4) Ig11 10 rfl
        refine S1.bp (s_38 (0 : Int32) (3 : Int32) g11 Ig11 (by omega)) ?_
        intro v12 g13 hvv12 hRv12
        have hRv12 : Inv g13 ∧ ((g13 28 10).toInt ≤ (g13 28 1).toInt) ∧ (v12 = true → (0 : Int32).toInt ≤ (g13 28 11).toInt ∧ (g13 28 11).toInt ≤ (3 : Int32).toInt) ∧ (v12 = false → True) := hRv12
        have y35 : 0 ≤ (g13 28 1).toInt ∧ (g13 28 1).toInt ≤ 160 := Inv.rd (r := 28) (c := 4) hRv12.1 1 rfl
        have y36 : 0 ≤ (g13 28 9).toInt ∧ (g13 28 9).toInt ≤ 160 := Inv.rd (r := 28) (c := 4) hRv12.1 9 rfl
        have y37 : 0 ≤ (g13 28 10).toInt ∧ (g13 28 10).toInt ≤ 160 := Inv.rd (r := 28) (c := 4) hRv12.1 10 rfl
        have y38 : 0 ≤ (g13 30 2).toInt ∧ (g13 30 2).toInt ≤ 8 := Inv.rd (r := 30) (c := 2) hRv12.1 2 rfl
        refine S1.ite (fun hc14 => ?_) (fun hc14 => ?_)
        · skip
          have chc14 := hRv12.2.2.1 hc14
          refine S1.lt ?_
          intro g15 hg15
          have Ig15 : Inv g15 := Inv.up hRv12.1 hg15 (zg_deed (b := 30) rfl hk2) trivial
          have u39 : (g15 28 1).toInt = (g13 28 1).toInt := zg_upc hg15 (zg_deed (b := 30) rfl hk2) (by decide)
          have u40 : (g15 28 2).toInt = (g13 28 2).toInt := zg_upc hg15 (zg_deed (b := 30) rfl hk2) (by decide)
          have u41 : (g15 28 9).toInt = (g13 28 9).toInt := zg_upc hg15 (zg_deed (b := 30) rfl hk2) (by decide)
          have u42 : (g15 28 10).toInt = (g13 28 10).toInt := zg_upc hg15 (zg_deed (b := 30) rfl hk2) (by decide)
          have u43 : (g15 28 11).toInt = (g13 28 11).toInt := zg_upc hg15 (zg_deed (b := 30) rfl hk2) (by decide)
          have u44 : (g15 30 2).toInt = (g13 30 2).toInt := zg_upc hg15 (zg_deed (b := 30) rfl hk2) (by decide)
          have y45 : 0 ≤ (g15 28 1).toInt ∧ (g15 28 1).toInt ≤ 160 := Inv.rd (r := 28) (c := 4) Ig15 1 rfl
          have y46 : 0 ≤ (g15 28 10).toInt ∧ (g15 28 10).toInt ≤ 160 := Inv.rd (r := 28) (c := 4) Ig15 10 rfl
          refine S1.bp (s_38 (0 : Int32) (5 : Int32) g15 Ig15 (by omega)) ?_
          intro v16 g17 hvv16 hRv16
          have hRv16 : Inv g17 ∧ ((g17 28 10).toInt ≤ (g17 28 1).toInt) ∧ (v16 = true → (0 : Int32).toInt ≤ (g17 28 11).toInt ∧ (g17 28 11).toInt ≤ (5 : Int32).toInt) ∧ (v16 = false → True) := hRv16
          have y47 : 0 ≤ (g17 28 1).toInt ∧ (g17 28 1).toInt ≤ 160 := Inv.rd (r := 28) (c := 4) hRv16.1 1 rfl
          have y48 : 0 ≤ (g17 28 9).toInt ∧ (g17 28 9).toInt ≤ 160 := Inv.rd (r := 28) (c := 4) hRv16.1 9 rfl
          have y49 : 0 ≤ (g17 28 10).toInt ∧ (g17 28 10).toInt ≤ 160 := Inv.rd (r := 28) (c := 4) hRv16.1 10 rfl
          have y50 : 0 ≤ (g17 30 2).toInt ∧ (g17 30 2).toInt ≤ 8 := Inv.rd (r := 30) (c := 2) hRv16.1 2 rfl
          refine S1.ite (fun hc18 => ?_) (fun hc18 => ?_)
          · skip
            have chc18 := hRv16.2.2.1 hc18
            refine S1.lt ?_
            intro g19 hg19
            have Ig19 : Inv g19 := Inv.up hRv16.1 hg19 (zg_deed (b := 30) rfl hk2) (show 0 ≤ (g17 28 11).toInt ∧ (g17 28 11).toInt ≤ 5 by omega)
            have u51 : (g19 28 1).toInt = (g17 28 1).toInt := zg_upc hg19 (zg_deed (b := 30) rfl hk2) (by decide)
            have u52 : (g19 28 2).toInt = (g17 28 2).toInt := zg_upc hg19 (zg_deed (b := 30) rfl hk2) (by decide)
            have u53 : (g19 28 9).toInt = (g17 28 9).toInt := zg_upc hg19 (zg_deed (b := 30) rfl hk2) (by decide)
            have u54 : (g19 28 10).toInt = (g17 28 10).toInt := zg_upc hg19 (zg_deed (b := 30) rfl hk2) (by decide)
            have u55 : (g19 28 11).toInt = (g17 28 11).toInt := zg_upc hg19 (zg_deed (b := 30) rfl hk2) (by decide)
            have u56 : (g19 30 2).toInt = (g17 30 2).toInt := zg_upc hg19 (zg_deed (b := 30) rfl hk2) (by decide)
            have y57 : 0 ≤ (g19 28 1).toInt ∧ (g19 28 1).toInt ≤ 160 := Inv.rd (r := 28) (c := 4) Ig19 1 rfl
            have y58 : 0 ≤ (g19 28 10).toInt ∧ (g19 28 10).toInt ≤ 160 := Inv.rd (r := 28) (c := 4) Ig19 10 rfl
            refine S1.bp (s_37 g19 Ig19 (by omega)) ?_
            intro v20 g21 hvv20 hRv20
            have hRv20 : Inv g21 ∧ ((g21 28 10).toInt ≤ (g21 28 1).toInt) := hRv20
            have y59 : 0 ≤ (g21 28 1).toInt ∧ (g21 28 1).toInt ≤ 160 := Inv.rd (r := 28) (c := 4) hRv20.1 1 rfl
            have y60 : 0 ≤ (g21 28 9).toInt ∧ (g21 28 9).toInt ≤ 160 := Inv.rd (r := 28) (c := 4) hRv20.1 9 rfl
            have y61 : 0 ≤ (g21 28 10).toInt ∧ (g21 28 10).toInt ≤ 160 := Inv.rd (r := 28) (c := 4) hRv20.1 10 rfl
            have y62 : 0 ≤ (g21 30 2).toInt ∧ (g21 30 2).toInt ≤ 8 := Inv.rd (r := 30) (c := 2) hRv20.1 2 rfl
            refine S1.lt ?_
            intro g22 hg22
            have Ig22 : Inv g22 := Inv.up hRv20.1 hg22 (zg_deed (b := 30) rfl hk2) trivial
            have u63 : (g22 28 1).toInt = (g21 28 1).toInt := zg_upc hg22 (zg_deed (b := 30) rfl hk2) (by decide)
            have u64 : (g22 28 2).toInt = (g21 28 2).toInt := zg_upc hg22 (zg_deed (b := 30) rfl hk2) (by decide)
            have u65 : (g22 28 9).toInt = (g21 28 9).toInt := zg_upc hg22 (zg_deed (b := 30) rfl hk2) (by decide)
            have u66 : (g22 28 10).toInt = (g21 28 10).toInt := zg_upc hg22 (zg_deed (b := 30) rfl hk2) (by decide)
            have u67 : (g22 28 11).toInt = (g21 28 11).toInt := zg_upc hg22 (zg_deed (b := 30) rfl hk2) (by decide)
            have u68 : (g22 30 2).toInt = (g21 30 2).toInt := zg_upc hg22 (zg_deed (b := 30) rfl hk2) (by decide)
            refine S1.ite (fun hc23 => ?_) (fun hc23 => ?_)
            · skip
              have chc23 := zc_neT hc23
              exact S1.ret (show Inv g22 ∧ ((g22 28 10).toInt ≤ (g22 28 1).toInt) ∧ (false = true → True) ∧ (false = false → True) from ⟨Ig22, (by omega), (fun _ => trivial), (fun _ => trivial)⟩)
            · skip
              have chc23 := zc_neF hc23
              exact S1.ret (show Inv g22 ∧ ((g22 28 10).toInt ≤ (g22 28 1).toInt) ∧ (true = true → True) ∧ (true = false → True) from ⟨Ig22, (by omega), (fun _ => trivial), (fun _ => trivial)⟩)
          · skip
            have chc18 := hRv16.2.2.2 hc18
            exact S1.ret (show Inv g17 ∧ ((g17 28 10).toInt ≤ (g17 28 1).toInt) ∧ (false = true → True) ∧ (false = false → True) from ⟨hRv16.1, (by omega), (fun _ => trivial), (fun _ => trivial)⟩)
        · skip
          have chc14 := hRv12.2.2.2 hc14
          exact S1.ret (show Inv g13 ∧ ((g13 28 10).toInt ≤ (g13 28 1).toInt) ∧ (false = true → True) ∧ (false = false → True) from ⟨hRv12.1, (by omega), (fun _ => trivial), (fun _ => trivial)⟩)
      · skip
        have chc10 := hRv8.2.2.2 hc10
        exact S1.ret (show Inv g9 ∧ ((g9 28 10).toInt ≤ (g9 28 1).toInt) ∧ (false = true → True) ∧ (false = false → True) from ⟨hRv8.1, (by omega), (fun _ => trivial), (fun _ => trivial)⟩)
    · skip
      have chc6 := hRv4.2.2.2 hc6
      exact S1.ret (show Inv g5 ∧ ((g5 28 10).toInt ≤ (g5 28 1).toInt) ∧ (false = true → True) ∧ (false = false → True) from ⟨hRv4.1, (by omega), (fun _ => trivial), (fun _ => trivial)⟩)
  · skip
    have chc1 := zc_ltF hc1
    have y69 : 0 ≤ (g 28 9).toInt ∧ (g 28 9).toInt ≤ 160 := Inv.rd (r := 28) (c := 4) hI 9 rfl
    refine S1.pc (s_44 (5 : Int32) (g 28 9) g hI trivial) ?_
    intro v24 g25 hvv24 hRv24
    have hRv24 : Inv g25 ∧ ((g25 28 10).toInt = (g 28 10).toInt ∧ (g25 28 1).toInt = (g 28 1).toInt) ∧ (v24 = true → (0 : Int) = 1) ∧ (v24 = false → True) := hRv24
    have y70 : 0 ≤ (g 28 1).toInt ∧ (g 28 1).toInt ≤ 160 := Inv.rd (r := 28) (c := 4) hI 1 rfl
    have y71 : 0 ≤ (g 28 10).toInt ∧ (g 28 10).toInt ≤ 160 := Inv.rd (r := 28) (c := 4) hI 10 rfl
    have y72 : 0 ≤ (g25 28 1).toInt ∧ (g25 28 1).toInt ≤ 160 := Inv.rd (r := 28) (c := 4) hRv24.1 1 rfl
    have y73 : 0 ≤ (g25 28 9).toInt ∧ (g25 28 9).toInt ≤ 160 := Inv.rd (r := 28) (c := 4) hRv24.1 9 rfl
    have y74 : 0 ≤ (g25 28 10).toInt ∧ (g25 28 10).toInt ≤ 160 := Inv.rd (r := 28) (c := 4) hRv24.1 10 rfl
    have y75 : 0 ≤ (g25 30 2).toInt ∧ (g25 30 2).toInt ≤ 8 := Inv.rd (r := 30) (c := 2) hRv24.1 2 rfl
    exact S1.ret (show Inv g25 ∧ ((g25 28 10).toInt ≤ (g25 28 1).toInt) ∧ (v24 = true → True) ∧ (v24 = false → True) from ⟨hRv24.1, (by omega), (fun _ => trivial), (fun _ => trivial)⟩)
/-- EveningFirst$Reader.takeMark -/
theorem s_35 (x1 : Int32) (g : G) (hI : Inv g) (hp : (g 28 10).toInt ≤ (g 28 1).toInt) : S1 (d_35 x1 g) (fun q : Bool × G => Inv q.2 ∧ ((q.2 28 10).toInt ≤ (q.2 28 1).toInt) ∧ (q.1 = true → True) ∧ (q.1 = false → True)) := by
  unfold d_35
  have L0 := zl_0
  have L1 := zl_1
  have L4 := zl_4
  have L7 := zl_7
  have L31 := zl_31
  have yp26 : 0 ≤ (g 28 1).toInt ∧ (g 28 1).toInt ≤ 160 := Inv.rd (r := 28) (c := 4) hI 1 rfl
  have yp27 : 0 ≤ (g 28 10).toInt ∧ (g 28 10).toInt ≤ 160 := Inv.rd (r := 28) (c := 4) hI 10 rfl
  have yp28 : 0 ≤ (g 28 9).toInt ∧ (g 28 9).toInt ≤ 160 := Inv.rd (r := 28) (c := 4) hI 9 rfl
  have y1 : 0 ≤ (g 28 1).toInt ∧ (g 28 1).toInt ≤ 160 := Inv.rd (r := 28) (c := 4) hI 1 rfl
  have y2 : 0 ≤ (g 28 10).toInt ∧ (g 28 10).toInt ≤ 160 := Inv.rd (r := 28) (c := 4) hI 10 rfl
  refine S1.bp (s_38 (0 : Int32) (7 : Int32) g hI (by omega)) ?_
  intro v1 g2 hvv1 hRv1
  have hRv1 : Inv g2 ∧ ((g2 28 10).toInt ≤ (g2 28 1).toInt) ∧ (v1 = true → (0 : Int32).toInt ≤ (g2 28 11).toInt ∧ (g2 28 11).toInt ≤ (7 : Int32).toInt) ∧ (v1 = false → True) := hRv1
  have y3 : 0 ≤ (g2 28 1).toInt ∧ (g2 28 1).toInt ≤ 160 := Inv.rd (r := 28) (c := 4) hRv1.1 1 rfl
  have y4 : 0 ≤ (g2 28 9).toInt ∧ (g2 28 9).toInt ≤ 160 := Inv.rd (r := 28) (c := 4) hRv1.1 9 rfl
  have y5 : 0 ≤ (g2 28 10).toInt ∧ (g2 28 10).toInt ≤ 160 := Inv.rd (r := 28) (c := 4) hRv1.1 10 rfl
  refine S1.ite (fun hc3 => ?_) (fun hc3 => ?_)
  · skip
    have chc3 := hRv1.2.2.1 hc3
    refine S1.lt ?_
    intro v4 hvv4
    refine S1.ite (fun hc5 => ?_) (fun hc5 => ?_)
    · skip
      refine S1.pc (s_44 (4 : Int32) (g2 28 9) g2 hRv1.1 trivial) ?_
      intro v11 g12 hvv11 hRv11
      have hRv11 : Inv g12 ∧ ((g12 28 10).toInt = (g2 28 10).toInt ∧ (g12 28 1).toInt = (g2 28 1).toInt) ∧ (v11 = true → (0 : Int) = 1) ∧ (v11 = false → True) := hRv11
      have y6 : 0 ≤ (g12 28 1).toInt ∧ (g12 28 1).toInt ≤ 160 := Inv.rd (r := 28) (c := 4) hRv11.1 1 rfl
      have y7 : 0 ≤ (g12 28 9).toInt ∧ (g12 28 9).toInt ≤ 160 := Inv.rd (r := 28) (c := 4) hRv11.1 9 rfl
      have y8 : 0 ≤ (g12 28 10).toInt ∧ (g12 28 10).toInt ≤ 160 := Inv.rd (r := 28) (c := 4) hRv11.1 10 rfl
      exact S1.ret (show Inv g12 ∧ ((g12 28 10).toInt ≤ (g12 28 1).toInt) ∧ (v11 = true → True) ∧ (v11 = false → True) from ⟨hRv11.1, (by omega), (fun _ => trivial), (fun _ => trivial)⟩)
    · skip
      try have y9 := zi_and (x := (g2 28 11)) (y := (31 : Int32)) (by omega)
      try have y10 := zi_shl1 (x := (g2 28 11)) (by omega)
      refine S1.lt ?_
      intro g6 hg6
      have Ig6 : Inv g6 := Inv.up hRv1.1 hg6 rfl trivial
      have u11 : (g6 28 1).toInt = (g2 28 1).toInt := by rw [← hg6]; rfl
      have u12 : (g6 28 6).toInt = ((g2 28 6) ||| ((1 : Int32) <<< ((g2 28 11) &&& 31))).toInt := by rw [← hg6]; rfl
      have u13 : (g6 28 9).toInt = (g2 28 9).toInt := by rw [← hg6]; rfl
      have u14 : (g6 28 10).toInt = (g2 28 10).toInt := by rw [← hg6]; rfl
      have u15 : (g6 28 11).toInt = (g2 28 11).toInt := by rw [← hg6]; rfl
      refine S1.ix (by omega) ?_
      intro k7 hk7 bk7
      refine S1.lt ?_
      intro g8 hg8
      have Ig8 : Inv g8 := Inv.up Ig6 hg8 (zg_deed (b := 30) rfl hk7) trivial
      have u16 : (g8 28 1).toInt = (g6 28 1).toInt := zg_upc hg8 (zg_deed (b := 30) rfl hk7) (by decide)
      have u17 : (g8 28 6).toInt = (g6 28 6).toInt := zg_upc hg8 (zg_deed (b := 30) rfl hk7) (by decide)
      have u18 : (g8 28 9).toInt = (g6 28 9).toInt := zg_upc hg8 (zg_deed (b := 30) rfl hk7) (by decide)
      have u19 : (g8 28 10).toInt = (g6 28 10).toInt := zg_upc hg8 (zg_deed (b := 30) rfl hk7) (by decide)
      have u20 : (g8 28 11).toInt = (g6 28 11).toInt := zg_upc hg8 (zg_deed (b := 30) rfl hk7) (by decide)
      have y21 : 0 ≤ (g8 28 1).toInt ∧ (g8 28 1).toInt ≤ 160 := Inv.rd (r := 28) (c := 4) Ig8 1 rfl
      have y22 : 0 ≤ (g8 28 10).toInt ∧ (g8 28 10).toInt ≤ 160 := Inv.rd (r := 28) (c := 4) Ig8 10 rfl
      refine S1.bp (s_39 g8 Ig8 (by omega)) ?_
      intro v9 g10 hvv9 hRv9
      have hRv9 : Inv g10 ∧ ((g10 28 10).toInt ≤ (g10 28 1).toInt) ∧ (v9 = true → True) ∧ (v9 = false → True) := hRv9
      have y23 : 0 ≤ (g10 28 1).toInt ∧ (g10 28 1).toInt ≤ 160 := Inv.rd (r := 28) (c := 4) hRv9.1 1 rfl
      have y24 : 0 ≤ (g10 28 9).toInt ∧ (g10 28 9).toInt ≤ 160 := Inv.rd (r := 28) (c := 4) hRv9.1 9 rfl
      have y25 : 0 ≤ (g10 28 10).toInt ∧ (g10 28 10).toInt ≤ 160 := Inv.rd (r := 28) (c := 4) hRv9.1 10 rfl
      exact S1.ret (show Inv g10 ∧ ((g10 28 10).toInt ≤ (g10 28 1).toInt) ∧ (v9 = true → True) ∧ (v9 = false → True) from ⟨hRv9.1, (by omega), (fun _ => trivial), (fun _ => trivial)⟩)
  · skip
    have chc3 := hRv1.2.2.2 hc3
    exact S1.ret (show Inv g2 ∧ ((g2 28 10).toInt ≤ (g2 28 1).toInt) ∧ (false = true → True) ∧ (false = false → True) from ⟨hRv1.1, (by omega), (fun _ => trivial), (fun _ => trivial)⟩)
/-- EveningFirst$Reader.takeOdds -/
theorem s_36 (g : G) (hI : Inv g) (hp : (g 28 10).toInt ≤ (g 28 1).toInt) : S1 (d_36 g) (fun q : Bool × G => Inv q.2 ∧ ((q.2 28 10).toInt ≤ (q.2 28 1).toInt) ∧ (q.1 = true → True) ∧ (q.1 = false → True)) := by
  unfold d_36
  have L0 := zl_0
  have L1 := zl_1
  have L4 := zl_4
  have L7 := zl_7
  have L10 := zl_10
  have L31 := zl_31
  have yp31 : 0 ≤ (g 28 1).toInt ∧ (g 28 1).toInt ≤ 160 := Inv.rd (r := 28) (c := 4) hI 1 rfl
  have yp32 : 0 ≤ (g 28 10).toInt ∧ (g 28 10).toInt ≤ 160 := Inv.rd (r := 28) (c := 4) hI 10 rfl
  have yp33 : 0 ≤ (g 28 9).toInt ∧ (g 28 9).toInt ≤ 160 := Inv.rd (r := 28) (c := 4) hI 9 rfl
  have y1 : 0 ≤ (g 28 1).toInt ∧ (g 28 1).toInt ≤ 160 := Inv.rd (r := 28) (c := 4) hI 1 rfl
  have y2 : 0 ≤ (g 28 10).toInt ∧ (g 28 10).toInt ≤ 160 := Inv.rd (r := 28) (c := 4) hI 10 rfl
  refine S1.bp (s_38 (0 : Int32) (7 : Int32) g hI (by omega)) ?_
  intro v1 g2 hvv1 hRv1
  have hRv1 : Inv g2 ∧ ((g2 28 10).toInt ≤ (g2 28 1).toInt) ∧ (v1 = true → (0 : Int32).toInt ≤ (g2 28 11).toInt ∧ (g2 28 11).toInt ≤ (7 : Int32).toInt) ∧ (v1 = false → True) := hRv1
  have y3 : 0 ≤ (g2 28 1).toInt ∧ (g2 28 1).toInt ≤ 160 := Inv.rd (r := 28) (c := 4) hRv1.1 1 rfl
  have y4 : 0 ≤ (g2 28 9).toInt ∧ (g2 28 9).toInt ≤ 160 := Inv.rd (r := 28) (c := 4) hRv1.1 9 rfl
  have y5 : 0 ≤ (g2 28 10).toInt ∧ (g2 28 10).toInt ≤ 160 := Inv.rd (r := 28) (c := 4) hRv1.1 10 rfl
  refine S1.ite (fun hc3 => ?_) (fun hc3 => ?_)
  · skip
    have chc3 := hRv1.2.2.1 hc3
    refine S1.lt ?_
    intro v4 hvv4
    refine S1.ite (fun hc5 => ?_) (fun hc5 => ?_)
    · skip
      refine S1.pc (s_44 (4 : Int32) (g2 28 9) g2 hRv1.1 trivial) ?_
      intro v14 g15 hvv14 hRv14
      have hRv14 : Inv g15 ∧ ((g15 28 10).toInt = (g2 28 10).toInt ∧ (g15 28 1).toInt = (g2 28 1).toInt) ∧ (v14 = true → (0 : Int) = 1) ∧ (v14 = false → True) := hRv14
      have y6 : 0 ≤ (g15 28 1).toInt ∧ (g15 28 1).toInt ≤ 160 := Inv.rd (r := 28) (c := 4) hRv14.1 1 rfl
      have y7 : 0 ≤ (g15 28 9).toInt ∧ (g15 28 9).toInt ≤ 160 := Inv.rd (r := 28) (c := 4) hRv14.1 9 rfl
      have y8 : 0 ≤ (g15 28 10).toInt ∧ (g15 28 10).toInt ≤ 160 := Inv.rd (r := 28) (c := 4) hRv14.1 10 rfl
      exact S1.ret (show Inv g15 ∧ ((g15 28 10).toInt ≤ (g15 28 1).toInt) ∧ (v14 = true → True) ∧ (v14 = false → True) from ⟨hRv14.1, (by omega), (fun _ => trivial), (fun _ => trivial)⟩)
    · skip
      try have y9 := zi_and (x := (g2 28 11)) (y := (31 : Int32)) (by omega)
      try have y10 := zi_shl1 (x := (g2 28 11)) (by omega)
      refine S1.lt ?_
      intro g6 hg6
      have Ig6 : Inv g6 := Inv.up hRv1.1 hg6 rfl trivial
      have u11 : (g6 28 1).toInt = (g2 28 1).toInt := by rw [← hg6]; rfl
      have u12 : (g6 28 7).toInt = ((g2 28 7) ||| ((1 : Int32) <<< ((g2 28 11) &&& 31))).toInt := by rw [← hg6]; rfl
      have u13 : (g6 28 9).toInt = (g2 28 9).toInt := by rw [← hg6]; rfl
      have u14 : (g6 28 10).toInt = (g2 28 10).toInt := by rw [← hg6]; rfl
      have u15 : (g6 28 11).toInt = (g2 28 11).toInt := by rw [← hg6]; rfl
      refine S1.ix (by omega) ?_
      intro k7 hk7 bk7
      have y16 : 0 ≤ (g6 28 1).toInt ∧ (g6 28 1).toInt ≤ 160 := Inv.rd (r := 28) (c := 4) Ig6 1 rfl
      have y17 : 0 ≤ (g6 28 10).toInt ∧ (g6 28 10).toInt ≤ 160 := Inv.rd (r := 28) (c := 4) Ig6 10 rfl
      refine S1.bp (s_38 (0 : Int32) (10 : Int32) g6 Ig6 (by omega)) ?_
      intro v8 g9 hvv8 hRv8
      have hRv8 : Inv g9 ∧ ((g9 28 10).toInt ≤ (g9 28 1).toInt) ∧ (v8 = true → (0 : Int32).toInt ≤ (g9 28 11).toInt ∧ (g9 28 11).toInt ≤ (10 : Int32).toInt) ∧ (v8 = false → True) := hRv8
      have y18 : 0 ≤ (g9 28 1).toInt ∧ (g9 28 1).toInt ≤ 160 := Inv.rd (r := 28) (c := 4) hRv8.1 1 rfl
      have y19 : 0 ≤ (g9 28 9).toInt ∧ (g9 28 9).toInt ≤ 160 := Inv.rd (r := 28) (c := 4) hRv8.1 9 rfl
      have y20 : 0 ≤ (g9 28 10).toInt ∧ (g9 28 10).toInt ≤ 160 := Inv.rd (r := 28) (c := 4) hRv8.1 10 rfl
      refine S1.ite (fun hc10 => ?_) (fun hc10 => ?_)
      · skip
        have chc10 := hRv8.2.2.1 hc10
        refine S1.lt ?_
        intro g11 hg11
        have Ig11 : Inv g11 := Inv.up hRv8.1 hg11 (zg_deed (b := 30) rfl hk7) trivial
        have u21 : (g11 28 1).toInt = (g9 28 1).toInt := zg_upc hg11 (zg_deed (b := 30) rfl hk7) (by decide)
        have u22 : (g11 28 7).toInt = (g9 28 7).toInt := zg_upc hg11 (zg_deed (b := 30) rfl hk7) (by decide)
        have u23 : (g11 28 9).toInt = (g9 28 9).toInt := zg_upc hg11 (zg_deed (b := 30) rfl hk7) (by decide)
        have u24 : (g11 28 10).toInt = (g9 28 10).toInt := zg_upc hg11 (zg_deed (b := 30) rfl hk7) (by decide)
        have u25 : (g11 28 11).toInt = (g9 28 11).toInt := zg_upc hg11 (zg_deed (b := 30) rfl hk7) (by decide)
        have y26 : 0 ≤ (g11 28 1).toInt ∧ (g11 28 1).toInt ≤ 160 := Inv.rd (r := 28) (c := 4) Ig11 1 rfl
        have y27 : 0 ≤ (g11 28 10).toInt ∧ (g11 28 10).toInt ≤ 160 := Inv.rd (r := 28) (c := 4) Ig11 10 rfl
        refine S1.bp (s_39 g11 Ig11 (by omega)) ?_
        intro v12 g13 hvv12 hRv12
        have hRv12 : Inv g13 ∧ ((g13 28 10).toInt ≤ (g13 28 1).toInt) ∧ (v12 = true → True) ∧ (v12 = false → True) := hRv12
        have y28 : 0 ≤ (g13 28 1).toInt ∧ (g13 28 1).toInt ≤ 160 := Inv.rd (r := 28) (c := 4) hRv12.1 1 rfl
        have y29 : 0 ≤ (g13 28 9).toInt ∧ (g13 28 9).toInt ≤ 160 := Inv.rd (r := 28) (c := 4) hRv12.1 9 rfl
        have y30 : 0 ≤ (g13 28 10).toInt ∧ (g13 28 10).toInt ≤ 160 := Inv.rd (r := 28) (c := 4) hRv12.1 10 rfl
        exact S1.ret (show Inv g13 ∧ ((g13 28 10).toInt ≤ (g13 28 1).toInt) ∧ (v12 = true → True) ∧ (v12 = false → True) from ⟨hRv12.1, (by omega), (fun _ => trivial), (fun _ => trivial)⟩)
      · skip
        have chc10 := hRv8.2.2.2 hc10
        exact S1.ret (show Inv g9 ∧ ((g9 28 10).toInt ≤ (g9 28 1).toInt) ∧ (false = true → True) ∧ (false = false → True) from ⟨hRv8.1, (by omega), (fun _ => trivial), (fun _ => trivial)⟩)
  · skip
    have chc3 := hRv1.2.2.2 hc3
    exact S1.ret (show Inv g2 ∧ ((g2 28 10).toInt ≤ (g2 28 1).toInt) ∧ (false = true → True) ∧ (false = false → True) from ⟨hRv1.1, (by omega), (fun _ => trivial), (fun _ => trivial)⟩)
/-- EveningFirst$Reader.takeLine -/
theorem s_31 (g : G) (hI : Inv g) (hp : (g 28 10).toInt ≤ (g 28 1).toInt) : S1 (d_31 g) (fun q : Bool × G => Inv q.2 ∧ ((q.2 28 10).toInt ≤ (q.2 28 1).toInt) ∧ (q.1 = true → True) ∧ (q.1 = false → True)) := by
  unfold d_31
  have L1 := zl_1
  have L2 := zl_2
  have yp37 : 0 ≤ (g 28 1).toInt ∧ (g 28 1).toInt ≤ 160 := Inv.rd (r := 28) (c := 4) hI 1 rfl
  have yp38 : 0 ≤ (g 28 10).toInt ∧ (g 28 10).toInt ≤ 160 := Inv.rd (r := 28) (c := 4) hI 10 rfl
  have yp39 : 0 ≤ (g 28 9).toInt ∧ (g 28 9).toInt ≤ 160 := Inv.rd (r := 28) (c := 4) hI 9 rfl
  refine S1.bd (s_41 0 (by decide) g hI trivial) ?_
  intro v1 hvv1 hRv1
  have hRv1 : True ∧ True ∧ (v1 = true → True) ∧ (v1 = false → True) := hRv1
  refine S1.ite (fun hc2 => ?_) (fun hc2 => ?_)
  · skip
    have chc2 := hRv1.2.2.1 hc2
    have y1 : 0 ≤ (g 28 1).toInt ∧ (g 28 1).toInt ≤ 160 := Inv.rd (r := 28) (c := 4) hI 1 rfl
    have y2 : 0 ≤ (g 28 10).toInt ∧ (g 28 10).toInt ≤ 160 := Inv.rd (r := 28) (c := 4) hI 10 rfl
    refine S1.bp (s_32 g hI (by omega)) ?_
    intro v25 g26 hvv25 hRv25
    have hRv25 : Inv g26 ∧ ((g26 28 10).toInt ≤ (g26 28 1).toInt) ∧ (v25 = true → True) ∧ (v25 = false → True) := hRv25
    have y3 : 0 ≤ (g26 28 1).toInt ∧ (g26 28 1).toInt ≤ 160 := Inv.rd (r := 28) (c := 4) hRv25.1 1 rfl
    have y4 : 0 ≤ (g26 28 9).toInt ∧ (g26 28 9).toInt ≤ 160 := Inv.rd (r := 28) (c := 4) hRv25.1 9 rfl
    have y5 : 0 ≤ (g26 28 10).toInt ∧ (g26 28 10).toInt ≤ 160 := Inv.rd (r := 28) (c := 4) hRv25.1 10 rfl
    exact S1.ret (show Inv g26 ∧ ((g26 28 10).toInt ≤ (g26 28 1).toInt) ∧ (v25 = true → True) ∧ (v25 = false → True) from ⟨hRv25.1, (by omega), (fun _ => trivial), (fun _ => trivial)⟩)
  · skip
    have chc2 := hRv1.2.2.2 hc2
    refine S1.bd (s_41 1 (by decide) g hI trivial) ?_
    intro v3 hvv3 hRv3
    have hRv3 : True ∧ True ∧ (v3 = true → True) ∧ (v3 = false → True) := hRv3
    refine S1.ite (fun hc4 => ?_) (fun hc4 => ?_)
    · skip
      have chc4 := hRv3.2.2.1 hc4
      have y6 : 0 ≤ (g 28 1).toInt ∧ (g 28 1).toInt ≤ 160 := Inv.rd (r := 28) (c := 4) hI 1 rfl
      have y7 : 0 ≤ (g 28 10).toInt ∧ (g 28 10).toInt ≤ 160 := Inv.rd (r := 28) (c := 4) hI 10 rfl
      refine S1.bp (s_33 g hI (by omega)) ?_
      intro v23 g24 hvv23 hRv23
      have hRv23 : Inv g24 ∧ ((g24 28 10).toInt ≤ (g24 28 1).toInt) ∧ (v23 = true → True) ∧ (v23 = false → True) := hRv23
      have y8 : 0 ≤ (g24 28 1).toInt ∧ (g24 28 1).toInt ≤ 160 := Inv.rd (r := 28) (c := 4) hRv23.1 1 rfl
      have y9 : 0 ≤ (g24 28 9).toInt ∧ (g24 28 9).toInt ≤ 160 := Inv.rd (r := 28) (c := 4) hRv23.1 9 rfl
      have y10 : 0 ≤ (g24 28 10).toInt ∧ (g24 28 10).toInt ≤ 160 := Inv.rd (r := 28) (c := 4) hRv23.1 10 rfl
      exact S1.ret (show Inv g24 ∧ ((g24 28 10).toInt ≤ (g24 28 1).toInt) ∧ (v23 = true → True) ∧ (v23 = false → True) from ⟨hRv23.1, (by omega), (fun _ => trivial), (fun _ => trivial)⟩)
    · skip
      have chc4 := hRv3.2.2.2 hc4
      refine S1.bd (s_41 2 (by decide) g hI trivial) ?_
      intro v5 hvv5 hRv5
      have hRv5 : True ∧ True ∧ (v5 = true → True) ∧ (v5 = false → True) := hRv5
      refine S1.ite (fun hc6 => ?_) (fun hc6 => ?_)
      · skip
        have chc6 := hRv5.2.2.1 hc6
        have y11 : 0 ≤ (g 28 1).toInt ∧ (g 28 1).toInt ≤ 160 := Inv.rd (r := 28) (c := 4) hI 1 rfl
        have y12 : 0 ≤ (g 28 10).toInt ∧ (g 28 10).toInt ≤ 160 := Inv.rd (r := 28) (c := 4) hI 10 rfl
        refine S1.bp (s_34 g hI (by omega)) ?_
        intro v21 g22 hvv21 hRv21
        have hRv21 : Inv g22 ∧ ((g22 28 10).toInt ≤ (g22 28 1).toInt) ∧ (v21 = true → True) ∧ (v21 = false → True) := hRv21
        have y13 : 0 ≤ (g22 28 1).toInt ∧ (g22 28 1).toInt ≤ 160 := Inv.rd (r := 28) (c := 4) hRv21.1 1 rfl
        have y14 : 0 ≤ (g22 28 9).toInt ∧ (g22 28 9).toInt ≤ 160 := Inv.rd (r := 28) (c := 4) hRv21.1 9 rfl
        have y15 : 0 ≤ (g22 28 10).toInt ∧ (g22 28 10).toInt ≤ 160 := Inv.rd (r := 28) (c := 4) hRv21.1 10 rfl
        exact S1.ret (show Inv g22 ∧ ((g22 28 10).toInt ≤ (g22 28 1).toInt) ∧ (v21 = true → True) ∧ (v21 = false → True) from ⟨hRv21.1, (by omega), (fun _ => trivial), (fun _ => trivial)⟩)
      · skip
        have chc6 := hRv5.2.2.2 hc6
        refine S1.bd (s_41 3 (by decide) g hI trivial) ?_
        intro v7 hvv7 hRv7
        have hRv7 : True ∧ True ∧ (v7 = true → True) ∧ (v7 = false → True) := hRv7
        refine S1.ite (fun hc8 => ?_) (fun hc8 => ?_)
        · skip
          have chc8 := hRv7.2.2.1 hc8
          have y16 : 0 ≤ (g 28 1).toInt ∧ (g 28 1).toInt ≤ 160 := Inv.rd (r := 28) (c := 4) hI 1 rfl
          have y17 : 0 ≤ (g 28 10).toInt ∧ (g 28 10).toInt ≤ 160 := Inv.rd (r := 28) (c := 4) hI 10 rfl
          refine S1.bp (s_35 (1 : Int32) g hI (by omega)) ?_
          intro v19 g20 hvv19 hRv19
          have hRv19 : Inv g20 ∧ ((g20 28 10).toInt ≤ (g20 28 1).toInt) ∧ (v19 = true → True) ∧ (v19 = false → True) := hRv19
          have y18 : 0 ≤ (g20 28 1).toInt ∧ (g20 28 1).toInt ≤ 160 := Inv.rd (r := 28) (c := 4) hRv19.1 1 rfl
          have y19 : 0 ≤ (g20 28 9).toInt ∧ (g20 28 9).toInt ≤ 160 := Inv.rd (r := 28) (c := 4) hRv19.1 9 rfl
          have y20 : 0 ≤ (g20 28 10).toInt ∧ (g20 28 10).toInt ≤ 160 := Inv.rd (r := 28) (c := 4) hRv19.1 10 rfl
          exact S1.ret (show Inv g20 ∧ ((g20 28 10).toInt ≤ (g20 28 1).toInt) ∧ (v19 = true → True) ∧ (v19 = false → True) from ⟨hRv19.1, (by omega), (fun _ => trivial), (fun _ => trivial)⟩)
        · skip
          have chc8 := hRv7.2.2.2 hc8
          refine S1.bd (s_41 4 (by decide) g hI trivial) ?_
          intro v9 hvv9 hRv9
          have hRv9 : True ∧ True ∧ (v9 = true → True) ∧ (v9 = false → True) := hRv9
          refine S1.ite (fun hc10 => ?_) (fun hc10 => ?_)
          · skip
            have chc10 := hRv9.2.2.1 hc10
            have y21 : 0 ≤ (g 28 1).toInt ∧ (g 28 1).toInt ≤ 160 := Inv.rd (r := 28) (c := 4) hI 1 rfl
            have y22 : 0 ≤ (g 28 10).toInt ∧ (g 28 10).toInt ≤ 160 := Inv.rd (r := 28) (c := 4) hI 10 rfl
            refine S1.bp (s_35 (2 : Int32) g hI (by omega)) ?_
            intro v17 g18 hvv17 hRv17
            have hRv17 : Inv g18 ∧ ((g18 28 10).toInt ≤ (g18 28 1).toInt) ∧ (v17 = true → True) ∧ (v17 = false → True) := hRv17
            have y23 : 0 ≤ (g18 28 1).toInt ∧ (g18 28 1).toInt ≤ 160 := Inv.rd (r := 28) (c := 4) hRv17.1 1 rfl
            have y24 : 0 ≤ (g18 28 9).toInt ∧ (g18 28 9).toInt ≤ 160 := Inv.rd (r := 28) (c := 4) hRv17.1 9 rfl
            have y25 : 0 ≤ (g18 28 10).toInt ∧ (g18 28 10).toInt ≤ 160 := Inv.rd (r := 28) (c := 4) hRv17.1 10 rfl
            exact S1.ret (show Inv g18 ∧ ((g18 28 10).toInt ≤ (g18 28 1).toInt) ∧ (v17 = true → True) ∧ (v17 = false → True) from ⟨hRv17.1, (by omega), (fun _ => trivial), (fun _ => trivial)⟩)
          · skip
            have chc10 := hRv9.2.2.2 hc10
            refine S1.bd (s_41 5 (by decide) g hI trivial) ?_
            intro v11 hvv11 hRv11
            have hRv11 : True ∧ True ∧ (v11 = true → True) ∧ (v11 = false → True) := hRv11
            refine S1.ite (fun hc12 => ?_) (fun hc12 => ?_)
            · skip
              have chc12 := hRv11.2.2.1 hc12
              have y26 : 0 ≤ (g 28 1).toInt ∧ (g 28 1).toInt ≤ 160 := Inv.rd (r := 28) (c := 4) hI 1 rfl
              have y27 : 0 ≤ (g 28 10).toInt ∧ (g 28 10).toInt ≤ 160 := Inv.rd (r := 28) (c := 4) hI 10 rfl
              refine S1.bp (s_36 g hI (by omega)) ?_
              intro v15 g16 hvv15 hRv15
              have hRv15 : Inv g16 ∧ ((g16 28 10).toInt ≤ (g16 28 1).toInt) ∧ (v15 = true → True) ∧ (v15 = false → True) := hRv15
              have y28 : 0 ≤ (g16 28 1).toInt ∧ (g16 28 1).toInt ≤ 160 := Inv.rd (r := 28) (c := 4) hRv15.1 1 rfl
              have y29 : 0 ≤ (g16 28 9).toInt ∧ (g16 28 9).toInt ≤ 160 := Inv.rd (r := 28) (c := 4) hRv15.1 9 rfl
              have y30 : 0 ≤ (g16 28 10).toInt ∧ (g16 28 10).toInt ≤ 160 := Inv.rd (r := 28) (c := 4) hRv15.1 10 rfl
              exact S1.ret (show Inv g16 ∧ ((g16 28 10).toInt ≤ (g16 28 1).toInt) ∧ (v15 = true → True) ∧ (v15 = false → True) from ⟨hRv15.1, (by omega), (fun _ => trivial), (fun _ => trivial)⟩)
            · skip
              have chc12 := hRv11.2.2.2 hc12
              have y31 : 0 ≤ (g 28 9).toInt ∧ (g 28 9).toInt ≤ 160 := Inv.rd (r := 28) (c := 4) hI 9 rfl
              refine S1.pc (s_44 (2 : Int32) (g 28 9) g hI trivial) ?_
              intro v13 g14 hvv13 hRv13
              have hRv13 : Inv g14 ∧ ((g14 28 10).toInt = (g 28 10).toInt ∧ (g14 28 1).toInt = (g 28 1).toInt) ∧ (v13 = true → (0 : Int) = 1) ∧ (v13 = false → True) := hRv13
              have y32 : 0 ≤ (g 28 1).toInt ∧ (g 28 1).toInt ≤ 160 := Inv.rd (r := 28) (c := 4) hI 1 rfl
              have y33 : 0 ≤ (g 28 10).toInt ∧ (g 28 10).toInt ≤ 160 := Inv.rd (r := 28) (c := 4) hI 10 rfl
              have y34 : 0 ≤ (g14 28 1).toInt ∧ (g14 28 1).toInt ≤ 160 := Inv.rd (r := 28) (c := 4) hRv13.1 1 rfl
              have y35 : 0 ≤ (g14 28 9).toInt ∧ (g14 28 9).toInt ≤ 160 := Inv.rd (r := 28) (c := 4) hRv13.1 9 rfl
              have y36 : 0 ≤ (g14 28 10).toInt ∧ (g14 28 10).toInt ≤ 160 := Inv.rd (r := 28) (c := 4) hRv13.1 10 rfl
              exact S1.ret (show Inv g14 ∧ ((g14 28 10).toInt ≤ (g14 28 1).toInt) ∧ (v13 = true → True) ∧ (v13 = false → True) from ⟨hRv13.1, (by omega), (fun _ => trivial), (fun _ => trivial)⟩)
