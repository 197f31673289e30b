/-! printed by wip/tools/safe.py -/
/-- EveningFirstModel.look -/
theorem s_114 (x1 : Int32) (g : G) (hI : Inv g) (hp : 0 ≤ x1.toInt) : S1 (d_114 x1 g) (fun q : Int32 => True ∧ (((g 113 14).toInt ≤ x1.toInt → q.toInt = -1) ∧ (x1.toInt < (g 113 14).toInt → q.toInt = (g 117 x1.toInt.toNat).toInt))) := by
  unfold d_114
  have Lm1 := zl_m1
  have y1 : 0 ≤ (g 113 14).toInt ∧ (g 113 14).toInt ≤ 160 := Inv.rd (r := 113) (c := 8) hI 14 rfl
  refine S1.ite (fun hc1 => ?_) (fun hc1 => ?_)
  · have c1 := zc_geT hc1
    exact S1.ret ⟨trivial, fun _ => by omega, fun _ => by omega⟩
  · have c1 := zc_geF hc1
    refine S1.ix (by omega) ?_
    intro k2 hk2 bk2
    have e : k2 = x1.toInt.toNat := by omega
    subst e
    exact S1.ret ⟨trivial, fun _ => by omega, fun _ => rfl⟩
/-- EveningFirstModel.needs -/
theorem s_113 (x1 : Int32) (x2 : Int32) (g : G) (hI : Inv g) (hp : 1 ≤ x2.toInt ∧ x2.toInt ≤ 6) : T1 (d_113 x1 x2 g) (fun q : G => Inv q ∧ ((q 113 6).toInt = (g 113 6).toInt ∧ (q 113 14).toInt = (g 113 14).toInt ∧ (q 116 8).toInt = (g 116 8).toInt ∧ (q 113 15).toInt = (g 113 15).toInt ∧ (q 113 16).toInt = (g 113 16).toInt ∧ (q 113 17).toInt = (g 113 17).toInt ∧ (q 113 18).toInt = (g 113 18).toInt ∧ ((g 113 19).toInt ≠ 0 → (q 113 19).toInt ≠ 0) ∧ (x1.toInt = 0 → (q 113 19).toInt ≠ 0) ∧ (x1.toInt ≠ 0 → (q 113 19).toInt = (g 113 19).toInt))) := by
  unfold d_113
  have L0 := zl_0
  have yp19 : 0 ≤ (g 113 14).toInt ∧ (g 113 14).toInt ≤ 160 := Inv.rd (r := 113) (c := 8) hI 14 rfl
  have yp20 : 0 ≤ (g 113 15).toInt ∧ (g 113 15).toInt ≤ 160 := Inv.rd (r := 113) (c := 8) hI 15 rfl
  have yp21 : 0 ≤ (g 113 16).toInt ∧ (g 113 16).toInt ≤ 160 := Inv.rd (r := 113) (c := 8) hI 16 rfl
  have yp22 : 0 ≤ (g 113 19).toInt ∧ (g 113 19).toInt ≤ 6 := Inv.rd (r := 113) (c := 8) hI 19 rfl
  have yp23 : 0 ≤ (g 113 6).toInt ∧ (g 113 6).toInt ≤ 4 := Inv.rd (r := 113) (c := 8) hI 6 rfl
  have yp24 := hI.d8
  refine T1.ite (fun hc1 => ?_) (fun hc1 => ?_)
  · skip
    have chc1 := zc_neT hc1
    exact T1.ret (show Inv g ∧ ((g 113 6).toInt = (g 113 6).toInt ∧ (g 113 14).toInt = (g 113 14).toInt ∧ (g 116 8).toInt = (g 116 8).toInt ∧ (g 113 15).toInt = (g 113 15).toInt ∧ (g 113 16).toInt = (g 113 16).toInt ∧ (g 113 17).toInt = (g 113 17).toInt ∧ (g 113 18).toInt = (g 113 18).toInt ∧ ((g 113 19).toInt ≠ 0 → (g 113 19).toInt ≠ 0) ∧ (x1.toInt = 0 → (g 113 19).toInt ≠ 0) ∧ (x1.toInt ≠ 0 → (g 113 19).toInt = (g 113 19).toInt)) from ⟨hI, (by omega)⟩)
  · skip
    have chc1 := zc_neF hc1
    have y1 : 0 ≤ (g 113 19).toInt ∧ (g 113 19).toInt ≤ 6 := Inv.rd (r := 113) (c := 8) hI 19 rfl
    refine T1.ite (fun hc2 => ?_) (fun hc2 => ?_)
    · skip
      have chc2 := zc_neT hc2
      exact T1.ret (show Inv g ∧ ((g 113 6).toInt = (g 113 6).toInt ∧ (g 113 14).toInt = (g 113 14).toInt ∧ (g 116 8).toInt = (g 116 8).toInt ∧ (g 113 15).toInt = (g 113 15).toInt ∧ (g 113 16).toInt = (g 113 16).toInt ∧ (g 113 17).toInt = (g 113 17).toInt ∧ (g 113 18).toInt = (g 113 18).toInt ∧ ((g 113 19).toInt ≠ 0 → (g 113 19).toInt ≠ 0) ∧ (x1.toInt = 0 → (g 113 19).toInt ≠ 0) ∧ (x1.toInt ≠ 0 → (g 113 19).toInt = (g 113 19).toInt)) from ⟨hI, (by omega)⟩)
    · skip
      have chc2 := zc_neF hc2
      refine T1.lt ?_
      intro g3 hg3
      have Ig3 : Inv g3 := Inv.up hI hg3 rfl (show 0 ≤ x2.toInt ∧ x2.toInt ≤ 6 by omega)
      have u2 : (g3 113 6).toInt = (g 113 6).toInt := by rw [← hg3]; rfl
      have u3 : (g3 113 14).toInt = (g 113 14).toInt := by rw [← hg3]; rfl
      have u4 : (g3 113 15).toInt = (g 113 15).toInt := by rw [← hg3]; rfl
      have u5 : (g3 113 16).toInt = (g 113 16).toInt := by rw [← hg3]; rfl
      have u6 : (g3 113 17).toInt = (g 113 17).toInt := by rw [← hg3]; rfl
      have u7 : (g3 113 18).toInt = (g 113 18).toInt := by rw [← hg3]; rfl
      have u8 : (g3 113 19).toInt = x2.toInt := by rw [← hg3]; rfl
      have u9 : (g3 116 8).toInt = (g 116 8).toInt := by rw [← hg3]; rfl
      have y10 : 0 ≤ (g3 113 16).toInt ∧ (g3 113 16).toInt ≤ 160 := Inv.rd (r := 113) (c := 8) Ig3 16 rfl
      refine T1.lt ?_
      intro g4 hg4
      have Ig4 : Inv g4 := Inv.up Ig3 hg4 rfl trivial
      have u11 : (g4 113 6).toInt = (g3 113 6).toInt := by rw [← hg4]; rfl
      have u12 : (g4 113 14).toInt = (g3 113 14).toInt := by rw [← hg4]; rfl
      have u13 : (g4 113 15).toInt = (g3 113 15).toInt := by rw [← hg4]; rfl
      have u14 : (g4 113 16).toInt = (g3 113 16).toInt := by rw [← hg4]; rfl
      have u15 : (g4 113 17).toInt = (g3 113 17).toInt := by rw [← hg4]; rfl
      have u16 : (g4 113 18).toInt = (g3 113 18).toInt := by rw [← hg4]; rfl
      have u17 : (g4 113 19).toInt = (g3 113 19).toInt := by rw [← hg4]; rfl
      have u18 : (g4 116 8).toInt = (g3 116 8).toInt := by rw [← hg4]; rfl
      exact T1.ret (show Inv g4 ∧ ((g4 113 6).toInt = (g 113 6).toInt ∧ (g4 113 14).toInt = (g 113 14).toInt ∧ (g4 116 8).toInt = (g 116 8).toInt ∧ (g4 113 15).toInt = (g 113 15).toInt ∧ (g4 113 16).toInt = (g 113 16).toInt ∧ (g4 113 17).toInt = (g 113 17).toInt ∧ (g4 113 18).toInt = (g 113 18).toInt ∧ ((g 113 19).toInt ≠ 0 → (g4 113 19).toInt ≠ 0) ∧ (x1.toInt = 0 → (g4 113 19).toInt ≠ 0) ∧ (x1.toInt ≠ 0 → (g4 113 19).toInt = (g 113 19).toInt)) from ⟨Ig4, (by omega)⟩)
theorem s_119_140 : ∀ (f : Nat) (g : G), Inv g → 160 - (g 113 15).toInt < (f : Int) → S1 (d_119_140 f g) (fun q : G => Inv q ∧ ((q 113 6).toInt = (g 113 6).toInt ∧ (q 113 14).toInt = (g 113 14).toInt ∧ (q 116 8).toInt = (g 116 8).toInt ∧ ((g 113 19).toInt ≠ 0 → (q 113 19).toInt ≠ 0) ∧ (q 113 17).toInt = (g 113 17).toInt ∧ (g 113 15).toInt ≤ (q 113 15).toInt ∧ ((g 113 15).toInt < (g 113 14).toInt ∧ 48 ≤ (g 117 (g 113 15).toInt.toNat).toInt ∧ (g 117 (g 113 15).toInt.toNat).toInt ≤ 57 → (g 113 15).toInt < (q 113 15).toInt))) := by
  intro f
  induction f with
  | zero =>
    intro g hI hp
    exfalso
    have yp71 : 0 ≤ (g 113 15).toInt ∧ (g 113 15).toInt ≤ 160 := Inv.rd (r := 113) (c := 8) hI 15 rfl
    omega
  | succ f ih =>
    intro g hI hp
    rw [d_119_140.eq_2]
    have L0 := zl_0
    have L1 := zl_1
    have L2 := zl_2
    have L10 := zl_10
    have L48 := zl_48
    have L57 := zl_57
    have yp72 : 0 ≤ (g 113 14).toInt ∧ (g 113 14).toInt ≤ 160 := Inv.rd (r := 113) (c := 8) hI 14 rfl
    have yp73 : 0 ≤ (g 113 15).toInt ∧ (g 113 15).toInt ≤ 160 := Inv.rd (r := 113) (c := 8) hI 15 rfl
    have yp74 : 0 ≤ (g 113 16).toInt ∧ (g 113 16).toInt ≤ 160 := Inv.rd (r := 113) (c := 8) hI 16 rfl
    have yp75 : 0 ≤ (g 113 19).toInt ∧ (g 113 19).toInt ≤ 6 := Inv.rd (r := 113) (c := 8) hI 19 rfl
    have yp76 : 0 ≤ (g 113 6).toInt ∧ (g 113 6).toInt ≤ 4 := Inv.rd (r := 113) (c := 8) hI 6 rfl
    have yp77 := hI.d8
    have y1 : 0 ≤ (g 113 15).toInt ∧ (g 113 15).toInt ≤ 160 := Inv.rd (r := 113) (c := 8) hI 15 rfl
    refine S1.bd (s_114 (g 113 15) g hI (by omega)) ?_
    intro v19 hvv19 hRv19
    have hRv19 : True ∧ (((g 113 14).toInt ≤ (g 113 15).toInt → v19.toInt = -1) ∧ ((g 113 15).toInt < (g 113 14).toInt → v19.toInt = (g 117 (g 113 15).toInt.toNat).toInt)) := hRv19
    have y2 : 0 ≤ (g 113 14).toInt ∧ (g 113 14).toInt ≤ 160 := Inv.rd (r := 113) (c := 8) hI 14 rfl
    have y3 := zi_i64 v19
    have y4 : (48 : Int64).toInt = 48 := by decide
    have y5 : (57 : Int64).toInt = 57 := by decide
    refine S1.lc (zin_c (a := (Int32.toInt64 v19)) (b := (48 : Int64)) (c := (57 : Int64))) ?_
    intro v20 hvv20 hRv20
    have hRv20 : (v20 = true → (48 : Int64).toInt ≤ (Int32.toInt64 v19).toInt ∧ (Int32.toInt64 v19).toInt ≤ (57 : Int64).toInt) ∧ (v20 = false → (Int32.toInt64 v19).toInt < (48 : Int64).toInt ∨ (57 : Int64).toInt < (Int32.toInt64 v19).toInt) := hRv20
    refine S1.ite (fun hc21 => ?_) (fun hc21 => ?_)
    · skip
      have chc21 := hRv20.1 hc21
      have y6 : 0 ≤ (g 113 16).toInt ∧ (g 113 16).toInt ≤ 160 := Inv.rd (r := 113) (c := 8) hI 16 rfl
      try have y7 := zi_sub (x := (g 113 15)) (y := (g 113 16)) (by omega) (by omega)
      refine S1.ite (fun hc25 => ?_) (fun hc25 => ?_)
      · skip
        have chc25 := zc_geT hc25
        refine S1.lt ?_
        intro g26 hg26
        have Ig26 : Inv g26 := Inv.up hI hg26 rfl trivial
        have u8 : (g26 117 (g26 113 15).toInt.toNat).toInt = (g 117 (g 113 15).toInt.toNat).toInt := by rw [← hg26]; rfl
        have u9 : (g26 113 6).toInt = (g 113 6).toInt := by rw [← hg26]; rfl
        have u10 : (g26 113 14).toInt = (g 113 14).toInt := by rw [← hg26]; rfl
        have u11 : (g26 113 15).toInt = (g 113 15).toInt := by rw [← hg26]; rfl
        have u12 : (g26 113 16).toInt = (g 113 16).toInt := by rw [← hg26]; rfl
        have u13 : (g26 113 17).toInt = (g 113 17).toInt := by rw [← hg26]; rfl
        have u14 : (g26 113 18).toInt = (g 113 18).toInt := by rw [← hg26]; rfl
        have u15 : (g26 113 19).toInt = (g 113 19).toInt := by rw [← hg26]; rfl
        have u16 : (g26 116 8).toInt = (g 116 8).toInt := by rw [← hg26]; rfl
        have y17 : 0 ≤ (g26 113 15).toInt ∧ (g26 113 15).toInt ≤ 160 := Inv.rd (r := 113) (c := 8) Ig26 15 rfl
        try have y18 := zi_add (x := (g26 113 15)) (y := (1 : Int32)) (by omega) (by omega)
        refine S1.lt ?_
        intro g27 hg27
        have Ig27 : Inv g27 := Inv.up Ig26 hg27 rfl (show 0 ≤ ((g26 113 15) + 1).toInt ∧ ((g26 113 15) + 1).toInt ≤ 160 by omega)
        have u19 : (g27 113 6).toInt = (g26 113 6).toInt := by rw [← hg27]; rfl
        have u20 : (g27 113 14).toInt = (g26 113 14).toInt := by rw [← hg27]; rfl
        have u21 : (g27 113 15).toInt = ((g26 113 15) + 1).toInt := by rw [← hg27]; rfl
        have u22 : (g27 113 16).toInt = (g26 113 16).toInt := by rw [← hg27]; rfl
        have u23 : (g27 113 17).toInt = (g26 113 17).toInt := by rw [← hg27]; rfl
        have u24 : (g27 113 18).toInt = (g26 113 18).toInt := by rw [← hg27]; rfl
        have u25 : (g27 113 19).toInt = (g26 113 19).toInt := by rw [← hg27]; rfl
        have u26 : (g27 116 8).toInt = (g26 116 8).toInt := by rw [← hg27]; rfl
        have y27 : 0 ≤ (g27 113 15).toInt ∧ (g27 113 15).toInt ≤ 160 := Inv.rd (r := 113) (c := 8) Ig27 15 rfl
        refine S1.mono (ih g27 Ig27 (by omega)) ?_
        rintro v0 hq
        have hq : Inv v0 ∧ ((v0 113 6).toInt = (g27 113 6).toInt ∧ (v0 113 14).toInt = (g27 113 14).toInt ∧ (v0 116 8).toInt = (g27 116 8).toInt ∧ ((g27 113 19).toInt ≠ 0 → (v0 113 19).toInt ≠ 0) ∧ (v0 113 17).toInt = (g27 113 17).toInt ∧ (g27 113 15).toInt ≤ (v0 113 15).toInt ∧ ((g27 113 15).toInt < (g27 113 14).toInt ∧ 48 ≤ (g27 117 (g27 113 15).toInt.toNat).toInt ∧ (g27 117 (g27 113 15).toInt.toNat).toInt ≤ 57 → (g27 113 15).toInt < (v0 113 15).toInt)) := hq
        exact ⟨hq.1, (by omega)⟩
      · skip
        have chc25 := zc_geF hc25
        refine S1.bd (s_114 (g 113 15) g hI (by omega)) ?_
        intro v28 hvv28 hRv28
        have hRv28 : True ∧ (((g 113 14).toInt ≤ (g 113 15).toInt → v28.toInt = -1) ∧ ((g 113 15).toInt < (g 113 14).toInt → v28.toInt = (g 117 (g 113 15).toInt.toNat).toInt)) := hRv28
        try have y28 := zi_mul (x := (10 : Int32)) (y := (g 113 18)) (n := 10) (by decide) (by omega) (by omega)
        try have y29 := zi_add (x := (10 * (g 113 18))) (y := v28) (by omega) (by omega)
        try have y30 := zi_sub (x := ((10 * (g 113 18)) + v28)) (y := (48 : Int32)) (by omega) (by omega)
        refine S1.lt ?_
        intro g29 hg29
        have Ig29 : Inv g29 := Inv.up hI hg29 rfl trivial
        have u31 : (g29 117 (g29 113 15).toInt.toNat).toInt = (g 117 (g 113 15).toInt.toNat).toInt := by rw [← hg29]; rfl
        have u32 : (g29 113 6).toInt = (g 113 6).toInt := by rw [← hg29]; rfl
        have u33 : (g29 113 14).toInt = (g 113 14).toInt := by rw [← hg29]; rfl
        have u34 : (g29 113 15).toInt = (g 113 15).toInt := by rw [← hg29]; rfl
        have u35 : (g29 113 16).toInt = (g 113 16).toInt := by rw [← hg29]; rfl
        have u36 : (g29 113 17).toInt = (g 113 17).toInt := by rw [← hg29]; rfl
        have u37 : (g29 113 18).toInt = (((10 * (g 113 18)) + v28) - 48).toInt := by rw [← hg29]; rfl
        have u38 : (g29 113 19).toInt = (g 113 19).toInt := by rw [← hg29]; rfl
        have u39 : (g29 116 8).toInt = (g 116 8).toInt := by rw [← hg29]; rfl
        have y40 : 0 ≤ (g29 113 15).toInt ∧ (g29 113 15).toInt ≤ 160 := Inv.rd (r := 113) (c := 8) Ig29 15 rfl
        try have y41 := zi_add (x := (g29 113 15)) (y := (1 : Int32)) (by omega) (by omega)
        refine S1.lt ?_
        intro g30 hg30
        have Ig30 : Inv g30 := Inv.up Ig29 hg30 rfl (show 0 ≤ ((g29 113 15) + 1).toInt ∧ ((g29 113 15) + 1).toInt ≤ 160 by omega)
        have u42 : (g30 113 6).toInt = (g29 113 6).toInt := by rw [← hg30]; rfl
        have u43 : (g30 113 14).toInt = (g29 113 14).toInt := by rw [← hg30]; rfl
        have u44 : (g30 113 15).toInt = ((g29 113 15) + 1).toInt := by rw [← hg30]; rfl
        have u45 : (g30 113 16).toInt = (g29 113 16).toInt := by rw [← hg30]; rfl
        have u46 : (g30 113 17).toInt = (g29 113 17).toInt := by rw [← hg30]; rfl
        have u47 : (g30 113 18).toInt = (g29 113 18).toInt := by rw [← hg30]; rfl
        have u48 : (g30 113 19).toInt = (g29 113 19).toInt := by rw [← hg30]; rfl
        have u49 : (g30 116 8).toInt = (g29 116 8).toInt := by rw [← hg30]; rfl
        have y50 : 0 ≤ (g30 113 15).toInt ∧ (g30 113 15).toInt ≤ 160 := Inv.rd (r := 113) (c := 8) Ig30 15 rfl
        refine S1.mono (ih g30 Ig30 (by omega)) ?_
        rintro v0 hq
        have hq : Inv v0 ∧ ((v0 113 6).toInt = (g30 113 6).toInt ∧ (v0 113 14).toInt = (g30 113 14).toInt ∧ (v0 116 8).toInt = (g30 116 8).toInt ∧ ((g30 113 19).toInt ≠ 0 → (v0 113 19).toInt ≠ 0) ∧ (v0 113 17).toInt = (g30 113 17).toInt ∧ (g30 113 15).toInt ≤ (v0 113 15).toInt ∧ ((g30 113 15).toInt < (g30 113 14).toInt ∧ 48 ≤ (g30 117 (g30 113 15).toInt.toNat).toInt ∧ (g30 117 (g30 113 15).toInt.toNat).toInt ≤ 57 → (g30 113 15).toInt < (v0 113 15).toInt)) := hq
        exact ⟨hq.1, (by omega)⟩
    · skip
      have chc21 := hRv20.2 hc21
      have y51 : 0 ≤ (g 113 16).toInt ∧ (g 113 16).toInt ≤ 160 := Inv.rd (r := 113) (c := 8) hI 16 rfl
      try have y52 := zi_sub (x := (g 113 15)) (y := (g 113 16)) (by omega) (by omega)
      refine S1.ite (fun hc22 => ?_) (fun hc22 => ?_)
      · skip
        have chc22 := zc_gtT hc22
        refine S1.lc (s_113 (0 : Int32) (1 : Int32) g hI (by omega)) ?_
        intro g23 hvg23 hRg23
        have hRg23 : Inv g23 ∧ ((g23 113 6).toInt = (g 113 6).toInt ∧ (g23 113 14).toInt = (g 113 14).toInt ∧ (g23 116 8).toInt = (g 116 8).toInt ∧ (g23 113 15).toInt = (g 113 15).toInt ∧ (g23 113 16).toInt = (g 113 16).toInt ∧ (g23 113 17).toInt = (g 113 17).toInt ∧ (g23 113 18).toInt = (g 113 18).toInt ∧ ((g 113 19).toInt ≠ 0 → (g23 113 19).toInt ≠ 0) ∧ ((0 : Int32).toInt = 0 → (g23 113 19).toInt ≠ 0) ∧ ((0 : Int32).toInt ≠ 0 → (g23 113 19).toInt = (g 113 19).toInt)) := hRg23
        have y53 : 0 ≤ (g 113 19).toInt ∧ (g 113 19).toInt ≤ 6 := Inv.rd (r := 113) (c := 8) hI 19 rfl
        have y54 : 0 ≤ (g 113 6).toInt ∧ (g 113 6).toInt ≤ 4 := Inv.rd (r := 113) (c := 8) hI 6 rfl
        have y55 := hI.d8
        have y56 : 0 ≤ (g23 113 6).toInt ∧ (g23 113 6).toInt ≤ 4 := Inv.rd (r := 113) (c := 8) hRg23.1 6 rfl
        have y57 : 0 ≤ (g23 113 14).toInt ∧ (g23 113 14).toInt ≤ 160 := Inv.rd (r := 113) (c := 8) hRg23.1 14 rfl
        have y58 : 0 ≤ (g23 113 15).toInt ∧ (g23 113 15).toInt ≤ 160 := Inv.rd (r := 113) (c := 8) hRg23.1 15 rfl
        have y59 : 0 ≤ (g23 113 16).toInt ∧ (g23 113 16).toInt ≤ 160 := Inv.rd (r := 113) (c := 8) hRg23.1 16 rfl
        have y60 : 0 ≤ (g23 113 19).toInt ∧ (g23 113 19).toInt ≤ 6 := Inv.rd (r := 113) (c := 8) hRg23.1 19 rfl
        have y61 := hRg23.1.d8
        exact S1.ret (show Inv g23 ∧ ((g23 113 6).toInt = (g 113 6).toInt ∧ (g23 113 14).toInt = (g 113 14).toInt ∧ (g23 116 8).toInt = (g 116 8).toInt ∧ ((g 113 19).toInt ≠ 0 → (g23 113 19).toInt ≠ 0) ∧ (g23 113 17).toInt = (g 113 17).toInt ∧ (g 113 15).toInt ≤ (g23 113 15).toInt ∧ ((g 113 15).toInt < (g 113 14).toInt ∧ 48 ≤ (g 117 (g 113 15).toInt.toNat).toInt ∧ (g 117 (g 113 15).toInt.toNat).toInt ≤ 57 → (g 113 15).toInt < (g23 113 15).toInt)) from ⟨hRg23.1, (by omega)⟩)
      · skip
        have chc22 := zc_gtF hc22
        refine S1.lc (s_113 (1 : Int32) (1 : Int32) g hI (by omega)) ?_
        intro g24 hvg24 hRg24
        have hRg24 : Inv g24 ∧ ((g24 113 6).toInt = (g 113 6).toInt ∧ (g24 113 14).toInt = (g 113 14).toInt ∧ (g24 116 8).toInt = (g 116 8).toInt ∧ (g24 113 15).toInt = (g 113 15).toInt ∧ (g24 113 16).toInt = (g 113 16).toInt ∧ (g24 113 17).toInt = (g 113 17).toInt ∧ (g24 113 18).toInt = (g 113 18).toInt ∧ ((g 113 19).toInt ≠ 0 → (g24 113 19).toInt ≠ 0) ∧ ((1 : Int32).toInt = 0 → (g24 113 19).toInt ≠ 0) ∧ ((1 : Int32).toInt ≠ 0 → (g24 113 19).toInt = (g 113 19).toInt)) := hRg24
        have y62 : 0 ≤ (g 113 19).toInt ∧ (g 113 19).toInt ≤ 6 := Inv.rd (r := 113) (c := 8) hI 19 rfl
        have y63 : 0 ≤ (g 113 6).toInt ∧ (g 113 6).toInt ≤ 4 := Inv.rd (r := 113) (c := 8) hI 6 rfl
        have y64 := hI.d8
        have y65 : 0 ≤ (g24 113 6).toInt ∧ (g24 113 6).toInt ≤ 4 := Inv.rd (r := 113) (c := 8) hRg24.1 6 rfl
        have y66 : 0 ≤ (g24 113 14).toInt ∧ (g24 113 14).toInt ≤ 160 := Inv.rd (r := 113) (c := 8) hRg24.1 14 rfl
        have y67 : 0 ≤ (g24 113 15).toInt ∧ (g24 113 15).toInt ≤ 160 := Inv.rd (r := 113) (c := 8) hRg24.1 15 rfl
        have y68 : 0 ≤ (g24 113 16).toInt ∧ (g24 113 16).toInt ≤ 160 := Inv.rd (r := 113) (c := 8) hRg24.1 16 rfl
        have y69 : 0 ≤ (g24 113 19).toInt ∧ (g24 113 19).toInt ≤ 6 := Inv.rd (r := 113) (c := 8) hRg24.1 19 rfl
        have y70 := hRg24.1.d8
        exact S1.ret (show Inv g24 ∧ ((g24 113 6).toInt = (g 113 6).toInt ∧ (g24 113 14).toInt = (g 113 14).toInt ∧ (g24 116 8).toInt = (g 116 8).toInt ∧ ((g 113 19).toInt ≠ 0 → (g24 113 19).toInt ≠ 0) ∧ (g24 113 17).toInt = (g 113 17).toInt ∧ (g 113 15).toInt ≤ (g24 113 15).toInt ∧ ((g 113 15).toInt < (g 113 14).toInt ∧ 48 ≤ (g 117 (g 113 15).toInt.toNat).toInt ∧ (g 117 (g 113 15).toInt.toNat).toInt ≤ 57 → (g 113 15).toInt < (g24 113 15).toInt)) from ⟨hRg24.1, (by omega)⟩)
theorem s_119_82 : ∀ (f : Nat) (g : G), Inv g → 160 - (g 113 15).toInt < (f : Int) → S1 (d_119_82 f g) (fun q : G => Inv q ∧ ((q 113 6).toInt = (g 113 6).toInt ∧ (q 113 14).toInt = (g 113 14).toInt ∧ (q 116 8).toInt = (g 116 8).toInt ∧ ((g 113 19).toInt ≠ 0 → (q 113 19).toInt ≠ 0) ∧ (q 113 17).toInt = (g 113 17).toInt ∧ (g 113 15).toInt ≤ (q 113 15).toInt ∧ ((g 113 15).toInt < (g 113 14).toInt ∧ 97 ≤ (g 117 (g 113 15).toInt.toNat).toInt ∧ (g 117 (g 113 15).toInt.toNat).toInt ≤ 122 → (g 113 15).toInt < (q 113 15).toInt))) := by
  intro f
  induction f with
  | zero =>
    intro g hI hp
    exfalso
    have yp91 : 0 ≤ (g 113 15).toInt ∧ (g 113 15).toInt ≤ 160 := Inv.rd (r := 113) (c := 8) hI 15 rfl
    omega
  | succ f ih =>
    intro g hI hp
    rw [d_119_82.eq_2]
    have L1 := zl_1
    have L97 := zl_97
    have L122 := zl_122
    have yp92 : 0 ≤ (g 113 14).toInt ∧ (g 113 14).toInt ≤ 160 := Inv.rd (r := 113) (c := 8) hI 14 rfl
    have yp93 : 0 ≤ (g 113 15).toInt ∧ (g 113 15).toInt ≤ 160 := Inv.rd (r := 113) (c := 8) hI 15 rfl
    have yp94 : 0 ≤ (g 113 19).toInt ∧ (g 113 19).toInt ≤ 6 := Inv.rd (r := 113) (c := 8) hI 19 rfl
    have yp95 : 0 ≤ (g 113 6).toInt ∧ (g 113 6).toInt ≤ 4 := Inv.rd (r := 113) (c := 8) hI 6 rfl
    have yp96 := hI.d8
    have y78 : 0 ≤ (g 113 15).toInt ∧ (g 113 15).toInt ≤ 160 := Inv.rd (r := 113) (c := 8) hI 15 rfl
    refine S1.bd (s_114 (g 113 15) g hI (by omega)) ?_
    intro v32 hvv32 hRv32
    have hRv32 : True ∧ (((g 113 14).toInt ≤ (g 113 15).toInt → v32.toInt = -1) ∧ ((g 113 15).toInt < (g 113 14).toInt → v32.toInt = (g 117 (g 113 15).toInt.toNat).toInt)) := hRv32
    have y79 : 0 ≤ (g 113 14).toInt ∧ (g 113 14).toInt ≤ 160 := Inv.rd (r := 113) (c := 8) hI 14 rfl
    have y80 := zi_i64 v32
    have y81 : (97 : Int64).toInt = 97 := by decide
    have y82 : (122 : Int64).toInt = 122 := by decide
    refine S1.lc (zin_c (a := (Int32.toInt64 v32)) (b := (97 : Int64)) (c := (122 : Int64))) ?_
    intro v33 hvv33 hRv33
    have hRv33 : (v33 = true → (97 : Int64).toInt ≤ (Int32.toInt64 v32).toInt ∧ (Int32.toInt64 v32).toInt ≤ (122 : Int64).toInt) ∧ (v33 = false → (Int32.toInt64 v32).toInt < (97 : Int64).toInt ∨ (122 : Int64).toInt < (Int32.toInt64 v32).toInt) := hRv33
    refine S1.ite (fun hc34 => ?_) (fun hc34 => ?_)
    · skip
      have chc34 := hRv33.1 hc34
      try have y83 := zi_add (x := (g 113 15)) (y := (1 : Int32)) (by omega) (by omega)
      refine S1.lt ?_
      intro g35 hg35
      have Ig35 : Inv g35 := Inv.up hI hg35 rfl (show 0 ≤ ((g 113 15) + 1).toInt ∧ ((g 113 15) + 1).toInt ≤ 160 by omega)
      have u84 : (g35 113 6).toInt = (g 113 6).toInt := by rw [← hg35]; rfl
      have u85 : (g35 113 14).toInt = (g 113 14).toInt := by rw [← hg35]; rfl
      have u86 : (g35 113 15).toInt = ((g 113 15) + 1).toInt := by rw [← hg35]; rfl
      have u87 : (g35 113 17).toInt = (g 113 17).toInt := by rw [← hg35]; rfl
      have u88 : (g35 113 19).toInt = (g 113 19).toInt := by rw [← hg35]; rfl
      have u89 : (g35 116 8).toInt = (g 116 8).toInt := by rw [← hg35]; rfl
      have y90 : 0 ≤ (g35 113 15).toInt ∧ (g35 113 15).toInt ≤ 160 := Inv.rd (r := 113) (c := 8) Ig35 15 rfl
      refine S1.mono (ih g35 Ig35 (by omega)) ?_
      rintro v0 hq
      have hq : Inv v0 ∧ ((v0 113 6).toInt = (g35 113 6).toInt ∧ (v0 113 14).toInt = (g35 113 14).toInt ∧ (v0 116 8).toInt = (g35 116 8).toInt ∧ ((g35 113 19).toInt ≠ 0 → (v0 113 19).toInt ≠ 0) ∧ (v0 113 17).toInt = (g35 113 17).toInt ∧ (g35 113 15).toInt ≤ (v0 113 15).toInt ∧ ((g35 113 15).toInt < (g35 113 14).toInt ∧ 97 ≤ (g35 117 (g35 113 15).toInt.toNat).toInt ∧ (g35 117 (g35 113 15).toInt.toNat).toInt ≤ 122 → (g35 113 15).toInt < (v0 113 15).toInt)) := hq
      exact ⟨hq.1, (by omega)⟩
    · skip
      have chc34 := hRv33.2 hc34
      exact S1.ret (show Inv g ∧ ((g 113 6).toInt = (g 113 6).toInt ∧ (g 113 14).toInt = (g 113 14).toInt ∧ (g 116 8).toInt = (g 116 8).toInt ∧ ((g 113 19).toInt ≠ 0 → (g 113 19).toInt ≠ 0) ∧ (g 113 17).toInt = (g 113 17).toInt ∧ (g 113 15).toInt ≤ (g 113 15).toInt ∧ ((g 113 15).toInt < (g 113 14).toInt ∧ 97 ≤ (g 117 (g 113 15).toInt.toNat).toInt ∧ (g 117 (g 113 15).toInt.toNat).toInt ≤ 122 → (g 113 15).toInt < (g 113 15).toInt)) from ⟨hI, (by omega)⟩)
theorem s_119_8 : ∀ (f : Nat) (g : G), Inv g → 160 - (g 113 15).toInt < (f : Int) → S1 (d_119_8 f g) (fun q : G => Inv q ∧ ((q 113 6).toInt = (g 113 6).toInt ∧ (q 113 14).toInt = (g 113 14).toInt ∧ (q 116 8).toInt = (g 116 8).toInt ∧ ((g 113 19).toInt ≠ 0 → (q 113 19).toInt ≠ 0) ∧ (g 113 15).toInt ≤ (q 113 15).toInt ∧ ((q 113 19).toInt = 0 ∧ (q 113 17).toInt ≠ 0 → (g 113 15).toInt < (q 113 15).toInt))) := by
  intro f
  induction f with
  | zero =>
    intro g hI hp
    exfalso
    have yp214 : 0 ≤ (g 113 15).toInt ∧ (g 113 15).toInt ≤ 160 := Inv.rd (r := 113) (c := 8) hI 15 rfl
    omega
  | succ f ih =>
    intro g hI hp
    rw [d_119_8.eq_2]
    have L0 := zl_0
    have L1 := zl_1
    have L2 := zl_2
    have L3 := zl_3
    have L32 := zl_32
    have L48 := zl_48
    have L57 := zl_57
    have L59 := zl_59
    have L97 := zl_97
    have L122 := zl_122
    have yp215 : 0 ≤ (g 113 14).toInt ∧ (g 113 14).toInt ≤ 160 := Inv.rd (r := 113) (c := 8) hI 14 rfl
    have yp216 : 0 ≤ (g 113 15).toInt ∧ (g 113 15).toInt ≤ 160 := Inv.rd (r := 113) (c := 8) hI 15 rfl
    have yp217 : 0 ≤ (g 113 16).toInt ∧ (g 113 16).toInt ≤ 160 := Inv.rd (r := 113) (c := 8) hI 16 rfl
    have yp218 : 0 ≤ (g 113 19).toInt ∧ (g 113 19).toInt ≤ 6 := Inv.rd (r := 113) (c := 8) hI 19 rfl
    have yp219 : 0 ≤ (g 113 6).toInt ∧ (g 113 6).toInt ≤ 4 := Inv.rd (r := 113) (c := 8) hI 6 rfl
    have yp220 := hI.d8
    have y97 : 0 ≤ (g 113 15).toInt ∧ (g 113 15).toInt ≤ 160 := Inv.rd (r := 113) (c := 8) hI 15 rfl
    refine S1.bd (s_114 (g 113 15) g hI (by omega)) ?_
    intro v2 hvv2 hRv2
    have hRv2 : True ∧ (((g 113 14).toInt ≤ (g 113 15).toInt → v2.toInt = -1) ∧ ((g 113 15).toInt < (g 113 14).toInt → v2.toInt = (g 117 (g 113 15).toInt.toNat).toInt)) := hRv2
    have y98 : 0 ≤ (g 113 14).toInt ∧ (g 113 14).toInt ≤ 160 := Inv.rd (r := 113) (c := 8) hI 14 rfl
    refine S1.ite (fun hc3 => ?_) (fun hc3 => ?_)
    · skip
      have chc3 := zc_neT hc3
      refine S1.lt ?_
      intro g4 hg4
      have Ig4 : Inv g4 := Inv.up hI hg4 rfl (show 0 ≤ (g 113 15).toInt ∧ (g 113 15).toInt ≤ 160 by omega)
      have u99 : (g4 117 (g4 113 15).toInt.toNat).toInt = (g 117 (g 113 15).toInt.toNat).toInt := by rw [← hg4]; rfl
      have u100 : (g4 113 6).toInt = (g 113 6).toInt := by rw [← hg4]; rfl
      have u101 : (g4 113 14).toInt = (g 113 14).toInt := by rw [← hg4]; rfl
      have u102 : (g4 113 15).toInt = (g 113 15).toInt := by rw [← hg4]; rfl
      have u103 : (g4 113 16).toInt = (g 113 15).toInt := by rw [← hg4]; rfl
      have u104 : (g4 113 17).toInt = (g 113 17).toInt := by rw [← hg4]; rfl
      have u105 : (g4 113 18).toInt = (g 113 18).toInt := by rw [← hg4]; rfl
      have u106 : (g4 113 19).toInt = (g 113 19).toInt := by rw [← hg4]; rfl
      have u107 : (g4 116 8).toInt = (g 116 8).toInt := by rw [← hg4]; rfl
      have y108 : 0 ≤ (g4 113 15).toInt ∧ (g4 113 15).toInt ≤ 160 := Inv.rd (r := 113) (c := 8) Ig4 15 rfl
      refine S1.bd (s_114 (g4 113 15) g4 Ig4 (by omega)) ?_
      intro v5 hvv5 hRv5
      have hRv5 : True ∧ (((g4 113 14).toInt ≤ (g4 113 15).toInt → v5.toInt = -1) ∧ ((g4 113 15).toInt < (g4 113 14).toInt → v5.toInt = (g4 117 (g4 113 15).toInt.toNat).toInt)) := hRv5
      have y109 : 0 ≤ (g4 113 14).toInt ∧ (g4 113 14).toInt ≤ 160 := Inv.rd (r := 113) (c := 8) Ig4 14 rfl
      refine S1.ite (fun hc6 => ?_) (fun hc6 => ?_)
      · skip
        have chc6 := zc_geT hc6
        have y110 := zi_i64 v5
        have y111 : (97 : Int64).toInt = 97 := by decide
        have y112 : (122 : Int64).toInt = 122 := by decide
        refine S1.lc (zin_c (a := (Int32.toInt64 v5)) (b := (97 : Int64)) (c := (122 : Int64))) ?_
        intro v7 hvv7 hRv7
        have hRv7 : (v7 = true → (97 : Int64).toInt ≤ (Int32.toInt64 v5).toInt ∧ (Int32.toInt64 v5).toInt ≤ (122 : Int64).toInt) ∧ (v7 = false → (Int32.toInt64 v5).toInt < (97 : Int64).toInt ∨ (122 : Int64).toInt < (Int32.toInt64 v5).toInt) := hRv7
        refine S1.ite (fun hc8 => ?_) (fun hc8 => ?_)
        · skip
          have chc8 := hRv7.1 hc8
          refine S1.lt ?_
          intro g31 hg31
          have Ig31 : Inv g31 := Inv.up Ig4 hg31 rfl trivial
          have u113 : (g31 117 (g31 113 15).toInt.toNat).toInt = (g4 117 (g4 113 15).toInt.toNat).toInt := by rw [← hg31]; rfl
          have u114 : (g31 113 6).toInt = (g4 113 6).toInt := by rw [← hg31]; rfl
          have u115 : (g31 113 14).toInt = (g4 113 14).toInt := by rw [← hg31]; rfl
          have u116 : (g31 113 15).toInt = (g4 113 15).toInt := by rw [← hg31]; rfl
          have u117 : (g31 113 16).toInt = (g4 113 16).toInt := by rw [← hg31]; rfl
          have u118 : (g31 113 17).toInt = (1 : Int32).toInt := by rw [← hg31]; rfl
          have u119 : (g31 113 18).toInt = (g4 113 18).toInt := by rw [← hg31]; rfl
          have u120 : (g31 113 19).toInt = (g4 113 19).toInt := by rw [← hg31]; rfl
          have u121 : (g31 116 8).toInt = (g4 116 8).toInt := by rw [← hg31]; rfl
          have y122 : 0 ≤ (g31 113 15).toInt ∧ (g31 113 15).toInt ≤ 160 := Inv.rd (r := 113) (c := 8) Ig31 15 rfl
          refine S1.mono (s_119_82 300 g31 Ig31 (by omega)) ?_
          rintro v0 hq
          have hq : Inv v0 ∧ ((v0 113 6).toInt = (g31 113 6).toInt ∧ (v0 113 14).toInt = (g31 113 14).toInt ∧ (v0 116 8).toInt = (g31 116 8).toInt ∧ ((g31 113 19).toInt ≠ 0 → (v0 113 19).toInt ≠ 0) ∧ (v0 113 17).toInt = (g31 113 17).toInt ∧ (g31 113 15).toInt ≤ (v0 113 15).toInt ∧ ((g31 113 15).toInt < (g31 113 14).toInt ∧ 97 ≤ (g31 117 (g31 113 15).toInt.toNat).toInt ∧ (g31 117 (g31 113 15).toInt.toNat).toInt ≤ 122 → (g31 113 15).toInt < (v0 113 15).toInt)) := hq
          exact ⟨hq.1, (by omega)⟩
        · skip
          have chc8 := hRv7.2 hc8
          have y123 : (48 : Int64).toInt = 48 := by decide
          have y124 : (57 : Int64).toInt = 57 := by decide
          refine S1.lc (zin_c (a := (Int32.toInt64 v5)) (b := (48 : Int64)) (c := (57 : Int64))) ?_
          intro v9 hvv9 hRv9
          have hRv9 : (v9 = true → (48 : Int64).toInt ≤ (Int32.toInt64 v5).toInt ∧ (Int32.toInt64 v5).toInt ≤ (57 : Int64).toInt) ∧ (v9 = false → (Int32.toInt64 v5).toInt < (48 : Int64).toInt ∨ (57 : Int64).toInt < (Int32.toInt64 v5).toInt) := hRv9
          refine S1.ite (fun hc10 => ?_) (fun hc10 => ?_)
          · skip
            have chc10 := hRv9.1 hc10
            refine S1.lt ?_
            intro g17 hg17
            have Ig17 : Inv g17 := Inv.up Ig4 hg17 rfl trivial
            have u125 : (g17 117 (g17 113 15).toInt.toNat).toInt = (g4 117 (g4 113 15).toInt.toNat).toInt := by rw [← hg17]; rfl
            have u126 : (g17 113 6).toInt = (g4 113 6).toInt := by rw [← hg17]; rfl
            have u127 : (g17 113 14).toInt = (g4 113 14).toInt := by rw [← hg17]; rfl
            have u128 : (g17 113 15).toInt = (g4 113 15).toInt := by rw [← hg17]; rfl
            have u129 : (g17 113 16).toInt = (g4 113 16).toInt := by rw [← hg17]; rfl
            have u130 : (g17 113 17).toInt = (2 : Int32).toInt := by rw [← hg17]; rfl
            have u131 : (g17 113 18).toInt = (g4 113 18).toInt := by rw [← hg17]; rfl
            have u132 : (g17 113 19).toInt = (g4 113 19).toInt := by rw [← hg17]; rfl
            have u133 : (g17 116 8).toInt = (g4 116 8).toInt := by rw [← hg17]; rfl
            refine S1.lt ?_
            intro g18 hg18
            have Ig18 : Inv g18 := Inv.up Ig17 hg18 rfl trivial
            have u134 : (g18 117 (g18 113 15).toInt.toNat).toInt = (g17 117 (g17 113 15).toInt.toNat).toInt := by rw [← hg18]; rfl
            have u135 : (g18 113 6).toInt = (g17 113 6).toInt := by rw [← hg18]; rfl
            have u136 : (g18 113 14).toInt = (g17 113 14).toInt := by rw [← hg18]; rfl
            have u137 : (g18 113 15).toInt = (g17 113 15).toInt := by rw [← hg18]; rfl
            have u138 : (g18 113 16).toInt = (g17 113 16).toInt := by rw [← hg18]; rfl
            have u139 : (g18 113 17).toInt = (g17 113 17).toInt := by rw [← hg18]; rfl
            have u140 : (g18 113 18).toInt = (0 : Int32).toInt := by rw [← hg18]; rfl
            have u141 : (g18 113 19).toInt = (g17 113 19).toInt := by rw [← hg18]; rfl
            have u142 : (g18 116 8).toInt = (g17 116 8).toInt := by rw [← hg18]; rfl
            have y143 : 0 ≤ (g18 113 15).toInt ∧ (g18 113 15).toInt ≤ 160 := Inv.rd (r := 113) (c := 8) Ig18 15 rfl
            refine S1.mono (s_119_140 300 g18 Ig18 (by omega)) ?_
            rintro v0 hq
            have hq : Inv v0 ∧ ((v0 113 6).toInt = (g18 113 6).toInt ∧ (v0 113 14).toInt = (g18 113 14).toInt ∧ (v0 116 8).toInt = (g18 116 8).toInt ∧ ((g18 113 19).toInt ≠ 0 → (v0 113 19).toInt ≠ 0) ∧ (v0 113 17).toInt = (g18 113 17).toInt ∧ (g18 113 15).toInt ≤ (v0 113 15).toInt ∧ ((g18 113 15).toInt < (g18 113 14).toInt ∧ 48 ≤ (g18 117 (g18 113 15).toInt.toNat).toInt ∧ (g18 117 (g18 113 15).toInt.toNat).toInt ≤ 57 → (g18 113 15).toInt < (v0 113 15).toInt)) := hq
            exact ⟨hq.1, (by omega)⟩
          · skip
            have chc10 := hRv9.2 hc10
            refine S1.lt ?_
            intro g11 hg11
            have Ig11 : Inv g11 := Inv.up Ig4 hg11 rfl trivial
            have u144 : (g11 117 (g11 113 15).toInt.toNat).toInt = (g4 117 (g4 113 15).toInt.toNat).toInt := by rw [← hg11]; rfl
            have u145 : (g11 113 6).toInt = (g4 113 6).toInt := by rw [← hg11]; rfl
            have u146 : (g11 113 14).toInt = (g4 113 14).toInt := by rw [← hg11]; rfl
            have u147 : (g11 113 15).toInt = (g4 113 15).toInt := by rw [← hg11]; rfl
            have u148 : (g11 113 16).toInt = (g4 113 16).toInt := by rw [← hg11]; rfl
            have u149 : (g11 113 17).toInt = (3 : Int32).toInt := by rw [← hg11]; rfl
            have u150 : (g11 113 18).toInt = (g4 113 18).toInt := by rw [← hg11]; rfl
            have u151 : (g11 113 19).toInt = (g4 113 19).toInt := by rw [← hg11]; rfl
            have u152 : (g11 116 8).toInt = (g4 116 8).toInt := by rw [← hg11]; rfl
            refine S1.ite (fun hc12 => ?_) (fun hc12 => ?_)
            · skip
              have chc12 := zc_neT hc12
              refine S1.lc (s_113 (0 : Int32) (1 : Int32) g11 Ig11 (by omega)) ?_
              intro g13 hvg13 hRg13
              have hRg13 : Inv g13 ∧ ((g13 113 6).toInt = (g11 113 6).toInt ∧ (g13 113 14).toInt = (g11 113 14).toInt ∧ (g13 116 8).toInt = (g11 116 8).toInt ∧ (g13 113 15).toInt = (g11 113 15).toInt ∧ (g13 113 16).toInt = (g11 113 16).toInt ∧ (g13 113 17).toInt = (g11 113 17).toInt ∧ (g13 113 18).toInt = (g11 113 18).toInt ∧ ((g11 113 19).toInt ≠ 0 → (g13 113 19).toInt ≠ 0) ∧ ((0 : Int32).toInt = 0 → (g13 113 19).toInt ≠ 0) ∧ ((0 : Int32).toInt ≠ 0 → (g13 113 19).toInt = (g11 113 19).toInt)) := hRg13
              have y153 : 0 ≤ (g11 113 14).toInt ∧ (g11 113 14).toInt ≤ 160 := Inv.rd (r := 113) (c := 8) Ig11 14 rfl
              have y154 : 0 ≤ (g11 113 15).toInt ∧ (g11 113 15).toInt ≤ 160 := Inv.rd (r := 113) (c := 8) Ig11 15 rfl
              have y155 : 0 ≤ (g11 113 16).toInt ∧ (g11 113 16).toInt ≤ 160 := Inv.rd (r := 113) (c := 8) Ig11 16 rfl
              have y156 : 0 ≤ (g11 113 19).toInt ∧ (g11 113 19).toInt ≤ 6 := Inv.rd (r := 113) (c := 8) Ig11 19 rfl
              have y157 : 0 ≤ (g11 113 6).toInt ∧ (g11 113 6).toInt ≤ 4 := Inv.rd (r := 113) (c := 8) Ig11 6 rfl
              have y158 := Ig11.d8
              have y159 : 0 ≤ (g13 113 6).toInt ∧ (g13 113 6).toInt ≤ 4 := Inv.rd (r := 113) (c := 8) hRg13.1 6 rfl
              have y160 : 0 ≤ (g13 113 14).toInt ∧ (g13 113 14).toInt ≤ 160 := Inv.rd (r := 113) (c := 8) hRg13.1 14 rfl
              have y161 : 0 ≤ (g13 113 15).toInt ∧ (g13 113 15).toInt ≤ 160 := Inv.rd (r := 113) (c := 8) hRg13.1 15 rfl
              have y162 : 0 ≤ (g13 113 16).toInt ∧ (g13 113 16).toInt ≤ 160 := Inv.rd (r := 113) (c := 8) hRg13.1 16 rfl
              have y163 : 0 ≤ (g13 113 19).toInt ∧ (g13 113 19).toInt ≤ 6 := Inv.rd (r := 113) (c := 8) hRg13.1 19 rfl
              have y164 := hRg13.1.d8
              try have y165 := zi_add (x := (g13 113 15)) (y := (1 : Int32)) (by omega) (by omega)
              refine S1.lt ?_
              intro g14 hg14
              have Ig14 : Inv g14 := Inv.up hRg13.1 hg14 rfl (show 0 ≤ ((g13 113 15) + 1).toInt ∧ ((g13 113 15) + 1).toInt ≤ 160 by omega)
              have u166 : (g14 113 6).toInt = (g13 113 6).toInt := by rw [← hg14]; rfl
              have u167 : (g14 113 14).toInt = (g13 113 14).toInt := by rw [← hg14]; rfl
              have u168 : (g14 113 15).toInt = ((g13 113 15) + 1).toInt := by rw [← hg14]; rfl
              have u169 : (g14 113 16).toInt = (g13 113 16).toInt := by rw [← hg14]; rfl
              have u170 : (g14 113 17).toInt = (g13 113 17).toInt := by rw [← hg14]; rfl
              have u171 : (g14 113 18).toInt = (g13 113 18).toInt := by rw [← hg14]; rfl
              have u172 : (g14 113 19).toInt = (g13 113 19).toInt := by rw [← hg14]; rfl
              have u173 : (g14 116 8).toInt = (g13 116 8).toInt := by rw [← hg14]; rfl
              exact S1.ret (show Inv g14 ∧ ((g14 113 6).toInt = (g 113 6).toInt ∧ (g14 113 14).toInt = (g 113 14).toInt ∧ (g14 116 8).toInt = (g 116 8).toInt ∧ ((g 113 19).toInt ≠ 0 → (g14 113 19).toInt ≠ 0) ∧ (g 113 15).toInt ≤ (g14 113 15).toInt ∧ ((g14 113 19).toInt = 0 ∧ (g14 113 17).toInt ≠ 0 → (g 113 15).toInt < (g14 113 15).toInt)) from ⟨Ig14, (by omega)⟩)
            · skip
              have chc12 := zc_neF hc12
              refine S1.lc (s_113 (1 : Int32) (1 : Int32) g11 Ig11 (by omega)) ?_
              intro g15 hvg15 hRg15
              have hRg15 : Inv g15 ∧ ((g15 113 6).toInt = (g11 113 6).toInt ∧ (g15 113 14).toInt = (g11 113 14).toInt ∧ (g15 116 8).toInt = (g11 116 8).toInt ∧ (g15 113 15).toInt = (g11 113 15).toInt ∧ (g15 113 16).toInt = (g11 113 16).toInt ∧ (g15 113 17).toInt = (g11 113 17).toInt ∧ (g15 113 18).toInt = (g11 113 18).toInt ∧ ((g11 113 19).toInt ≠ 0 → (g15 113 19).toInt ≠ 0) ∧ ((1 : Int32).toInt = 0 → (g15 113 19).toInt ≠ 0) ∧ ((1 : Int32).toInt ≠ 0 → (g15 113 19).toInt = (g11 113 19).toInt)) := hRg15
              have y174 : 0 ≤ (g11 113 14).toInt ∧ (g11 113 14).toInt ≤ 160 := Inv.rd (r := 113) (c := 8) Ig11 14 rfl
              have y175 : 0 ≤ (g11 113 15).toInt ∧ (g11 113 15).toInt ≤ 160 := Inv.rd (r := 113) (c := 8) Ig11 15 rfl
              have y176 : 0 ≤ (g11 113 16).toInt ∧ (g11 113 16).toInt ≤ 160 := Inv.rd (r := 113) (c := 8) Ig11 16 rfl
              have y177 : 0 ≤ (g11 113 19).toInt ∧ (g11 113 19).toInt ≤ 6 := Inv.rd (r := 113) (c := 8) Ig11 19 rfl
              have y178 : 0 ≤ (g11 113 6).toInt ∧ (g11 113 6).toInt ≤ 4 := Inv.rd (r := 113) (c := 8) Ig11 6 rfl
              have y179 := Ig11.d8
              have y180 : 0 ≤ (g15 113 6).toInt ∧ (g15 113 6).toInt ≤ 4 := Inv.rd (r := 113) (c := 8) hRg15.1 6 rfl
              have y181 : 0 ≤ (g15 113 14).toInt ∧ (g15 113 14).toInt ≤ 160 := Inv.rd (r := 113) (c := 8) hRg15.1 14 rfl
              have y182 : 0 ≤ (g15 113 15).toInt ∧ (g15 113 15).toInt ≤ 160 := Inv.rd (r := 113) (c := 8) hRg15.1 15 rfl
              have y183 : 0 ≤ (g15 113 16).toInt ∧ (g15 113 16).toInt ≤ 160 := Inv.rd (r := 113) (c := 8) hRg15.1 16 rfl
              have y184 : 0 ≤ (g15 113 19).toInt ∧ (g15 113 19).toInt ≤ 6 := Inv.rd (r := 113) (c := 8) hRg15.1 19 rfl
              have y185 := hRg15.1.d8
              try have y186 := zi_add (x := (g15 113 15)) (y := (1 : Int32)) (by omega) (by omega)
              refine S1.lt ?_
              intro g16 hg16
              have Ig16 : Inv g16 := Inv.up hRg15.1 hg16 rfl (show 0 ≤ ((g15 113 15) + 1).toInt ∧ ((g15 113 15) + 1).toInt ≤ 160 by omega)
              have u187 : (g16 113 6).toInt = (g15 113 6).toInt := by rw [← hg16]; rfl
              have u188 : (g16 113 14).toInt = (g15 113 14).toInt := by rw [← hg16]; rfl
              have u189 : (g16 113 15).toInt = ((g15 113 15) + 1).toInt := by rw [← hg16]; rfl
              have u190 : (g16 113 16).toInt = (g15 113 16).toInt := by rw [← hg16]; rfl
              have u191 : (g16 113 17).toInt = (g15 113 17).toInt := by rw [← hg16]; rfl
              have u192 : (g16 113 18).toInt = (g15 113 18).toInt := by rw [← hg16]; rfl
              have u193 : (g16 113 19).toInt = (g15 113 19).toInt := by rw [← hg16]; rfl
              have u194 : (g16 116 8).toInt = (g15 116 8).toInt := by rw [← hg16]; rfl
              exact S1.ret (show Inv g16 ∧ ((g16 113 6).toInt = (g 113 6).toInt ∧ (g16 113 14).toInt = (g 113 14).toInt ∧ (g16 116 8).toInt = (g 116 8).toInt ∧ ((g 113 19).toInt ≠ 0 → (g16 113 19).toInt ≠ 0) ∧ (g 113 15).toInt ≤ (g16 113 15).toInt ∧ ((g16 113 19).toInt = 0 ∧ (g16 113 17).toInt ≠ 0 → (g 113 15).toInt < (g16 113 15).toInt)) from ⟨Ig16, (by omega)⟩)
      · skip
        have chc6 := zc_geF hc6
        refine S1.lt ?_
        intro g36 hg36
        have Ig36 : Inv g36 := Inv.up Ig4 hg36 rfl trivial
        have u195 : (g36 117 (g36 113 15).toInt.toNat).toInt = (g4 117 (g4 113 15).toInt.toNat).toInt := by rw [← hg36]; rfl
        have u196 : (g36 113 6).toInt = (g4 113 6).toInt := by rw [← hg36]; rfl
        have u197 : (g36 113 14).toInt = (g4 113 14).toInt := by rw [← hg36]; rfl
        have u198 : (g36 113 15).toInt = (g4 113 15).toInt := by rw [← hg36]; rfl
        have u199 : (g36 113 16).toInt = (g4 113 16).toInt := by rw [← hg36]; rfl
        have u200 : (g36 113 17).toInt = (0 : Int32).toInt := by rw [← hg36]; rfl
        have u201 : (g36 113 18).toInt = (g4 113 18).toInt := by rw [← hg36]; rfl
        have u202 : (g36 113 19).toInt = (g4 113 19).toInt := by rw [← hg36]; rfl
        have u203 : (g36 116 8).toInt = (g4 116 8).toInt := by rw [← hg36]; rfl
        exact S1.ret (show Inv g36 ∧ ((g36 113 6).toInt = (g 113 6).toInt ∧ (g36 113 14).toInt = (g 113 14).toInt ∧ (g36 116 8).toInt = (g 116 8).toInt ∧ ((g 113 19).toInt ≠ 0 → (g36 113 19).toInt ≠ 0) ∧ (g 113 15).toInt ≤ (g36 113 15).toInt ∧ ((g36 113 19).toInt = 0 ∧ (g36 113 17).toInt ≠ 0 → (g 113 15).toInt < (g36 113 15).toInt)) from ⟨Ig36, (by omega)⟩)
    · skip
      have chc3 := zc_neF hc3
      try have y204 := zi_add (x := (g 113 15)) (y := (1 : Int32)) (by omega) (by omega)
      refine S1.lt ?_
      intro g37 hg37
      have Ig37 : Inv g37 := Inv.up hI hg37 rfl (show 0 ≤ ((g 113 15) + 1).toInt ∧ ((g 113 15) + 1).toInt ≤ 160 by omega)
      have u205 : (g37 113 6).toInt = (g 113 6).toInt := by rw [← hg37]; rfl
      have u206 : (g37 113 14).toInt = (g 113 14).toInt := by rw [← hg37]; rfl
      have u207 : (g37 113 15).toInt = ((g 113 15) + 1).toInt := by rw [← hg37]; rfl
      have u208 : (g37 113 16).toInt = (g 113 16).toInt := by rw [← hg37]; rfl
      have u209 : (g37 113 17).toInt = (g 113 17).toInt := by rw [← hg37]; rfl
      have u210 : (g37 113 18).toInt = (g 113 18).toInt := by rw [← hg37]; rfl
      have u211 : (g37 113 19).toInt = (g 113 19).toInt := by rw [← hg37]; rfl
      have u212 : (g37 116 8).toInt = (g 116 8).toInt := by rw [← hg37]; rfl
      have y213 : 0 ≤ (g37 113 15).toInt ∧ (g37 113 15).toInt ≤ 160 := Inv.rd (r := 113) (c := 8) Ig37 15 rfl
      refine S1.mono (ih g37 Ig37 (by omega)) ?_
      rintro v0 hq
      have hq : Inv v0 ∧ ((v0 113 6).toInt = (g37 113 6).toInt ∧ (v0 113 14).toInt = (g37 113 14).toInt ∧ (v0 116 8).toInt = (g37 116 8).toInt ∧ ((g37 113 19).toInt ≠ 0 → (v0 113 19).toInt ≠ 0) ∧ (g37 113 15).toInt ≤ (v0 113 15).toInt ∧ ((v0 113 19).toInt = 0 ∧ (v0 113 17).toInt ≠ 0 → (g37 113 15).toInt < (v0 113 15).toInt)) := hq
      exact ⟨hq.1, (by omega)⟩
/-- EveningFirstModel.next -/
theorem s_119 (g : G) (hI : Inv g) (hp : True) : S1 (d_119 g) (fun q : G => Inv q ∧ ((q 113 6).toInt = (g 113 6).toInt ∧ (q 113 14).toInt = (g 113 14).toInt ∧ (q 116 8).toInt = (g 116 8).toInt ∧ ((g 113 19).toInt ≠ 0 → (q 113 19).toInt ≠ 0) ∧ (g 113 15).toInt ≤ (q 113 15).toInt ∧ ((q 113 19).toInt = 0 ∧ (q 113 17).toInt ≠ 0 → (g 113 15).toInt < (q 113 15).toInt))) := by
  unfold d_119
  have L0 := zl_0
  have yp223 : 0 ≤ (g 113 14).toInt ∧ (g 113 14).toInt ≤ 160 := Inv.rd (r := 113) (c := 8) hI 14 rfl
  have yp224 : 0 ≤ (g 113 15).toInt ∧ (g 113 15).toInt ≤ 160 := Inv.rd (r := 113) (c := 8) hI 15 rfl
  have yp225 : 0 ≤ (g 113 19).toInt ∧ (g 113 19).toInt ≤ 6 := Inv.rd (r := 113) (c := 8) hI 19 rfl
  have yp226 : 0 ≤ (g 113 6).toInt ∧ (g 113 6).toInt ≤ 4 := Inv.rd (r := 113) (c := 8) hI 6 rfl
  have yp227 := hI.d8
  have y221 : 0 ≤ (g 113 19).toInt ∧ (g 113 19).toInt ≤ 6 := Inv.rd (r := 113) (c := 8) hI 19 rfl
  refine S1.ite (fun hc1 => ?_) (fun hc1 => ?_)
  · skip
    have chc1 := zc_leT hc1
    have y222 : 0 ≤ (g 113 15).toInt ∧ (g 113 15).toInt ≤ 160 := Inv.rd (r := 113) (c := 8) hI 15 rfl
    exact (s_119_8 300 g hI (by omega))
  · skip
    have chc1 := zc_leF hc1
    exact S1.ret (show Inv g ∧ ((g 113 6).toInt = (g 113 6).toInt ∧ (g 113 14).toInt = (g 113 14).toInt ∧ (g 116 8).toInt = (g 116 8).toInt ∧ ((g 113 19).toInt ≠ 0 → (g 113 19).toInt ≠ 0) ∧ (g 113 15).toInt ≤ (g 113 15).toInt ∧ ((g 113 19).toInt = 0 ∧ (g 113 17).toInt ≠ 0 → (g 113 15).toInt < (g 113 15).toInt)) from ⟨hI, (by omega)⟩)
