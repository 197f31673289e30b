/-! printed by wip/tools/safe.py -/
/-- EveningFirstModel.readNumber -/
theorem s_121 (x1 : Int32) (x2 : Int32) (g : G) (hI : Inv g) (hp : x1.toInt ≤ x2.toInt) : S1 (d_121 x1 x2 g) (fun q : Int32 × G => Inv q.2 ∧ ((q.2 113 6).toInt = (g 113 6).toInt ∧ (q.2 113 14).toInt = (g 113 14).toInt ∧ (q.2 116 8).toInt = (g 116 8).toInt ∧ ((g 113 19).toInt ≠ 0 → (q.2 113 19).toInt ≠ 0) ∧ (g 113 15).toInt ≤ (q.2 113 15).toInt ∧ ((q.2 113 19).toInt = 0 ∧ (q.2 113 17).toInt ≠ 0 → (g 113 15).toInt < (q.2 113 15).toInt) ∧ (q.1.toInt = 0 ∨ x1.toInt ≤ q.1.toInt ∧ q.1.toInt ≤ x2.toInt))) := by
  unfold d_121
  have yp16 : 0 ≤ (g 113 14).toInt ∧ (g 113 14).toInt ≤ 160 := Inv.rd (r := 113) (c := 8) hI 14 rfl
  have yp17 : 0 ≤ (g 113 15).toInt ∧ (g 113 15).toInt ≤ 160 := Inv.rd (r := 113) (c := 8) hI 15 rfl
  have yp18 : 0 ≤ (g 113 19).toInt ∧ (g 113 19).toInt ≤ 6 := Inv.rd (r := 113) (c := 8) hI 19 rfl
  have yp19 : 0 ≤ (g 113 6).toInt ∧ (g 113 6).toInt ≤ 4 := Inv.rd (r := 113) (c := 8) hI 6 rfl
  have yp20 := hI.d8
  refine S1.pc (s_120 x1 x2 g hI (by omega)) ?_
  intro v1 g2 hvv1 hRv1
  have hRv1 : Inv g2 ∧ ((g2 113 6).toInt = (g 113 6).toInt ∧ (g2 113 14).toInt = (g 113 14).toInt ∧ (g2 116 8).toInt = (g 116 8).toInt ∧ ((g 113 19).toInt ≠ 0 → (g2 113 19).toInt ≠ 0) ∧ (g2 113 15).toInt = (g 113 15).toInt ∧ (v1.toInt = 0 ∨ x1.toInt ≤ v1.toInt ∧ v1.toInt ≤ x2.toInt)) := hRv1
  have y1 : 0 ≤ (g 113 14).toInt ∧ (g 113 14).toInt ≤ 160 := Inv.rd (r := 113) (c := 8) hI 14 rfl
  have y2 : 0 ≤ (g 113 15).toInt ∧ (g 113 15).toInt ≤ 160 := Inv.rd (r := 113) (c := 8) hI 15 rfl
  have y3 : 0 ≤ (g 113 19).toInt ∧ (g 113 19).toInt ≤ 6 := Inv.rd (r := 113) (c := 8) hI 19 rfl
  have y4 : 0 ≤ (g 113 6).toInt ∧ (g 113 6).toInt ≤ 4 := Inv.rd (r := 113) (c := 8) hI 6 rfl
  have y5 := hI.d8
  have y6 : 0 ≤ (g2 113 6).toInt ∧ (g2 113 6).toInt ≤ 4 := Inv.rd (r := 113) (c := 8) hRv1.1 6 rfl
  have y7 : 0 ≤ (g2 113 14).toInt ∧ (g2 113 14).toInt ≤ 160 := Inv.rd (r := 113) (c := 8) hRv1.1 14 rfl
  have y8 : 0 ≤ (g2 113 15).toInt ∧ (g2 113 15).toInt ≤ 160 := Inv.rd (r := 113) (c := 8) hRv1.1 15 rfl
  have y9 : 0 ≤ (g2 113 19).toInt ∧ (g2 113 19).toInt ≤ 6 := Inv.rd (r := 113) (c := 8) hRv1.1 19 rfl
  have y10 := hRv1.1.d8
  refine S1.bd (s_119 g2 hRv1.1 trivial) ?_
  intro g3 hvg3 hRg3
  have hRg3 : Inv g3 ∧ ((g3 113 6).toInt = (g2 113 6).toInt ∧ (g3 113 14).toInt = (g2 113 14).toInt ∧ (g3 116 8).toInt = (g2 116 8).toInt ∧ ((g2 113 19).toInt ≠ 0 → (g3 113 19).toInt ≠ 0) ∧ (g2 113 15).toInt ≤ (g3 113 15).toInt ∧ ((g3 113 19).toInt = 0 ∧ (g3 113 17).toInt ≠ 0 → (g2 113 15).toInt < (g3 113 15).toInt)) := hRg3
  have y11 : 0 ≤ (g3 113 6).toInt ∧ (g3 113 6).toInt ≤ 4 := Inv.rd (r := 113) (c := 8) hRg3.1 6 rfl
  have y12 : 0 ≤ (g3 113 14).toInt ∧ (g3 113 14).toInt ≤ 160 := Inv.rd (r := 113) (c := 8) hRg3.1 14 rfl
  have y13 : 0 ≤ (g3 113 15).toInt ∧ (g3 113 15).toInt ≤ 160 := Inv.rd (r := 113) (c := 8) hRg3.1 15 rfl
  have y14 : 0 ≤ (g3 113 19).toInt ∧ (g3 113 19).toInt ≤ 6 := Inv.rd (r := 113) (c := 8) hRg3.1 19 rfl
  have y15 := hRg3.1.d8
  exact S1.ret (show Inv g3 ∧ ((g3 113 6).toInt = (g 113 6).toInt ∧ (g3 113 14).toInt = (g 113 14).toInt ∧ (g3 116 8).toInt = (g 116 8).toInt ∧ ((g 113 19).toInt ≠ 0 → (g3 113 19).toInt ≠ 0) ∧ (g 113 15).toInt ≤ (g3 113 15).toInt ∧ ((g3 113 19).toInt = 0 ∧ (g3 113 17).toInt ≠ 0 → (g 113 15).toInt < (g3 113 15).toInt) ∧ (v1.toInt = 0 ∨ x1.toInt ≤ v1.toInt ∧ v1.toInt ≤ x2.toInt)) from ⟨hRg3.1, (by omega)⟩)
theorem s_118_27 (g : G) (hI : Inv g) (hp : True) : S1 (d_118_27 g) (fun q : Int32 => True ∧ True) := by
  unfold d_118_27
  have Lm4 := zl_m4
  have L0 := zl_0
  have L1 := zl_1
  have L2 := zl_2
  have L4 := zl_4
  have L5 := zl_5
  have L97 := zl_97
  have L98 := zl_98
  have L99 := zl_99
  have L101 := zl_101
  have L104 := zl_104
  have L107 := zl_107
  have L111 := zl_111
  have L114 := zl_114
  have L116 := zl_116
  refine S1.bd (s_115 (4 : Int32) (98 : Int32) (97 : Int32) (99 : Int32) g hI trivial) ?_
  intro v3 hvv3 hRv3
  have hRv3 : True ∧ True ∧ (v3 = true → True) ∧ (v3 = false → True) := hRv3
  refine S1.ite (fun hc4 => ?_) (fun hc4 => ?_)
  · skip
    have chc4 := hRv3.2.2.1 hc4
    refine S1.bd (s_116 (107 : Int32) (0 : Int32) g hI trivial) ?_
    intro v9 hvv9 hRv9
    have hRv9 : True ∧ True ∧ (v9 = true → True) ∧ (v9 = false → True) := hRv9
    refine S1.ite (fun hc10 => ?_) (fun hc10 => ?_)
    · skip
      have chc10 := hRv9.2.2.1 hc10
      exact S1.ret (show True ∧ True from ⟨trivial, trivial⟩)
    · skip
      have chc10 := hRv9.2.2.2 hc10
      refine S1.bd (s_115 (5 : Int32) (111 : Int32) (116 : Int32) (104 : Int32) g hI trivial) ?_
      intro v11 hvv11 hRv11
      have hRv11 : True ∧ True ∧ (v11 = true → True) ∧ (v11 = false → True) := hRv11
      refine S1.ite (fun hc12 => ?_) (fun hc12 => ?_)
      · skip
        have chc12 := hRv11.2.2.1 hc12
        refine S1.bd (s_116 (101 : Int32) (114 : Int32) g hI trivial) ?_
        intro v13 hvv13 hRv13
        have hRv13 : True ∧ True ∧ (v13 = true → True) ∧ (v13 = false → True) := hRv13
        refine S1.ite (fun hc14 => ?_) (fun hc14 => ?_)
        · skip
          have chc14 := hRv13.2.2.1 hc14
          exact S1.ret (show True ∧ True from ⟨trivial, trivial⟩)
        · skip
          have chc14 := hRv13.2.2.2 hc14
          exact S1.ret (show True ∧ True from ⟨trivial, trivial⟩)
      · skip
        have chc12 := hRv11.2.2.2 hc12
        exact S1.ret (show True ∧ True from ⟨trivial, trivial⟩)
  · skip
    have chc4 := hRv3.2.2.2 hc4
    refine S1.bd (s_115 (5 : Int32) (111 : Int32) (116 : Int32) (104 : Int32) g hI trivial) ?_
    intro v5 hvv5 hRv5
    have hRv5 : True ∧ True ∧ (v5 = true → True) ∧ (v5 = false → True) := hRv5
    refine S1.ite (fun hc6 => ?_) (fun hc6 => ?_)
    · skip
      have chc6 := hRv5.2.2.1 hc6
      refine S1.bd (s_116 (101 : Int32) (114 : Int32) g hI trivial) ?_
      intro v7 hvv7 hRv7
      have hRv7 : True ∧ True ∧ (v7 = true → True) ∧ (v7 = false → True) := hRv7
      refine S1.ite (fun hc8 => ?_) (fun hc8 => ?_)
      · skip
        have chc8 := hRv7.2.2.1 hc8
        exact S1.ret (show True ∧ True from ⟨trivial, trivial⟩)
      · skip
        have chc8 := hRv7.2.2.2 hc8
        exact S1.ret (show True ∧ True from ⟨trivial, trivial⟩)
    · skip
      have chc6 := hRv5.2.2.2 hc6
      exact S1.ret (show True ∧ True from ⟨trivial, trivial⟩)
/-- EveningFirstModel.wayNow -/
theorem s_118 (g : G) (hI : Inv g) (hp : True) : S1 (d_118 g) (fun q : Int32 => True ∧ True) := by
  unfold d_118
  have L0 := zl_0
  have L5 := zl_5
  have L102 := zl_102
  have L104 := zl_104
  have L111 := zl_111
  have L114 := zl_114
  have L116 := zl_116
  refine S1.bd (s_115 (5 : Int32) (102 : Int32) (111 : Int32) (114 : Int32) g hI trivial) ?_
  intro v1 hvv1 hRv1
  have hRv1 : True ∧ True ∧ (v1 = true → True) ∧ (v1 = false → True) := hRv1
  refine S1.ite (fun hc2 => ?_) (fun hc2 => ?_)
  · skip
    have chc2 := hRv1.2.2.1 hc2
    refine S1.bd (s_116 (116 : Int32) (104 : Int32) g hI trivial) ?_
    intro v15 hvv15 hRv15
    have hRv15 : True ∧ True ∧ (v15 = true → True) ∧ (v15 = false → True) := hRv15
    refine S1.ite (fun hc16 => ?_) (fun hc16 => ?_)
    · skip
      have chc16 := hRv15.2.2.1 hc16
      exact S1.ret (show True ∧ True from ⟨trivial, trivial⟩)
    · skip
      have chc16 := hRv15.2.2.2 hc16
      exact (s_118_27 g hI trivial)
  · skip
    have chc2 := hRv1.2.2.2 hc2
    exact (s_118_27 g hI trivial)
theorem s_122_2 : ∀ (f : Nat) (x1 : Int32) (g : G), Inv g → 1 ≤ (f : Int) ∧ ((g 113 19).toInt = 0 ∧ (g 113 17).toInt = 2 → 161 - (g 113 15).toInt < (f : Int)) → S1 (d_122_2 f x1 g) (fun q : Int32 × G => Inv q.2 ∧ ((q.2 113 6).toInt = (g 113 6).toInt ∧ (q.2 113 14).toInt = (g 113 14).toInt ∧ (q.2 116 8).toInt = (g 116 8).toInt ∧ ((g 113 19).toInt ≠ 0 → (q.2 113 19).toInt ≠ 0) ∧ (g 113 15).toInt ≤ (q.2 113 15).toInt)) := by
  intro f
  induction f with
  | zero =>
    intro x1 g hI hp
    exfalso
    have yp48 : 0 ≤ (g 113 15).toInt ∧ (g 113 15).toInt ≤ 160 := Inv.rd (r := 113) (c := 8) hI 15 rfl
    have yp49 : 0 ≤ (g 113 19).toInt ∧ (g 113 19).toInt ≤ 6 := Inv.rd (r := 113) (c := 8) hI 19 rfl
    omega
  | succ f ih =>
    intro x1 g hI hp
    rw [d_122_2.eq_2]
    have L0 := zl_0
    have L1 := zl_1
    have L2 := zl_2
    have L4 := zl_4
    have L5 := zl_5
    have L31 := zl_31
    have yp50 : 0 ≤ (g 113 14).toInt ∧ (g 113 14).toInt ≤ 160 := Inv.rd (r := 113) (c := 8) hI 14 rfl
    have yp51 : 0 ≤ (g 113 15).toInt ∧ (g 113 15).toInt ≤ 160 := Inv.rd (r := 113) (c := 8) hI 15 rfl
    have yp52 : 0 ≤ (g 113 16).toInt ∧ (g 113 16).toInt ≤ 160 := Inv.rd (r := 113) (c := 8) hI 16 rfl
    have yp53 : 0 ≤ (g 113 19).toInt ∧ (g 113 19).toInt ≤ 6 := Inv.rd (r := 113) (c := 8) hI 19 rfl
    have yp54 : 0 ≤ (g 113 6).toInt ∧ (g 113 6).toInt ≤ 4 := Inv.rd (r := 113) (c := 8) hI 6 rfl
    have yp55 := hI.d8
    have y1 : 0 ≤ (g 113 19).toInt ∧ (g 113 19).toInt ≤ 6 := Inv.rd (r := 113) (c := 8) hI 19 rfl
    refine S1.ite (fun hc1 => ?_) (fun hc1 => ?_)
    · skip
      have chc1 := zc_neT hc1
      exact S1.ret (show Inv g ∧ ((g 113 6).toInt = (g 113 6).toInt ∧ (g 113 14).toInt = (g 113 14).toInt ∧ (g 116 8).toInt = (g 116 8).toInt ∧ ((g 113 19).toInt ≠ 0 → (g 113 19).toInt ≠ 0) ∧ (g 113 15).toInt ≤ (g 113 15).toInt) from ⟨hI, (by omega)⟩)
    · skip
      have chc1 := zc_neF hc1
      refine S1.ite (fun hc2 => ?_) (fun hc2 => ?_)
      · skip
        have chc2 := zc_neT hc2
        exact S1.ret (show Inv g ∧ ((g 113 6).toInt = (g 113 6).toInt ∧ (g 113 14).toInt = (g 113 14).toInt ∧ (g 116 8).toInt = (g 116 8).toInt ∧ ((g 113 19).toInt ≠ 0 → (g 113 19).toInt ≠ 0) ∧ (g 113 15).toInt ≤ (g 113 15).toInt) from ⟨hI, (by omega)⟩)
      · skip
        have chc2 := zc_neF hc2
        refine S1.pc (s_120 (0 : Int32) (5 : Int32) g hI (by omega)) ?_
        intro v3 g4 hvv3 hRv3
        have hRv3 : Inv g4 ∧ ((g4 113 6).toInt = (g 113 6).toInt ∧ (g4 113 14).toInt = (g 113 14).toInt ∧ (g4 116 8).toInt = (g 116 8).toInt ∧ ((g 113 19).toInt ≠ 0 → (g4 113 19).toInt ≠ 0) ∧ (g4 113 15).toInt = (g 113 15).toInt ∧ (v3.toInt = 0 ∨ (0 : Int32).toInt ≤ v3.toInt ∧ v3.toInt ≤ (5 : Int32).toInt)) := hRv3
        have y2 : 0 ≤ (g 113 14).toInt ∧ (g 113 14).toInt ≤ 160 := Inv.rd (r := 113) (c := 8) hI 14 rfl
        have y3 : 0 ≤ (g 113 15).toInt ∧ (g 113 15).toInt ≤ 160 := Inv.rd (r := 113) (c := 8) hI 15 rfl
        have y4 : 0 ≤ (g 113 6).toInt ∧ (g 113 6).toInt ≤ 4 := Inv.rd (r := 113) (c := 8) hI 6 rfl
        have y5 := hI.d8
        have y6 : 0 ≤ (g4 113 6).toInt ∧ (g4 113 6).toInt ≤ 4 := Inv.rd (r := 113) (c := 8) hRv3.1 6 rfl
        have y7 : 0 ≤ (g4 113 14).toInt ∧ (g4 113 14).toInt ≤ 160 := Inv.rd (r := 113) (c := 8) hRv3.1 14 rfl
        have y8 : 0 ≤ (g4 113 15).toInt ∧ (g4 113 15).toInt ≤ 160 := Inv.rd (r := 113) (c := 8) hRv3.1 15 rfl
        have y9 : 0 ≤ (g4 113 16).toInt ∧ (g4 113 16).toInt ≤ 160 := Inv.rd (r := 113) (c := 8) hRv3.1 16 rfl
        have y10 : 0 ≤ (g4 113 19).toInt ∧ (g4 113 19).toInt ≤ 6 := Inv.rd (r := 113) (c := 8) hRv3.1 19 rfl
        have y11 := hRv3.1.d8
        refine S1.ite (fun hc5 => ?_) (fun hc5 => ?_)
        · skip
          have chc5 := zc_neT hc5
          refine S1.bd (s_119 g4 hRv3.1 trivial) ?_
          intro g6 hvg6 hRg6
          have hRg6 : Inv g6 ∧ ((g6 113 6).toInt = (g4 113 6).toInt ∧ (g6 113 14).toInt = (g4 113 14).toInt ∧ (g6 116 8).toInt = (g4 116 8).toInt ∧ ((g4 113 19).toInt ≠ 0 → (g6 113 19).toInt ≠ 0) ∧ (g4 113 15).toInt ≤ (g6 113 15).toInt ∧ ((g6 113 19).toInt = 0 ∧ (g6 113 17).toInt ≠ 0 → (g4 113 15).toInt < (g6 113 15).toInt)) := hRg6
          have y12 : 0 ≤ (g6 113 6).toInt ∧ (g6 113 6).toInt ≤ 4 := Inv.rd (r := 113) (c := 8) hRg6.1 6 rfl
          have y13 : 0 ≤ (g6 113 14).toInt ∧ (g6 113 14).toInt ≤ 160 := Inv.rd (r := 113) (c := 8) hRg6.1 14 rfl
          have y14 : 0 ≤ (g6 113 15).toInt ∧ (g6 113 15).toInt ≤ 160 := Inv.rd (r := 113) (c := 8) hRg6.1 15 rfl
          have y15 : 0 ≤ (g6 113 16).toInt ∧ (g6 113 16).toInt ≤ 160 := Inv.rd (r := 113) (c := 8) hRg6.1 16 rfl
          have y16 : 0 ≤ (g6 113 19).toInt ∧ (g6 113 19).toInt ≤ 6 := Inv.rd (r := 113) (c := 8) hRg6.1 19 rfl
          have y17 := hRg6.1.d8
          try have y18 := zi_and (x := v3) (y := (31 : Int32)) (by omega)
          try have y19 := zi_shl1 (x := v3) (by omega)
          refine S1.mono (ih (x1 ||| ((1 : Int32) <<< (v3 &&& 31))) g6 hRg6.1 (by omega)) ?_
          rintro ⟨v0, w0⟩ hq
          have hq : Inv w0 ∧ ((w0 113 6).toInt = (g6 113 6).toInt ∧ (w0 113 14).toInt = (g6 113 14).toInt ∧ (w0 116 8).toInt = (g6 116 8).toInt ∧ ((g6 113 19).toInt ≠ 0 → (w0 113 19).toInt ≠ 0) ∧ (g6 113 15).toInt ≤ (w0 113 15).toInt) := hq
          exact ⟨hq.1, (by omega)⟩
        · skip
          have chc5 := zc_neF hc5
          try have y20 := zi_and (x := v3) (y := (31 : Int32)) (by omega)
          try have y21 := zi_and (x := (x1 >>> (v3 &&& 31))) (y := (1 : Int32)) (by omega)
          refine S1.ite (fun hc7 => ?_) (fun hc7 => ?_)
          · skip
            have chc7 := zc_neT hc7
            refine S1.lc (s_113 (0 : Int32) (4 : Int32) g4 hRv3.1 (by omega)) ?_
            intro g8 hvg8 hRg8
            have hRg8 : Inv g8 ∧ ((g8 113 6).toInt = (g4 113 6).toInt ∧ (g8 113 14).toInt = (g4 113 14).toInt ∧ (g8 116 8).toInt = (g4 116 8).toInt ∧ (g8 113 15).toInt = (g4 113 15).toInt ∧ (g8 113 16).toInt = (g4 113 16).toInt ∧ (g8 113 17).toInt = (g4 113 17).toInt ∧ (g8 113 18).toInt = (g4 113 18).toInt ∧ ((g4 113 19).toInt ≠ 0 → (g8 113 19).toInt ≠ 0) ∧ ((0 : Int32).toInt = 0 → (g8 113 19).toInt ≠ 0) ∧ ((0 : Int32).toInt ≠ 0 → (g8 113 19).toInt = (g4 113 19).toInt)) := hRg8
            have y22 : 0 ≤ (g8 113 6).toInt ∧ (g8 113 6).toInt ≤ 4 := Inv.rd (r := 113) (c := 8) hRg8.1 6 rfl
            have y23 : 0 ≤ (g8 113 14).toInt ∧ (g8 113 14).toInt ≤ 160 := Inv.rd (r := 113) (c := 8) hRg8.1 14 rfl
            have y24 : 0 ≤ (g8 113 15).toInt ∧ (g8 113 15).toInt ≤ 160 := Inv.rd (r := 113) (c := 8) hRg8.1 15 rfl
            have y25 : 0 ≤ (g8 113 16).toInt ∧ (g8 113 16).toInt ≤ 160 := Inv.rd (r := 113) (c := 8) hRg8.1 16 rfl
            have y26 : 0 ≤ (g8 113 19).toInt ∧ (g8 113 19).toInt ≤ 6 := Inv.rd (r := 113) (c := 8) hRg8.1 19 rfl
            have y27 := hRg8.1.d8
            refine S1.bd (s_119 g8 hRg8.1 trivial) ?_
            intro g9 hvg9 hRg9
            have hRg9 : Inv g9 ∧ ((g9 113 6).toInt = (g8 113 6).toInt ∧ (g9 113 14).toInt = (g8 113 14).toInt ∧ (g9 116 8).toInt = (g8 116 8).toInt ∧ ((g8 113 19).toInt ≠ 0 → (g9 113 19).toInt ≠ 0) ∧ (g8 113 15).toInt ≤ (g9 113 15).toInt ∧ ((g9 113 19).toInt = 0 ∧ (g9 113 17).toInt ≠ 0 → (g8 113 15).toInt < (g9 113 15).toInt)) := hRg9
            have y28 : 0 ≤ (g9 113 6).toInt ∧ (g9 113 6).toInt ≤ 4 := Inv.rd (r := 113) (c := 8) hRg9.1 6 rfl
            have y29 : 0 ≤ (g9 113 14).toInt ∧ (g9 113 14).toInt ≤ 160 := Inv.rd (r := 113) (c := 8) hRg9.1 14 rfl
            have y30 : 0 ≤ (g9 113 15).toInt ∧ (g9 113 15).toInt ≤ 160 := Inv.rd (r := 113) (c := 8) hRg9.1 15 rfl
            have y31 : 0 ≤ (g9 113 16).toInt ∧ (g9 113 16).toInt ≤ 160 := Inv.rd (r := 113) (c := 8) hRg9.1 16 rfl
            have y32 : 0 ≤ (g9 113 19).toInt ∧ (g9 113 19).toInt ≤ 6 := Inv.rd (r := 113) (c := 8) hRg9.1 19 rfl
            have y33 := hRg9.1.d8
            try have y34 := zi_shl1 (x := v3) (by omega)
            refine S1.mono (ih (x1 ||| ((1 : Int32) <<< (v3 &&& 31))) g9 hRg9.1 (by omega)) ?_
            rintro ⟨v0, w0⟩ hq
            have hq : Inv w0 ∧ ((w0 113 6).toInt = (g9 113 6).toInt ∧ (w0 113 14).toInt = (g9 113 14).toInt ∧ (w0 116 8).toInt = (g9 116 8).toInt ∧ ((g9 113 19).toInt ≠ 0 → (w0 113 19).toInt ≠ 0) ∧ (g9 113 15).toInt ≤ (w0 113 15).toInt) := hq
            exact ⟨hq.1, (by omega)⟩
          · skip
            have chc7 := zc_neF hc7
            refine S1.lc (s_113 (1 : Int32) (4 : Int32) g4 hRv3.1 (by omega)) ?_
            intro g10 hvg10 hRg10
            have hRg10 : Inv g10 ∧ ((g10 113 6).toInt = (g4 113 6).toInt ∧ (g10 113 14).toInt = (g4 113 14).toInt ∧ (g10 116 8).toInt = (g4 116 8).toInt ∧ (g10 113 15).toInt = (g4 113 15).toInt ∧ (g10 113 16).toInt = (g4 113 16).toInt ∧ (g10 113 17).toInt = (g4 113 17).toInt ∧ (g10 113 18).toInt = (g4 113 18).toInt ∧ ((g4 113 19).toInt ≠ 0 → (g10 113 19).toInt ≠ 0) ∧ ((1 : Int32).toInt = 0 → (g10 113 19).toInt ≠ 0) ∧ ((1 : Int32).toInt ≠ 0 → (g10 113 19).toInt = (g4 113 19).toInt)) := hRg10
            have y35 : 0 ≤ (g10 113 6).toInt ∧ (g10 113 6).toInt ≤ 4 := Inv.rd (r := 113) (c := 8) hRg10.1 6 rfl
            have y36 : 0 ≤ (g10 113 14).toInt ∧ (g10 113 14).toInt ≤ 160 := Inv.rd (r := 113) (c := 8) hRg10.1 14 rfl
            have y37 : 0 ≤ (g10 113 15).toInt ∧ (g10 113 15).toInt ≤ 160 := Inv.rd (r := 113) (c := 8) hRg10.1 15 rfl
            have y38 : 0 ≤ (g10 113 16).toInt ∧ (g10 113 16).toInt ≤ 160 := Inv.rd (r := 113) (c := 8) hRg10.1 16 rfl
            have y39 : 0 ≤ (g10 113 19).toInt ∧ (g10 113 19).toInt ≤ 6 := Inv.rd (r := 113) (c := 8) hRg10.1 19 rfl
            have y40 := hRg10.1.d8
            refine S1.bd (s_119 g10 hRg10.1 trivial) ?_
            intro g11 hvg11 hRg11
            have hRg11 : Inv g11 ∧ ((g11 113 6).toInt = (g10 113 6).toInt ∧ (g11 113 14).toInt = (g10 113 14).toInt ∧ (g11 116 8).toInt = (g10 116 8).toInt ∧ ((g10 113 19).toInt ≠ 0 → (g11 113 19).toInt ≠ 0) ∧ (g10 113 15).toInt ≤ (g11 113 15).toInt ∧ ((g11 113 19).toInt = 0 ∧ (g11 113 17).toInt ≠ 0 → (g10 113 15).toInt < (g11 113 15).toInt)) := hRg11
            have y41 : 0 ≤ (g11 113 6).toInt ∧ (g11 113 6).toInt ≤ 4 := Inv.rd (r := 113) (c := 8) hRg11.1 6 rfl
            have y42 : 0 ≤ (g11 113 14).toInt ∧ (g11 113 14).toInt ≤ 160 := Inv.rd (r := 113) (c := 8) hRg11.1 14 rfl
            have y43 : 0 ≤ (g11 113 15).toInt ∧ (g11 113 15).toInt ≤ 160 := Inv.rd (r := 113) (c := 8) hRg11.1 15 rfl
            have y44 : 0 ≤ (g11 113 16).toInt ∧ (g11 113 16).toInt ≤ 160 := Inv.rd (r := 113) (c := 8) hRg11.1 16 rfl
            have y45 : 0 ≤ (g11 113 19).toInt ∧ (g11 113 19).toInt ≤ 6 := Inv.rd (r := 113) (c := 8) hRg11.1 19 rfl
            have y46 := hRg11.1.d8
            try have y47 := zi_shl1 (x := v3) (by omega)
            refine S1.mono (ih (x1 ||| ((1 : Int32) <<< (v3 &&& 31))) g11 hRg11.1 (by omega)) ?_
            rintro ⟨v0, w0⟩ hq
            have hq : Inv w0 ∧ ((w0 113 6).toInt = (g11 113 6).toInt ∧ (w0 113 14).toInt = (g11 113 14).toInt ∧ (w0 116 8).toInt = (g11 116 8).toInt ∧ ((g11 113 19).toInt ≠ 0 → (w0 113 19).toInt ≠ 0) ∧ (g11 113 15).toInt ≤ (w0 113 15).toInt) := hq
            exact ⟨hq.1, (by omega)⟩
/-- EveningFirstModel.readThings -/
theorem s_122 (g : G) (hI : Inv g) (hp : True) : S1 (d_122 g) (fun q : Int32 × G => Inv q.2 ∧ ((q.2 113 6).toInt = (g 113 6).toInt ∧ (q.2 113 14).toInt = (g 113 14).toInt ∧ (q.2 116 8).toInt = (g 116 8).toInt ∧ ((g 113 19).toInt ≠ 0 → (q.2 113 19).toInt ≠ 0) ∧ (g 113 15).toInt ≤ (q.2 113 15).toInt)) := by
  unfold d_122
  have L0 := zl_0
  have yp58 : 0 ≤ (g 113 14).toInt ∧ (g 113 14).toInt ≤ 160 := Inv.rd (r := 113) (c := 8) hI 14 rfl
  have yp59 : 0 ≤ (g 113 15).toInt ∧ (g 113 15).toInt ≤ 160 := Inv.rd (r := 113) (c := 8) hI 15 rfl
  have yp60 : 0 ≤ (g 113 19).toInt ∧ (g 113 19).toInt ≤ 6 := Inv.rd (r := 113) (c := 8) hI 19 rfl
  have yp61 : 0 ≤ (g 113 6).toInt ∧ (g 113 6).toInt ≤ 4 := Inv.rd (r := 113) (c := 8) hI 6 rfl
  have yp62 := hI.d8
  have y56 : 0 ≤ (g 113 15).toInt ∧ (g 113 15).toInt ≤ 160 := Inv.rd (r := 113) (c := 8) hI 15 rfl
  have y57 : 0 ≤ (g 113 19).toInt ∧ (g 113 19).toInt ≤ 6 := Inv.rd (r := 113) (c := 8) hI 19 rfl
  exact (s_122_2 300 (0 : Int32) g hI (by omega))
theorem s_123_24 (s0 : Int32) (g : G) (hI : Inv g) (hp : (g 113 6).toInt ≤ 3) : S1 (d_123_24 s0 g) (fun q : G => Inv q ∧ (((g 113 19).toInt ≠ 0 → (q 113 19).toInt ≠ 0) ∧ (g 113 15).toInt ≤ (q 113 15).toInt)) := by
  unfold d_123_24
  have Lm4 := zl_m4
  have L0 := zl_0
  have L1 := zl_1
  have L2 := zl_2
  have L4 := zl_4
  have yp115 : 0 ≤ (g 113 14).toInt ∧ (g 113 14).toInt ≤ 160 := Inv.rd (r := 113) (c := 8) hI 14 rfl
  have yp116 : 0 ≤ (g 113 15).toInt ∧ (g 113 15).toInt ≤ 160 := Inv.rd (r := 113) (c := 8) hI 15 rfl
  have yp117 : 0 ≤ (g 113 16).toInt ∧ (g 113 16).toInt ≤ 160 := Inv.rd (r := 113) (c := 8) hI 16 rfl
  have yp118 : 0 ≤ (g 113 19).toInt ∧ (g 113 19).toInt ≤ 6 := Inv.rd (r := 113) (c := 8) hI 19 rfl
  have yp119 : 0 ≤ (g 113 6).toInt ∧ (g 113 6).toInt ≤ 4 := Inv.rd (r := 113) (c := 8) hI 6 rfl
  have yp120 := hI.d8
  refine S1.ite (fun hc2 => ?_) (fun hc2 => ?_)
  · skip
    have chc2 := zc_eqT hc2
    refine S1.lc (s_113 (0 : Int32) (2 : Int32) g hI (by omega)) ?_
    intro g3 hvg3 hRg3
    have hRg3 : Inv g3 ∧ ((g3 113 6).toInt = (g 113 6).toInt ∧ (g3 113 14).toInt = (g 113 14).toInt ∧ (g3 116 8).toInt = (g 116 8).toInt ∧ (g3 113 15).toInt = (g 113 15).toInt ∧ (g3 113 16).toInt = (g 113 16).toInt ∧ (g3 113 17).toInt = (g 113 17).toInt ∧ (g3 113 18).toInt = (g 113 18).toInt ∧ ((g 113 19).toInt ≠ 0 → (g3 113 19).toInt ≠ 0) ∧ ((0 : Int32).toInt = 0 → (g3 113 19).toInt ≠ 0) ∧ ((0 : Int32).toInt ≠ 0 → (g3 113 19).toInt = (g 113 19).toInt)) := hRg3
    have y1 : 0 ≤ (g 113 14).toInt ∧ (g 113 14).toInt ≤ 160 := Inv.rd (r := 113) (c := 8) hI 14 rfl
    have y2 : 0 ≤ (g 113 15).toInt ∧ (g 113 15).toInt ≤ 160 := Inv.rd (r := 113) (c := 8) hI 15 rfl
    have y3 : 0 ≤ (g 113 16).toInt ∧ (g 113 16).toInt ≤ 160 := Inv.rd (r := 113) (c := 8) hI 16 rfl
    have y4 : 0 ≤ (g 113 19).toInt ∧ (g 113 19).toInt ≤ 6 := Inv.rd (r := 113) (c := 8) hI 19 rfl
    have y5 : 0 ≤ (g 113 6).toInt ∧ (g 113 6).toInt ≤ 4 := Inv.rd (r := 113) (c := 8) hI 6 rfl
    have y6 := hI.d8
    have y7 : 0 ≤ (g3 113 6).toInt ∧ (g3 113 6).toInt ≤ 4 := Inv.rd (r := 113) (c := 8) hRg3.1 6 rfl
    have y8 : 0 ≤ (g3 113 14).toInt ∧ (g3 113 14).toInt ≤ 160 := Inv.rd (r := 113) (c := 8) hRg3.1 14 rfl
    have y9 : 0 ≤ (g3 113 15).toInt ∧ (g3 113 15).toInt ≤ 160 := Inv.rd (r := 113) (c := 8) hRg3.1 15 rfl
    have y10 : 0 ≤ (g3 113 16).toInt ∧ (g3 113 16).toInt ≤ 160 := Inv.rd (r := 113) (c := 8) hRg3.1 16 rfl
    have y11 : 0 ≤ (g3 113 19).toInt ∧ (g3 113 19).toInt ≤ 6 := Inv.rd (r := 113) (c := 8) hRg3.1 19 rfl
    have y12 := hRg3.1.d8
    refine S1.bd (s_119 g3 hRg3.1 trivial) ?_
    intro g4 hvg4 hRg4
    have hRg4 : Inv g4 ∧ ((g4 113 6).toInt = (g3 113 6).toInt ∧ (g4 113 14).toInt = (g3 113 14).toInt ∧ (g4 116 8).toInt = (g3 116 8).toInt ∧ ((g3 113 19).toInt ≠ 0 → (g4 113 19).toInt ≠ 0) ∧ (g3 113 15).toInt ≤ (g4 113 15).toInt ∧ ((g4 113 19).toInt = 0 ∧ (g4 113 17).toInt ≠ 0 → (g3 113 15).toInt < (g4 113 15).toInt)) := hRg4
    have y13 : 0 ≤ (g4 113 6).toInt ∧ (g4 113 6).toInt ≤ 4 := Inv.rd (r := 113) (c := 8) hRg4.1 6 rfl
    have y14 : 0 ≤ (g4 113 14).toInt ∧ (g4 113 14).toInt ≤ 160 := Inv.rd (r := 113) (c := 8) hRg4.1 14 rfl
    have y15 : 0 ≤ (g4 113 15).toInt ∧ (g4 113 15).toInt ≤ 160 := Inv.rd (r := 113) (c := 8) hRg4.1 15 rfl
    have y16 : 0 ≤ (g4 113 16).toInt ∧ (g4 113 16).toInt ≤ 160 := Inv.rd (r := 113) (c := 8) hRg4.1 16 rfl
    have y17 : 0 ≤ (g4 113 19).toInt ∧ (g4 113 19).toInt ≤ 6 := Inv.rd (r := 113) (c := 8) hRg4.1 19 rfl
    have y18 := hRg4.1.d8
    try have y19 := zi_add (x := (0 : Int32)) (y := (g4 113 6)) (by omega) (by omega)
    refine S1.ix (by omega) ?_
    intro k6 hk6 bk6
    refine S1.lt ?_
    intro g5 hg5
    have Ig5 : Inv g5 := Inv.up hRg4.1 hg5 rfl (bdP_dr (by omega) (stP_lo (by omega)))
    have u20 : (g5 113 6).toInt = (g4 113 6).toInt := by rw [← hg5]; rfl
    have u21 : (g5 113 14).toInt = (g4 113 14).toInt := by rw [← hg5]; rfl
    have u22 : (g5 113 15).toInt = (g4 113 15).toInt := by rw [← hg5]; rfl
    have u23 : (g5 113 16).toInt = (g4 113 16).toInt := by rw [← hg5]; rfl
    have u24 : (g5 113 17).toInt = (g4 113 17).toInt := by rw [← hg5]; rfl
    have u25 : (g5 113 18).toInt = (g4 113 18).toInt := by rw [← hg5]; rfl
    have u26 : (g5 113 19).toInt = (g4 113 19).toInt := by rw [← hg5]; rfl
    try have u27 : (g5 116 8).toInt = (g4 116 8).toInt := zg_upk hg5 (by omega)
    refine S1.bp (s_122 g5 Ig5 trivial) ?_
    intro v7 g8 hvv7 hRv7
    have hRv7 : Inv g8 ∧ ((g8 113 6).toInt = (g5 113 6).toInt ∧ (g8 113 14).toInt = (g5 113 14).toInt ∧ (g8 116 8).toInt = (g5 116 8).toInt ∧ ((g5 113 19).toInt ≠ 0 → (g8 113 19).toInt ≠ 0) ∧ (g5 113 15).toInt ≤ (g8 113 15).toInt) := hRv7
    have y28 : 0 ≤ (g5 113 14).toInt ∧ (g5 113 14).toInt ≤ 160 := Inv.rd (r := 113) (c := 8) Ig5 14 rfl
    have y29 : 0 ≤ (g5 113 15).toInt ∧ (g5 113 15).toInt ≤ 160 := Inv.rd (r := 113) (c := 8) Ig5 15 rfl
    have y30 : 0 ≤ (g5 113 19).toInt ∧ (g5 113 19).toInt ≤ 6 := Inv.rd (r := 113) (c := 8) Ig5 19 rfl
    have y31 : 0 ≤ (g5 113 6).toInt ∧ (g5 113 6).toInt ≤ 4 := Inv.rd (r := 113) (c := 8) Ig5 6 rfl
    have y32 := Ig5.d8
    have y33 : 0 ≤ (g8 113 6).toInt ∧ (g8 113 6).toInt ≤ 4 := Inv.rd (r := 113) (c := 8) hRv7.1 6 rfl
    have y34 : 0 ≤ (g8 113 14).toInt ∧ (g8 113 14).toInt ≤ 160 := Inv.rd (r := 113) (c := 8) hRv7.1 14 rfl
    have y35 : 0 ≤ (g8 113 15).toInt ∧ (g8 113 15).toInt ≤ 160 := Inv.rd (r := 113) (c := 8) hRv7.1 15 rfl
    have y36 : 0 ≤ (g8 113 16).toInt ∧ (g8 113 16).toInt ≤ 160 := Inv.rd (r := 113) (c := 8) hRv7.1 16 rfl
    have y37 : 0 ≤ (g8 113 19).toInt ∧ (g8 113 19).toInt ≤ 6 := Inv.rd (r := 113) (c := 8) hRv7.1 19 rfl
    have y38 := hRv7.1.d8
    try have y39 := zi_add (x := (4 : Int32)) (y := (g5 113 6)) (by omega) (by omega)
    refine S1.ix (by omega) ?_
    intro k10 hk10 bk10
    refine S1.lt ?_
    intro g9 hg9
    have Ig9 : Inv g9 := Inv.up hRv7.1 hg9 rfl (bdP_dr (by omega) (stP_lo (by omega)))
    have u40 : (g9 113 6).toInt = (g8 113 6).toInt := by rw [← hg9]; rfl
    have u41 : (g9 113 14).toInt = (g8 113 14).toInt := by rw [← hg9]; rfl
    have u42 : (g9 113 15).toInt = (g8 113 15).toInt := by rw [← hg9]; rfl
    have u43 : (g9 113 16).toInt = (g8 113 16).toInt := by rw [← hg9]; rfl
    have u44 : (g9 113 17).toInt = (g8 113 17).toInt := by rw [← hg9]; rfl
    have u45 : (g9 113 18).toInt = (g8 113 18).toInt := by rw [← hg9]; rfl
    have u46 : (g9 113 19).toInt = (g8 113 19).toInt := by rw [← hg9]; rfl
    try have u47 : (g9 116 8).toInt = (g8 116 8).toInt := zg_upk hg9 (by omega)
    have y48 : 0 ≤ (g9 113 6).toInt ∧ (g9 113 6).toInt ≤ 4 := Inv.rd (r := 113) (c := 8) Ig9 6 rfl
    try have y49 := zi_add (x := (g9 113 6)) (y := (1 : Int32)) (by omega) (by omega)
    refine S1.lt ?_
    intro g11 hg11
    have Ig11 : Inv g11 := Inv.up Ig9 hg11 rfl (show 0 ≤ ((g9 113 6) + 1).toInt ∧ ((g9 113 6) + 1).toInt ≤ 4 by omega)
    have u50 : (g11 113 6).toInt = ((g9 113 6) + 1).toInt := by rw [← hg11]; rfl
    have u51 : (g11 113 14).toInt = (g9 113 14).toInt := by rw [← hg11]; rfl
    have u52 : (g11 113 15).toInt = (g9 113 15).toInt := by rw [← hg11]; rfl
    have u53 : (g11 113 16).toInt = (g9 113 16).toInt := by rw [← hg11]; rfl
    have u54 : (g11 113 17).toInt = (g9 113 17).toInt := by rw [← hg11]; rfl
    have u55 : (g11 113 18).toInt = (g9 113 18).toInt := by rw [← hg11]; rfl
    have u56 : (g11 113 19).toInt = (g9 113 19).toInt := by rw [← hg11]; rfl
    have u57 : (g11 116 8).toInt = (g9 116 8).toInt := by rw [← hg11]; rfl
    exact S1.ret (show Inv g11 ∧ (((g 113 19).toInt ≠ 0 → (g11 113 19).toInt ≠ 0) ∧ (g 113 15).toInt ≤ (g11 113 15).toInt) from ⟨Ig11, (by omega)⟩)
  · skip
    have chc2 := zc_eqF hc2
    refine S1.lc (s_113 (1 : Int32) (2 : Int32) g hI (by omega)) ?_
    intro g12 hvg12 hRg12
    have hRg12 : Inv g12 ∧ ((g12 113 6).toInt = (g 113 6).toInt ∧ (g12 113 14).toInt = (g 113 14).toInt ∧ (g12 116 8).toInt = (g 116 8).toInt ∧ (g12 113 15).toInt = (g 113 15).toInt ∧ (g12 113 16).toInt = (g 113 16).toInt ∧ (g12 113 17).toInt = (g 113 17).toInt ∧ (g12 113 18).toInt = (g 113 18).toInt ∧ ((g 113 19).toInt ≠ 0 → (g12 113 19).toInt ≠ 0) ∧ ((1 : Int32).toInt = 0 → (g12 113 19).toInt ≠ 0) ∧ ((1 : Int32).toInt ≠ 0 → (g12 113 19).toInt = (g 113 19).toInt)) := hRg12
    have y58 : 0 ≤ (g 113 14).toInt ∧ (g 113 14).toInt ≤ 160 := Inv.rd (r := 113) (c := 8) hI 14 rfl
    have y59 : 0 ≤ (g 113 15).toInt ∧ (g 113 15).toInt ≤ 160 := Inv.rd (r := 113) (c := 8) hI 15 rfl
    have y60 : 0 ≤ (g 113 16).toInt ∧ (g 113 16).toInt ≤ 160 := Inv.rd (r := 113) (c := 8) hI 16 rfl
    have y61 : 0 ≤ (g 113 19).toInt ∧ (g 113 19).toInt ≤ 6 := Inv.rd (r := 113) (c := 8) hI 19 rfl
    have y62 : 0 ≤ (g 113 6).toInt ∧ (g 113 6).toInt ≤ 4 := Inv.rd (r := 113) (c := 8) hI 6 rfl
    have y63 := hI.d8
    have y64 : 0 ≤ (g12 113 6).toInt ∧ (g12 113 6).toInt ≤ 4 := Inv.rd (r := 113) (c := 8) hRg12.1 6 rfl
    have y65 : 0 ≤ (g12 113 14).toInt ∧ (g12 113 14).toInt ≤ 160 := Inv.rd (r := 113) (c := 8) hRg12.1 14 rfl
    have y66 : 0 ≤ (g12 113 15).toInt ∧ (g12 113 15).toInt ≤ 160 := Inv.rd (r := 113) (c := 8) hRg12.1 15 rfl
    have y67 : 0 ≤ (g12 113 16).toInt ∧ (g12 113 16).toInt ≤ 160 := Inv.rd (r := 113) (c := 8) hRg12.1 16 rfl
    have y68 : 0 ≤ (g12 113 19).toInt ∧ (g12 113 19).toInt ≤ 6 := Inv.rd (r := 113) (c := 8) hRg12.1 19 rfl
    have y69 := hRg12.1.d8
    refine S1.bd (s_119 g12 hRg12.1 trivial) ?_
    intro g13 hvg13 hRg13
    have hRg13 : Inv g13 ∧ ((g13 113 6).toInt = (g12 113 6).toInt ∧ (g13 113 14).toInt = (g12 113 14).toInt ∧ (g13 116 8).toInt = (g12 116 8).toInt ∧ ((g12 113 19).toInt ≠ 0 → (g13 113 19).toInt ≠ 0) ∧ (g12 113 15).toInt ≤ (g13 113 15).toInt ∧ ((g13 113 19).toInt = 0 ∧ (g13 113 17).toInt ≠ 0 → (g12 113 15).toInt < (g13 113 15).toInt)) := hRg13
    have y70 : 0 ≤ (g13 113 6).toInt ∧ (g13 113 6).toInt ≤ 4 := Inv.rd (r := 113) (c := 8) hRg13.1 6 rfl
    have y71 : 0 ≤ (g13 113 14).toInt ∧ (g13 113 14).toInt ≤ 160 := Inv.rd (r := 113) (c := 8) hRg13.1 14 rfl
    have y72 : 0 ≤ (g13 113 15).toInt ∧ (g13 113 15).toInt ≤ 160 := Inv.rd (r := 113) (c := 8) hRg13.1 15 rfl
    have y73 : 0 ≤ (g13 113 16).toInt ∧ (g13 113 16).toInt ≤ 160 := Inv.rd (r := 113) (c := 8) hRg13.1 16 rfl
    have y74 : 0 ≤ (g13 113 19).toInt ∧ (g13 113 19).toInt ≤ 6 := Inv.rd (r := 113) (c := 8) hRg13.1 19 rfl
    have y75 := hRg13.1.d8
    try have y76 := zi_add (x := (0 : Int32)) (y := (g13 113 6)) (by omega) (by omega)
    refine S1.ix (by omega) ?_
    intro k15 hk15 bk15
    refine S1.lt ?_
    intro g14 hg14
    have Ig14 : Inv g14 := Inv.up hRg13.1 hg14 rfl (bdP_dr (by omega) (stP_lo (by omega)))
    have u77 : (g14 113 6).toInt = (g13 113 6).toInt := by rw [← hg14]; rfl
    have u78 : (g14 113 14).toInt = (g13 113 14).toInt := by rw [← hg14]; rfl
    have u79 : (g14 113 15).toInt = (g13 113 15).toInt := by rw [← hg14]; rfl
    have u80 : (g14 113 16).toInt = (g13 113 16).toInt := by rw [← hg14]; rfl
    have u81 : (g14 113 17).toInt = (g13 113 17).toInt := by rw [← hg14]; rfl
    have u82 : (g14 113 18).toInt = (g13 113 18).toInt := by rw [← hg14]; rfl
    have u83 : (g14 113 19).toInt = (g13 113 19).toInt := by rw [← hg14]; rfl
    try have u84 : (g14 116 8).toInt = (g13 116 8).toInt := zg_upk hg14 (by omega)
    refine S1.bp (s_122 g14 Ig14 trivial) ?_
    intro v16 g17 hvv16 hRv16
    have hRv16 : Inv g17 ∧ ((g17 113 6).toInt = (g14 113 6).toInt ∧ (g17 113 14).toInt = (g14 113 14).toInt ∧ (g17 116 8).toInt = (g14 116 8).toInt ∧ ((g14 113 19).toInt ≠ 0 → (g17 113 19).toInt ≠ 0) ∧ (g14 113 15).toInt ≤ (g17 113 15).toInt) := hRv16
    have y85 : 0 ≤ (g14 113 14).toInt ∧ (g14 113 14).toInt ≤ 160 := Inv.rd (r := 113) (c := 8) Ig14 14 rfl
    have y86 : 0 ≤ (g14 113 15).toInt ∧ (g14 113 15).toInt ≤ 160 := Inv.rd (r := 113) (c := 8) Ig14 15 rfl
    have y87 : 0 ≤ (g14 113 19).toInt ∧ (g14 113 19).toInt ≤ 6 := Inv.rd (r := 113) (c := 8) Ig14 19 rfl
    have y88 : 0 ≤ (g14 113 6).toInt ∧ (g14 113 6).toInt ≤ 4 := Inv.rd (r := 113) (c := 8) Ig14 6 rfl
    have y89 := Ig14.d8
    have y90 : 0 ≤ (g17 113 6).toInt ∧ (g17 113 6).toInt ≤ 4 := Inv.rd (r := 113) (c := 8) hRv16.1 6 rfl
    have y91 : 0 ≤ (g17 113 14).toInt ∧ (g17 113 14).toInt ≤ 160 := Inv.rd (r := 113) (c := 8) hRv16.1 14 rfl
    have y92 : 0 ≤ (g17 113 15).toInt ∧ (g17 113 15).toInt ≤ 160 := Inv.rd (r := 113) (c := 8) hRv16.1 15 rfl
    have y93 : 0 ≤ (g17 113 16).toInt ∧ (g17 113 16).toInt ≤ 160 := Inv.rd (r := 113) (c := 8) hRv16.1 16 rfl
    have y94 : 0 ≤ (g17 113 19).toInt ∧ (g17 113 19).toInt ≤ 6 := Inv.rd (r := 113) (c := 8) hRv16.1 19 rfl
    have y95 := hRv16.1.d8
    try have y96 := zi_add (x := (4 : Int32)) (y := (g14 113 6)) (by omega) (by omega)
    refine S1.ix (by omega) ?_
    intro k19 hk19 bk19
    refine S1.lt ?_
    intro g18 hg18
    have Ig18 : Inv g18 := Inv.up hRv16.1 hg18 rfl (bdP_dr (by omega) (stP_lo (by omega)))
    have u97 : (g18 113 6).toInt = (g17 113 6).toInt := by rw [← hg18]; rfl
    have u98 : (g18 113 14).toInt = (g17 113 14).toInt := by rw [← hg18]; rfl
    have u99 : (g18 113 15).toInt = (g17 113 15).toInt := by rw [← hg18]; rfl
    have u100 : (g18 113 16).toInt = (g17 113 16).toInt := by rw [← hg18]; rfl
    have u101 : (g18 113 17).toInt = (g17 113 17).toInt := by rw [← hg18]; rfl
    have u102 : (g18 113 18).toInt = (g17 113 18).toInt := by rw [← hg18]; rfl
    have u103 : (g18 113 19).toInt = (g17 113 19).toInt := by rw [← hg18]; rfl
    try have u104 : (g18 116 8).toInt = (g17 116 8).toInt := zg_upk hg18 (by omega)
    have y105 : 0 ≤ (g18 113 6).toInt ∧ (g18 113 6).toInt ≤ 4 := Inv.rd (r := 113) (c := 8) Ig18 6 rfl
    try have y106 := zi_add (x := (g18 113 6)) (y := (1 : Int32)) (by omega) (by omega)
    refine S1.lt ?_
    intro g20 hg20
    have Ig20 : Inv g20 := Inv.up Ig18 hg20 rfl (show 0 ≤ ((g18 113 6) + 1).toInt ∧ ((g18 113 6) + 1).toInt ≤ 4 by omega)
    have u107 : (g20 113 6).toInt = ((g18 113 6) + 1).toInt := by rw [← hg20]; rfl
    have u108 : (g20 113 14).toInt = (g18 113 14).toInt := by rw [← hg20]; rfl
    have u109 : (g20 113 15).toInt = (g18 113 15).toInt := by rw [← hg20]; rfl
    have u110 : (g20 113 16).toInt = (g18 113 16).toInt := by rw [← hg20]; rfl
    have u111 : (g20 113 17).toInt = (g18 113 17).toInt := by rw [← hg20]; rfl
    have u112 : (g20 113 18).toInt = (g18 113 18).toInt := by rw [← hg20]; rfl
    have u113 : (g20 113 19).toInt = (g18 113 19).toInt := by rw [← hg20]; rfl
    have u114 : (g20 116 8).toInt = (g18 116 8).toInt := by rw [← hg20]; rfl
    exact S1.ret (show Inv g20 ∧ (((g 113 19).toInt ≠ 0 → (g20 113 19).toInt ≠ 0) ∧ (g 113 15).toInt ≤ (g20 113 15).toInt) from ⟨Ig20, (by omega)⟩)
/-- EveningFirstModel.readOne -/
theorem s_123 (g : G) (hI : Inv g) (hp : (g 113 6).toInt ≤ 3) : S1 (d_123 g) (fun q : G => Inv q ∧ (((g 113 19).toInt ≠ 0 → (q 113 19).toInt ≠ 0) ∧ (g 113 15).toInt ≤ (q 113 15).toInt)) := by
  unfold d_123
  have Lm4 := zl_m4
  have L0 := zl_0
  have L1 := zl_1
  have yp125 : 0 ≤ (g 113 15).toInt ∧ (g 113 15).toInt ≤ 160 := Inv.rd (r := 113) (c := 8) hI 15 rfl
  have yp126 : 0 ≤ (g 113 19).toInt ∧ (g 113 19).toInt ≤ 6 := Inv.rd (r := 113) (c := 8) hI 19 rfl
  have yp127 : 0 ≤ (g 113 6).toInt ∧ (g 113 6).toInt ≤ 4 := Inv.rd (r := 113) (c := 8) hI 6 rfl
  have y121 : 0 ≤ (g 113 19).toInt ∧ (g 113 19).toInt ≤ 6 := Inv.rd (r := 113) (c := 8) hI 19 rfl
  refine S1.ite (fun hc1 => ?_) (fun hc1 => ?_)
  · skip
    have chc1 := zc_neT hc1
    have y122 : 0 ≤ (g 113 6).toInt ∧ (g 113 6).toInt ≤ 4 := Inv.rd (r := 113) (c := 8) hI 6 rfl
    exact (s_123_24 (-4 : Int32) g hI (by omega))
  · skip
    have chc1 := zc_neF hc1
    refine S1.ite (fun hc21 => ?_) (fun hc21 => ?_)
    · skip
      have chc21 := zc_neT hc21
      have y123 : 0 ≤ (g 113 6).toInt ∧ (g 113 6).toInt ≤ 4 := Inv.rd (r := 113) (c := 8) hI 6 rfl
      exact (s_123_24 (-4 : Int32) g hI (by omega))
    · skip
      have chc21 := zc_neF hc21
      refine S1.bd (s_118 g hI trivial) ?_
      intro v22 hvv22 hRv22
      have hRv22 : True ∧ True := hRv22
      have y124 : 0 ≤ (g 113 6).toInt ∧ (g 113 6).toInt ≤ 4 := Inv.rd (r := 113) (c := 8) hI 6 rfl
      exact (s_123_24 v22 g hI (by omega))
