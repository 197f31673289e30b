/-! the law (printed by wip/tools/law.py) -/
section LWR
variable {α β γ : Type} {P : α → Prop}
theorem S1.bpe {a : Option (β × γ)} {f : β → γ → Option α} {v : β} {w : γ} (h : a = some (v, w)) (K : S1 (f v w) P) : S1 (zb_bp a f) P := by
  rw [h]
  exact K
theorem S1.bde {a : Option β} {f : β → Option α} {v : β} (h : a = some v) (K : S1 (f v) P) : S1 (Option.bind a f) P := by
  rw [h]
  exact K
theorem S1.pce {a : β × γ} {f : β → γ → Option α} {v : β} {w : γ} (h : a = (v, w)) (K : S1 (f v w) P) : S1 (zb_p a f) P := by
  rw [h]
  exact K
theorem S1.lte {a : β} {f : β → Option α} {v : β} (h : a = v) (K : S1 (f v) P) : S1 (zb_l a f) P := by
  rw [h]
  exact K
end LWR
theorem zl_cmpeq {x y : Int64} (h : x = y) : lg_cmp x y = 0 := by
  subst h
  exact zl_cmp.2.2 rfl
theorem lw_1337 (l : List Int32) (x3 : Int32) (g : G) (k18 : Int32 → G → Option (Bool × G)) (m18 : Int) (hk18 : ∀ (x3 : Int32) (g : G), Inv g → JR g → 0 ≤ x3.toInt ∧ x3.toInt ≤ 384 ∧ 390 - x3.toInt < 6 * m18 → S1 (k18 x3 g) (fun q : Bool × G => q.1 = true)) (hI : Inv g) (hJ : JR g) (hp : 0 ≤ x3.toInt ∧ x3.toInt ≤ 378 ∧ 390 - x3.toInt < 6 * (m18 + 1)) : S1 (d_198_1337 l x3 g k18) (fun q : Bool × G => q.1 = true) := by
  unfold d_198_1337
  have L6 := zl_6
  have y1 := zi_add (x := x3) (y := 6) (by omega) (by omega)
  exact hk18 (x3 + 6) g hI hJ (by omega)
theorem lw_18 (l : List Int32) (hl : l.length ≤ 384) : ∀ (f : Nat) (x3 : Int32) (g : G), Inv g → JR g → 0 ≤ x3.toInt ∧ x3.toInt ≤ 384 ∧ 390 - x3.toInt < 6 * (f : Int) → S1 (d_198_18 l f x3 g) (fun q : Bool × G => q.1 = true) := by
  intro f
  induction f with
  | zero =>
    intro x3 g hI hJ hp
    exfalso
    omega
  | succ f ih =>
    intro x3 g hI hJ hp
    rw [d_198_18.eq_2]
    have L0 := zl_0
    have L1 := zl_1
    have L2 := zl_2
    have L3 := zl_3
    have L4 := zl_4
    have L5 := zl_5
    have L6 := zl_6
    have yl : (Int32.ofNat l.length).toInt = (l.length : Int) := Int32.toInt_ofNat_of_lt (by omega)
    have y6 := zi_sub (x := Int32.ofNat l.length) (y := 6) (by omega) (by omega)
    refine S1.ite (fun hc1 => ?_) (fun hc1 => ?_)
    · skip
      have chc1 := zc_gtT hc1
      exact S1.ret rfl
    · skip
      have chc1 := zc_gtF hc1
      refine S1.sl (by omega) ?_
      intro v2 hv2
      refine S1.ite (fun hc3 => ?_) (fun hc3 => ?_)
      · skip
        clear hc3
        have yv4 := zi_add (x := x3) (y := (1 : Int32)) (by omega) (by omega)
        refine S1.sl (by omega) ?_
        intro v4 hv4
        obtain ⟨a1, m1, b1, n1, E1, F1, I1, J1, Q1⟩ := pr_54 v4 g hI hJ
        refine S1.bpe E1 ?_
        have yv7 := zi_add (x := x3) (y := (1 : Int32)) (by omega) (by omega)
        refine S1.sl (by omega) ?_
        intro v7 hv7
        obtain rfl : v7 = v4 := Option.some.inj (hv7.symm.trans hv4)
        refine S1.bpe F1 ?_
        exact lw_1337 l x3 _ (d_198_18 l f) (f : Int) ih I1 J1 (by omega)
      · skip
        clear hc3
        refine S1.ite (fun hc10 => ?_) (fun hc10 => ?_)
        · skip
          clear hc10
          have yv11 := zi_add (x := x3) (y := (1 : Int32)) (by omega) (by omega)
          refine S1.sl (by omega) ?_
          intro v11 hv11
          obtain ⟨a2, m2, b2, n2, E2, F2, I2, J2, Q2⟩ := pr_55 v11 g hI hJ
          refine S1.pce E2 ?_
          have yv14 := zi_add (x := x3) (y := (1 : Int32)) (by omega) (by omega)
          refine S1.sl (by omega) ?_
          intro v14 hv14
          obtain rfl : v14 = v11 := Option.some.inj (hv14.symm.trans hv11)
          refine S1.pce F2 ?_
          exact lw_1337 l x3 _ (d_198_18 l f) (f : Int) ih I2 J2 (by omega)
        · skip
          clear hc10
          refine S1.ite (fun hc17 => ?_) (fun hc17 => ?_)
          · skip
            clear hc17
            obtain ⟨a3, m3, b3, n3, E3, F3, I3, J3, Q3⟩ := pr_56 g hI hJ
            refine S1.bpe E3 ?_
            refine S1.bpe F3 ?_
            exact lw_1337 l x3 _ (d_198_18 l f) (f : Int) ih I3 J3 (by omega)
          · skip
            clear hc17
            refine S1.ite (fun hc22 => ?_) (fun hc22 => ?_)
            · skip
              clear hc22
              obtain ⟨a4, b4, E4, F4, I4, J4, Q4⟩ := pr_57 g hI hJ
              refine S1.lte E4 ?_
              refine S1.lte F4 ?_
              exact lw_1337 l x3 _ (d_198_18 l f) (f : Int) ih I4 J4 (by omega)
            · skip
              clear hc22
              refine S1.ite (fun hc25 => ?_) (fun hc25 => ?_)
              · skip
                clear hc25
                have yv26 := zi_add (x := x3) (y := (1 : Int32)) (by omega) (by omega)
                refine S1.sl (by omega) ?_
                intro v26 hv26
                obtain ⟨a5, b5, E5, F5, I5, J5, Q5⟩ := pr_58 v26 g hI hJ
                refine S1.lte E5 ?_
                have yv28 := zi_add (x := x3) (y := (1 : Int32)) (by omega) (by omega)
                refine S1.sl (by omega) ?_
                intro v28 hv28
                obtain rfl : v28 = v26 := Option.some.inj (hv28.symm.trans hv26)
                refine S1.lte F5 ?_
                exact lw_1337 l x3 _ (d_198_18 l f) (f : Int) ih I5 J5 (by omega)
              · skip
                clear hc25
                refine S1.ite (fun hc30 => ?_) (fun hc30 => ?_)
                · skip
                  clear hc30
                  have yv31 := zi_add (x := x3) (y := (1 : Int32)) (by omega) (by omega)
                  refine S1.sl (by omega) ?_
                  intro v31 hv31
                  have yv32 := zi_add (x := x3) (y := (2 : Int32)) (by omega) (by omega)
                  refine S1.sl (by omega) ?_
                  intro v32 hv32
                  obtain ⟨a6, b6, E6, F6, I6, J6, Q6⟩ := pr_59 v31 v32 g hI hJ
                  refine S1.bde E6 ?_
                  have yv34 := zi_add (x := x3) (y := (1 : Int32)) (by omega) (by omega)
                  refine S1.sl (by omega) ?_
                  intro v34 hv34
                  obtain rfl : v34 = v31 := Option.some.inj (hv34.symm.trans hv31)
                  have yv35 := zi_add (x := x3) (y := (2 : Int32)) (by omega) (by omega)
                  refine S1.sl (by omega) ?_
                  intro v35 hv35
                  obtain rfl : v35 = v32 := Option.some.inj (hv35.symm.trans hv32)
                  refine S1.bde F6 ?_
                  exact lw_1337 l x3 _ (d_198_18 l f) (f : Int) ih I6 J6 (by omega)
                · skip
                  clear hc30
                  refine S1.ite (fun hc37 => ?_) (fun hc37 => ?_)
                  · skip
                    clear hc37
                    have yv38 := zi_add (x := x3) (y := (1 : Int32)) (by omega) (by omega)
                    refine S1.sl (by omega) ?_
                    intro v38 hv38
                    have yv39 := zi_add (x := x3) (y := (2 : Int32)) (by omega) (by omega)
                    refine S1.sl (by omega) ?_
                    intro v39 hv39
                    obtain ⟨a7, b7, E7, F7, I7, J7, Q7⟩ := pr_60 v38 v39 g hI hJ
                    refine S1.bde E7 ?_
                    have yv41 := zi_add (x := x3) (y := (1 : Int32)) (by omega) (by omega)
                    refine S1.sl (by omega) ?_
                    intro v41 hv41
                    obtain rfl : v41 = v38 := Option.some.inj (hv41.symm.trans hv38)
                    have yv42 := zi_add (x := x3) (y := (2 : Int32)) (by omega) (by omega)
                    refine S1.sl (by omega) ?_
                    intro v42 hv42
                    obtain rfl : v42 = v39 := Option.some.inj (hv42.symm.trans hv39)
                    refine S1.bde F7 ?_
                    exact lw_1337 l x3 _ (d_198_18 l f) (f : Int) ih I7 J7 (by omega)
                  · skip
                    clear hc37
                    refine S1.ite (fun hc44 => ?_) (fun hc44 => ?_)
                    · skip
                      clear hc44
                      have yv45 := zi_add (x := x3) (y := (1 : Int32)) (by omega) (by omega)
                      refine S1.sl (by omega) ?_
                      intro v45 hv45
                      have yv46 := zi_add (x := x3) (y := (2 : Int32)) (by omega) (by omega)
                      refine S1.sl (by omega) ?_
                      intro v46 hv46
                      obtain ⟨a8, m8, b8, n8, E8, F8, I8, J8, Q8⟩ := pr_61 v45 v46 g hI hJ
                      refine S1.bpe E8 ?_
                      have yv49 := zi_add (x := x3) (y := (1 : Int32)) (by omega) (by omega)
                      refine S1.sl (by omega) ?_
                      intro v49 hv49
                      obtain rfl : v49 = v45 := Option.some.inj (hv49.symm.trans hv45)
                      have yv50 := zi_add (x := x3) (y := (2 : Int32)) (by omega) (by omega)
                      refine S1.sl (by omega) ?_
                      intro v50 hv50
                      obtain rfl : v50 = v46 := Option.some.inj (hv50.symm.trans hv46)
                      refine S1.bpe F8 ?_
                      exact lw_1337 l x3 _ (d_198_18 l f) (f : Int) ih I8 J8 (by omega)
                    · skip
                      clear hc44
                      refine S1.ite (fun hc53 => ?_) (fun hc53 => ?_)
                      · skip
                        clear hc53
                        have yv54 := zi_add (x := x3) (y := (1 : Int32)) (by omega) (by omega)
                        refine S1.sl (by omega) ?_
                        intro v54 hv54
                        have yv55 := zi_add (x := x3) (y := (2 : Int32)) (by omega) (by omega)
                        refine S1.sl (by omega) ?_
                        intro v55 hv55
                        obtain ⟨a9, m9, b9, n9, E9, F9, I9, J9, Q9⟩ := pr_62 v54 v55 g hI hJ
                        refine S1.bpe E9 ?_
                        have yv58 := zi_add (x := x3) (y := (1 : Int32)) (by omega) (by omega)
                        refine S1.sl (by omega) ?_
                        intro v58 hv58
                        obtain rfl : v58 = v54 := Option.some.inj (hv58.symm.trans hv54)
                        have yv59 := zi_add (x := x3) (y := (2 : Int32)) (by omega) (by omega)
                        refine S1.sl (by omega) ?_
                        intro v59 hv59
                        obtain rfl : v59 = v55 := Option.some.inj (hv59.symm.trans hv55)
                        refine S1.bpe F9 ?_
                        exact lw_1337 l x3 _ (d_198_18 l f) (f : Int) ih I9 J9 (by omega)
                      · skip
                        clear hc53
                        refine S1.ite (fun hc62 => ?_) (fun hc62 => ?_)
                        · skip
                          clear hc62
                          have yv63 := zi_add (x := x3) (y := (1 : Int32)) (by omega) (by omega)
                          refine S1.sl (by omega) ?_
                          intro v63 hv63
                          have yv64 := zi_add (x := x3) (y := (2 : Int32)) (by omega) (by omega)
                          refine S1.sl (by omega) ?_
                          intro v64 hv64
                          have yv65 := zi_add (x := x3) (y := (3 : Int32)) (by omega) (by omega)
                          refine S1.sl (by omega) ?_
                          intro v65 hv65
                          have yv66 := zi_add (x := x3) (y := (4 : Int32)) (by omega) (by omega)
                          refine S1.sl (by omega) ?_
                          intro v66 hv66
                          have yv67 := zi_add (x := x3) (y := (5 : Int32)) (by omega) (by omega)
                          refine S1.sl (by omega) ?_
                          intro v67 hv67
                          obtain ⟨a10, m10, b10, n10, E10, F10, I10, J10, Q10⟩ := pr_63 v63 v64 v65 v66 v67 g hI hJ
                          refine S1.bpe E10 ?_
                          have yv70 := zi_add (x := x3) (y := (1 : Int32)) (by omega) (by omega)
                          refine S1.sl (by omega) ?_
                          intro v70 hv70
                          obtain rfl : v70 = v63 := Option.some.inj (hv70.symm.trans hv63)
                          have yv71 := zi_add (x := x3) (y := (2 : Int32)) (by omega) (by omega)
                          refine S1.sl (by omega) ?_
                          intro v71 hv71
                          obtain rfl : v71 = v64 := Option.some.inj (hv71.symm.trans hv64)
                          have yv72 := zi_add (x := x3) (y := (3 : Int32)) (by omega) (by omega)
                          refine S1.sl (by omega) ?_
                          intro v72 hv72
                          obtain rfl : v72 = v65 := Option.some.inj (hv72.symm.trans hv65)
                          have yv73 := zi_add (x := x3) (y := (4 : Int32)) (by omega) (by omega)
                          refine S1.sl (by omega) ?_
                          intro v73 hv73
                          obtain rfl : v73 = v66 := Option.some.inj (hv73.symm.trans hv66)
                          have yv74 := zi_add (x := x3) (y := (5 : Int32)) (by omega) (by omega)
                          refine S1.sl (by omega) ?_
                          intro v74 hv74
                          obtain rfl : v74 = v67 := Option.some.inj (hv74.symm.trans hv67)
                          refine S1.bpe F10 ?_
                          exact lw_1337 l x3 _ (d_198_18 l f) (f : Int) ih I10 J10 (by omega)
                        · skip
                          clear hc62
                          refine S1.ite (fun hc77 => ?_) (fun hc77 => ?_)
                          · skip
                            clear hc77
                            have yv78 := zi_add (x := x3) (y := (1 : Int32)) (by omega) (by omega)
                            refine S1.sl (by omega) ?_
                            intro v78 hv78
                            have yv79 := zi_add (x := x3) (y := (2 : Int32)) (by omega) (by omega)
                            refine S1.sl (by omega) ?_
                            intro v79 hv79
                            obtain ⟨a11, m11, b11, n11, E11, F11, I11, J11, Q11⟩ := pr_64 v78 v79 g hI hJ
                            refine S1.bpe E11 ?_
                            have yv82 := zi_add (x := x3) (y := (1 : Int32)) (by omega) (by omega)
                            refine S1.sl (by omega) ?_
                            intro v82 hv82
                            obtain rfl : v82 = v78 := Option.some.inj (hv82.symm.trans hv78)
                            have yv83 := zi_add (x := x3) (y := (2 : Int32)) (by omega) (by omega)
                            refine S1.sl (by omega) ?_
                            intro v83 hv83
                            obtain rfl : v83 = v79 := Option.some.inj (hv83.symm.trans hv79)
                            refine S1.bpe F11 ?_
                            exact lw_1337 l x3 _ (d_198_18 l f) (f : Int) ih I11 J11 (by omega)
                          · skip
                            clear hc77
                            refine S1.ite (fun hc86 => ?_) (fun hc86 => ?_)
                            · skip
                              clear hc86
                              have yv87 := zi_add (x := x3) (y := (1 : Int32)) (by omega) (by omega)
                              refine S1.sl (by omega) ?_
                              intro v87 hv87
                              have yv88 := zi_add (x := x3) (y := (2 : Int32)) (by omega) (by omega)
                              refine S1.sl (by omega) ?_
                              intro v88 hv88
                              obtain ⟨a12, m12, b12, n12, E12, F12, I12, J12, Q12⟩ := pr_65 v87 v88 g hI hJ
                              refine S1.bpe E12 ?_
                              have yv91 := zi_add (x := x3) (y := (1 : Int32)) (by omega) (by omega)
                              refine S1.sl (by omega) ?_
                              intro v91 hv91
                              obtain rfl : v91 = v87 := Option.some.inj (hv91.symm.trans hv87)
                              have yv92 := zi_add (x := x3) (y := (2 : Int32)) (by omega) (by omega)
                              refine S1.sl (by omega) ?_
                              intro v92 hv92
                              obtain rfl : v92 = v88 := Option.some.inj (hv92.symm.trans hv88)
                              refine S1.bpe F12 ?_
                              exact lw_1337 l x3 _ (d_198_18 l f) (f : Int) ih I12 J12 (by omega)
                            · skip
                              clear hc86
                              refine S1.ite (fun hc95 => ?_) (fun hc95 => ?_)
                              · skip
                                clear hc95
                                have yv96 := zi_add (x := x3) (y := (1 : Int32)) (by omega) (by omega)
                                refine S1.sl (by omega) ?_
                                intro v96 hv96
                                have yv97 := zi_add (x := x3) (y := (2 : Int32)) (by omega) (by omega)
                                refine S1.sl (by omega) ?_
                                intro v97 hv97
                                obtain ⟨a13, m13, b13, n13, E13, F13, I13, J13, Q13⟩ := pr_66 v96 v97 g hI hJ
                                refine S1.bpe E13 ?_
                                have yv100 := zi_add (x := x3) (y := (1 : Int32)) (by omega) (by omega)
                                refine S1.sl (by omega) ?_
                                intro v100 hv100
                                obtain rfl : v100 = v96 := Option.some.inj (hv100.symm.trans hv96)
                                have yv101 := zi_add (x := x3) (y := (2 : Int32)) (by omega) (by omega)
                                refine S1.sl (by omega) ?_
                                intro v101 hv101
                                obtain rfl : v101 = v97 := Option.some.inj (hv101.symm.trans hv97)
                                refine S1.bpe F13 ?_
                                exact lw_1337 l x3 _ (d_198_18 l f) (f : Int) ih I13 J13 (by omega)
                              · skip
                                clear hc95
                                refine S1.ite (fun hc104 => ?_) (fun hc104 => ?_)
                                · skip
                                  clear hc104
                                  have yv105 := zi_add (x := x3) (y := (1 : Int32)) (by omega) (by omega)
                                  refine S1.sl (by omega) ?_
                                  intro v105 hv105
                                  have yv106 := zi_add (x := x3) (y := (2 : Int32)) (by omega) (by omega)
                                  refine S1.sl (by omega) ?_
                                  intro v106 hv106
                                  have yv107 := zi_add (x := x3) (y := (3 : Int32)) (by omega) (by omega)
                                  refine S1.sl (by omega) ?_
                                  intro v107 hv107
                                  obtain ⟨a14, b14, E14, F14, I14, J14, Q14⟩ := pr_67 v105 v106 v107 g hI hJ
                                  refine S1.bde E14 ?_
                                  have yv109 := zi_add (x := x3) (y := (1 : Int32)) (by omega) (by omega)
                                  refine S1.sl (by omega) ?_
                                  intro v109 hv109
                                  obtain rfl : v109 = v105 := Option.some.inj (hv109.symm.trans hv105)
                                  have yv110 := zi_add (x := x3) (y := (2 : Int32)) (by omega) (by omega)
                                  refine S1.sl (by omega) ?_
                                  intro v110 hv110
                                  obtain rfl : v110 = v106 := Option.some.inj (hv110.symm.trans hv106)
                                  have yv111 := zi_add (x := x3) (y := (3 : Int32)) (by omega) (by omega)
                                  refine S1.sl (by omega) ?_
                                  intro v111 hv111
                                  obtain rfl : v111 = v107 := Option.some.inj (hv111.symm.trans hv107)
                                  refine S1.bde F14 ?_
                                  exact lw_1337 l x3 _ (d_198_18 l f) (f : Int) ih I14 J14 (by omega)
                                · skip
                                  clear hc104
                                  refine S1.ite (fun hc113 => ?_) (fun hc113 => ?_)
                                  · skip
                                    clear hc113
                                    have yv114 := zi_add (x := x3) (y := (1 : Int32)) (by omega) (by omega)
                                    refine S1.sl (by omega) ?_
                                    intro v114 hv114
                                    obtain ⟨a15, m15, b15, E15, F15, I15, J15, Q15⟩ := pr_68 v114 g hI hJ
                                    refine S1.bpe E15 ?_
                                    have yv117 := zi_add (x := x3) (y := (1 : Int32)) (by omega) (by omega)
                                    refine S1.sl (by omega) ?_
                                    intro v117 hv117
                                    obtain rfl : v117 = v114 := Option.some.inj (hv117.symm.trans hv114)
                                    refine S1.bde F15 ?_
                                    exact lw_1337 l x3 _ (d_198_18 l f) (f : Int) ih I15 J15 (by omega)
                                  · skip
                                    clear hc113
                                    refine S1.ite (fun hc119 => ?_) (fun hc119 => ?_)
                                    · skip
                                      clear hc119
                                      have yv120 := zi_add (x := x3) (y := (1 : Int32)) (by omega) (by omega)
                                      refine S1.sl (by omega) ?_
                                      intro v120 hv120
                                      have yv121 := zi_add (x := x3) (y := (2 : Int32)) (by omega) (by omega)
                                      refine S1.sl (by omega) ?_
                                      intro v121 hv121
                                      obtain ⟨a16, m16, b16, E16, F16, I16, J16, Q16⟩ := pr_69 v120 v121 g hI hJ
                                      refine S1.bpe E16 ?_
                                      have yv124 := zi_add (x := x3) (y := (1 : Int32)) (by omega) (by omega)
                                      refine S1.sl (by omega) ?_
                                      intro v124 hv124
                                      obtain rfl : v124 = v120 := Option.some.inj (hv124.symm.trans hv120)
                                      have yv125 := zi_add (x := x3) (y := (2 : Int32)) (by omega) (by omega)
                                      refine S1.sl (by omega) ?_
                                      intro v125 hv125
                                      obtain rfl : v125 = v121 := Option.some.inj (hv125.symm.trans hv121)
                                      refine S1.bde F16 ?_
                                      exact lw_1337 l x3 _ (d_198_18 l f) (f : Int) ih I16 J16 (by omega)
                                    · skip
                                      clear hc119
                                      refine S1.ite (fun hc127 => ?_) (fun hc127 => ?_)
                                      · skip
                                        clear hc127
                                        have yv128 := zi_add (x := x3) (y := (1 : Int32)) (by omega) (by omega)
                                        refine S1.sl (by omega) ?_
                                        intro v128 hv128
                                        obtain ⟨a17, m17, b17, E17, F17, I17, J17, Q17⟩ := pr_70 v128 g hI hJ
                                        refine S1.bpe E17 ?_
                                        have yv131 := zi_add (x := x3) (y := (1 : Int32)) (by omega) (by omega)
                                        refine S1.sl (by omega) ?_
                                        intro v131 hv131
                                        obtain rfl : v131 = v128 := Option.some.inj (hv131.symm.trans hv128)
                                        refine S1.bde F17 ?_
                                        exact lw_1337 l x3 _ (d_198_18 l f) (f : Int) ih I17 J17 (by omega)
                                      · skip
                                        clear hc127
                                        refine S1.ite (fun hc133 => ?_) (fun hc133 => ?_)
                                        · skip
                                          clear hc133
                                          obtain ⟨a18, m18, b18, E18, F18, I18, J18, Q18⟩ := pr_71 g hI hJ
                                          refine S1.bpe E18 ?_
                                          refine S1.bde F18 ?_
                                          exact lw_1337 l x3 _ (d_198_18 l f) (f : Int) ih I18 J18 (by omega)
                                        · skip
                                          clear hc133
                                          refine S1.ite (fun hc137 => ?_) (fun hc137 => ?_)
                                          · skip
                                            clear hc137
                                            have yv138 := zi_add (x := x3) (y := (1 : Int32)) (by omega) (by omega)
                                            refine S1.sl (by omega) ?_
                                            intro v138 hv138
                                            obtain ⟨a19, m19, b19, n19, E19, F19, I19, J19, Q19⟩ := pr_72 v138 g hI hJ
                                            refine S1.bpe E19 ?_
                                            have yv141 := zi_add (x := x3) (y := (1 : Int32)) (by omega) (by omega)
                                            refine S1.sl (by omega) ?_
                                            intro v141 hv141
                                            obtain rfl : v141 = v138 := Option.some.inj (hv141.symm.trans hv138)
                                            refine S1.bpe F19 ?_
                                            exact lw_1337 l x3 _ (d_198_18 l f) (f : Int) ih I19 J19 (by omega)
                                          · skip
                                            clear hc137
                                            refine S1.ite (fun hc144 => ?_) (fun hc144 => ?_)
                                            · skip
                                              clear hc144
                                              have yv145 := zi_add (x := x3) (y := (1 : Int32)) (by omega) (by omega)
                                              refine S1.sl (by omega) ?_
                                              intro v145 hv145
                                              obtain ⟨a20, m20, b20, n20, E20, F20, I20, J20, Q20⟩ := pr_73 v145 g hI hJ
                                              refine S1.bpe E20 ?_
                                              have yv148 := zi_add (x := x3) (y := (1 : Int32)) (by omega) (by omega)
                                              refine S1.sl (by omega) ?_
                                              intro v148 hv148
                                              obtain rfl : v148 = v145 := Option.some.inj (hv148.symm.trans hv145)
                                              refine S1.bpe F20 ?_
                                              exact lw_1337 l x3 _ (d_198_18 l f) (f : Int) ih I20 J20 (by omega)
                                            · skip
                                              clear hc144
                                              refine S1.ite (fun hc151 => ?_) (fun hc151 => ?_)
                                              · skip
                                                clear hc151
                                                have yv152 := zi_add (x := x3) (y := (1 : Int32)) (by omega) (by omega)
                                                refine S1.sl (by omega) ?_
                                                intro v152 hv152
                                                have yv153 := zi_add (x := x3) (y := (2 : Int32)) (by omega) (by omega)
                                                refine S1.sl (by omega) ?_
                                                intro v153 hv153
                                                have yv154 := zi_add (x := x3) (y := (3 : Int32)) (by omega) (by omega)
                                                refine S1.sl (by omega) ?_
                                                intro v154 hv154
                                                have yv155 := zi_add (x := x3) (y := (4 : Int32)) (by omega) (by omega)
                                                refine S1.sl (by omega) ?_
                                                intro v155 hv155
                                                obtain ⟨a21, m21, b21, E21, F21, I21, J21, Q21⟩ := pr_74 v152 v153 v154 v155 g hI hJ
                                                refine S1.bpe E21 ?_
                                                have yv158 := zi_add (x := x3) (y := (1 : Int32)) (by omega) (by omega)
                                                refine S1.sl (by omega) ?_
                                                intro v158 hv158
                                                obtain rfl : v158 = v152 := Option.some.inj (hv158.symm.trans hv152)
                                                have yv159 := zi_add (x := x3) (y := (2 : Int32)) (by omega) (by omega)
                                                refine S1.sl (by omega) ?_
                                                intro v159 hv159
                                                obtain rfl : v159 = v153 := Option.some.inj (hv159.symm.trans hv153)
                                                have yv160 := zi_add (x := x3) (y := (3 : Int32)) (by omega) (by omega)
                                                refine S1.sl (by omega) ?_
                                                intro v160 hv160
                                                obtain rfl : v160 = v154 := Option.some.inj (hv160.symm.trans hv154)
                                                have yv161 := zi_add (x := x3) (y := (4 : Int32)) (by omega) (by omega)
                                                refine S1.sl (by omega) ?_
                                                intro v161 hv161
                                                obtain rfl : v161 = v155 := Option.some.inj (hv161.symm.trans hv155)
                                                refine S1.bde F21 ?_
                                                exact lw_1337 l x3 _ (d_198_18 l f) (f : Int) ih I21 J21 (by omega)
                                              · skip
                                                clear hc151
                                                refine S1.ite (fun hc163 => ?_) (fun hc163 => ?_)
                                                · skip
                                                  clear hc163
                                                  have yv164 := zi_add (x := x3) (y := (1 : Int32)) (by omega) (by omega)
                                                  refine S1.sl (by omega) ?_
                                                  intro v164 hv164
                                                  have yv165 := zi_add (x := x3) (y := (2 : Int32)) (by omega) (by omega)
                                                  refine S1.sl (by omega) ?_
                                                  intro v165 hv165
                                                  obtain ⟨a22, m22, b22, n22, E22, F22, I22, J22, Q22⟩ := pr_75 v164 v165 g hI hJ
                                                  refine S1.bpe E22 ?_
                                                  have yv168 := zi_add (x := x3) (y := (1 : Int32)) (by omega) (by omega)
                                                  refine S1.sl (by omega) ?_
                                                  intro v168 hv168
                                                  obtain rfl : v168 = v164 := Option.some.inj (hv168.symm.trans hv164)
                                                  have yv169 := zi_add (x := x3) (y := (2 : Int32)) (by omega) (by omega)
                                                  refine S1.sl (by omega) ?_
                                                  intro v169 hv169
                                                  obtain rfl : v169 = v165 := Option.some.inj (hv169.symm.trans hv165)
                                                  refine S1.bpe F22 ?_
                                                  exact lw_1337 l x3 _ (d_198_18 l f) (f : Int) ih I22 J22 (by omega)
                                                · skip
                                                  clear hc163
                                                  refine S1.ite (fun hc172 => ?_) (fun hc172 => ?_)
                                                  · skip
                                                    clear hc172
                                                    have yv173 := zi_add (x := x3) (y := (1 : Int32)) (by omega) (by omega)
                                                    refine S1.sl (by omega) ?_
                                                    intro v173 hv173
                                                    have yv174 := zi_add (x := x3) (y := (2 : Int32)) (by omega) (by omega)
                                                    refine S1.sl (by omega) ?_
                                                    intro v174 hv174
                                                    have yv175 := zi_add (x := x3) (y := (3 : Int32)) (by omega) (by omega)
                                                    refine S1.sl (by omega) ?_
                                                    intro v175 hv175
                                                    obtain ⟨a23, m23, b23, E23, F23, I23, J23, Q23⟩ := pr_76 v173 v174 v175 g hI hJ
                                                    refine S1.bpe E23 ?_
                                                    have yv178 := zi_add (x := x3) (y := (1 : Int32)) (by omega) (by omega)
                                                    refine S1.sl (by omega) ?_
                                                    intro v178 hv178
                                                    obtain rfl : v178 = v173 := Option.some.inj (hv178.symm.trans hv173)
                                                    have yv179 := zi_add (x := x3) (y := (2 : Int32)) (by omega) (by omega)
                                                    refine S1.sl (by omega) ?_
                                                    intro v179 hv179
                                                    obtain rfl : v179 = v174 := Option.some.inj (hv179.symm.trans hv174)
                                                    have yv180 := zi_add (x := x3) (y := (3 : Int32)) (by omega) (by omega)
                                                    refine S1.sl (by omega) ?_
                                                    intro v180 hv180
                                                    obtain rfl : v180 = v175 := Option.some.inj (hv180.symm.trans hv175)
                                                    refine S1.bde F23 ?_
                                                    exact lw_1337 l x3 _ (d_198_18 l f) (f : Int) ih I23 J23 (by omega)
                                                  · skip
                                                    clear hc172
                                                    refine S1.ite (fun hc182 => ?_) (fun hc182 => ?_)
                                                    · skip
                                                      clear hc182
                                                      have yv183 := zi_add (x := x3) (y := (1 : Int32)) (by omega) (by omega)
                                                      refine S1.sl (by omega) ?_
                                                      intro v183 hv183
                                                      obtain ⟨a24, m24, b24, E24, F24, I24, J24, Q24⟩ := pr_77 v183 g hI hJ
                                                      refine S1.bpe E24 ?_
                                                      have yv186 := zi_add (x := x3) (y := (1 : Int32)) (by omega) (by omega)
                                                      refine S1.sl (by omega) ?_
                                                      intro v186 hv186
                                                      obtain rfl : v186 = v183 := Option.some.inj (hv186.symm.trans hv183)
                                                      refine S1.bde F24 ?_
                                                      exact lw_1337 l x3 _ (d_198_18 l f) (f : Int) ih I24 J24 (by omega)
                                                    · skip
                                                      clear hc182
                                                      refine S1.ite (fun hc188 => ?_) (fun hc188 => ?_)
                                                      · skip
                                                        clear hc188
                                                        have yv189 := zi_add (x := x3) (y := (1 : Int32)) (by omega) (by omega)
                                                        refine S1.sl (by omega) ?_
                                                        intro v189 hv189
                                                        have yv190 := zi_add (x := x3) (y := (2 : Int32)) (by omega) (by omega)
                                                        refine S1.sl (by omega) ?_
                                                        intro v190 hv190
                                                        have yv191 := zi_add (x := x3) (y := (3 : Int32)) (by omega) (by omega)
                                                        refine S1.sl (by omega) ?_
                                                        intro v191 hv191
                                                        have yv192 := zi_add (x := x3) (y := (4 : Int32)) (by omega) (by omega)
                                                        refine S1.sl (by omega) ?_
                                                        intro v192 hv192
                                                        obtain ⟨a25, m25, b25, E25, F25, I25, J25, Q25⟩ := pr_78 v189 v190 v191 v192 g hI hJ
                                                        refine S1.bpe E25 ?_
                                                        have yv195 := zi_add (x := x3) (y := (1 : Int32)) (by omega) (by omega)
                                                        refine S1.sl (by omega) ?_
                                                        intro v195 hv195
                                                        obtain rfl : v195 = v189 := Option.some.inj (hv195.symm.trans hv189)
                                                        have yv196 := zi_add (x := x3) (y := (2 : Int32)) (by omega) (by omega)
                                                        refine S1.sl (by omega) ?_
                                                        intro v196 hv196
                                                        obtain rfl : v196 = v190 := Option.some.inj (hv196.symm.trans hv190)
                                                        have yv197 := zi_add (x := x3) (y := (3 : Int32)) (by omega) (by omega)
                                                        refine S1.sl (by omega) ?_
                                                        intro v197 hv197
                                                        obtain rfl : v197 = v191 := Option.some.inj (hv197.symm.trans hv191)
                                                        have yv198 := zi_add (x := x3) (y := (4 : Int32)) (by omega) (by omega)
                                                        refine S1.sl (by omega) ?_
                                                        intro v198 hv198
                                                        obtain rfl : v198 = v192 := Option.some.inj (hv198.symm.trans hv192)
                                                        refine S1.bde F25 ?_
                                                        refine S1.ite (fun _ => ?_) (fun hc => absurd (congrArg Int32.toInt (zl_cmpeq Q25)) (zc_eqF hc))
                                                        exact lw_1337 l x3 _ (d_198_18 l f) (f : Int) ih I25 J25 (by omega)
                                                      · skip
                                                        clear hc188
                                                        refine S1.ite (fun hc201 => ?_) (fun hc201 => ?_)
                                                        · skip
                                                          clear hc201
                                                          have yv202 := zi_add (x := x3) (y := (1 : Int32)) (by omega) (by omega)
                                                          refine S1.sl (by omega) ?_
                                                          intro v202 hv202
                                                          have yv203 := zi_add (x := x3) (y := (2 : Int32)) (by omega) (by omega)
                                                          refine S1.sl (by omega) ?_
                                                          intro v203 hv203
                                                          have yv204 := zi_add (x := x3) (y := (3 : Int32)) (by omega) (by omega)
                                                          refine S1.sl (by omega) ?_
                                                          intro v204 hv204
                                                          have yv205 := zi_add (x := x3) (y := (4 : Int32)) (by omega) (by omega)
                                                          refine S1.sl (by omega) ?_
                                                          intro v205 hv205
                                                          refine S1.ite (fun hc206 => ?_) (fun hc206 => ?_)
                                                          · skip
                                                            have chc206 := zc_eqT hc206
                                                            obtain ⟨a26, m26, b26, n26, E26, F26, I26, J26, Q26⟩ := pr_79 v202 v203 v204 (0 : Int32) g hI hJ (by decide)
                                                            refine S1.bpe E26 ?_
                                                            have yv209 := zi_add (x := x3) (y := (1 : Int32)) (by omega) (by omega)
                                                            refine S1.sl (by omega) ?_
                                                            intro v209 hv209
                                                            obtain rfl : v209 = v202 := Option.some.inj (hv209.symm.trans hv202)
                                                            have yv210 := zi_add (x := x3) (y := (2 : Int32)) (by omega) (by omega)
                                                            refine S1.sl (by omega) ?_
                                                            intro v210 hv210
                                                            obtain rfl : v210 = v203 := Option.some.inj (hv210.symm.trans hv203)
                                                            have yv211 := zi_add (x := x3) (y := (3 : Int32)) (by omega) (by omega)
                                                            refine S1.sl (by omega) ?_
                                                            intro v211 hv211
                                                            obtain rfl : v211 = v204 := Option.some.inj (hv211.symm.trans hv204)
                                                            have yv212 := zi_add (x := x3) (y := (4 : Int32)) (by omega) (by omega)
                                                            refine S1.sl (by omega) ?_
                                                            intro v212 hv212
                                                            obtain rfl : v212 = v205 := Option.some.inj (hv212.symm.trans hv205)
                                                            refine S1.ite (fun hc213 => ?_) (fun hc213 => ?_)
                                                            · skip
                                                              refine S1.bpe F26 ?_
                                                              exact lw_1337 l x3 _ (d_198_18 l f) (f : Int) ih I26 J26 (by omega)
                                                            · have chc213 := zc_eqF hc213
                                                              exfalso
                                                              omega
                                                          · skip
                                                            have chc206 := zc_eqF hc206
                                                            obtain ⟨a27, m27, b27, n27, E27, F27, I27, J27, Q27⟩ := pr_79 v202 v203 v204 (1 : Int32) g hI hJ (by decide)
                                                            refine S1.bpe E27 ?_
                                                            have yv220 := zi_add (x := x3) (y := (1 : Int32)) (by omega) (by omega)
                                                            refine S1.sl (by omega) ?_
                                                            intro v220 hv220
                                                            obtain rfl : v220 = v202 := Option.some.inj (hv220.symm.trans hv202)
                                                            have yv221 := zi_add (x := x3) (y := (2 : Int32)) (by omega) (by omega)
                                                            refine S1.sl (by omega) ?_
                                                            intro v221 hv221
                                                            obtain rfl : v221 = v203 := Option.some.inj (hv221.symm.trans hv203)
                                                            have yv222 := zi_add (x := x3) (y := (3 : Int32)) (by omega) (by omega)
                                                            refine S1.sl (by omega) ?_
                                                            intro v222 hv222
                                                            obtain rfl : v222 = v204 := Option.some.inj (hv222.symm.trans hv204)
                                                            have yv223 := zi_add (x := x3) (y := (4 : Int32)) (by omega) (by omega)
                                                            refine S1.sl (by omega) ?_
                                                            intro v223 hv223
                                                            obtain rfl : v223 = v205 := Option.some.inj (hv223.symm.trans hv205)
                                                            refine S1.ite (fun hc224 => ?_) (fun hc224 => ?_)
                                                            · have chc224 := zc_eqT hc224
                                                              exfalso
                                                              omega
                                                            · skip
                                                              refine S1.bpe F27 ?_
                                                              exact lw_1337 l x3 _ (d_198_18 l f) (f : Int) ih I27 J27 (by omega)
                                                        · skip
                                                          clear hc201
                                                          refine S1.ite (fun hc229 => ?_) (fun hc229 => ?_)
                                                          · skip
                                                            clear hc229
                                                            have yv230 := zi_add (x := x3) (y := (1 : Int32)) (by omega) (by omega)
                                                            refine S1.sl (by omega) ?_
                                                            intro v230 hv230
                                                            obtain ⟨a28, m28, b28, n28, E28, F28, I28, J28, Q28⟩ := pr_80 v230 g hI hJ
                                                            refine S1.pce E28 ?_
                                                            have yv233 := zi_add (x := x3) (y := (1 : Int32)) (by omega) (by omega)
                                                            refine S1.sl (by omega) ?_
                                                            intro v233 hv233
                                                            obtain rfl : v233 = v230 := Option.some.inj (hv233.symm.trans hv230)
                                                            refine S1.bpe F28 ?_
                                                            exact lw_1337 l x3 _ (d_198_18 l f) (f : Int) ih I28 J28 (by omega)
                                                          · skip
                                                            clear hc229
                                                            refine S1.ite (fun hc236 => ?_) (fun hc236 => ?_)
                                                            · skip
                                                              clear hc236
                                                              have yv237 := zi_add (x := x3) (y := (1 : Int32)) (by omega) (by omega)
                                                              refine S1.sl (by omega) ?_
                                                              intro v237 hv237
                                                              obtain ⟨a29, m29, b29, n29, E29, F29, I29, J29, Q29⟩ := pr_81 v237 g hI hJ
                                                              refine S1.bpe E29 ?_
                                                              have yv240 := zi_add (x := x3) (y := (1 : Int32)) (by omega) (by omega)
                                                              refine S1.sl (by omega) ?_
                                                              intro v240 hv240
                                                              obtain rfl : v240 = v237 := Option.some.inj (hv240.symm.trans hv237)
                                                              refine S1.bpe F29 ?_
                                                              exact lw_1337 l x3 _ (d_198_18 l f) (f : Int) ih I29 J29 (by omega)
                                                            · skip
                                                              clear hc236
                                                              refine S1.ite (fun hc243 => ?_) (fun hc243 => ?_)
                                                              · skip
                                                                clear hc243
                                                                have yv244 := zi_add (x := x3) (y := (1 : Int32)) (by omega) (by omega)
                                                                refine S1.sl (by omega) ?_
                                                                intro v244 hv244
                                                                have yv245 := zi_add (x := x3) (y := (2 : Int32)) (by omega) (by omega)
                                                                refine S1.sl (by omega) ?_
                                                                intro v245 hv245
                                                                obtain ⟨a30, m30, b30, E30, F30, I30, J30, Q30⟩ := pr_82 v244 v245 g hI hJ
                                                                refine S1.bpe E30 ?_
                                                                have yv248 := zi_add (x := x3) (y := (1 : Int32)) (by omega) (by omega)
                                                                refine S1.sl (by omega) ?_
                                                                intro v248 hv248
                                                                obtain rfl : v248 = v244 := Option.some.inj (hv248.symm.trans hv244)
                                                                have yv249 := zi_add (x := x3) (y := (2 : Int32)) (by omega) (by omega)
                                                                refine S1.sl (by omega) ?_
                                                                intro v249 hv249
                                                                obtain rfl : v249 = v245 := Option.some.inj (hv249.symm.trans hv245)
                                                                refine S1.bde F30 ?_
                                                                exact lw_1337 l x3 _ (d_198_18 l f) (f : Int) ih I30 J30 (by omega)
                                                              · skip
                                                                clear hc243
                                                                refine S1.ite (fun hc251 => ?_) (fun hc251 => ?_)
                                                                · skip
                                                                  clear hc251
                                                                  have yv252 := zi_add (x := x3) (y := (1 : Int32)) (by omega) (by omega)
                                                                  refine S1.sl (by omega) ?_
                                                                  intro v252 hv252
                                                                  obtain ⟨a31, m31, b31, n31, E31, F31, I31, J31, Q31⟩ := pr_83 v252 g hI hJ
                                                                  refine S1.bpe E31 ?_
                                                                  have yv255 := zi_add (x := x3) (y := (1 : Int32)) (by omega) (by omega)
                                                                  refine S1.sl (by omega) ?_
                                                                  intro v255 hv255
                                                                  obtain rfl : v255 = v252 := Option.some.inj (hv255.symm.trans hv252)
                                                                  refine S1.bpe F31 ?_
                                                                  exact lw_1337 l x3 _ (d_198_18 l f) (f : Int) ih I31 J31 (by omega)
                                                                · skip
                                                                  clear hc251
                                                                  refine S1.ite (fun hc258 => ?_) (fun hc258 => ?_)
                                                                  · skip
                                                                    clear hc258
                                                                    have yv259 := zi_add (x := x3) (y := (1 : Int32)) (by omega) (by omega)
                                                                    refine S1.sl (by omega) ?_
                                                                    intro v259 hv259
                                                                    obtain ⟨a32, m32, b32, n32, E32, F32, I32, J32, Q32⟩ := pr_84 v259 g hI hJ
                                                                    refine S1.bpe E32 ?_
                                                                    have yv262 := zi_add (x := x3) (y := (1 : Int32)) (by omega) (by omega)
                                                                    refine S1.sl (by omega) ?_
                                                                    intro v262 hv262
                                                                    obtain rfl : v262 = v259 := Option.some.inj (hv262.symm.trans hv259)
                                                                    refine S1.bpe F32 ?_
                                                                    exact lw_1337 l x3 _ (d_198_18 l f) (f : Int) ih I32 J32 (by omega)
                                                                  · skip
                                                                    clear hc258
                                                                    refine S1.ite (fun hc265 => ?_) (fun hc265 => ?_)
                                                                    · skip
                                                                      clear hc265
                                                                      have yv266 := zi_add (x := x3) (y := (1 : Int32)) (by omega) (by omega)
                                                                      refine S1.sl (by omega) ?_
                                                                      intro v266 hv266
                                                                      have yv267 := zi_add (x := x3) (y := (2 : Int32)) (by omega) (by omega)
                                                                      refine S1.sl (by omega) ?_
                                                                      intro v267 hv267
                                                                      have yv268 := zi_add (x := x3) (y := (3 : Int32)) (by omega) (by omega)
                                                                      refine S1.sl (by omega) ?_
                                                                      intro v268 hv268
                                                                      obtain ⟨a33, m33, b33, n33, E33, F33, I33, J33, Q33⟩ := pr_85 v266 v267 v268 g hI hJ
                                                                      refine S1.bpe E33 ?_
                                                                      have yv271 := zi_add (x := x3) (y := (1 : Int32)) (by omega) (by omega)
                                                                      refine S1.sl (by omega) ?_
                                                                      intro v271 hv271
                                                                      obtain rfl : v271 = v266 := Option.some.inj (hv271.symm.trans hv266)
                                                                      have yv272 := zi_add (x := x3) (y := (2 : Int32)) (by omega) (by omega)
                                                                      refine S1.sl (by omega) ?_
                                                                      intro v272 hv272
                                                                      obtain rfl : v272 = v267 := Option.some.inj (hv272.symm.trans hv267)
                                                                      have yv273 := zi_add (x := x3) (y := (3 : Int32)) (by omega) (by omega)
                                                                      refine S1.sl (by omega) ?_
                                                                      intro v273 hv273
                                                                      obtain rfl : v273 = v268 := Option.some.inj (hv273.symm.trans hv268)
                                                                      refine S1.bpe F33 ?_
                                                                      exact lw_1337 l x3 _ (d_198_18 l f) (f : Int) ih I33 J33 (by omega)
                                                                    · skip
                                                                      clear hc265
                                                                      refine S1.ite (fun hc276 => ?_) (fun hc276 => ?_)
                                                                      · skip
                                                                        clear hc276
                                                                        have yv277 := zi_add (x := x3) (y := (1 : Int32)) (by omega) (by omega)
                                                                        refine S1.sl (by omega) ?_
                                                                        intro v277 hv277
                                                                        have yv278 := zi_add (x := x3) (y := (2 : Int32)) (by omega) (by omega)
                                                                        refine S1.sl (by omega) ?_
                                                                        intro v278 hv278
                                                                        have yv279 := zi_add (x := x3) (y := (3 : Int32)) (by omega) (by omega)
                                                                        refine S1.sl (by omega) ?_
                                                                        intro v279 hv279
                                                                        obtain ⟨a34, m34, b34, n34, E34, F34, I34, J34, Q34⟩ := pr_86 v277 v278 v279 g hI hJ
                                                                        refine S1.bpe E34 ?_
                                                                        have yv282 := zi_add (x := x3) (y := (1 : Int32)) (by omega) (by omega)
                                                                        refine S1.sl (by omega) ?_
                                                                        intro v282 hv282
                                                                        obtain rfl : v282 = v277 := Option.some.inj (hv282.symm.trans hv277)
                                                                        have yv283 := zi_add (x := x3) (y := (2 : Int32)) (by omega) (by omega)
                                                                        refine S1.sl (by omega) ?_
                                                                        intro v283 hv283
                                                                        obtain rfl : v283 = v278 := Option.some.inj (hv283.symm.trans hv278)
                                                                        have yv284 := zi_add (x := x3) (y := (3 : Int32)) (by omega) (by omega)
                                                                        refine S1.sl (by omega) ?_
                                                                        intro v284 hv284
                                                                        obtain rfl : v284 = v279 := Option.some.inj (hv284.symm.trans hv279)
                                                                        refine S1.bpe F34 ?_
                                                                        exact lw_1337 l x3 _ (d_198_18 l f) (f : Int) ih I34 J34 (by omega)
                                                                      · skip
                                                                        clear hc276
                                                                        refine S1.ite (fun hc287 => ?_) (fun hc287 => ?_)
                                                                        · skip
                                                                          clear hc287
                                                                          have yv288 := zi_add (x := x3) (y := (1 : Int32)) (by omega) (by omega)
                                                                          refine S1.sl (by omega) ?_
                                                                          intro v288 hv288
                                                                          have yv289 := zi_add (x := x3) (y := (2 : Int32)) (by omega) (by omega)
                                                                          refine S1.sl (by omega) ?_
                                                                          intro v289 hv289
                                                                          have yv290 := zi_add (x := x3) (y := (3 : Int32)) (by omega) (by omega)
                                                                          refine S1.sl (by omega) ?_
                                                                          intro v290 hv290
                                                                          have yv291 := zi_add (x := x3) (y := (4 : Int32)) (by omega) (by omega)
                                                                          refine S1.sl (by omega) ?_
                                                                          intro v291 hv291
                                                                          obtain ⟨a35, m35, b35, n35, E35, F35, I35, J35, Q35⟩ := pr_87 v288 v289 v290 v291 g hI hJ
                                                                          refine S1.bpe E35 ?_
                                                                          have yv294 := zi_add (x := x3) (y := (1 : Int32)) (by omega) (by omega)
                                                                          refine S1.sl (by omega) ?_
                                                                          intro v294 hv294
                                                                          obtain rfl : v294 = v288 := Option.some.inj (hv294.symm.trans hv288)
                                                                          have yv295 := zi_add (x := x3) (y := (2 : Int32)) (by omega) (by omega)
                                                                          refine S1.sl (by omega) ?_
                                                                          intro v295 hv295
                                                                          obtain rfl : v295 = v289 := Option.some.inj (hv295.symm.trans hv289)
                                                                          have yv296 := zi_add (x := x3) (y := (3 : Int32)) (by omega) (by omega)
                                                                          refine S1.sl (by omega) ?_
                                                                          intro v296 hv296
                                                                          obtain rfl : v296 = v290 := Option.some.inj (hv296.symm.trans hv290)
                                                                          have yv297 := zi_add (x := x3) (y := (4 : Int32)) (by omega) (by omega)
                                                                          refine S1.sl (by omega) ?_
                                                                          intro v297 hv297
                                                                          obtain rfl : v297 = v291 := Option.some.inj (hv297.symm.trans hv291)
                                                                          refine S1.bpe F35 ?_
                                                                          exact lw_1337 l x3 _ (d_198_18 l f) (f : Int) ih I35 J35 (by omega)
                                                                        · skip
                                                                          clear hc287
                                                                          refine S1.ite (fun hc300 => ?_) (fun hc300 => ?_)
                                                                          · skip
                                                                            clear hc300
                                                                            obtain ⟨a36, b36, E36, F36, I36, J36, Q36⟩ := pr_88 g hI hJ
                                                                            refine S1.lte E36 ?_
                                                                            refine S1.lte F36 ?_
                                                                            exact lw_1337 l x3 _ (d_198_18 l f) (f : Int) ih I36 J36 (by omega)
                                                                          · skip
                                                                            clear hc300
                                                                            refine S1.ite (fun hc303 => ?_) (fun hc303 => ?_)
                                                                            · skip
                                                                              clear hc303
                                                                              have yv304 := zi_add (x := x3) (y := (1 : Int32)) (by omega) (by omega)
                                                                              refine S1.sl (by omega) ?_
                                                                              intro v304 hv304
                                                                              obtain ⟨a37, m37, b37, E37, F37, I37, J37, Q37⟩ := pr_89 v304 g hI hJ
                                                                              refine S1.bpe E37 ?_
                                                                              have yv307 := zi_add (x := x3) (y := (1 : Int32)) (by omega) (by omega)
                                                                              refine S1.sl (by omega) ?_
                                                                              intro v307 hv307
                                                                              obtain rfl : v307 = v304 := Option.some.inj (hv307.symm.trans hv304)
                                                                              refine S1.bde F37 ?_
                                                                              exact lw_1337 l x3 _ (d_198_18 l f) (f : Int) ih I37 J37 (by omega)
                                                                            · skip
                                                                              clear hc303
                                                                              exact lw_1337 l x3 _ (d_198_18 l f) (f : Int) ih hI hJ (by omega)
theorem lw_all (l : List Int32) (hl : l.length ≤ 384) (g : G) (hI : Inv g) (hJ : JR g) : S1 (d_198 l g) (fun q : Bool × G => q.1 = true) := by
  unfold d_198
  have L0 := zl_0
  exact lw_18 l hl 300 0 g hI hJ (by omega)
