/-! printed by wip/tools/safe.py -/
theorem s_198_1336 (l : List Int32) (hl : l.length ≤ 384) (x3 : Int32) (g : G) (hI : Inv g) (k18 : Int32 → G → Option (Bool × G)) (m18 : Int) (hk18 : ∀ (x3 : Int32) (g : G), Inv g → 0 ≤ x3.toInt ∧ x3.toInt ≤ 384 ∧ 390 - x3.toInt < 6 * m18 → S1 (k18 x3 g) (fun q : Bool × G => Inv q.2 ∧ True ∧ (q.1 = true → True) ∧ (q.1 = false → (0 : Int) = 1))) (hp : x3.toInt ≤ 378 ∧ 0 ≤ x3.toInt ∧ x3.toInt ≤ 384 ∧ 390 - x3.toInt < 6 * (m18 + 1)) : S1 (d_198_1336 l x3 g k18) (fun q : Bool × G => Inv q.2 ∧ True ∧ (q.1 = true → True) ∧ (q.1 = false → (0 : Int) = 1)) := by
  unfold d_198_1336
  have L6 := zl_6
  try have y1 := zi_add (x := x3) (y := (6 : Int32)) (by omega) (by omega)
  exact hk18 (x3 + 6) g hI (by omega)
theorem s_198_18 (l : List Int32) (hl : l.length ≤ 384) : ∀ (f : Nat) (x3 : Int32) (g : G), Inv g → 0 ≤ x3.toInt ∧ x3.toInt ≤ 384 ∧ 390 - x3.toInt < 6 * (f : Int) → S1 (d_198_18 l f x3 g) (fun q : Bool × G => Inv q.2 ∧ True ∧ (q.1 = true → True) ∧ (q.1 = false → (0 : Int) = 1)) := by
  intro f
  induction f with
  | zero =>
    intro x3 g hI hp
    exfalso
    omega
  | succ f ih =>
    intro x3 g hI hp
    rw [d_198_18.eq_2]
    have L0 := zl_0
    have L1 := zl_1
    have L2 := zl_2
    have L3 := zl_3
    have L4 := zl_4
    have L5 := zl_5
    have L6 := zl_6
    have L7 := zl_7
    have L8 := zl_8
    have L9 := zl_9
    have L10 := zl_10
    have L11 := zl_11
    have L12 := zl_12
    have L13 := zl_13
    have L14 := zl_14
    have L15 := zl_15
    have L16 := zl_16
    have L17 := zl_17
    have L18 := zl_18
    have L19 := zl_19
    have L20 := zl_20
    have L21 := zl_21
    have L22 := zl_22
    have L23 := zl_23
    have L24 := zl_24
    have L25 := zl_25
    have L26 := zl_26
    have L27 := zl_27
    have L28 := zl_28
    have L29 := zl_29
    have L30 := zl_30
    have L31 := zl_31
    have L32 := zl_32
    have L33 := zl_33
    have L34 := zl_34
    have L35 := zl_35
    have L63 := zl_63
    have y2 : (Int32.ofNat l.length).toInt = (l.length : Int) := Int32.toInt_ofNat_of_lt (by omega)
    try have y3 := zi_sub (x := (Int32.ofNat l.length)) (y := (6 : Int32)) (by omega) (by omega)
    refine S1.ite (fun hc1 => ?_) (fun hc1 => ?_)
    · skip
      have chc1 := zc_gtT hc1
      exact S1.ret (show Inv g ∧ True ∧ (true = true → True) ∧ (true = false → (0 : Int) = 1) from ⟨hI, trivial, (fun _ => trivial), (fun w => by cases w)⟩)
    · skip
      have chc1 := zc_gtF hc1
      refine S1.sl (by omega) ?_
      intro v2 hv2
      try have y4 := zi_and (x := v2) (y := (63 : Int32)) (by omega)
      refine S1.ite (fun hc3 => ?_) (fun hc3 => ?_)
      · skip
        have chc3 := zc_bT hc3
        try have y5 := zi_add (x := x3) (y := (1 : Int32)) (by omega) (by omega)
        refine S1.sl (by omega) ?_
        intro v4 hv4
        refine S1.bp (s_54 v4 g hI trivial) ?_
        intro v5 g6 hvv5 hRv5
        have hRv5 : Inv g6 ∧ True := hRv5
        refine S1.sl (by omega) ?_
        intro v7 hv7
        have y6 : v4.toInt = v7.toInt := by rw [Option.some.inj (hv4.symm.trans hv7)]
        refine S1.bp (s_111 v7 g6 hRv5.1 trivial) ?_
        intro v8 g9 hvv8 hRv8
        have hRv8 : Inv g9 ∧ True := hRv8
        exact (s_198_1336 l hl x3 g9 hRv8.1 (d_198_18 l f) (f : Int) ih (by omega))
      · skip
        have chc3 := zc_bF hc3
        refine S1.ite (fun hc10 => ?_) (fun hc10 => ?_)
        · skip
          have chc10 := zc_bT hc10
          try have y7 := zi_add (x := x3) (y := (1 : Int32)) (by omega) (by omega)
          refine S1.sl (by omega) ?_
          intro v11 hv11
          refine S1.pc (s_55 v11 g hI trivial) ?_
          intro v12 g13 hvv12 hRv12
          have hRv12 : Inv g13 ∧ True := hRv12
          refine S1.sl (by omega) ?_
          intro v14 hv14
          have y8 : v11.toInt = v14.toInt := by rw [Option.some.inj (hv11.symm.trans hv14)]
          refine S1.pc (s_112 v14 g13 hRv12.1 trivial) ?_
          intro v15 g16 hvv15 hRv15
          have hRv15 : Inv g16 ∧ True := hRv15
          exact (s_198_1336 l hl x3 g16 hRv15.1 (d_198_18 l f) (f : Int) ih (by omega))
        · skip
          have chc10 := zc_bF hc10
          refine S1.ite (fun hc17 => ?_) (fun hc17 => ?_)
          · skip
            have chc17 := zc_bT hc17
            refine S1.bp (s_56 g hI trivial) ?_
            intro v18 g19 hvv18 hRv18
            have hRv18 : Inv g19 ∧ True := hRv18
            refine S1.bp (s_129 g19 hRv18.1 trivial) ?_
            intro v20 g21 hvv20 hRv20
            have hRv20 : Inv g21 ∧ True := hRv20
            exact (s_198_1336 l hl x3 g21 hRv20.1 (d_198_18 l f) (f : Int) ih (by omega))
          · skip
            have chc17 := zc_bF hc17
            refine S1.ite (fun hc22 => ?_) (fun hc22 => ?_)
            · skip
              have chc22 := zc_bT hc22
              refine S1.lt ?_
              intro v23 hvv23
              refine S1.lt ?_
              intro v24 hvv24
              exact (s_198_1336 l hl x3 g hI (d_198_18 l f) (f : Int) ih (by omega))
            · skip
              have chc22 := zc_bF hc22
              refine S1.ite (fun hc25 => ?_) (fun hc25 => ?_)
              · skip
                have chc25 := zc_bT hc25
                try have y9 := zi_add (x := x3) (y := (1 : Int32)) (by omega) (by omega)
                refine S1.sl (by omega) ?_
                intro v26 hv26
                refine S1.lt ?_
                intro v27 hvv27
                refine S1.sl (by omega) ?_
                intro v28 hv28
                have y10 : v26.toInt = v28.toInt := by rw [Option.some.inj (hv26.symm.trans hv28)]
                refine S1.lt ?_
                intro v29 hvv29
                exact (s_198_1336 l hl x3 g hI (d_198_18 l f) (f : Int) ih (by omega))
              · skip
                have chc25 := zc_bF hc25
                refine S1.ite (fun hc30 => ?_) (fun hc30 => ?_)
                · skip
                  have chc30 := zc_bT hc30
                  try have y11 := zi_add (x := x3) (y := (1 : Int32)) (by omega) (by omega)
                  refine S1.sl (by omega) ?_
                  intro v31 hv31
                  try have y12 := zi_add (x := x3) (y := (2 : Int32)) (by omega) (by omega)
                  refine S1.sl (by omega) ?_
                  intro v32 hv32
                  refine S1.bd (s_59 v31 v32 g hI trivial) ?_
                  intro v33 hvv33 hRv33
                  have hRv33 : True ∧ True := hRv33
                  refine S1.sl (by omega) ?_
                  intro v34 hv34
                  have y13 : v31.toInt = v34.toInt := by rw [Option.some.inj (hv31.symm.trans hv34)]
                  refine S1.sl (by omega) ?_
                  intro v35 hv35
                  have y14 : v32.toInt = v35.toInt := by rw [Option.some.inj (hv32.symm.trans hv35)]
                  refine S1.bd (s_140 v34 v35 g hI trivial) ?_
                  intro v36 hvv36 hRv36
                  have hRv36 : True ∧ True := hRv36
                  exact (s_198_1336 l hl x3 g hI (d_198_18 l f) (f : Int) ih (by omega))
                · skip
                  have chc30 := zc_bF hc30
                  refine S1.ite (fun hc37 => ?_) (fun hc37 => ?_)
                  · skip
                    have chc37 := zc_bT hc37
                    try have y15 := zi_add (x := x3) (y := (1 : Int32)) (by omega) (by omega)
                    refine S1.sl (by omega) ?_
                    intro v38 hv38
                    try have y16 := zi_add (x := x3) (y := (2 : Int32)) (by omega) (by omega)
                    refine S1.sl (by omega) ?_
                    intro v39 hv39
                    refine S1.bd (s_60 v38 v39 g hI trivial) ?_
                    intro v40 hvv40 hRv40
                    have hRv40 : True ∧ True := hRv40
                    refine S1.sl (by omega) ?_
                    intro v41 hv41
                    have y17 : v38.toInt = v41.toInt := by rw [Option.some.inj (hv38.symm.trans hv41)]
                    refine S1.sl (by omega) ?_
                    intro v42 hv42
                    have y18 : v39.toInt = v42.toInt := by rw [Option.some.inj (hv39.symm.trans hv42)]
                    refine S1.bd (s_141 v41 v42 g hI trivial) ?_
                    intro v43 hvv43 hRv43
                    have hRv43 : True ∧ True := hRv43
                    exact (s_198_1336 l hl x3 g hI (d_198_18 l f) (f : Int) ih (by omega))
                  · skip
                    have chc37 := zc_bF hc37
                    refine S1.ite (fun hc44 => ?_) (fun hc44 => ?_)
                    · skip
                      have chc44 := zc_bT hc44
                      try have y19 := zi_add (x := x3) (y := (1 : Int32)) (by omega) (by omega)
                      refine S1.sl (by omega) ?_
                      intro v45 hv45
                      try have y20 := zi_add (x := x3) (y := (2 : Int32)) (by omega) (by omega)
                      refine S1.sl (by omega) ?_
                      intro v46 hv46
                      refine S1.bp (s_61 v45 v46 g hI trivial) ?_
                      intro v47 g48 hvv47 hRv47
                      have hRv47 : Inv g48 ∧ True := hRv47
                      refine S1.sl (by omega) ?_
                      intro v49 hv49
                      have y21 : v45.toInt = v49.toInt := by rw [Option.some.inj (hv45.symm.trans hv49)]
                      refine S1.sl (by omega) ?_
                      intro v50 hv50
                      have y22 : v46.toInt = v50.toInt := by rw [Option.some.inj (hv46.symm.trans hv50)]
                      refine S1.bp (s_143 v49 v50 g48 hRv47.1 trivial) ?_
                      intro v51 g52 hvv51 hRv51
                      have hRv51 : Inv g52 ∧ True := hRv51
                      exact (s_198_1336 l hl x3 g52 hRv51.1 (d_198_18 l f) (f : Int) ih (by omega))
                    · skip
                      have chc44 := zc_bF hc44
                      refine S1.ite (fun hc53 => ?_) (fun hc53 => ?_)
                      · skip
                        have chc53 := zc_bT hc53
                        try have y23 := zi_add (x := x3) (y := (1 : Int32)) (by omega) (by omega)
                        refine S1.sl (by omega) ?_
                        intro v54 hv54
                        try have y24 := zi_add (x := x3) (y := (2 : Int32)) (by omega) (by omega)
                        refine S1.sl (by omega) ?_
                        intro v55 hv55
                        refine S1.bp (s_62 v54 v55 g hI trivial) ?_
                        intro v56 g57 hvv56 hRv56
                        have hRv56 : Inv g57 ∧ True := hRv56
                        refine S1.sl (by omega) ?_
                        intro v58 hv58
                        have y25 : v54.toInt = v58.toInt := by rw [Option.some.inj (hv54.symm.trans hv58)]
                        refine S1.sl (by omega) ?_
                        intro v59 hv59
                        have y26 : v55.toInt = v59.toInt := by rw [Option.some.inj (hv55.symm.trans hv59)]
                        refine S1.bp (s_145 v58 v59 g57 hRv56.1 trivial) ?_
                        intro v60 g61 hvv60 hRv60
                        have hRv60 : Inv g61 ∧ True := hRv60
                        exact (s_198_1336 l hl x3 g61 hRv60.1 (d_198_18 l f) (f : Int) ih (by omega))
                      · skip
                        have chc53 := zc_bF hc53
                        refine S1.ite (fun hc62 => ?_) (fun hc62 => ?_)
                        · skip
                          have chc62 := zc_bT hc62
                          try have y27 := zi_add (x := x3) (y := (1 : Int32)) (by omega) (by omega)
                          refine S1.sl (by omega) ?_
                          intro v63 hv63
                          try have y28 := zi_add (x := x3) (y := (2 : Int32)) (by omega) (by omega)
                          refine S1.sl (by omega) ?_
                          intro v64 hv64
                          try have y29 := zi_add (x := x3) (y := (3 : Int32)) (by omega) (by omega)
                          refine S1.sl (by omega) ?_
                          intro v65 hv65
                          try have y30 := zi_add (x := x3) (y := (4 : Int32)) (by omega) (by omega)
                          refine S1.sl (by omega) ?_
                          intro v66 hv66
                          try have y31 := zi_add (x := x3) (y := (5 : Int32)) (by omega) (by omega)
                          refine S1.sl (by omega) ?_
                          intro v67 hv67
                          refine S1.bp (s_63 v63 v64 v65 v66 v67 g hI trivial) ?_
                          intro v68 g69 hvv68 hRv68
                          have hRv68 : Inv g69 ∧ True := hRv68
                          refine S1.sl (by omega) ?_
                          intro v70 hv70
                          have y32 : v63.toInt = v70.toInt := by rw [Option.some.inj (hv63.symm.trans hv70)]
                          refine S1.sl (by omega) ?_
                          intro v71 hv71
                          have y33 : v64.toInt = v71.toInt := by rw [Option.some.inj (hv64.symm.trans hv71)]
                          refine S1.sl (by omega) ?_
                          intro v72 hv72
                          have y34 : v65.toInt = v72.toInt := by rw [Option.some.inj (hv65.symm.trans hv72)]
                          refine S1.sl (by omega) ?_
                          intro v73 hv73
                          have y35 : v66.toInt = v73.toInt := by rw [Option.some.inj (hv66.symm.trans hv73)]
                          refine S1.sl (by omega) ?_
                          intro v74 hv74
                          have y36 : v67.toInt = v74.toInt := by rw [Option.some.inj (hv67.symm.trans hv74)]
                          refine S1.bp (s_146 v70 v71 v72 v73 v74 g69 hRv68.1 trivial) ?_
                          intro v75 g76 hvv75 hRv75
                          have hRv75 : Inv g76 ∧ True := hRv75
                          exact (s_198_1336 l hl x3 g76 hRv75.1 (d_198_18 l f) (f : Int) ih (by omega))
                        · skip
                          have chc62 := zc_bF hc62
                          refine S1.ite (fun hc77 => ?_) (fun hc77 => ?_)
                          · skip
                            have chc77 := zc_bT hc77
                            try have y37 := zi_add (x := x3) (y := (1 : Int32)) (by omega) (by omega)
                            refine S1.sl (by omega) ?_
                            intro v78 hv78
                            try have y38 := zi_add (x := x3) (y := (2 : Int32)) (by omega) (by omega)
                            refine S1.sl (by omega) ?_
                            intro v79 hv79
                            refine S1.bp (s_64 v78 v79 g hI trivial) ?_
                            intro v80 g81 hvv80 hRv80
                            have hRv80 : Inv g81 ∧ True := hRv80
                            refine S1.sl (by omega) ?_
                            intro v82 hv82
                            have y39 : v78.toInt = v82.toInt := by rw [Option.some.inj (hv78.symm.trans hv82)]
                            refine S1.sl (by omega) ?_
                            intro v83 hv83
                            have y40 : v79.toInt = v83.toInt := by rw [Option.some.inj (hv79.symm.trans hv83)]
                            refine S1.bp (s_147 v82 v83 g81 hRv80.1 trivial) ?_
                            intro v84 g85 hvv84 hRv84
                            have hRv84 : Inv g85 ∧ True := hRv84
                            exact (s_198_1336 l hl x3 g85 hRv84.1 (d_198_18 l f) (f : Int) ih (by omega))
                          · skip
                            have chc77 := zc_bF hc77
                            refine S1.ite (fun hc86 => ?_) (fun hc86 => ?_)
                            · skip
                              have chc86 := zc_bT hc86
                              try have y41 := zi_add (x := x3) (y := (1 : Int32)) (by omega) (by omega)
                              refine S1.sl (by omega) ?_
                              intro v87 hv87
                              try have y42 := zi_add (x := x3) (y := (2 : Int32)) (by omega) (by omega)
                              refine S1.sl (by omega) ?_
                              intro v88 hv88
                              refine S1.bp (s_65 v87 v88 g hI trivial) ?_
                              intro v89 g90 hvv89 hRv89
                              have hRv89 : Inv g90 ∧ True := hRv89
                              refine S1.sl (by omega) ?_
                              intro v91 hv91
                              have y43 : v87.toInt = v91.toInt := by rw [Option.some.inj (hv87.symm.trans hv91)]
                              refine S1.sl (by omega) ?_
                              intro v92 hv92
                              have y44 : v88.toInt = v92.toInt := by rw [Option.some.inj (hv88.symm.trans hv92)]
                              refine S1.bp (s_148 v91 v92 g90 hRv89.1 trivial) ?_
                              intro v93 g94 hvv93 hRv93
                              have hRv93 : Inv g94 ∧ True := hRv93
                              exact (s_198_1336 l hl x3 g94 hRv93.1 (d_198_18 l f) (f : Int) ih (by omega))
                            · skip
                              have chc86 := zc_bF hc86
                              refine S1.ite (fun hc95 => ?_) (fun hc95 => ?_)
                              · skip
                                have chc95 := zc_bT hc95
                                try have y45 := zi_add (x := x3) (y := (1 : Int32)) (by omega) (by omega)
                                refine S1.sl (by omega) ?_
                                intro v96 hv96
                                try have y46 := zi_add (x := x3) (y := (2 : Int32)) (by omega) (by omega)
                                refine S1.sl (by omega) ?_
                                intro v97 hv97
                                refine S1.bp (s_66 v96 v97 g hI trivial) ?_
                                intro v98 g99 hvv98 hRv98
                                have hRv98 : Inv g99 ∧ True := hRv98
                                refine S1.sl (by omega) ?_
                                intro v100 hv100
                                have y47 : v96.toInt = v100.toInt := by rw [Option.some.inj (hv96.symm.trans hv100)]
                                refine S1.sl (by omega) ?_
                                intro v101 hv101
                                have y48 : v97.toInt = v101.toInt := by rw [Option.some.inj (hv97.symm.trans hv101)]
                                refine S1.bp (s_149 v100 v101 g99 hRv98.1 trivial) ?_
                                intro v102 g103 hvv102 hRv102
                                have hRv102 : Inv g103 ∧ True := hRv102
                                exact (s_198_1336 l hl x3 g103 hRv102.1 (d_198_18 l f) (f : Int) ih (by omega))
                              · skip
                                have chc95 := zc_bF hc95
                                refine S1.ite (fun hc104 => ?_) (fun hc104 => ?_)
                                · skip
                                  have chc104 := zc_bT hc104
                                  try have y49 := zi_add (x := x3) (y := (1 : Int32)) (by omega) (by omega)
                                  refine S1.sl (by omega) ?_
                                  intro v105 hv105
                                  try have y50 := zi_add (x := x3) (y := (2 : Int32)) (by omega) (by omega)
                                  refine S1.sl (by omega) ?_
                                  intro v106 hv106
                                  try have y51 := zi_add (x := x3) (y := (3 : Int32)) (by omega) (by omega)
                                  refine S1.sl (by omega) ?_
                                  intro v107 hv107
                                  refine S1.bd (s_67 v105 v106 v107 g hI trivial) ?_
                                  intro v108 hvv108 hRv108
                                  have hRv108 : True ∧ True := hRv108
                                  refine S1.sl (by omega) ?_
                                  intro v109 hv109
                                  have y52 : v105.toInt = v109.toInt := by rw [Option.some.inj (hv105.symm.trans hv109)]
                                  refine S1.sl (by omega) ?_
                                  intro v110 hv110
                                  have y53 : v106.toInt = v110.toInt := by rw [Option.some.inj (hv106.symm.trans hv110)]
                                  refine S1.sl (by omega) ?_
                                  intro v111 hv111
                                  have y54 : v107.toInt = v111.toInt := by rw [Option.some.inj (hv107.symm.trans hv111)]
                                  refine S1.bd (s_153 v109 v110 v111 g hI trivial) ?_
                                  intro v112 hvv112 hRv112
                                  have hRv112 : True ∧ True := hRv112
                                  exact (s_198_1336 l hl x3 g hI (d_198_18 l f) (f : Int) ih (by omega))
                                · skip
                                  have chc104 := zc_bF hc104
                                  refine S1.ite (fun hc113 => ?_) (fun hc113 => ?_)
                                  · skip
                                    have chc113 := zc_bT hc113
                                    try have y55 := zi_add (x := x3) (y := (1 : Int32)) (by omega) (by omega)
                                    refine S1.sl (by omega) ?_
                                    intro v114 hv114
                                    refine S1.bp (s_68 v114 g hI trivial) ?_
                                    intro v115 g116 hvv115 hRv115
                                    have hRv115 : Inv g116 ∧ True := hRv115
                                    refine S1.sl (by omega) ?_
                                    intro v117 hv117
                                    have y56 : v114.toInt = v117.toInt := by rw [Option.some.inj (hv114.symm.trans hv117)]
                                    refine S1.bd (s_154 v117 g116 hRv115.1 trivial) ?_
                                    intro v118 hvv118 hRv118
                                    have hRv118 : True ∧ True := hRv118
                                    exact (s_198_1336 l hl x3 g116 hRv115.1 (d_198_18 l f) (f : Int) ih (by omega))
                                  · skip
                                    have chc113 := zc_bF hc113
                                    refine S1.ite (fun hc119 => ?_) (fun hc119 => ?_)
                                    · skip
                                      have chc119 := zc_bT hc119
                                      try have y57 := zi_add (x := x3) (y := (1 : Int32)) (by omega) (by omega)
                                      refine S1.sl (by omega) ?_
                                      intro v120 hv120
                                      try have y58 := zi_add (x := x3) (y := (2 : Int32)) (by omega) (by omega)
                                      refine S1.sl (by omega) ?_
                                      intro v121 hv121
                                      refine S1.bp (s_69 v120 v121 g hI trivial) ?_
                                      intro v122 g123 hvv122 hRv122
                                      have hRv122 : Inv g123 ∧ True := hRv122
                                      refine S1.sl (by omega) ?_
                                      intro v124 hv124
                                      have y59 : v120.toInt = v124.toInt := by rw [Option.some.inj (hv120.symm.trans hv124)]
                                      refine S1.sl (by omega) ?_
                                      intro v125 hv125
                                      have y60 : v121.toInt = v125.toInt := by rw [Option.some.inj (hv121.symm.trans hv125)]
                                      refine S1.bd (s_156 v124 v125 g123 hRv122.1 trivial) ?_
                                      intro v126 hvv126 hRv126
                                      have hRv126 : True ∧ True := hRv126
                                      exact (s_198_1336 l hl x3 g123 hRv122.1 (d_198_18 l f) (f : Int) ih (by omega))
                                    · skip
                                      have chc119 := zc_bF hc119
                                      refine S1.ite (fun hc127 => ?_) (fun hc127 => ?_)
                                      · skip
                                        have chc127 := zc_bT hc127
                                        try have y61 := zi_add (x := x3) (y := (1 : Int32)) (by omega) (by omega)
                                        refine S1.sl (by omega) ?_
                                        intro v128 hv128
                                        refine S1.bp (s_70 v128 g hI trivial) ?_
                                        intro v129 g130 hvv129 hRv129
                                        have hRv129 : Inv g130 ∧ True := hRv129
                                        refine S1.sl (by omega) ?_
                                        intro v131 hv131
                                        have y62 : v128.toInt = v131.toInt := by rw [Option.some.inj (hv128.symm.trans hv131)]
                                        refine S1.bd (s_160 v131 g130 hRv129.1 trivial) ?_
                                        intro v132 hvv132 hRv132
                                        have hRv132 : True ∧ True := hRv132
                                        exact (s_198_1336 l hl x3 g130 hRv129.1 (d_198_18 l f) (f : Int) ih (by omega))
                                      · skip
                                        have chc127 := zc_bF hc127
                                        refine S1.ite (fun hc133 => ?_) (fun hc133 => ?_)
                                        · skip
                                          have chc133 := zc_bT hc133
                                          refine S1.bp (s_71 g hI trivial) ?_
                                          intro v134 g135 hvv134 hRv134
                                          have hRv134 : Inv g135 ∧ True := hRv134
                                          refine S1.bd (s_162 g135 hRv134.1 trivial) ?_
                                          intro v136 hvv136 hRv136
                                          have hRv136 : True ∧ True := hRv136
                                          exact (s_198_1336 l hl x3 g135 hRv134.1 (d_198_18 l f) (f : Int) ih (by omega))
                                        · skip
                                          have chc133 := zc_bF hc133
                                          refine S1.ite (fun hc137 => ?_) (fun hc137 => ?_)
                                          · skip
                                            have chc137 := zc_bT hc137
                                            try have y63 := zi_add (x := x3) (y := (1 : Int32)) (by omega) (by omega)
                                            refine S1.sl (by omega) ?_
                                            intro v138 hv138
                                            refine S1.bp (s_72 v138 g hI trivial) ?_
                                            intro v139 g140 hvv139 hRv139
                                            have hRv139 : Inv g140 ∧ True := hRv139
                                            refine S1.sl (by omega) ?_
                                            intro v141 hv141
                                            have y64 : v138.toInt = v141.toInt := by rw [Option.some.inj (hv138.symm.trans hv141)]
                                            refine S1.bp (s_165 v141 g140 hRv139.1 trivial) ?_
                                            intro v142 g143 hvv142 hRv142
                                            have hRv142 : Inv g143 ∧ True := hRv142
                                            exact (s_198_1336 l hl x3 g143 hRv142.1 (d_198_18 l f) (f : Int) ih (by omega))
                                          · skip
                                            have chc137 := zc_bF hc137
                                            refine S1.ite (fun hc144 => ?_) (fun hc144 => ?_)
                                            · skip
                                              have chc144 := zc_bT hc144
                                              try have y65 := zi_add (x := x3) (y := (1 : Int32)) (by omega) (by omega)
                                              refine S1.sl (by omega) ?_
                                              intro v145 hv145
                                              refine S1.bp (s_73 v145 g hI trivial) ?_
                                              intro v146 g147 hvv146 hRv146
                                              have hRv146 : Inv g147 ∧ True := hRv146
                                              refine S1.sl (by omega) ?_
                                              intro v148 hv148
                                              have y66 : v145.toInt = v148.toInt := by rw [Option.some.inj (hv145.symm.trans hv148)]
                                              refine S1.bp (s_167 v148 g147 hRv146.1 trivial) ?_
                                              intro v149 g150 hvv149 hRv149
                                              have hRv149 : Inv g150 ∧ True := hRv149
                                              exact (s_198_1336 l hl x3 g150 hRv149.1 (d_198_18 l f) (f : Int) ih (by omega))
                                            · skip
                                              have chc144 := zc_bF hc144
                                              refine S1.ite (fun hc151 => ?_) (fun hc151 => ?_)
                                              · skip
                                                have chc151 := zc_bT hc151
                                                try have y67 := zi_add (x := x3) (y := (1 : Int32)) (by omega) (by omega)
                                                refine S1.sl (by omega) ?_
                                                intro v152 hv152
                                                try have y68 := zi_add (x := x3) (y := (2 : Int32)) (by omega) (by omega)
                                                refine S1.sl (by omega) ?_
                                                intro v153 hv153
                                                try have y69 := zi_add (x := x3) (y := (3 : Int32)) (by omega) (by omega)
                                                refine S1.sl (by omega) ?_
                                                intro v154 hv154
                                                try have y70 := zi_add (x := x3) (y := (4 : Int32)) (by omega) (by omega)
                                                refine S1.sl (by omega) ?_
                                                intro v155 hv155
                                                refine S1.bp (s_74 v152 v153 v154 v155 g hI trivial) ?_
                                                intro v156 g157 hvv156 hRv156
                                                have hRv156 : Inv g157 ∧ True := hRv156
                                                refine S1.sl (by omega) ?_
                                                intro v158 hv158
                                                have y71 : v152.toInt = v158.toInt := by rw [Option.some.inj (hv152.symm.trans hv158)]
                                                refine S1.sl (by omega) ?_
                                                intro v159 hv159
                                                have y72 : v153.toInt = v159.toInt := by rw [Option.some.inj (hv153.symm.trans hv159)]
                                                refine S1.sl (by omega) ?_
                                                intro v160 hv160
                                                have y73 : v154.toInt = v160.toInt := by rw [Option.some.inj (hv154.symm.trans hv160)]
                                                refine S1.sl (by omega) ?_
                                                intro v161 hv161
                                                have y74 : v155.toInt = v161.toInt := by rw [Option.some.inj (hv155.symm.trans hv161)]
                                                refine S1.bd (s_168 v158 v159 v160 v161 g157 hRv156.1 trivial) ?_
                                                intro v162 hvv162 hRv162
                                                have hRv162 : True ∧ True := hRv162
                                                exact (s_198_1336 l hl x3 g157 hRv156.1 (d_198_18 l f) (f : Int) ih (by omega))
                                              · skip
                                                have chc151 := zc_bF hc151
                                                refine S1.ite (fun hc163 => ?_) (fun hc163 => ?_)
                                                · skip
                                                  have chc163 := zc_bT hc163
                                                  try have y75 := zi_add (x := x3) (y := (1 : Int32)) (by omega) (by omega)
                                                  refine S1.sl (by omega) ?_
                                                  intro v164 hv164
                                                  try have y76 := zi_add (x := x3) (y := (2 : Int32)) (by omega) (by omega)
                                                  refine S1.sl (by omega) ?_
                                                  intro v165 hv165
                                                  refine S1.bp (s_75 v164 v165 g hI trivial) ?_
                                                  intro v166 g167 hvv166 hRv166
                                                  have hRv166 : Inv g167 ∧ True := hRv166
                                                  refine S1.sl (by omega) ?_
                                                  intro v168 hv168
                                                  have y77 : v164.toInt = v168.toInt := by rw [Option.some.inj (hv164.symm.trans hv168)]
                                                  refine S1.sl (by omega) ?_
                                                  intro v169 hv169
                                                  have y78 : v165.toInt = v169.toInt := by rw [Option.some.inj (hv165.symm.trans hv169)]
                                                  refine S1.bp (s_169 v168 v169 g167 hRv166.1 trivial) ?_
                                                  intro v170 g171 hvv170 hRv170
                                                  have hRv170 : Inv g171 ∧ True := hRv170
                                                  exact (s_198_1336 l hl x3 g171 hRv170.1 (d_198_18 l f) (f : Int) ih (by omega))
                                                · skip
                                                  have chc163 := zc_bF hc163
                                                  refine S1.ite (fun hc172 => ?_) (fun hc172 => ?_)
                                                  · skip
                                                    have chc172 := zc_bT hc172
                                                    try have y79 := zi_add (x := x3) (y := (1 : Int32)) (by omega) (by omega)
                                                    refine S1.sl (by omega) ?_
                                                    intro v173 hv173
                                                    try have y80 := zi_add (x := x3) (y := (2 : Int32)) (by omega) (by omega)
                                                    refine S1.sl (by omega) ?_
                                                    intro v174 hv174
                                                    try have y81 := zi_add (x := x3) (y := (3 : Int32)) (by omega) (by omega)
                                                    refine S1.sl (by omega) ?_
                                                    intro v175 hv175
                                                    refine S1.bp (s_76 v173 v174 v175 g hI trivial) ?_
                                                    intro v176 g177 hvv176 hRv176
                                                    have hRv176 : Inv g177 ∧ True := hRv176
                                                    refine S1.sl (by omega) ?_
                                                    intro v178 hv178
                                                    have y82 : v173.toInt = v178.toInt := by rw [Option.some.inj (hv173.symm.trans hv178)]
                                                    refine S1.sl (by omega) ?_
                                                    intro v179 hv179
                                                    have y83 : v174.toInt = v179.toInt := by rw [Option.some.inj (hv174.symm.trans hv179)]
                                                    refine S1.sl (by omega) ?_
                                                    intro v180 hv180
                                                    have y84 : v175.toInt = v180.toInt := by rw [Option.some.inj (hv175.symm.trans hv180)]
                                                    refine S1.bd (s_170 v178 v179 v180 g177 hRv176.1 trivial) ?_
                                                    intro v181 hvv181 hRv181
                                                    have hRv181 : True ∧ True := hRv181
                                                    exact (s_198_1336 l hl x3 g177 hRv176.1 (d_198_18 l f) (f : Int) ih (by omega))
                                                  · skip
                                                    have chc172 := zc_bF hc172
                                                    refine S1.ite (fun hc182 => ?_) (fun hc182 => ?_)
                                                    · skip
                                                      have chc182 := zc_bT hc182
                                                      try have y85 := zi_add (x := x3) (y := (1 : Int32)) (by omega) (by omega)
                                                      refine S1.sl (by omega) ?_
                                                      intro v183 hv183
                                                      refine S1.bp (s_77 v183 g hI trivial) ?_
                                                      intro v184 g185 hvv184 hRv184
                                                      have hRv184 : Inv g185 ∧ True := hRv184
                                                      refine S1.sl (by omega) ?_
                                                      intro v186 hv186
                                                      have y86 : v183.toInt = v186.toInt := by rw [Option.some.inj (hv183.symm.trans hv186)]
                                                      refine S1.bd (s_173 v186 g185 hRv184.1 trivial) ?_
                                                      intro v187 hvv187 hRv187
                                                      have hRv187 : True ∧ True := hRv187
                                                      exact (s_198_1336 l hl x3 g185 hRv184.1 (d_198_18 l f) (f : Int) ih (by omega))
                                                    · skip
                                                      have chc182 := zc_bF hc182
                                                      refine S1.ite (fun hc188 => ?_) (fun hc188 => ?_)
                                                      · skip
                                                        have chc188 := zc_bT hc188
                                                        try have y87 := zi_add (x := x3) (y := (1 : Int32)) (by omega) (by omega)
                                                        refine S1.sl (by omega) ?_
                                                        intro v189 hv189
                                                        try have y88 := zi_add (x := x3) (y := (2 : Int32)) (by omega) (by omega)
                                                        refine S1.sl (by omega) ?_
                                                        intro v190 hv190
                                                        try have y89 := zi_add (x := x3) (y := (3 : Int32)) (by omega) (by omega)
                                                        refine S1.sl (by omega) ?_
                                                        intro v191 hv191
                                                        try have y90 := zi_add (x := x3) (y := (4 : Int32)) (by omega) (by omega)
                                                        refine S1.sl (by omega) ?_
                                                        intro v192 hv192
                                                        refine S1.bp (s_78 v189 v190 v191 v192 g hI trivial) ?_
                                                        intro v193 g194 hvv193 hRv193
                                                        have hRv193 : Inv g194 ∧ True := hRv193
                                                        refine S1.sl (by omega) ?_
                                                        intro v195 hv195
                                                        have y91 : v189.toInt = v195.toInt := by rw [Option.some.inj (hv189.symm.trans hv195)]
                                                        refine S1.sl (by omega) ?_
                                                        intro v196 hv196
                                                        have y92 : v190.toInt = v196.toInt := by rw [Option.some.inj (hv190.symm.trans hv196)]
                                                        refine S1.sl (by omega) ?_
                                                        intro v197 hv197
                                                        have y93 : v191.toInt = v197.toInt := by rw [Option.some.inj (hv191.symm.trans hv197)]
                                                        refine S1.sl (by omega) ?_
                                                        intro v198 hv198
                                                        have y94 : v192.toInt = v198.toInt := by rw [Option.some.inj (hv192.symm.trans hv198)]
                                                        refine S1.bd (s_174 v195 v196 v197 v198 g194 hRv193.1 trivial) ?_
                                                        intro v199 hvv199 hRv199
                                                        have hRv199 : True ∧ True := hRv199
                                                        exact (s_198_1336 l hl x3 g194 hRv193.1 (d_198_18 l f) (f : Int) ih (by omega))
                                                      · skip
                                                        have chc188 := zc_bF hc188
                                                        refine S1.ite (fun hc200 => ?_) (fun hc200 => ?_)
                                                        · skip
                                                          have chc200 := zc_bT hc200
                                                          try have y95 := zi_add (x := x3) (y := (1 : Int32)) (by omega) (by omega)
                                                          refine S1.sl (by omega) ?_
                                                          intro v201 hv201
                                                          try have y96 := zi_add (x := x3) (y := (2 : Int32)) (by omega) (by omega)
                                                          refine S1.sl (by omega) ?_
                                                          intro v202 hv202
                                                          try have y97 := zi_add (x := x3) (y := (3 : Int32)) (by omega) (by omega)
                                                          refine S1.sl (by omega) ?_
                                                          intro v203 hv203
                                                          try have y98 := zi_add (x := x3) (y := (4 : Int32)) (by omega) (by omega)
                                                          refine S1.sl (by omega) ?_
                                                          intro v204 hv204
                                                          refine S1.ite (fun hc205 => ?_) (fun hc205 => ?_)
                                                          · skip
                                                            have chc205 := zc_eqT hc205
                                                            refine S1.bp (s_79 v201 v202 v203 (0 : Int32) g hI (by omega)) ?_
                                                            intro v206 g207 hvv206 hRv206
                                                            have hRv206 : Inv g207 ∧ True := hRv206
                                                            refine S1.sl (by omega) ?_
                                                            intro v208 hv208
                                                            have y99 : v201.toInt = v208.toInt := by rw [Option.some.inj (hv201.symm.trans hv208)]
                                                            refine S1.sl (by omega) ?_
                                                            intro v209 hv209
                                                            have y100 : v202.toInt = v209.toInt := by rw [Option.some.inj (hv202.symm.trans hv209)]
                                                            refine S1.sl (by omega) ?_
                                                            intro v210 hv210
                                                            have y101 : v203.toInt = v210.toInt := by rw [Option.some.inj (hv203.symm.trans hv210)]
                                                            refine S1.sl (by omega) ?_
                                                            intro v211 hv211
                                                            have y102 : v204.toInt = v211.toInt := by rw [Option.some.inj (hv204.symm.trans hv211)]
                                                            refine S1.ite (fun hc212 => ?_) (fun hc212 => ?_)
                                                            · skip
                                                              have chc212 := zc_eqT hc212
                                                              refine S1.bp (s_175 v208 v209 v210 (0 : Int32) g207 hRv206.1 trivial) ?_
                                                              intro v213 g214 hvv213 hRv213
                                                              have hRv213 : Inv g214 ∧ True := hRv213
                                                              exact (s_198_1336 l hl x3 g214 hRv213.1 (d_198_18 l f) (f : Int) ih (by omega))
                                                            · skip
                                                              have chc212 := zc_eqF hc212
                                                              refine S1.bp (s_175 v208 v209 v210 (1 : Int32) g207 hRv206.1 trivial) ?_
                                                              intro v215 g216 hvv215 hRv215
                                                              have hRv215 : Inv g216 ∧ True := hRv215
                                                              exact (s_198_1336 l hl x3 g216 hRv215.1 (d_198_18 l f) (f : Int) ih (by omega))
                                                          · skip
                                                            have chc205 := zc_eqF hc205
                                                            refine S1.bp (s_79 v201 v202 v203 (1 : Int32) g hI (by omega)) ?_
                                                            intro v217 g218 hvv217 hRv217
                                                            have hRv217 : Inv g218 ∧ True := hRv217
                                                            refine S1.sl (by omega) ?_
                                                            intro v219 hv219
                                                            have y103 : v201.toInt = v219.toInt := by rw [Option.some.inj (hv201.symm.trans hv219)]
                                                            refine S1.sl (by omega) ?_
                                                            intro v220 hv220
                                                            have y104 : v202.toInt = v220.toInt := by rw [Option.some.inj (hv202.symm.trans hv220)]
                                                            refine S1.sl (by omega) ?_
                                                            intro v221 hv221
                                                            have y105 : v203.toInt = v221.toInt := by rw [Option.some.inj (hv203.symm.trans hv221)]
                                                            refine S1.sl (by omega) ?_
                                                            intro v222 hv222
                                                            have y106 : v204.toInt = v222.toInt := by rw [Option.some.inj (hv204.symm.trans hv222)]
                                                            refine S1.ite (fun hc223 => ?_) (fun hc223 => ?_)
                                                            · skip
                                                              have chc223 := zc_eqT hc223
                                                              refine S1.bp (s_175 v219 v220 v221 (0 : Int32) g218 hRv217.1 trivial) ?_
                                                              intro v224 g225 hvv224 hRv224
                                                              have hRv224 : Inv g225 ∧ True := hRv224
                                                              exact (s_198_1336 l hl x3 g225 hRv224.1 (d_198_18 l f) (f : Int) ih (by omega))
                                                            · skip
                                                              have chc223 := zc_eqF hc223
                                                              refine S1.bp (s_175 v219 v220 v221 (1 : Int32) g218 hRv217.1 trivial) ?_
                                                              intro v226 g227 hvv226 hRv226
                                                              have hRv226 : Inv g227 ∧ True := hRv226
                                                              exact (s_198_1336 l hl x3 g227 hRv226.1 (d_198_18 l f) (f : Int) ih (by omega))
                                                        · skip
                                                          have chc200 := zc_bF hc200
                                                          refine S1.ite (fun hc228 => ?_) (fun hc228 => ?_)
                                                          · skip
                                                            have chc228 := zc_bT hc228
                                                            try have y107 := zi_add (x := x3) (y := (1 : Int32)) (by omega) (by omega)
                                                            refine S1.sl (by omega) ?_
                                                            intro v229 hv229
                                                            refine S1.pc (s_80 v229 g hI trivial) ?_
                                                            intro v230 g231 hvv230 hRv230
                                                            have hRv230 : Inv g231 ∧ True := hRv230
                                                            refine S1.sl (by omega) ?_
                                                            intro v232 hv232
                                                            have y108 : v229.toInt = v232.toInt := by rw [Option.some.inj (hv229.symm.trans hv232)]
                                                            refine S1.bp (s_176 v232 g231 hRv230.1 trivial) ?_
                                                            intro v233 g234 hvv233 hRv233
                                                            have hRv233 : Inv g234 ∧ True := hRv233
                                                            exact (s_198_1336 l hl x3 g234 hRv233.1 (d_198_18 l f) (f : Int) ih (by omega))
                                                          · skip
                                                            have chc228 := zc_bF hc228
                                                            refine S1.ite (fun hc235 => ?_) (fun hc235 => ?_)
                                                            · skip
                                                              have chc235 := zc_bT hc235
                                                              try have y109 := zi_add (x := x3) (y := (1 : Int32)) (by omega) (by omega)
                                                              refine S1.sl (by omega) ?_
                                                              intro v236 hv236
                                                              refine S1.bp (s_81 v236 g hI trivial) ?_
                                                              intro v237 g238 hvv237 hRv237
                                                              have hRv237 : Inv g238 ∧ True := hRv237
                                                              refine S1.sl (by omega) ?_
                                                              intro v239 hv239
                                                              have y110 : v236.toInt = v239.toInt := by rw [Option.some.inj (hv236.symm.trans hv239)]
                                                              refine S1.bp (s_178 v239 g238 hRv237.1 trivial) ?_
                                                              intro v240 g241 hvv240 hRv240
                                                              have hRv240 : Inv g241 ∧ True := hRv240
                                                              exact (s_198_1336 l hl x3 g241 hRv240.1 (d_198_18 l f) (f : Int) ih (by omega))
                                                            · skip
                                                              have chc235 := zc_bF hc235
                                                              refine S1.ite (fun hc242 => ?_) (fun hc242 => ?_)
                                                              · skip
                                                                have chc242 := zc_bT hc242
                                                                try have y111 := zi_add (x := x3) (y := (1 : Int32)) (by omega) (by omega)
                                                                refine S1.sl (by omega) ?_
                                                                intro v243 hv243
                                                                try have y112 := zi_add (x := x3) (y := (2 : Int32)) (by omega) (by omega)
                                                                refine S1.sl (by omega) ?_
                                                                intro v244 hv244
                                                                refine S1.bp (s_82 v243 v244 g hI trivial) ?_
                                                                intro v245 g246 hvv245 hRv245
                                                                have hRv245 : Inv g246 ∧ True := hRv245
                                                                refine S1.sl (by omega) ?_
                                                                intro v247 hv247
                                                                have y113 : v243.toInt = v247.toInt := by rw [Option.some.inj (hv243.symm.trans hv247)]
                                                                refine S1.sl (by omega) ?_
                                                                intro v248 hv248
                                                                have y114 : v244.toInt = v248.toInt := by rw [Option.some.inj (hv244.symm.trans hv248)]
                                                                refine S1.bd (s_179 v247 v248 g246 hRv245.1 trivial) ?_
                                                                intro v249 hvv249 hRv249
                                                                have hRv249 : True ∧ True := hRv249
                                                                exact (s_198_1336 l hl x3 g246 hRv245.1 (d_198_18 l f) (f : Int) ih (by omega))
                                                              · skip
                                                                have chc242 := zc_bF hc242
                                                                refine S1.ite (fun hc250 => ?_) (fun hc250 => ?_)
                                                                · skip
                                                                  have chc250 := zc_bT hc250
                                                                  try have y115 := zi_add (x := x3) (y := (1 : Int32)) (by omega) (by omega)
                                                                  refine S1.sl (by omega) ?_
                                                                  intro v251 hv251
                                                                  refine S1.bp (s_83 v251 g hI trivial) ?_
                                                                  intro v252 g253 hvv252 hRv252
                                                                  have hRv252 : Inv g253 ∧ True := hRv252
                                                                  refine S1.sl (by omega) ?_
                                                                  intro v254 hv254
                                                                  have y116 : v251.toInt = v254.toInt := by rw [Option.some.inj (hv251.symm.trans hv254)]
                                                                  refine S1.bp (s_181 v254 g253 hRv252.1 trivial) ?_
                                                                  intro v255 g256 hvv255 hRv255
                                                                  have hRv255 : Inv g256 ∧ True := hRv255
                                                                  exact (s_198_1336 l hl x3 g256 hRv255.1 (d_198_18 l f) (f : Int) ih (by omega))
                                                                · skip
                                                                  have chc250 := zc_bF hc250
                                                                  refine S1.ite (fun hc257 => ?_) (fun hc257 => ?_)
                                                                  · skip
                                                                    have chc257 := zc_bT hc257
                                                                    try have y117 := zi_add (x := x3) (y := (1 : Int32)) (by omega) (by omega)
                                                                    refine S1.sl (by omega) ?_
                                                                    intro v258 hv258
                                                                    refine S1.bp (s_84 v258 g hI trivial) ?_
                                                                    intro v259 g260 hvv259 hRv259
                                                                    have hRv259 : Inv g260 ∧ True := hRv259
                                                                    refine S1.sl (by omega) ?_
                                                                    intro v261 hv261
                                                                    have y118 : v258.toInt = v261.toInt := by rw [Option.some.inj (hv258.symm.trans hv261)]
                                                                    refine S1.bp (s_182 v261 g260 hRv259.1 trivial) ?_
                                                                    intro v262 g263 hvv262 hRv262
                                                                    have hRv262 : Inv g263 ∧ True := hRv262
                                                                    exact (s_198_1336 l hl x3 g263 hRv262.1 (d_198_18 l f) (f : Int) ih (by omega))
                                                                  · skip
                                                                    have chc257 := zc_bF hc257
                                                                    refine S1.ite (fun hc264 => ?_) (fun hc264 => ?_)
                                                                    · skip
                                                                      have chc264 := zc_bT hc264
                                                                      try have y119 := zi_add (x := x3) (y := (1 : Int32)) (by omega) (by omega)
                                                                      refine S1.sl (by omega) ?_
                                                                      intro v265 hv265
                                                                      try have y120 := zi_add (x := x3) (y := (2 : Int32)) (by omega) (by omega)
                                                                      refine S1.sl (by omega) ?_
                                                                      intro v266 hv266
                                                                      try have y121 := zi_add (x := x3) (y := (3 : Int32)) (by omega) (by omega)
                                                                      refine S1.sl (by omega) ?_
                                                                      intro v267 hv267
                                                                      refine S1.bp (s_85 v265 v266 v267 g hI trivial) ?_
                                                                      intro v268 g269 hvv268 hRv268
                                                                      have hRv268 : Inv g269 ∧ ((0 ≤ v265.toInt ∧ v265.toInt ≤ 3 ∧ 0 ≤ v266.toInt ∧ v266.toInt ≤ 2 ∧ v267.toInt ≤ 40 ∧ v267.toInt < 0 → v268.toInt = -14) ∧ (0 ≤ v265.toInt ∧ v265.toInt ≤ 3 ∧ 0 ≤ v266.toInt ∧ v266.toInt ≤ 2 ∧ v267.toInt ≤ 40 ∧ 0 ≤ v267.toInt → v268.toInt = 1) ∧ (v265.toInt < 0 ∨ 3 < v265.toInt ∨ v266.toInt < 0 ∨ 2 < v266.toInt ∨ 40 < v267.toInt → v268.toInt = -1)) := hRv268
                                                                      refine S1.sl (by omega) ?_
                                                                      intro v270 hv270
                                                                      have y122 : v265.toInt = v270.toInt := by rw [Option.some.inj (hv265.symm.trans hv270)]
                                                                      refine S1.sl (by omega) ?_
                                                                      intro v271 hv271
                                                                      have y123 : v266.toInt = v271.toInt := by rw [Option.some.inj (hv266.symm.trans hv271)]
                                                                      refine S1.sl (by omega) ?_
                                                                      intro v272 hv272
                                                                      have y124 : v267.toInt = v272.toInt := by rw [Option.some.inj (hv267.symm.trans hv272)]
                                                                      refine S1.bp (s_184 v270 v271 v272 g269 hRv268.1 trivial) ?_
                                                                      intro v273 g274 hvv273 hRv273
                                                                      have hRv273 : Inv g274 ∧ ((0 ≤ v270.toInt ∧ v270.toInt ≤ 3 ∧ 0 ≤ v271.toInt ∧ v271.toInt ≤ 2 ∧ v272.toInt ≤ 40 ∧ v272.toInt < 0 → v273.toInt = -14) ∧ (0 ≤ v270.toInt ∧ v270.toInt ≤ 3 ∧ 0 ≤ v271.toInt ∧ v271.toInt ≤ 2 ∧ v272.toInt ≤ 40 ∧ 0 ≤ v272.toInt → v273.toInt = 1) ∧ (v270.toInt < 0 ∨ 3 < v270.toInt ∨ v271.toInt < 0 ∨ 2 < v271.toInt ∨ 40 < v272.toInt → v273.toInt = -1)) := hRv273
                                                                      refine S1.ite (fun hc275 => ?_) (fun hc275 => ?_)
                                                                      · skip
                                                                        have chc275 := zc_eqT hc275
                                                                        exact (s_198_1336 l hl x3 g274 hRv273.1 (d_198_18 l f) (f : Int) ih (by omega))
                                                                      · skip
                                                                        have chc275 := zc_eqF hc275
                                                                        exact S1.ret (show Inv g274 ∧ True ∧ (false = true → True) ∧ (false = false → (0 : Int) = 1) from ⟨hRv273.1, trivial, (fun _ => trivial), (fun _ => by omega)⟩)
                                                                    · skip
                                                                      have chc264 := zc_bF hc264
                                                                      refine S1.ite (fun hc276 => ?_) (fun hc276 => ?_)
                                                                      · skip
                                                                        have chc276 := zc_bT hc276
                                                                        try have y125 := zi_add (x := x3) (y := (1 : Int32)) (by omega) (by omega)
                                                                        refine S1.sl (by omega) ?_
                                                                        intro v277 hv277
                                                                        try have y126 := zi_add (x := x3) (y := (2 : Int32)) (by omega) (by omega)
                                                                        refine S1.sl (by omega) ?_
                                                                        intro v278 hv278
                                                                        try have y127 := zi_add (x := x3) (y := (3 : Int32)) (by omega) (by omega)
                                                                        refine S1.sl (by omega) ?_
                                                                        intro v279 hv279
                                                                        refine S1.bp (s_86 v277 v278 v279 g hI trivial) ?_
                                                                        intro v280 g281 hvv280 hRv280
                                                                        have hRv280 : Inv g281 ∧ True := hRv280
                                                                        refine S1.sl (by omega) ?_
                                                                        intro v282 hv282
                                                                        have y128 : v277.toInt = v282.toInt := by rw [Option.some.inj (hv277.symm.trans hv282)]
                                                                        refine S1.sl (by omega) ?_
                                                                        intro v283 hv283
                                                                        have y129 : v278.toInt = v283.toInt := by rw [Option.some.inj (hv278.symm.trans hv283)]
                                                                        refine S1.sl (by omega) ?_
                                                                        intro v284 hv284
                                                                        have y130 : v279.toInt = v284.toInt := by rw [Option.some.inj (hv279.symm.trans hv284)]
                                                                        refine S1.bp (s_185 v282 v283 v284 g281 hRv280.1 trivial) ?_
                                                                        intro v285 g286 hvv285 hRv285
                                                                        have hRv285 : Inv g286 ∧ True := hRv285
                                                                        exact (s_198_1336 l hl x3 g286 hRv285.1 (d_198_18 l f) (f : Int) ih (by omega))
                                                                      · skip
                                                                        have chc276 := zc_bF hc276
                                                                        refine S1.ite (fun hc287 => ?_) (fun hc287 => ?_)
                                                                        · skip
                                                                          have chc287 := zc_bT hc287
                                                                          try have y131 := zi_add (x := x3) (y := (1 : Int32)) (by omega) (by omega)
                                                                          refine S1.sl (by omega) ?_
                                                                          intro v288 hv288
                                                                          try have y132 := zi_add (x := x3) (y := (2 : Int32)) (by omega) (by omega)
                                                                          refine S1.sl (by omega) ?_
                                                                          intro v289 hv289
                                                                          try have y133 := zi_add (x := x3) (y := (3 : Int32)) (by omega) (by omega)
                                                                          refine S1.sl (by omega) ?_
                                                                          intro v290 hv290
                                                                          try have y134 := zi_add (x := x3) (y := (4 : Int32)) (by omega) (by omega)
                                                                          refine S1.sl (by omega) ?_
                                                                          intro v291 hv291
                                                                          refine S1.bp (s_87 v288 v289 v290 v291 g hI trivial) ?_
                                                                          intro v292 g293 hvv292 hRv292
                                                                          have hRv292 : Inv g293 ∧ True := hRv292
                                                                          refine S1.sl (by omega) ?_
                                                                          intro v294 hv294
                                                                          have y135 : v288.toInt = v294.toInt := by rw [Option.some.inj (hv288.symm.trans hv294)]
                                                                          refine S1.sl (by omega) ?_
                                                                          intro v295 hv295
                                                                          have y136 : v289.toInt = v295.toInt := by rw [Option.some.inj (hv289.symm.trans hv295)]
                                                                          refine S1.sl (by omega) ?_
                                                                          intro v296 hv296
                                                                          have y137 : v290.toInt = v296.toInt := by rw [Option.some.inj (hv290.symm.trans hv296)]
                                                                          refine S1.sl (by omega) ?_
                                                                          intro v297 hv297
                                                                          have y138 : v291.toInt = v297.toInt := by rw [Option.some.inj (hv291.symm.trans hv297)]
                                                                          refine S1.bp (s_186 v294 v295 v296 v297 g293 hRv292.1 trivial) ?_
                                                                          intro v298 g299 hvv298 hRv298
                                                                          have hRv298 : Inv g299 ∧ True := hRv298
                                                                          exact (s_198_1336 l hl x3 g299 hRv298.1 (d_198_18 l f) (f : Int) ih (by omega))
                                                                        · skip
                                                                          have chc287 := zc_bF hc287
                                                                          refine S1.ite (fun hc300 => ?_) (fun hc300 => ?_)
                                                                          · skip
                                                                            have chc300 := zc_bT hc300
                                                                            refine S1.lt ?_
                                                                            intro v301 hvv301
                                                                            refine S1.lt ?_
                                                                            intro v302 hvv302
                                                                            exact (s_198_1336 l hl x3 g hI (d_198_18 l f) (f : Int) ih (by omega))
                                                                          · skip
                                                                            have chc300 := zc_bF hc300
                                                                            refine S1.ite (fun hc303 => ?_) (fun hc303 => ?_)
                                                                            · skip
                                                                              have chc303 := zc_bT hc303
                                                                              try have y139 := zi_add (x := x3) (y := (1 : Int32)) (by omega) (by omega)
                                                                              refine S1.sl (by omega) ?_
                                                                              intro v304 hv304
                                                                              refine S1.bp (s_89 v304 g hI trivial) ?_
                                                                              intro v305 g306 hvv305 hRv305
                                                                              have hRv305 : Inv g306 ∧ True := hRv305
                                                                              refine S1.sl (by omega) ?_
                                                                              intro v307 hv307
                                                                              have y140 : v304.toInt = v307.toInt := by rw [Option.some.inj (hv304.symm.trans hv307)]
                                                                              refine S1.bd (s_188 v307 g306 hRv305.1 trivial) ?_
                                                                              intro v308 hvv308 hRv308
                                                                              have hRv308 : True ∧ True := hRv308
                                                                              exact (s_198_1336 l hl x3 g306 hRv305.1 (d_198_18 l f) (f : Int) ih (by omega))
                                                                            · skip
                                                                              have chc303 := zc_bF hc303
                                                                              exact (s_198_1336 l hl x3 g hI (d_198_18 l f) (f : Int) ih (by omega))
/-- EveningFirstLaw.law -/
theorem s_198 (l : List Int32) (hl : l.length ≤ 384) (g : G) (hI : Inv g) (hp : True) : S1 (d_198 l g) (fun q : Bool × G => Inv q.2 ∧ True ∧ (q.1 = true → True) ∧ (q.1 = false → (0 : Int) = 1)) := by
  unfold d_198
  have L0 := zl_0
  exact (s_198_18 l hl 300 (0 : Int32) g hI (by omega))
