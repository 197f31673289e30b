/-! printed by wip/tools/safe.py -/
theorem s_160_35 (x1 : Int32) (g : G) (hI : Inv g) : ∀ (f : Nat) (x2 : Int32) (x3 : Int32) (x4 : Int32) (x5 : Int32) (x6 : Int32) (x7 : Int32), 0 ≤ x7.toInt ∧ x7.toInt ≤ 256 ∧ 256 - x7.toInt < (f : Int) → S1 (d_160_35 x1 g f x2 x3 x4 x5 x6 x7) (fun q : Int32 => True ∧ True) := by
  intro f
  induction f with
  | zero =>
    intro x2 x3 x4 x5 x6 x7 hp
    exfalso
    omega
  | succ f ih =>
    intro x2 x3 x4 x5 x6 x7 hp
    rw [d_160_35.eq_2]
    have Lm4 := zl_m4
    have Lm1 := zl_m1
    have L0 := zl_0
    have L1 := zl_1
    have L2 := zl_2
    have L3 := zl_3
    refine S1.lc (s_158 g hI trivial) ?_
    intro v4 hvv4 hRv4
    have hRv4 : True ∧ (0 ≤ v4.toInt ∧ v4.toInt ≤ 255) := hRv4
    refine S1.ite (fun hc5 => ?_) (fun hc5 => ?_)
    · skip
      have chc5 := zc_gtT hc5
      refine S1.ite (fun hc6 => ?_) (fun hc6 => ?_)
      · skip
        have chc6 := zc_eqT hc6
        refine S1.ite (fun hc7 => ?_) (fun hc7 => ?_)
        · skip
          have chc7 := zc_neT hc7
          exact S1.ret (show True ∧ True from ⟨trivial, trivial⟩)
        · skip
          have chc7 := zc_neF hc7
          exact S1.ret (show True ∧ True from ⟨trivial, trivial⟩)
      · skip
        have chc6 := zc_eqF hc6
        refine S1.ite (fun hc8 => ?_) (fun hc8 => ?_)
        · skip
          have chc8 := zc_neT hc8
          refine S1.ite (fun hc9 => ?_) (fun hc9 => ?_)
          · skip
            have chc9 := zc_neT hc9
            refine S1.ite (fun hc10 => ?_) (fun hc10 => ?_)
            · skip
              have chc10 := zc_neT hc10
              refine S1.ite (fun hc11 => ?_) (fun hc11 => ?_)
              · skip
                have chc11 := zc_neT hc11
                refine S1.lc (s_158 g hI trivial) ?_
                intro v12 hvv12 hRv12
                have hRv12 : True ∧ (0 ≤ v12.toInt ∧ v12.toInt ≤ 255) := hRv12
                try have y1 := zi_and (x := v12) (y := (x6 ^^^ (-1))) (by omega)
                exact S1.ret (show True ∧ True from ⟨trivial, trivial⟩)
              · skip
                have chc11 := zc_neF hc11
                exact S1.ret (show True ∧ True from ⟨trivial, trivial⟩)
            · skip
              have chc10 := zc_neF hc10
              exact S1.ret (show True ∧ True from ⟨trivial, trivial⟩)
          · skip
            have chc9 := zc_neF hc9
            exact S1.ret (show True ∧ True from ⟨trivial, trivial⟩)
        · skip
          have chc8 := zc_neF hc8
          refine S1.ite (fun hc13 => ?_) (fun hc13 => ?_)
          · skip
            have chc13 := zc_neT hc13
            exact S1.ret (show True ∧ True from ⟨trivial, trivial⟩)
          · skip
            have chc13 := zc_neF hc13
            exact S1.ret (show True ∧ True from ⟨trivial, trivial⟩)
    · skip
      have chc5 := zc_gtF hc5
      refine S1.bd (s_159 x7 g hI trivial) ?_
      intro v14 hvv14 hRv14
      have hRv14 : True ∧ True ∧ (v14 = true → True) ∧ (v14 = false → True) := hRv14
      refine S1.ite (fun hc15 => ?_) (fun hc15 => ?_)
      · skip
        have chc15 := hRv14.2.2.1 hc15
        refine S1.ite (fun hc16 => ?_) (fun hc16 => ?_)
        · skip
          have chc16 := zc_neT hc16
          try have y2 := zi_add (x := x2) (y := (1 : Int32)) (by omega) (by omega)
          try have y3 := zi_and (x := x5) (y := x7) (by omega)
          try have y4 := zi_add (x := x7) (y := (1 : Int32)) (by omega) (by omega)
          exact (ih (x2 + 1) x3 x7 (x5 &&& x7) (x6 ||| x7) (x7 + 1) (by omega))
        · skip
          have chc16 := zc_neF hc16
          try have y5 := zi_add (x := x2) (y := (1 : Int32)) (by omega) (by omega)
          try have y6 := zi_and (x := x5) (y := x7) (by omega)
          try have y7 := zi_add (x := x7) (y := (1 : Int32)) (by omega) (by omega)
          exact (ih (x2 + 1) x7 x7 (x5 &&& x7) (x6 ||| x7) (x7 + 1) (by omega))
      · skip
        have chc15 := hRv14.2.2.2 hc15
        try have y8 := zi_add (x := x7) (y := (1 : Int32)) (by omega) (by omega)
        exact (ih x2 x3 x4 x5 x6 (x7 + 1) (by omega))
/-- EveningFirstModel.days -/
theorem s_160 (x1 : Int32) (g : G) (hI : Inv g) (hp : True) : S1 (d_160 x1 g) (fun q : Int32 => True ∧ True) := by
  unfold d_160
  have Lm4 := zl_m4
  have Lm1 := zl_m1
  have L0 := zl_0
  have L4 := zl_4
  have y9 := zi_i64 x1
  have y10 : (0 : Int64).toInt = 0 := by decide
  have y11 : (4 : Int64).toInt = 4 := by decide
  refine S1.lc (zin_c (a := (Int32.toInt64 x1)) (b := (0 : Int64)) (c := (4 : Int64))) ?_
  intro v1 hvv1 hRv1
  have hRv1 : (v1 = true → (0 : Int64).toInt ≤ (Int32.toInt64 x1).toInt ∧ (Int32.toInt64 x1).toInt ≤ (4 : Int64).toInt) ∧ (v1 = false → (Int32.toInt64 x1).toInt < (0 : Int64).toInt ∨ (4 : Int64).toInt < (Int32.toInt64 x1).toInt) := hRv1
  refine S1.ite (fun hc2 => ?_) (fun hc2 => ?_)
  · skip
    have chc2 := hRv1.1 hc2
    refine S1.lc (s_158 g hI trivial) ?_
    intro v3 hvv3 hRv3
    have hRv3 : True ∧ (0 ≤ v3.toInt ∧ v3.toInt ≤ 255) := hRv3
    exact (s_160_35 x1 g hI 300 (0 : Int32) (-4 : Int32) (-4 : Int32) v3 (0 : Int32) (0 : Int32) (by omega))
  · skip
    have chc2 := hRv1.2 hc2
    exact S1.ret (show True ∧ True from ⟨trivial, trivial⟩)
theorem s_8_11 (g : G) (hI : Inv g) : ∀ (f : Nat) (x2 : Int32) (x3 : Int32), 0 ≤ x3.toInt ∧ x3.toInt ≤ 8 ∧ 8 - x3.toInt < (f : Int) → S1 (d_8_11 g f x2 x3) (fun q : Int32 => True ∧ True) := by
  intro f
  induction f with
  | zero =>
    intro x2 x3 hp
    exfalso
    omega
  | succ f ih =>
    intro x2 x3 hp
    rw [d_8_11.eq_2]
    have L1 := zl_1
    have L8 := zl_8
    refine S1.ite (fun hc1 => ?_) (fun hc1 => ?_)
    · skip
      have chc1 := zc_geT hc1
      exact S1.ret (show True ∧ True from ⟨trivial, trivial⟩)
    · skip
      have chc1 := zc_geF hc1
      refine S1.bd (s_5 x2 x2 g hI trivial) ?_
      intro v2 hvv2 hRv2
      have hRv2 : True ∧ True := hRv2
      refine S1.ite (fun hc3 => ?_) (fun hc3 => ?_)
      · skip
        have chc3 := zc_neT hc3
        try have y1 := zi_add (x := x3) (y := (1 : Int32)) (by omega) (by omega)
        exact (ih v2 (x3 + 1) (by omega))
      · skip
        have chc3 := zc_neF hc3
        exact S1.ret (show True ∧ True from ⟨trivial, trivial⟩)
/-- EveningFirst$Bonds.greatestWithout -/
theorem s_8 (x1 : Int32) (g : G) (hI : Inv g) (hp : True) : S1 (d_8 x1 g) (fun q : Int32 => True ∧ True) := by
  unfold d_8
  have Lm1 := zl_m1
  have L0 := zl_0
  have yp4 : 0 ≤ (g 25 0).toInt ∧ (g 25 0).toInt ≤ 255 := Inv.rd (r := 25) (c := 0) hI 0 rfl
  have y2 : 0 ≤ (g 25 0).toInt ∧ (g 25 0).toInt ≤ 255 := Inv.rd (r := 25) (c := 0) hI 0 rfl
  try have y3 := zi_and (x := (g 25 0)) (y := (x1 ^^^ (-1))) (by omega)
  exact (s_8_11 g hI 300 ((g 25 0) &&& (x1 ^^^ (-1))) (0 : Int32) (by omega))
/-- EveningFirst.greatest -/
theorem s_71 (g : G) (hI : Inv g) (hp : True) : S1 (d_71 g) (fun q : Int32 × G => Inv q.2 ∧ True) := by
  unfold d_71
  refine S1.bd (s_2 1 rfl g hI trivial) ?_
  intro g1 hvg1 hRg1
  have hRg1 : Inv g1 ∧ True := hRg1
  refine S1.bd (s_8 (g1 25 2) g1 hRg1.1 trivial) ?_
  intro v2 hvv2 hRv2
  have hRv2 : True ∧ True := hRv2
  exact S1.ret (show Inv g1 ∧ True from ⟨hRg1.1, trivial⟩)
theorem s_161_23 (g : G) (hI : Inv g) (k15 : Int32 → Bool → Option Int32) (D : Int) (hk15 : ∀ (x1 : Int32) (x2 : Bool), 0 ≤ x1.toInt → (x2 = true → x1.toInt < D) → S1 (k15 x1 x2) (fun q : Int32 => True ∧ True)) : ∀ (f : Nat) (x1 : Int32) (x2 : Bool) (x3 : Int32), 0 ≤ x1.toInt ∧ x1.toInt ≤ D ∧ 0 ≤ x3.toInt ∧ x3.toInt ≤ 8 ∧ 8 - x3.toInt < (f : Int) → (x2 = true → x1.toInt < D) → S1 (d_161_23 g k15 f x1 x2 x3) (fun q : Int32 => True ∧ True) := by
  intro f
  induction f with
  | zero => intro x1 x2 x3 hp _; exfalso; omega
  | succ f ih =>
    intro x1 x2 x3 hp h2
    rw [d_161_23.eq_2]
    have L0 := zl_0
    have L1 := zl_1
    have m8 := hI.m8
    have y1 := zi_add (x := x3) (y := (1 : Int32)) (by omega) (by omega)
    refine S1.ite (fun hc => ?_) (fun hc => ?_)
    · exact hk15 x1 x2 hp.1 h2
    · have c1 := zc_geF hc
      obtain ⟨n, hn⟩ : ∃ n : Nat, x3.toInt = n := ⟨x3.toInt.toNat, by omega⟩
      have e := zi_nat hn
      have ht := zbit_ti x1 (n := n) (by omega)
      rw [← e] at ht
      refine S1.ite (fun hc2 => ?_) (fun hc2 => ?_)
      · exact ih x1 x2 _ (by omega) h2
      · have c2 := zc_neF hc2
        have hz : zbit x1 n = true := by
          cases hz : zbit x1 n with
          | true => rfl
          | false => rw [hz] at ht; rw [ht] at c2; exact absurd c2 (by decide)
        refine S1.bd (s_151 x3 x1 g hI (by omega)) ?_
        intro v6 _ _
        refine S1.ite (fun hc3 => ?_) (fun hc3 => ?_)
        · exact ih x1 x2 _ (by omega) h2
        · have hq := zb_clr (x := x1) (n := n) hp.1 (by omega) hz
          rw [← e] at hq
          exact ih _ true _ (by omega) (fun _ => by omega)
theorem s_161_15 (g : G) (hI : Inv g) : ∀ (f : Nat) (x1 : Int32) (x2 : Bool), 0 ≤ x1.toInt → 1 ≤ (f : Int) → (x2 = true → x1.toInt + 1 < (f : Int)) → S1 (d_161_15 g f x1 x2) (fun q : Int32 => True ∧ True) := by
  intro f
  induction f with
  | zero => intro x1 x2 _ h1 _; exfalso; omega
  | succ f ih =>
    intro x1 x2 h0 h1 h2
    rw [d_161_15.eq_2]
    have L0 := zl_0
    refine S1.ite (fun hc => ?_) (fun hc => ?_)
    · have h3 := h2 hc
      refine s_161_23 g hI (d_161_15 g f) x1.toInt (fun a b ha hb => ?_) 300 x1 false (0 : Int32) (by omega) (fun q => by cases q)
      refine ih a b ha (by omega) (fun q => ?_)
      have := hb q
      omega
    · exact S1.ret ⟨trivial, trivial⟩
/-- EveningFirstModel.findGreatest -/
theorem s_161 (g : G) (hI : Inv g) (hp : True) : S1 (d_161 g) (fun q : Int32 => True ∧ True) := by
  unfold d_161
  refine S1.lc (s_158 g hI trivial) ?_
  intro v1 _ hR
  have hR : True ∧ (0 ≤ v1.toInt ∧ v1.toInt ≤ 255) := hR
  refine S1.bd (s_157 (2 : Int32) g hI trivial) ?_
  intro v2 _ _
  have h1 := zi_and (x := v2 ^^^ (-1)) (y := v1) hR.2.1
  rw [Int32.and_comm] at h1
  exact s_161_15 g hI 300 _ true h1.1 (by omega) (fun _ => by omega)
/-- EveningFirstModel.greatest -/
theorem s_162 (g : G) (hI : Inv g) (hp : True) : S1 (d_162 g) (fun q : Int32 => True ∧ True) := by
  unfold d_162
  refine S1.bd (s_161 g hI trivial) ?_
  intro v1 hvv1 hRv1
  have hRv1 : True ∧ True := hRv1
  exact S1.ret (show True ∧ True from ⟨trivial, trivial⟩)
theorem s_9_4 (x1 : Int32) (g : G) (hI : Inv g) : ∀ (f : Nat) (x2 : Int32) (x3 : Int32), 0 ≤ x3.toInt ∧ x3.toInt ≤ 8 ∧ 8 - x3.toInt < (f : Int) → S1 (d_9_4 x1 g f x2 x3) (fun q : Int32 => True ∧ True) := by
  intro f
  induction f with
  | zero =>
    intro x2 x3 hp
    exfalso
    omega
  | succ f ih =>
    intro x2 x3 hp
    rw [d_9_4.eq_2]
    have L1 := zl_1
    have L8 := zl_8
    refine S1.ite (fun hc1 => ?_) (fun hc1 => ?_)
    · skip
      have chc1 := zc_geT hc1
      exact S1.ret (show True ∧ True from ⟨trivial, trivial⟩)
    · skip
      have chc1 := zc_geF hc1
      refine S1.bd (s_5 x2 x1 g hI trivial) ?_
      intro v2 hvv2 hRv2
      have hRv2 : True ∧ True := hRv2
      try have y1 := zi_add (x := x3) (y := (1 : Int32)) (by omega) (by omega)
      exact (ih v2 (x3 + 1) (by omega))
/-- EveningFirst$Bonds.madeOf -/
theorem s_9 (x1 : Int32) (g : G) (hI : Inv g) (hp : True) : S1 (d_9 x1 g) (fun q : Int32 => True ∧ True) := by
  unfold d_9
  have L0 := zl_0
  exact (s_9_4 x1 g hI 300 (0 : Int32) (0 : Int32) (by omega))
theorem s_10_4 (x1 : Int32) (g : G) (hI : Inv g) : ∀ (f : Nat) (x2 : Int32) (x3 : Int32), 0 ≤ x3.toInt ∧ x3.toInt ≤ 8 ∧ 8 - x3.toInt < (f : Int) → S1 (d_10_4 x1 g f x2 x3) (fun q : Int32 => True ∧ True) := by
  intro f
  induction f with
  | zero =>
    intro x2 x3 hp
    exfalso
    omega
  | succ f ih =>
    intro x2 x3 hp
    rw [d_10_4.eq_2]
    have L1 := zl_1
    have L8 := zl_8
    refine S1.ite (fun hc1 => ?_) (fun hc1 => ?_)
    · skip
      have chc1 := zc_geT hc1
      exact S1.ret (show True ∧ True from ⟨trivial, trivial⟩)
    · skip
      have chc1 := zc_geF hc1
      refine S1.bd (s_5 x2 x1 g hI trivial) ?_
      intro v2 hvv2 hRv2
      have hRv2 : True ∧ True := hRv2
      refine S1.ite (fun hc3 => ?_) (fun hc3 => ?_)
      · skip
        have chc3 := zc_neT hc3
        try have y1 := zi_add (x := x3) (y := (1 : Int32)) (by omega) (by omega)
        exact (ih v2 (x3 + 1) (by omega))
      · skip
        have chc3 := zc_neF hc3
        exact S1.ret (show True ∧ True from ⟨trivial, trivial⟩)
/-- EveningFirst$Bonds.stepsOf -/
theorem s_10 (x1 : Int32) (g : G) (hI : Inv g) (hp : True) : S1 (d_10 x1 g) (fun q : Int32 => True ∧ True) := by
  unfold d_10
  have L0 := zl_0
  exact (s_10_4 x1 g hI 300 (0 : Int32) (0 : Int32) (by omega))
/-- EveningFirst.made -/
theorem s_72 (x1 : Int32) (g : G) (hI : Inv g) (hp : True) : S1 (d_72 x1 g) (fun q : Int32 × G => Inv q.2 ∧ True) := by
  unfold d_72
  have Lm1 := zl_m1
  have L0 := zl_0
  have L1 := zl_1
  have L2 := zl_2
  refine S1.ite (fun hc1 => ?_) (fun hc1 => ?_)
  · skip
    have chc1 := zc_ltT hc1
    exact S1.ret (show Inv g ∧ True from ⟨hI, trivial⟩)
  · skip
    have chc1 := zc_ltF hc1
    refine S1.ite (fun hc2 => ?_) (fun hc2 => ?_)
    · skip
      have chc2 := zc_leT hc2
      refine S1.bd (s_2 1 rfl g hI trivial) ?_
      intro g3 hvg3 hRg3
      have hRg3 : Inv g3 ∧ True := hRg3
      refine S1.bd (s_8 (g3 25 2) g3 hRg3.1 trivial) ?_
      intro v4 hvv4 hRv4
      have hRv4 : True ∧ True := hRv4
      refine S1.ite (fun hc5 => ?_) (fun hc5 => ?_)
      · skip
        have chc5 := zc_bT hc5
        refine S1.bd (s_9 v4 g3 hRg3.1 trivial) ?_
        intro v6 hvv6 hRv6
        have hRv6 : True ∧ True := hRv6
        exact S1.ret (show Inv g3 ∧ True from ⟨hRg3.1, trivial⟩)
      · skip
        have chc5 := zc_bF hc5
        refine S1.ite (fun hc7 => ?_) (fun hc7 => ?_)
        · skip
          have chc7 := zc_bT hc7
          refine S1.bd (s_9 v4 g3 hRg3.1 trivial) ?_
          intro v8 hvv8 hRv8
          have hRv8 : True ∧ True := hRv8
          try have y1 := zi_and (x := v4) (y := (v8 ^^^ (-1))) (by omega)
          exact S1.ret (show Inv g3 ∧ True from ⟨hRg3.1, trivial⟩)
        · skip
          have chc7 := zc_bF hc7
          refine S1.bd (s_10 v4 g3 hRg3.1 trivial) ?_
          intro v9 hvv9 hRv9
          have hRv9 : True ∧ True := hRv9
          exact S1.ret (show Inv g3 ∧ True from ⟨hRg3.1, trivial⟩)
    · skip
      have chc2 := zc_leF hc2
      exact S1.ret (show Inv g ∧ True from ⟨hI, trivial⟩)
theorem s_163_19 (x1 : Int32) (x2 : Int32) (g : G) (hI : Inv g) (hb : ∀ i, zbit x2 i = true → i < 8) (k9 : Int32 → Bool → G → Option (Int32 × G)) (hk9 : ∀ (a : Int32) (b : Bool) (g : G), Inv g → (∀ i, zbit a i = true → i < 8) → (b = true → x2.toInt < a.toInt) → S1 (k9 a b g) (fun q : Int32 × G => Inv q.2 ∧ True)) : ∀ (f : Nat) (x4 : Int32) (x5 : Int32), 0 ≤ x5.toInt ∧ x5.toInt ≤ 8 ∧ 8 - x5.toInt < (f : Int) → (∀ i, zbit x4 i = true → i < 8 ∧ zbit x2 i = false) → S1 (d_163_19 x1 x2 g k9 f x4 x5) (fun q : Int32 × G => Inv q.2 ∧ True) := by
  intro f
  induction f with
  | zero => intro x4 x5 hp _; exfalso; omega
  | succ f ih =>
    intro x4 x5 hp h4
    rw [d_163_19.eq_2]
    have L0 := zl_0
    have L1 := zl_1
    have m8 := hI.m8
    have y1 := zi_add (x := x5) (y := (1 : Int32)) (by omega) (by omega)
    have hor : ∀ i, zbit (x2 ||| x4) i = true → i < 8 := fun i hi => by
      rw [zbit_or] at hi
      cases hz : zbit x2 i with
      | true => exact hb i hz
      | false => rw [hz] at hi; exact (h4 i (by simpa using hi)).1
    refine S1.ite (fun hc => ?_) (fun hc => ?_)
    · refine S1.ite (fun hc2 => ?_) (fun hc2 => ?_)
      · refine S1.lt ?_
        intro v5 _
        refine S1.lt ?_
        intro g6 hg6
        exact hk9 _ false g6 (Inv.up hI hg6 (r := 113) (c := 8) rfl trivial) hor (fun q => by cases q)
      · have c2 := zc_eqF hc2
        refine S1.lt ?_
        intro v7 _
        refine S1.lt ?_
        intro g8 hg8
        exact hk9 _ true g8 (Inv.up hI hg8 (r := 113) (c := 8) rfl trivial) hor (fun _ => zb_or_lt hb (fun i hi => (h4 i hi).1) (fun i hi => (h4 i hi).2) (by omega))
    · have c1 := zc_geF hc
      obtain ⟨n, hn⟩ : ∃ n : Nat, x5.toInt = n := ⟨x5.toInt.toNat, by omega⟩
      have e := zi_nat hn
      have ht := zbit_ti x2 (n := n) (by omega)
      rw [← e] at ht
      have hz0 : ∀ v : Int32, d_108 0 = v → x4 ||| (v <<< (x5 &&& 31)) = x4 := fun v hv => by
        have : v = 0 := by rw [← hv]; decide
        subst this
        rw [e, zbit_shl0 n (by omega)]
        apply zbit_ext
        intro i _
        rw [zbit_or, zbit_0, Bool.or_false]
      refine S1.ite (fun hc2 => ?_) (fun hc2 => ?_)
      · refine S1.lt ?_
        intro v10 h10
        rw [hz0 v10 h10]
        exact ih x4 _ (by omega) h4
      · refine S1.ite (fun hc3 => ?_) (fun hc3 => ?_)
        · refine S1.lt ?_
          intro v12 h12
          rw [hz0 v12 h12]
          exact ih x4 _ (by omega) h4
        · have c3 := zc_neF hc3
          have hz : zbit x2 n = false := by
            cases hz : zbit x2 n with
            | false => rfl
            | true => rw [hz] at ht; rw [ht] at c3; exact absurd c3 (by decide)
          refine S1.bd (s_151 x5 x2 g hI (by omega)) ?_
          intro v13 _ _
          refine S1.ite (fun hc4 => ?_) (fun hc4 => ?_)
          · refine S1.lt ?_
            intro v15 h15
            rw [hz0 v15 h15]
            exact ih x4 _ (by omega) h4
          · refine S1.lt ?_
            intro v16 h16
            have h16 : v16 = 1 := by rw [← h16]; decide
            subst h16
            refine ih _ _ (by omega) (fun i hi => ?_)
            by_cases hi32 : i < 32
            · rw [zbit_or, e, zbit_shl n (by omega) i hi32] at hi
              cases hz4 : zbit x4 i with
              | true => exact h4 i hz4
              | false =>
                rw [hz4] at hi
                have hi : i = n := by simpa using hi
                subst hi
                exact ⟨by omega, hz⟩
            · rw [zbit_ge _ (by omega)] at hi
              cases hi
theorem s_163_9 (x1 : Int32) : ∀ (f : Nat) (x2 : Int32) (x3 : Bool) (g : G), Inv g → (∀ i, zbit x2 i = true → i < 8) → 1 ≤ (f : Int) → (x3 = true → 256 - x2.toInt < (f : Int)) → S1 (d_163_9 x1 f x2 x3 g) (fun q : Int32 × G => Inv q.2 ∧ True) := by
  intro f
  induction f with
  | zero => intro x2 x3 g _ _ h1 _; exfalso; omega
  | succ f ih =>
    intro x2 x3 g hI hb h1 h2
    rw [d_163_9.eq_2]
    have L0 := zl_0
    have b2 := zbit_b8 hb
    refine S1.ite (fun hc => ?_) (fun hc => ?_)
    · have h3 := h2 hc
      refine s_163_19 x1 x2 g hI hb (d_163_9 x1 f) (fun a b g' hI' ha hb' => ?_) 300 (0 : Int32) (0 : Int32) (by omega) (fun i hi => by rw [zbit_0] at hi; cases hi)
      refine ih a b g' hI' ha (by omega) (fun q => ?_)
      have := hb' q
      omega
    · exact S1.ret ⟨hI, trivial⟩
/-- EveningFirstModel.findMade -/
theorem s_163 (x1 : Int32) (g : G) (hI : Inv g) (hp : True) : S1 (d_163 x1 g) (fun q : Int32 × G => Inv q.2 ∧ True) := by
  unfold d_163
  have L0 := zl_0
  refine S1.lt ?_
  intro g1 hg1
  exact s_163_9 x1 300 (0 : Int32) true g1 (Inv.up hI hg1 (r := 113) (c := 8) rfl trivial) (fun i hi => by rw [zbit_0] at hi; cases hi) (by omega) (fun _ => by omega)
/-- EveningFirstModel.made -/
theorem s_165 (x1 : Int32) (g : G) (hI : Inv g) (hp : True) : S1 (d_165 x1 g) (fun q : Int32 × G => Inv q.2 ∧ True) := by
  unfold d_165
  have Lm1 := zl_m1
  have L0 := zl_0
  have L1 := zl_1
  have L2 := zl_2
  have y1 := zi_i64 x1
  have y2 : (0 : Int64).toInt = 0 := by decide
  have y3 : (2 : Int64).toInt = 2 := by decide
  refine S1.lc (zin_c (a := (Int32.toInt64 x1)) (b := (0 : Int64)) (c := (2 : Int64))) ?_
  intro v1 hvv1 hRv1
  have hRv1 : (v1 = true → (0 : Int64).toInt ≤ (Int32.toInt64 x1).toInt ∧ (Int32.toInt64 x1).toInt ≤ (2 : Int64).toInt) ∧ (v1 = false → (Int32.toInt64 x1).toInt < (0 : Int64).toInt ∨ (2 : Int64).toInt < (Int32.toInt64 x1).toInt) := hRv1
  refine S1.ite (fun hc2 => ?_) (fun hc2 => ?_)
  · skip
    have chc2 := hRv1.1 hc2
    refine S1.bd (s_161 g hI trivial) ?_
    intro v3 hvv3 hRv3
    have hRv3 : True ∧ True := hRv3
    refine S1.bp (s_163 v3 g hI trivial) ?_
    intro v4 g5 hvv4 hRv4
    have hRv4 : Inv g5 ∧ True := hRv4
    refine S1.ite (fun hc6 => ?_) (fun hc6 => ?_)
    · skip
      have chc6 := zc_neT hc6
      refine S1.ite (fun hc7 => ?_) (fun hc7 => ?_)
      · skip
        have chc7 := zc_neT hc7
        exact S1.ret (show Inv g5 ∧ True from ⟨hRv4.1, trivial⟩)
      · skip
        have chc7 := zc_neF hc7
        try have y4 := zi_and (x := v3) (y := (v4 ^^^ (-1))) (by omega)
        exact S1.ret (show Inv g5 ∧ True from ⟨hRv4.1, trivial⟩)
    · skip
      have chc6 := zc_neF hc6
      exact S1.ret (show Inv g5 ∧ True from ⟨hRv4.1, trivial⟩)
  · skip
    have chc2 := hRv1.2 hc2
    exact S1.ret (show Inv g ∧ True from ⟨hI, trivial⟩)
/-- EveningFirst$Bonds.goingRound -/
theorem s_11 (x1 : Int32) (g : G) (hI : Inv g) (hp : True) : S1 (d_11 x1 g) (fun q : Int32 => True ∧ True) := by
  unfold d_11
  refine S1.bd (s_8 x1 g hI trivial) ?_
  intro v1 hvv1 hRv1
  have hRv1 : True ∧ True := hRv1
  refine S1.bd (s_9 v1 g hI trivial) ?_
  intro v2 hvv2 hRv2
  have hRv2 : True ∧ True := hRv2
  refine S1.lt ?_
  intro v3 hvv3
  exact S1.ret (show True ∧ True from ⟨trivial, trivial⟩)
theorem s_73_41 (x1 : Int32) (g : G) (hI : Inv g) : ∀ (f : Nat) (x2 : Int32) (x3 : Int32) (x4 : Int32), 0 ≤ x4.toInt ∧ x4.toInt ≤ 8 ∧ 8 - x4.toInt < (f : Int) → S1 (d_73_41 x1 g f x2 x3 x4) (fun q : Int32 × G => Inv q.2 ∧ True) := by
  intro f
  induction f with
  | zero =>
    intro x2 x3 x4 hp
    exfalso
    omega
  | succ f ih =>
    intro x2 x3 x4 hp
    rw [d_73_41.eq_2]
    have Lm4 := zl_m4
    have L0 := zl_0
    have L1 := zl_1
    have L31 := zl_31
    have yp6 : 0 ≤ (g 1 2).toInt ∧ (g 1 2).toInt ≤ 8 := Inv.rd (r := 1) (c := 2) hI 2 rfl
    have y1 : 0 ≤ (g 1 2).toInt ∧ (g 1 2).toInt ≤ 8 := Inv.rd (r := 1) (c := 2) hI 2 rfl
    refine S1.ite (fun hc5 => ?_) (fun hc5 => ?_)
    · skip
      have chc5 := zc_geT hc5
      refine S1.ite (fun hc6 => ?_) (fun hc6 => ?_)
      · skip
        have chc6 := zc_neT hc6
        refine S1.ite (fun hc7 => ?_) (fun hc7 => ?_)
        · skip
          have chc7 := zc_neT hc7
          exact S1.ret (show Inv g ∧ True from ⟨hI, trivial⟩)
        · skip
          have chc7 := zc_neF hc7
          exact S1.ret (show Inv g ∧ True from ⟨hI, trivial⟩)
      · skip
        have chc6 := zc_neF hc6
        exact S1.ret (show Inv g ∧ True from ⟨hI, trivial⟩)
    · skip
      have chc5 := zc_geF hc5
      try have y2 := zi_and (x := x4) (y := (31 : Int32)) (by omega)
      try have y3 := zi_shl1 (x := x4) (by omega)
      refine S1.bd (s_11 ((g 25 2) ||| ((1 : Int32) <<< (x4 &&& 31))) g hI trivial) ?_
      intro v8 hvv8 hRv8
      have hRv8 : True ∧ True := hRv8
      refine S1.ite (fun hc9 => ?_) (fun hc9 => ?_)
      · skip
        have chc9 := zc_geT hc9
        try have y4 := zi_add (x := x4) (y := (1 : Int32)) (by omega) (by omega)
        exact (ih x2 x3 (x4 + 1) (by omega))
      · skip
        have chc9 := zc_geF hc9
        try have y5 := zi_add (x := x4) (y := (1 : Int32)) (by omega) (by omega)
        exact (ih x4 v8 (x4 + 1) (by omega))
/-- EveningFirst.stop -/
theorem s_73 (x1 : Int32) (g : G) (hI : Inv g) (hp : True) : S1 (d_73 x1 g) (fun q : Int32 × G => Inv q.2 ∧ True) := by
  unfold d_73
  have Lm4 := zl_m4
  have Lm1 := zl_m1
  have L0 := zl_0
  refine S1.lt ?_
  intro v1 hvv1
  refine S1.ite (fun hc2 => ?_) (fun hc2 => ?_)
  · skip
    exact S1.ret (show Inv g ∧ True from ⟨hI, trivial⟩)
  · skip
    refine S1.bd (s_2 1 rfl g hI trivial) ?_
    intro g3 hvg3 hRg3
    have hRg3 : Inv g3 ∧ True := hRg3
    refine S1.bd (s_11 (g3 25 2) g3 hRg3.1 trivial) ?_
    intro v4 hvv4 hRv4
    have hRv4 : True ∧ True := hRv4
    exact (s_73_41 x1 g3 hRg3.1 300 (-4 : Int32) v4 (0 : Int32) (by omega))
theorem s_164_4 (x0 : Int32) (g : G) (hI : Inv g) : ∀ (f : Nat) (x1 : Int32) (x2 : Int32), 0 ≤ x2.toInt ∧ x2.toInt ≤ 8 ∧ 8 - x2.toInt < (f : Int) → S1 (d_164_4 x0 g f x1 x2) (fun q : Int32 => True ∧ True) := by
  intro f
  induction f with
  | zero =>
    intro x1 x2 hp
    exfalso
    omega
  | succ f ih =>
    intro x1 x2 hp
    rw [d_164_4.eq_2]
    have L1 := zl_1
    have L8 := zl_8
    have L31 := zl_31
    refine S1.ite (fun hc1 => ?_) (fun hc1 => ?_)
    · skip
      have chc1 := zc_geT hc1
      exact S1.ret (show True ∧ True from ⟨trivial, trivial⟩)
    · skip
      have chc1 := zc_geF hc1
      try have y1 := zi_and (x := x2) (y := (31 : Int32)) (by omega)
      try have y2 := zi_and (x := (x0 >>> (x2 &&& 31))) (y := (1 : Int32)) (by omega)
      try have y3 := zi_add (x := x1) (y := ((x0 >>> (x2 &&& 31)) &&& 1)) (by omega) (by omega)
      try have y4 := zi_add (x := x2) (y := (1 : Int32)) (by omega) (by omega)
      exact (ih (x1 + ((x0 >>> (x2 &&& 31)) &&& 1)) (x2 + 1) (by omega))
/-- EveningFirstModel.bitsOf -/
theorem s_164 (x0 : Int32) (g : G) (hI : Inv g) (hp : True) : S1 (d_164 x0 g) (fun q : Int32 => True ∧ True) := by
  unfold d_164
  have L0 := zl_0
  exact (s_164_4 x0 g hI 300 (0 : Int32) (0 : Int32) (by omega))
/-- EveningFirstModel.roundNow -/
theorem s_166 (g : G) (hI : Inv g) (hp : True) : S1 (d_166 g) (fun q : Int32 × G => Inv q.2 ∧ True) := by
  unfold d_166
  have Lm1 := zl_m1
  refine S1.bd (s_161 g hI trivial) ?_
  intro v1 hvv1 hRv1
  have hRv1 : True ∧ True := hRv1
  refine S1.bp (s_163 v1 g hI trivial) ?_
  intro v2 g3 hvv2 hRv2
  have hRv2 : Inv g3 ∧ True := hRv2
  try have y1 := zi_and (x := v1) (y := (v2 ^^^ (-1))) (by omega)
  refine S1.bd (s_164 (v1 &&& (v2 ^^^ (-1))) g3 hRv2.1 trivial) ?_
  intro v4 hvv4 hRv4
  have hRv4 : True ∧ True := hRv4
  exact S1.ret (show Inv g3 ∧ True from ⟨hRv2.1, trivial⟩)
