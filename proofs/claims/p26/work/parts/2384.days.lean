/-! lacks() and days() answer alike -/
theorem d_155_cg {x0 : Int32} {g g' : G} : ∀ (f : Nat) (y : Int32), d_155_2 x0 g f y = d_155_2 x0 g' f y := by
  intro f
  induction f with
  | zero =>
    intro y
    rfl
  | succ f ih =>
    intro y
    rw [d_155_2.eq_2, d_155_2.eq_2, ih]
set_option maxRecDepth 100000 in
theorem low_k : ((List.range 256).all fun n => Nat.ble n 0 || decide (d_155 (Int32.ofNat n) (gh 0) = some (d_189 (Int32.ofNat n) (gh 0)))) = true := by decide +kernel
theorem low_eq {x w : Int32} {g m : G} (h : 1 ≤ x.toInt ∧ x.toInt ≤ 255) (f : d_155 x m = some w) : d_189 x g = w := by
  have c1 : d_155 x m = d_155 x (gh 0) := d_155_cg 300 0
  have c2 : d_189 x g = d_189 x (gh 0) := by
    unfold d_189 d_189_49
    rfl
  rw [c1, zi_nat (n := x.toInt.toNat) (x := x) (by omega)] at f
  rw [c2, zi_nat (n := x.toInt.toNat) (x := x) (by omega)]
  have k := List.all_eq_true.mp low_k x.toInt.toNat (List.mem_range.mpr (by omega))
  rcases (Bool.or_eq_true _ _).mp k with k | k
  · have := Nat.ble_eq.mp k
    omega
  · have k := of_decide_eq_true k
    rw [k] at f
    exact zb_r1 f
theorem Lack.t6 {b d t : Nat} {c : G} {D : Int32} (W : Wfam b c) (hd : (d : Int) < (c b 2).toInt) (h : Lack b c d D t) : t < 6 := by
  have wd := W.2.2.1 d hd
  unfold Wdeed at wd
  exact zbit_day (n := 6) wd.2.2.2.2.2.2.2.2.1 (by show _ < (64 : Int); omega) h.1
theorem l_69 {c g m : G} {x1 x2 : Int32} (hR : RCb 1 c m) (hL : Looked 1 c g) (h2 : g 1 2 = c 1 2) : ∀ (f : Nat) (x3 v v' : Int32) (k : Nat) (g1 : G), x3.toInt = k → d_69_33 x1 x2 g f x3 = some (v, g1) → d_156_22 x1 x2 m f x3 = some v' → v = v' := by
  intro n
  induction n with
  | zero =>
    intro x3 v v' k g1 _ e
    rw [d_69_33.eq_1] at e
    cases e
  | succ n ih =>
    intro x3 v v' k g1 hx e f
    rw [d_69_33.eq_2, h2] at e
    rw [d_156_22.eq_2, ← hR.2.2.2.1] at f
    have L0 := zl_0
    have L1 := zl_1
    have nn := hR.nums
    rcases zb_if2 Iff.rfl e f with ⟨h1, _, e, f⟩ | ⟨h1, _, e, f⟩
    · exact (zb_r2 e).1.symm.trans (zb_r1 f)
    · have q := zc_geF h1
      have yi := zi_add (x := x3) (y := 1) (by omega) (by omega)
      replace e := zb_let e
      obtain ⟨v7, h7, e⟩ := e
      have b7 := b_90n (x0 := x1) hx (by omega)
      rw [h7] at b7
      replace e := zb_if e
      replace f := zb_if f
      rcases zbt (x := x1) hx (by omega) with z | z
      · rcases e with ⟨hc, e⟩ | ⟨hc, e⟩
        · rcases f with ⟨kc, f⟩ | ⟨kc, f⟩
          · have := zc_neT kc
            exfalso
            omega
          · replace e := zb_bind e
            obtain ⟨v9, h9, e⟩ := e
            replace f := zb_bind f
            obtain ⟨w9, k9, f⟩ := f
            have vw := lack_eq hR hL hx (by omega) h9 k9
            subst vw
            rcases zb_if2 Iff.rfl e f with ⟨h1, _, e, f⟩ | ⟨h1, _, e, f⟩
            · exact ih (x3 + 1) v v' (k + 1) g1 (by omega) e f
            · have q1 := zc_eqF h1
              rcases zb_if2 Iff.rfl e f with ⟨h1, _, e, f⟩ | ⟨h1, _, e, f⟩
              · replace f := zb_bind f
                obtain ⟨w10, k10, f⟩ := f
                have bb := zbit_b8 (x := v9) (fun i hi => by
                  rcases Nat.lt_or_ge i 32 with r | r
                  · have := Lack.t6 hR.2.2.1 (by omega) ((t_151 hR hx (by omega) k9 i r).mp hi)
                    omega
                  · rw [zbit_ge _ r] at hi
                    cases hi)
                have := low_eq (g := g) (show 1 ≤ v9.toInt ∧ v9.toInt ≤ 255 by omega) k10
                rw [← zb_r1 f, ← this]
                exact (zb_r2 e).1.symm
              · exact (zb_r2 e).1.symm.trans (zb_r1 f)
        · exact absurd z.1 (zd_no b7 hc)
      · rcases e with ⟨hc, e⟩ | ⟨hc, e⟩
        · exact absurd (b7.mp hc) z.1
        · rcases f with ⟨kc, f⟩ | ⟨kc, f⟩
          · exact ih (x3 + 1) v v' (k + 1) g1 (by omega) e f
          · have := zc_neF kc
            exfalso
            omega
theorem in01 {x : Int32} : d_107 (Int32.toInt64 x) 0 1 = true ↔ ¬ d_95 x = true := by
  have L0 : (0 : Int64).toInt = 0 := by decide
  have L1 : (1 : Int64).toInt = 1 := by decide
  rw [zin_a (x1 := x) L0 L1, b_95]
  omega
theorem a_69 {x1 x2 v v' : Int32} {g g1 m : G} (_ : Inv g) (_ : Inv m) (hR : Rel g m) (e : d_69 x1 x2 g = some (v, g1)) (f : d_156 x1 x2 m = some v') : v = v' := by
  unfold d_69 at e
  unfold d_156 at f
  rcases zb_if2 (day_eq hR.rcb) e f with ⟨h1, _, e, f⟩ | ⟨_, _, e, f⟩
  · replace e := zb_let e
    obtain ⟨v3, h3, e⟩ := e
    replace f := zb_let f
    obtain ⟨w3, k3, f⟩ := f
    have i := in01 (x := x2)
    rw [h3, k3] at i
    replace e := zb_if e
    replace f := zb_if f
    rcases e with ⟨hc, e⟩ | ⟨hc, e⟩
    · rcases f with ⟨kc, f⟩ | ⟨kc, f⟩
      · exact absurd hc (i.mp kc)
      · exact (zb_r2 e).1.symm.trans (zb_r1 f)
    · rcases f with ⟨kc, f⟩ | ⟨kc, f⟩
      · replace e := zb_bind e
        obtain ⟨g5, h5, e⟩ := e
        obtain ⟨hL, hF⟩ := t_2 (Or.inl rfl) hR.rcb.2.2.1 h5
        exact l_69 hR.rcb hL (hF 1 2 (by omega) (by omega) (by omega)) 300 0 v v' 0 g1 (by decide) e f
      · exact absurd (i.mpr (by rw [hc]; decide)) (by rw [kc]; decide)
  · exact (zb_r2 e).1.symm.trans (zb_r1 f)
/-! which DAYS are allowed -/
theorem l_157_4 {b : Nat} {c m : G} {x1 : Int32} (hR : RCb b c m) : ∀ (f : Nat) (x2 x3 v : Int32) (k : Nat), x3.toInt = k → d_157_4 x1 m f x2 x3 = some v → ∀ i, i < 32 → (zbit v i = true ↔ zbit x2 i = true ∨ (k ≤ i ∧ (i : Int) < (c b 2).toInt ∧ (c (b + 8 + i) 5).toInt = x1.toInt)) := by
  intro f
  induction f with
  | zero =>
    intro x2 x3 v k _ e
    rw [d_157_4.eq_1] at e
    cases e
  | succ f ih =>
    intro x2 x3 v k hx e i hi
    rw [d_157_4.eq_2] at e
    have L0 := zl_0
    have L1 := zl_1
    have nn := hR.nums
    replace e := zb_if e
    rcases e with ⟨hc, e⟩ | ⟨hc, e⟩
    · have q := zc_geT hc
      have e1 := zb_r1 e
      subst e1
      exact ⟨Or.inl, fun w => w.elim id fun w => by omega⟩
    · have q := zc_geF hc
      have yi := zi_add (x := x3) (y := 1) (by omega) (by omega)
      rw [t_136 hx (by omega) (show (5 : Int32).toInt = (5 : Nat) from by decide) (by omega), ← hR.deeds (d := k) (by omega) (show 5 < 7 by omega)] at e
      have e : (bif zm_cmp .ne (c (b + 8 + k) 5) x1 then d_157_4 x1 m f (x2 ||| ((0 : Int32) <<< (x3 &&& 31))) (x3 + 1) else d_157_4 x1 m f (x2 ||| ((1 : Int32) <<< (x3 &&& 31))) (x3 + 1)) = some v := e
      replace e := zb_if e
      rcases e with ⟨hc, e⟩ | ⟨hc, e⟩
      · have q1 := zc_neT hc
        refine (ih _ (x3 + 1) v (k + 1) (by omega) e i hi).trans ?_
        rw [zbit_or, zi_nat hx, zbit_shl0 k (by omega), zbit_0, Bool.or_false]
        refine or_congr Iff.rfl ⟨fun w => ⟨by omega, w.2⟩, fun w => ⟨?_, w.2⟩⟩
        rcases Nat.lt_or_ge k i with q' | q'
        · exact q'
        · obtain rfl : i = k := by omega
          exact absurd w.2.2 q1
      · have q1 := zc_neF hc
        refine (ih _ (x3 + 1) v (k + 1) (by omega) e i hi).trans ?_
        rw [zbit_or, zbit_shl1 hx (by omega) hi, Bool.or_eq_true, decide_eq_true_eq]
        constructor
        · rintro ((w | w) | w)
          · exact Or.inl w
          · subst w
            exact Or.inr ⟨by omega, by omega, q1⟩
          · exact Or.inr ⟨by omega, w.2⟩
        · rintro (w | w)
          · exact Or.inl (Or.inl w)
          · rcases Nat.lt_or_ge k i with q' | q'
            · exact Or.inr ⟨q', w.2⟩
            · exact Or.inl (Or.inr (by omega))
theorem t_157 {b : Nat} {c m : G} {x1 v : Int32} (hR : RCb b c m) (e : d_157 x1 m = some v) : ∀ i, i < 32 → (zbit v i = true ↔ (i : Int) < (c b 2).toInt ∧ (c (b + 8 + i) 5).toInt = x1.toInt) := by
  intro i hi
  refine (l_157_4 hR 300 0 0 v 0 (by decide) e i hi).trans ?_
  rw [zbit_0]
  exact ⟨fun w => w.elim (fun w => by cases w) fun w => w.2, fun w => Or.inr ⟨by omega, w⟩⟩
/-- both sides hold the same for forbidden, and for due -/
theorem mark1_eq {b : Nat} {c g m : G} {v : Int32} (hR : RCb b c m) (hL : Looked b c g) (e : d_157 1 m = some v) : g 25 1 = v := zbit_eq fun i hi => by
  rw [t_157 hR e i hi, hL.2.2.1 i hi, zl_1]
  have nn := hR.nums
  omega
theorem mark2_eq {b : Nat} {c g m : G} {v : Int32} (hR : RCb b c m) (hL : Looked b c g) (e : d_157 2 m = some v) : g 25 2 = v := zbit_eq fun i hi => by
  rw [t_157 hR e i hi, hL.2.2.2.1 i hi, zl_2]
  have nn := hR.nums
  omega
theorem all_eq {b : Nat} {c g m : G} (hR : RCb b c m) (hL : Looked b c g) : g 25 0 = d_158 m := by
  rw [hL.2.1]
  unfold d_158
  rw [← hR.2.2.2.1]
theorem sub_iff {x y : Int32} : x &&& y = y ↔ (y &&& (x ^^^ (-1))).toInt = 0 := by
  constructor
  · intro h
    rw [zbit_eqz]
    intro i hi q
    rw [zbit_and, zbit_not _ hi] at q
    have := congrArg (fun w => zbit w i) h
    simp only [zbit_and] at this
    cases h1 : zbit x i <;> cases h2 : zbit y i <;> simp_all
  · intro h
    rw [zbit_eqz] at h
    apply zbit_ext
    intro i hi
    have q := h i hi
    rw [zbit_and, zbit_not _ hi] at q
    rw [zbit_and]
    cases h1 : zbit x i <;> cases h2 : zbit y i <;> simp_all
theorem allow_eq {b : Nat} {c g m : G} {x1 : Int32} {r r' : Bool} (hR : RCb b c m) (hL : Looked b c g) (hD : ∀ i : Nat, zbit x1 i = true → (i : Int) < (c b 2).toInt) (e : d_7 x1 g = some r) (f : d_159 x1 m = some r') : r = r' := by
  unfold d_7 at e
  unfold d_159 at f
  have L0 := zl_0
  replace f := zb_bind f
  obtain ⟨w1, k1, f⟩ := f
  have m1 := mark1_eq hR hL k1
  rw [m1] at e
  have s1 : zm_cmp .ne (x1 &&& w1) w1 = true ↔ zm_cmp .ne (w1 &&& (x1 ^^^ (-1))) 0 = true := by
    have s := sub_iff (x := x1) (y := w1)
    constructor
    · intro h
      have h := zc_neT h
      apply Classical.byContradiction
      intro q
      have q := zc_neF (Bool.not_eq_true _ ▸ q)
      exact h (by rw [s.mpr (by omega)])
    · intro h
      have h := zc_neT h
      apply Classical.byContradiction
      intro q
      have q := Int32.toInt_inj.mp (zc_neF (Bool.not_eq_true _ ▸ q))
      have := s.mp q
      omega
  rcases zb_if2 s1 e f with ⟨h1, _, e, f⟩ | ⟨h1, _, e, f⟩
  · exact (zb_r1 e).symm.trans (zb_r1 f)
  · replace f := zb_bind f
    obtain ⟨w3, k3, f⟩ := f
    rw [mark2_eq hR hL k3, Int32.and_comm x1 w3] at e
    rcases zb_if2 Iff.rfl e f with ⟨h1, _, e, f⟩ | ⟨h1, _, e, f⟩
    · exact (zb_r1 e).symm.trans (zb_r1 f)
    · replace e := zb_bind e
      obtain ⟨v5, h5, e⟩ := e
      replace f := zb_bind f
      obtain ⟨w5, k5, f⟩ := f
      have q := (t_6 hR.2.2.1 hL hD h5).trans (t_152 hR k5).symm
      rcases zb_if2 q e f with ⟨h1, _, e, f⟩ | ⟨h1, _, e, f⟩
      · exact (zb_r1 e).symm.trans (zb_r1 f)
      · exact (zb_r1 e).symm.trans (zb_r1 f)
/-- the highest DAY -/
theorem all_int {b : Nat} {c g m : G} (hR : RCb b c m) (hL : Looked b c g) : (g 25 0).toInt = 2 ^ (c b 2).toInt.toNat - 1 ∧ 0 ≤ (g 25 0).toInt ∧ (g 25 0).toInt ≤ 255 := by
  have nn := hR.nums
  have h1 : (c b 2).toInt = ((c b 2).toInt.toNat : Nat) := by omega
  have s := zi_sh8 (c b 2).toInt.toNat (by omega)
  have p := zi_p8 (c b 2).toInt.toNat (by omega)
  have L1 := zl_1
  rw [← zi_nat h1] at s
  have y := zi_sub (x := (1 : Int32) <<< ((c b 2) &&& 31)) (y := 1) (by omega) (by omega)
  rw [hL.2.1, y]
  omega
theorem day_le {b : Nat} {c g m : G} {x : Int32} (hR : RCb b c m) (hL : Looked b c g) (h0 : 0 ≤ x.toInt) (h : x.toInt ≤ (g 25 0).toInt) : ∀ i : Nat, zbit x i = true → (i : Int) < (c b 2).toInt := by
  have a := all_int hR hL
  intro i hi
  have := zbit_day (n := (c b 2).toInt.toNat) h0 (by omega) hi
  omega
theorem l_70_fin {x1 x2 x3 x4 x5 x6 a v v' : Int32} {g g1 m : G} (hx : x1 = 0 ∨ x1 = 1 ∨ x1 = 2 ∨ x1 = 3 ∨ x1 = 4) (ha : a = d_158 m) (e : (bif zm_cmp .ne x1 0 then (bif zm_cmp .ne x2 0 then (bif x1 == 1 then (some (x3, g)) else bif x1 == 2 then (some (x4, g)) else bif x1 == 3 then (some (x5, g)) else some ((a &&& (x6 ^^^ (-1))), g)) else some ((-4), g)) else some (x2, g)) = some (v, g1)) (f : (bif zm_cmp .eq x1 0 then (bif zm_cmp .ne x1 0 then (some (-4)) else some x2) else bif zm_cmp .ne x2 0 then (bif zm_cmp .ne x1 1 then (bif zm_cmp .ne x1 2 then (bif zm_cmp .ne x1 3 then (zb_l (d_158 m) fun v12 => some (v12 &&& (x6 ^^^ (-1)))) else some x5) else some x4) else some x3) else bif zm_cmp .ne x1 0 then (some (-4)) else some x2) = some v') : v = v' := by
  subst ha
  rcases hx with rfl | rfl | rfl | rfl | rfl
  · exact (zb_r2 e).1.symm.trans (zb_r1 f)
  all_goals
    cases hq : zm_cmp .ne x2 0 with
    | true =>
      rw [hq] at e f
      exact (zb_r2 e).1.symm.trans (zb_r1 f)
    | false =>
      rw [hq] at e f
      exact (zb_r2 e).1.symm.trans (zb_r1 f)
theorem l_70 {c g m : G} {x1 : Int32} (hR : RCb 1 c m) (hL : Looked 1 c g) (hx1 : x1 = 0 ∨ x1 = 1 ∨ x1 = 2 ∨ x1 = 3 ∨ x1 = 4) : ∀ (f : Nat) (x2 x3 x4 x5 x6 x7 v v' : Int32) (g1 : G), 0 ≤ x7.toInt → d_70_46 x1 g f x2 x3 x4 x5 x6 x7 = some (v, g1) → d_160_35 x1 m f x2 x3 x4 x5 x6 x7 = some v' → v = v' := by
  have hall := all_eq hR hL
  have ai := all_int hR hL
  intro n
  induction n with
  | zero =>
    intro x2 x3 x4 x5 x6 x7 v v' g1 _ e
    rw [d_70_46.eq_1] at e
    cases e
  | succ n ih =>
    intro x2 x3 x4 x5 x6 x7 v v' g1 h0 e f
    rw [d_70_46.eq_2] at e
    rw [d_160_35.eq_2] at f
    replace f := zb_let f
    obtain ⟨w4, k4, f⟩ := f
    rw [← hall] at k4
    subst k4
    have L1 := zl_1
    rcases zb_if2 Iff.rfl e f with ⟨h1, _, e, f⟩ | ⟨h1, _, e, f⟩
    · exact l_70_fin hx1 hall e f
    · have q := zc_gtF h1
      have yi := zi_add (x := x7) (y := 1) (by omega) (by omega)
      replace e := zb_bind e
      obtain ⟨v10, h10, e⟩ := e
      replace f := zb_bind f
      obtain ⟨w10, k10, f⟩ := f
      have := allow_eq hR hL (day_le hR hL h0 (by omega)) h10 k10
      subst this
      rcases zb_if2 Iff.rfl e f with ⟨h1, _, e, f⟩ | ⟨h1, _, e, f⟩
      · rcases zb_if2 Iff.rfl e f with ⟨h1, _, e, f⟩ | ⟨h1, _, e, f⟩
        · exact ih _ _ _ _ _ _ v v' g1 (by omega) e f
        · exact ih _ _ _ _ _ _ v v' g1 (by omega) e f
      · exact ih _ _ _ _ _ _ v v' g1 (by omega) e f
theorem zi_is {x : Int32} (n : Nat) (h : x.toInt = n) : x = Int32.ofNat n := zi_nat h
theorem a_70 {x1 v v' : Int32} {g g1 m : G} (_ : Inv g) (_ : Inv m) (hR : Rel g m) (e : d_70 x1 g = some (v, g1)) (f : d_160 x1 m = some v') : v = v' := by
  unfold d_70 at e
  unfold d_160 at f
  have L0 := zl_0
  have L4 := zl_4
  have J0 : (0 : Int64).toInt = 0 := by decide
  have J4 : (4 : Int64).toInt = 4 := by decide
  have i := zin_a (x1 := x1) J0 J4
  replace f := zb_let f
  obtain ⟨w1, k1, f⟩ := f
  rw [k1] at i
  replace e := zb_if e
  replace f := zb_if f
  rcases e with ⟨hc, e⟩ | ⟨hc, e⟩
  · have q := zc_ltT hc
    rcases f with ⟨kc, f⟩ | ⟨kc, f⟩
    · have := i.mp kc
      exfalso
      omega
    · exact (zb_r2 e).1.symm.trans (zb_r1 f)
  · have q := zc_ltF hc
    replace e := zb_if e
    rcases e with ⟨hc, e⟩ | ⟨hc, e⟩
    · have q1 := zc_leT hc
      rcases f with ⟨kc, f⟩ | ⟨kc, f⟩
      · replace e := zb_bind e
        obtain ⟨g3, h3, e⟩ := e
        obtain ⟨hL, _⟩ := t_2 (Or.inl rfl) hR.rcb.2.2.1 h3
        replace f := zb_let f
        obtain ⟨w3, k3, f⟩ := f
        rw [← all_eq hR.rcb hL] at k3
        subst k3
        have hx1 : x1 = 0 ∨ x1 = 1 ∨ x1 = 2 ∨ x1 = 3 ∨ x1 = 4 := by
          have : x1.toInt = 0 ∨ x1.toInt = 1 ∨ x1.toInt = 2 ∨ x1.toInt = 3 ∨ x1.toInt = 4 := by omega
          rcases this with h | h | h | h | h
          · exact Or.inl (zi_is 0 h)
          · exact Or.inr (Or.inl (zi_is 1 h))
          · exact Or.inr (Or.inr (Or.inl (zi_is 2 h)))
          · exact Or.inr (Or.inr (Or.inr (Or.inl (zi_is 3 h))))
          · exact Or.inr (Or.inr (Or.inr (Or.inr (zi_is 4 h))))
        exact l_70 hR.rcb hL hx1 300 _ _ _ _ _ 0 v v' g1 (by decide) e f
      · have := zd_no i kc
        exfalso
        omega
    · have q1 := zc_leF hc
      rcases f with ⟨kc, f⟩ | ⟨kc, f⟩
      · have := i.mp kc
        exfalso
        omega
      · exact (zb_r2 e).1.symm.trans (zb_r1 f)
