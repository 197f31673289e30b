/-! predicates, plain calls -/
theorem zd_i {c a b : Bool} {p : Prop} (h1 : c = true → (a = true ↔ p)) (h2 : c = false → (b = true ↔ p)) : ((bif c then a else b) = true ↔ p) := by
  cases c with
  | true => exact h1 rfl
  | false => exact h2 rfl
theorem zd_l {α : Type} {a : α} {f : α → Bool} {p : Prop} (K : ∀ v, a = v → (f v = true ↔ p)) : (zb_l a f = true ↔ p) := K a rfl
theorem zd_t {p : Prop} (h : p) : (true = true ↔ p) := ⟨fun _ => h, fun _ => rfl⟩
theorem zd_f {p : Prop} (h : ¬ p) : (false = true ↔ p) := ⟨fun q => (by cases q), fun q => absurd q h⟩
theorem zd_no {b : Bool} {p : Prop} (hb : b = true ↔ p) (h : b = false) : ¬ p := fun hp => by
  rw [hb.mpr hp] at h
  cases h
theorem zin_i {a b c : Int64} : d_107 a b c = true ↔ b.toInt ≤ a.toInt ∧ a.toInt ≤ c.toInt := by
  have h := zin_c (a := a) (b := b) (c := c)
  constructor
  · exact h.1
  · intro q
    cases hb : d_107 a b c with
    | true => rfl
    | false =>
      have := h.2 hb
      omega
section PRED
variable {r0 : Nat} {x0 x1 x2 x3 : Int32} {g : G}
theorem b_18 : d_18 r0 x1 g = true ↔ 0 ≤ x1.toInt ∧ x1.toInt < (g r0 1).toInt := by
  unfold d_18
  have L0 := zl_0
  exact zd_i (fun h => zd_f (by have := zc_ltT h; omega)) (fun h => zd_i (fun h2 => zd_f (by have := zc_geT h2; omega)) (fun h2 => zd_t (by have := zc_ltF h; have := zc_geF h2; omega)))
theorem b_19 : d_19 r0 x1 g = true ↔ 0 ≤ x1.toInt ∧ x1.toInt < (g r0 0).toInt := by
  unfold d_19
  have L0 := zl_0
  exact zd_i (fun h => zd_f (by have := zc_ltT h; omega)) (fun h => zd_i (fun h2 => zd_f (by have := zc_geT h2; omega)) (fun h2 => zd_t (by have := zc_ltF h; have := zc_geF h2; omega)))
theorem b_20 : d_20 r0 x1 g = true ↔ 0 ≤ x1.toInt ∧ x1.toInt < (g r0 2).toInt := by
  unfold d_20
  have L0 := zl_0
  exact zd_i (fun h => zd_f (by have := zc_ltT h; omega)) (fun h => zd_i (fun h2 => zd_f (by have := zc_geT h2; omega)) (fun h2 => zd_t (by have := zc_ltF h; have := zc_geF h2; omega)))
theorem b_22 : d_22 r0 x1 x2 g = true ↔ (0 ≤ x1.toInt ∧ x1.toInt < (g r0 2).toInt) ∧ 0 ≤ x2.toInt ∧ x2.toInt ≤ 2 := by
  unfold d_22
  have L0 := zl_0
  have L2 := zl_2
  refine zd_l fun v hv => ?_
  have b := b_20 (r0 := r0) (x1 := x1) (g := g)
  rw [hv] at b
  refine zd_i (fun h => ?_) (fun h => zd_f (by have := zd_no b h; omega))
  have := b.mp h
  exact zd_i (fun h => zd_f (by have := zc_ltT h; omega)) (fun h => zd_i (fun h2 => zd_f (by have := zc_gtT h2; omega)) (fun h2 => zd_t (by have := zc_ltF h; have := zc_gtF h2; omega)))
theorem b_91 : d_91 x0 = true ↔ 0 ≤ x0.toInt ∧ x0.toInt ≤ 5 := by
  unfold d_91
  have L0 := zl_0
  have L6 := zl_6
  exact zd_i (fun h => zd_f (by have := zc_ltT h; omega)) (fun h => zd_i (fun h2 => zd_f (by have := zc_geT h2; omega)) (fun h2 => zd_t (by have := zc_ltF h; have := zc_geF h2; omega)))
theorem b_92 : d_92 x0 = true ↔ 0 ≤ x0.toInt ∧ x0.toInt ≤ 63 := by
  unfold d_92
  have L0 := zl_0
  have L64 : (64 : Int32).toInt = 64 := by decide
  exact zd_i (fun h => zd_f (by have := zc_ltT h; omega)) (fun h => zd_i (fun h2 => zd_f (by have := zc_geT h2; omega)) (fun h2 => zd_t (by have := zc_ltF h; have := zc_geF h2; omega)))
theorem b_93 : d_93 x0 = true ↔ x0.toInt < 0 ∨ 3 < x0.toInt := by
  unfold d_93
  have L0 := zl_0
  have L4 := zl_4
  exact zd_i (fun h => zd_t (by have := zc_ltT h; omega)) (fun h => zd_i (fun h2 => zd_f (by have := zc_ltF h; have := zc_ltT h2; omega)) (fun h2 => zd_t (by have := zc_ltF h2; omega)))
theorem b_94 : d_94 x0 = true ↔ x0.toInt < 0 ∨ 2 < x0.toInt := by
  unfold d_94
  have L0 := zl_0
  have L2 := zl_2
  exact zd_i (fun h => zd_t (by have := zc_ltT h; omega)) (fun h => zd_i (fun h2 => zd_f (by have := zc_ltF h; have := zc_leT h2; omega)) (fun h2 => zd_t (by have := zc_leF h2; omega)))
theorem b_95 : d_95 x0 = true ↔ x0.toInt ≠ 0 ∧ x0.toInt ≠ 1 := by
  unfold d_95
  have L0 := zl_0
  have L1 := zl_1
  exact zd_i (fun h => zd_f (by have := zc_eqT h; omega)) (fun h => zd_i (fun h2 => zd_f (by have := zc_eqT h2; omega)) (fun h2 => zd_t (by have := zc_eqF h; have := zc_eqF h2; omega)))
theorem b_96 : d_96 x1 x2 x3 g = true ↔ ¬ ((0 ≤ x1.toInt ∧ x1.toInt < (g 1 1).toInt) ∧ (0 ≤ x2.toInt ∧ x2.toInt ≤ 5) ∧ 0 ≤ x3.toInt ∧ x3.toInt < (g 1 0).toInt) := by
  unfold d_96
  refine zd_l fun v hv => ?_
  have b := b_18 (r0 := 1) (x1 := x1) (g := g)
  rw [hv] at b
  refine zd_i (fun h => ?_) (fun h => zd_t (by have := zd_no b h; omega))
  have h1 := b.mp h
  refine zd_l fun v hv => ?_
  have b := b_91 (x0 := x2)
  rw [hv] at b
  refine zd_i (fun h => ?_) (fun h => zd_t (by have := zd_no b h; omega))
  have h2 := b.mp h
  refine zd_l fun v hv => ?_
  have b := b_19 (r0 := 1) (x1 := x3) (g := g)
  rw [hv] at b
  exact zd_i (fun h => zd_f (by have := b.mp h; omega)) (fun h => zd_t (by have := zd_no b h; omega))
theorem b_46 : d_46 r0 g = true ↔ (g r0 0).toInt = -1 := by
  unfold d_46
  have Lm1 := zl_m1
  exact zd_i (fun h => zd_f (by have := zc_neT h; omega)) (fun h => zd_t (by have := zc_neF h; omega))
theorem b_134 : d_134 x0 = true ↔ 0 ≤ x0.toInt ∧ x0.toInt ≤ 5 := by
  have h := zin_i (a := Int32.toInt64 x0) (b := 0) (c := 5)
  rw [zi_i64] at h
  exact h
theorem b_144 : d_144 x0 = true ↔ 0 ≤ x0.toInt ∧ x0.toInt ≤ 63 := by
  have h := zin_i (a := Int32.toInt64 x0) (b := 0) (c := 63)
  rw [zi_i64] at h
  exact h
theorem b_131 (hb : 0 ≤ (g 113 3).toInt ∧ (g 113 3).toInt ≤ 100) : d_131 x1 g = true ↔ 0 ≤ x1.toInt ∧ x1.toInt < (g 113 3).toInt := by
  have h := zin_i (a := Int32.toInt64 x1) (b := 0) (c := Int32.toInt64 ((g 113 3) - 1))
  have L1 := zl_1
  rw [zi_i64, zi_i64, zi_sub (x := g 113 3) (y := 1) (by omega) (by omega), L1] at h
  refine h.trans ?_
  show 0 ≤ x1.toInt ∧ _ ↔ _
  omega
theorem b_132 (hb : 0 ≤ (g 114 8).toInt ∧ (g 114 8).toInt ≤ 100) : d_132 x1 g = true ↔ 0 ≤ x1.toInt ∧ x1.toInt < (g 114 8).toInt := by
  have h := zin_i (a := Int32.toInt64 x1) (b := 0) (c := Int32.toInt64 ((g 114 8) - 1))
  have L1 := zl_1
  rw [zi_i64, zi_i64, zi_sub (x := g 114 8) (y := 1) (by omega) (by omega), L1] at h
  refine h.trans ?_
  show 0 ≤ x1.toInt ∧ _ ↔ _
  omega
theorem b_133 (hb : 0 ≤ (g 113 2).toInt ∧ (g 113 2).toInt ≤ 100) : d_133 x1 g = true ↔ 0 ≤ x1.toInt ∧ x1.toInt < (g 113 2).toInt := by
  have h := zin_i (a := Int32.toInt64 x1) (b := 0) (c := Int32.toInt64 ((g 113 2) - 1))
  have L1 := zl_1
  rw [zi_i64, zi_i64, zi_sub (x := g 113 2) (y := 1) (by omega) (by omega), L1] at h
  refine h.trans ?_
  show 0 ≤ x1.toInt ∧ _ ↔ _
  omega
theorem b_183 : d_183 x0 x1 = true ↔ (0 ≤ x0.toInt ∧ x0.toInt ≤ 3) ∧ 0 ≤ x1.toInt ∧ x1.toInt ≤ 2 := by
  unfold d_183
  refine zd_l fun v hv => ?_
  have b := zin_i (a := Int32.toInt64 x0) (b := 0) (c := 3)
  rw [zi_i64, hv, show (0 : Int64).toInt = 0 from by decide, show (3 : Int64).toInt = 3 from by decide] at b
  refine zd_i (fun h => ?_) (fun h => zd_f (by have := zd_no b h; omega))
  have h1 := b.mp h
  refine zd_l fun v hv => ?_
  have b := zin_i (a := Int32.toInt64 x1) (b := 0) (c := 2)
  rw [zi_i64, hv, show (0 : Int64).toInt = 0 from by decide, show (2 : Int64).toInt = 2 from by decide] at b
  exact zd_i (fun h => zd_t (by have := b.mp h; omega)) (fun h => zd_f (by have := zd_no b h; omega))
theorem zin_a {a b : Int64} {lo hi : Int} (hl : a.toInt = lo) (hh : b.toInt = hi) : d_107 (Int32.toInt64 x1) a b = true ↔ lo ≤ x1.toInt ∧ x1.toInt ≤ hi := by
  have h := zin_i (a := Int32.toInt64 x1) (b := a) (c := b)
  rw [zi_i64, hl, hh] at h
  exact h
end PRED
theorem d_108_0 : d_108 0 = 0 := rfl
theorem d_108_1 : d_108 1 = 1 := rfl
/-! reading a memory behind a change -/
theorem zg_ue {g : G} {R K : Nat} {v : Int32} : zg_up g R K v R K = v := by
  simp [zg_up, zg_u1, Nat.beq_refl]
theorem zg_un {g : G} {R K r k : Nat} {v : Int32} (h : ¬ (r = R ∧ k = K)) : zg_up g R K v r k = g r k := zg_fr rfl r k h
theorem zi_of {x : Int32} {n : Nat} (h : (n : Int) = x.toInt) : x = Int32.ofNat n := zi_nat h.symm
/-! an element of a row of the reference -/
theorem zi_idx {x : Int32} {d : Nat} {o : Int32} {n : Nat} (hd : x.toInt = d) (h8 : d < 8) (ho : o.toInt = n) (hn : n < 7) : ((9 + (7 * x)) + o).toInt = (9 + 7 * d + n : Nat) := by
  have L9 := zl_9
  have L7 := zl_7
  have e1 := zi_mul (x := 7) (y := x) (n := 7) (by decide) (by omega) (by omega)
  have e2 := zi_add (x := 9) (y := 7 * x) (by omega) (by omega)
  have e3 := zi_add (x := 9 + 7 * x) (y := o) (by omega) (by omega)
  omega
theorem t_136 {x o : Int32} {d n : Nat} {g : G} (hd : x.toInt = d) (h8 : d < 8) (ho : o.toInt = n) (hn : n < 7) : d_136 x o g = some (g 114 (9 + 7 * d + n)) := by
  unfold d_136
  have e := zi_idx hd h8 ho hn
  rw [zm_ix_ok (by omega)]
  show some (g 114 ((9 + 7 * x + o).toInt.toNat)) = _
  rw [e, Int.toNat_natCast]
theorem t_142 {x v w : Int32} {n : Nat} {g g1 : G} (hx : x.toInt = n) (e : d_142 x v g = some (w, g1)) : w = g 114 n ∧ g1 = zg_up g 114 n v := by
  unfold d_142 at e
  replace e := zb_bind e
  obtain ⟨k1, h1, e⟩ := e
  replace e := zb_bind e
  obtain ⟨k3, h3, e⟩ := e
  replace e := zb_let e
  obtain ⟨g2, h2, e⟩ := e
  obtain ⟨e1, e2⟩ := zb_r2 e
  have a1 := zm_ix_ko h1
  have a3 := zm_ix_ko h3
  obtain rfl : k1 = n := by omega
  obtain rfl : k3 = k1 := by omega
  exact ⟨e1.symm, by rw [← e2, ← h2]⟩
