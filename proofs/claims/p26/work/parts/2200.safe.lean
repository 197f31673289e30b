/-! safety on the pure level: a run that ends, with what holds of its end -/
def S1 {α : Type} (t : Option α) (P : α → Prop) : Prop := ∃ a, t = some a ∧ P a
def T1 {α : Type} (t : α) (P : α → Prop) : Prop := P t
section SF
variable {α β γ : Type} {P : α → Prop}
theorem S1.ret {a : α} (h : P a) : S1 (some a) P := ⟨a, rfl, h⟩
theorem T1.ret {a : α} (h : P a) : T1 a P := h
theorem S1.ite {c : Bool} {a b : Option α} (h1 : c = true → S1 a P) (h2 : c = false → S1 b P) : S1 (bif c then a else b) P := by
  cases c with
  | true => exact h1 rfl
  | false => exact h2 rfl
theorem T1.ite {c : Bool} {a b : α} (h1 : c = true → T1 a P) (h2 : c = false → T1 b P) : T1 (bif c then a else b) P := by
  cases c with
  | true => exact h1 rfl
  | false => exact h2 rfl
theorem S1.lt {a : β} {f : β → Option α} (K : ∀ v, a = v → S1 (f v) P) : S1 (zb_l a f) P := K a rfl
theorem T1.lt {a : β} {f : β → α} (K : ∀ v, a = v → T1 (f v) P) : T1 (zb_l a f) P := K a rfl
theorem S1.lc {a : β} {f : β → Option α} {R : β → Prop} (h : T1 a R) (K : ∀ v, a = v → R v → S1 (f v) P) : S1 (zb_l a f) P := K a rfl h
theorem T1.lc {a : β} {f : β → α} {R : β → Prop} (h : T1 a R) (K : ∀ v, a = v → R v → T1 (f v) P) : T1 (zb_l a f) P := K a rfl h
theorem S1.pc {a : β × γ} {f : β → γ → Option α} {R : β × γ → Prop} (h : T1 a R) (K : ∀ v w, a = (v, w) → R (v, w) → S1 (f v w) P) : S1 (zb_p a f) P := K a.1 a.2 rfl h
theorem T1.pc {a : β × γ} {f : β → γ → α} {R : β × γ → Prop} (h : T1 a R) (K : ∀ v w, a = (v, w) → R (v, w) → T1 (f v w) P) : T1 (zb_p a f) P := K a.1 a.2 rfl h
theorem S1.bd {a : Option β} {f : β → Option α} {R : β → Prop} (h : S1 a R) (K : ∀ v, a = some v → R v → S1 (f v) P) : S1 (Option.bind a f) P := by
  obtain ⟨v, h1, h2⟩ := h
  have := K v h1 h2
  rw [h1]
  exact this
theorem S1.bp {a : Option (β × γ)} {f : β → γ → Option α} {R : β × γ → Prop} (h : S1 a R) (K : ∀ v w, a = some (v, w) → R (v, w) → S1 (f v w) P) : S1 (zb_bp a f) P := by
  obtain ⟨⟨v, w⟩, h1, h2⟩ := h
  have := K v w h1 h2
  rw [h1]
  exact this
theorem S1.mono {t : Option α} {R : α → Prop} (h : S1 t R) (hq : ∀ a, R a → P a) : S1 t P := by
  obtain ⟨a, h1, h2⟩ := h
  exact ⟨a, h1, hq a h2⟩
theorem zm_ix_ok {i : Int32} {n : Nat} (h : 0 ≤ i.toInt ∧ i.toInt < n) : zm_ix i n = some i.toInt.toNat := by
  have h0 : ¬ i < 0 := fun q => by
    have := Int32.lt_iff_toInt_lt.mp q
    have e : (0 : Int32).toInt = 0 := by decide
    omega
  unfold zm_ix
  rw [decide_eq_false h0, cond_false]
  have : Nat.blt i.toNatClampNeg n = true := Nat.ble_eq_true_of_le (by show i.toNatClampNeg + 1 ≤ n; unfold Int32.toNatClampNeg; omega)
  rw [this]
  rfl
theorem S1.ix {i : Int32} {n : Nat} {f : Nat → Option α} (h : 0 ≤ i.toInt ∧ i.toInt < n) (K : ∀ k : Nat, zm_ix i n = some k → (k : Int) = i.toInt → S1 (f k) P) : S1 (Option.bind (zm_ix i n) f) P := by
  have e := zm_ix_ok h
  have := K _ e (by omega)
  rw [e]
  exact this
theorem S1.gd {y : Int32} {a : Option α} (h : y.toInt ≠ 0) (K : S1 a P) : S1 (bif y == 0 then none else a) P := by
  have : (y == 0) = false := by
    cases hq : y == 0 with
    | false => rfl
    | true => have : y = 0 := by simpa using hq
              subst this
              exact absurd (by decide) h
  rw [this]
  exact K
theorem S1.gl {y : Int64} {a : Option α} (h : y.toInt ≠ 0) (K : S1 a P) : S1 (bif y == 0 then none else a) P := by
  have : (y == 0) = false := by
    cases hq : y == 0 with
    | false => rfl
    | true => have : y = 0 := by simpa using hq
              subst this
              exact absurd (by decide) h
  rw [this]
  exact K
theorem S1.nd {v : Int32} {a : Option α} (h : 0 ≤ v.toInt ∧ v.toInt ≤ 1) (K : S1 a P) : S1 (bif v == 0 || v == 1 then a else none) P := by
  have : (v == 0 || v == 1) = true := by
    have e0 : (0 : Int32).toInt = 0 := by decide
    have e1 : (1 : Int32).toInt = 1 := by decide
    rcases (show v.toInt = 0 ∨ v.toInt = 1 by omega) with q | q
    · have : v = 0 := Int32.toInt_inj.mp (by omega)
      subst this
      rfl
    · have : v = 1 := Int32.toInt_inj.mp (by omega)
      subst this
      rfl
  rw [this]
  exact K
end SF
/-! numbers -/
section ZC
variable {x y : Int32}
theorem zc_eqT (h : zm_cmp .eq x y = true) : x.toInt = y.toInt := by rw [of_decide_eq_true h]
theorem zc_eqF (h : zm_cmp .eq x y = false) : x.toInt ≠ y.toInt := fun q => of_decide_eq_false h (Int32.toInt_inj.mp q)
theorem zc_neT (h : zm_cmp .ne x y = true) : x.toInt ≠ y.toInt := fun q => of_decide_eq_true h (Int32.toInt_inj.mp q)
theorem zc_neF (h : zm_cmp .ne x y = false) : x.toInt = y.toInt := by
  have := of_decide_eq_false h
  rw [Decidable.not_not.mp this]
theorem zc_ltT (h : zm_cmp .lt x y = true) : x.toInt < y.toInt := Int32.lt_iff_toInt_lt.mp (of_decide_eq_true h)
theorem zc_ltF (h : zm_cmp .lt x y = false) : y.toInt ≤ x.toInt := by
  have := of_decide_eq_false h
  exact Int.not_lt.mp (fun q => this (Int32.lt_iff_toInt_lt.mpr q))
theorem zc_geT (h : zm_cmp .ge x y = true) : y.toInt ≤ x.toInt := Int32.le_iff_toInt_le.mp (of_decide_eq_true h)
theorem zc_geF (h : zm_cmp .ge x y = false) : x.toInt < y.toInt := by
  have := of_decide_eq_false h
  exact Int.not_le.mp (fun q => this (Int32.le_iff_toInt_le.mpr q))
theorem zc_gtT (h : zm_cmp .gt x y = true) : y.toInt < x.toInt := Int32.lt_iff_toInt_lt.mp (of_decide_eq_true h)
theorem zc_gtF (h : zm_cmp .gt x y = false) : x.toInt ≤ y.toInt := by
  have := of_decide_eq_false h
  exact Int.not_lt.mp (fun q => this (Int32.lt_iff_toInt_lt.mpr q))
theorem zc_leT (h : zm_cmp .le x y = true) : x.toInt ≤ y.toInt := Int32.le_iff_toInt_le.mp (of_decide_eq_true h)
theorem zc_leF (h : zm_cmp .le x y = false) : y.toInt < x.toInt := by
  have := of_decide_eq_false h
  exact Int.not_le.mp (fun q => this (Int32.le_iff_toInt_le.mpr q))
theorem zc_bT (h : (x == y) = true) : x.toInt = y.toInt := by
  have : x = y := by simpa using h
  rw [this]
theorem zc_bF (h : (x == y) = false) : x.toInt ≠ y.toInt := fun q => by
  rw [Int32.toInt_inj.mp q] at h
  simp at h
theorem zi_rng (x : Int32) : -2147483648 ≤ x.toInt ∧ x.toInt ≤ 2147483647 := ⟨Int32.le_toInt x, by have := Int32.toInt_lt x; omega⟩
theorem zi_bm {n : Int} (h1 : -2147483648 ≤ n) (h2 : n ≤ 2147483647) : n.bmod (2 ^ 32) = n := by
  rw [Int.bmod_def]
  omega
theorem zi_add (h1 : -2147483648 ≤ x.toInt + y.toInt) (h2 : x.toInt + y.toInt ≤ 2147483647) : (x + y).toInt = x.toInt + y.toInt := by
  rw [Int32.toInt_add, zi_bm h1 h2]
theorem zi_sub (h1 : -2147483648 ≤ x.toInt - y.toInt) (h2 : x.toInt - y.toInt ≤ 2147483647) : (x - y).toInt = x.toInt - y.toInt := by
  rw [Int32.toInt_sub, zi_bm h1 h2]
theorem zi_mul {n : Int} (hn : x.toInt = n) (h1 : -2147483648 ≤ n * y.toInt) (h2 : n * y.toInt ≤ 2147483647) : (x * y).toInt = n * y.toInt := by
  rw [Int32.toInt_mul, hn, zi_bm h1 h2]
theorem zi_mulr {n : Int} (hn : y.toInt = n) (h1 : -2147483648 ≤ n * x.toInt) (h2 : n * x.toInt ≤ 2147483647) : (x * y).toInt = n * x.toInt := by
  rw [Int32.mul_comm]
  exact zi_mul hn h1 h2
theorem zi_i64 (x : Int32) : (Int32.toInt64 x).toInt = x.toInt := Int32.toInt_toInt64 x
theorem zi_b (b : Bool) : 0 ≤ (zb_i b).toInt ∧ (zb_i b).toInt ≤ 1 := by cases b <;> decide
theorem zi_nat {x : Int32} {n : Nat} (h : x.toInt = n) : x = Int32.ofNat n := by
  apply Int32.toInt_inj.mp
  have := zi_rng x
  rw [Int32.toInt_ofNat_of_lt (by omega)]
  exact h
theorem zi_and (h : 0 ≤ y.toInt) : 0 ≤ (x &&& y).toInt ∧ (x &&& y).toInt ≤ y.toInt := by
  have e : ∀ z : Int32, z.toInt = if 2 * z.toBitVec.toNat < 2 ^ 32 then (z.toBitVec.toNat : Int) else (z.toBitVec.toNat : Int) - (2 ^ 32 : Nat) := fun z => BitVec.toInt_eq_toNat_cond z.toBitVec
  have ha : (x &&& y).toBitVec.toNat ≤ y.toBitVec.toNat := by
    rw [Int32.toBitVec_and, BitVec.toNat_and]
    exact Nat.and_le_right
  have hl := y.toBitVec.isLt
  rw [e y] at h ⊢
  rw [e (x &&& y)]
  split at h
  · rw [if_pos (by omega)]
    rw [if_pos (by omega)]
    omega
  · omega
theorem zi_shl1 (h : 0 ≤ x.toInt ∧ x.toInt ≤ 8) : 1 ≤ ((1 : Int32) <<< (x &&& 31)).toInt ∧ ((1 : Int32) <<< (x &&& 31)).toInt ≤ 256 := by
  obtain ⟨n, hn⟩ : ∃ n : Nat, x.toInt = n := ⟨x.toInt.toNat, by omega⟩
  have e := zi_nat hn
  subst e
  have hn : n ≤ 8 := by omega
  match n, hn with
  | 0, _ => decide
  | 1, _ => decide
  | 2, _ => decide
  | 3, _ => decide
  | 4, _ => decide
  | 5, _ => decide
  | 6, _ => decide
  | 7, _ => decide
  | 8, _ => decide
  | n + 9, h => omega
theorem zi_rem (h1 : 0 ≤ x.toInt) (h2 : 0 < y.toInt) : 0 ≤ (x - x / y * y).toInt ∧ (x - x / y * y).toInt < y.toInt := by
  have hx := zi_rng x
  have hy := zi_rng y
  have g1 : 0 ≤ x.toInt / y.toInt := Int.ediv_nonneg h1 (by omega)
  have g2 : x.toInt / y.toInt ≤ x.toInt := Int.ediv_le_self _ h1
  have hq : (x / y).toInt = x.toInt / y.toInt := by
    rw [Int32.toInt_div, Int.tdiv_eq_ediv_of_nonneg h1]
    exact zi_bm (by omega) (by omega)
  have h3 : x.toInt / y.toInt * y.toInt ≤ x.toInt := Int.ediv_mul_le _ (by omega)
  have h4 : 0 ≤ x.toInt / y.toInt * y.toInt := Int.mul_nonneg g1 (by omega)
  have hm : (x / y * y).toInt = x.toInt / y.toInt * y.toInt := by
    rw [Int32.toInt_mul, hq]
    exact zi_bm (by omega) (by omega)
  have hs : (x - x / y * y).toInt = x.toInt - x.toInt / y.toInt * y.toInt := by
    rw [Int32.toInt_sub, hm]
    exact zi_bm (by omega) (by omega)
  have e : x.toInt - x.toInt / y.toInt * y.toInt = x.toInt % y.toInt := by rw [Int.emod_def, Int.mul_comm]
  rw [hs, e]
  exact ⟨Int.emod_nonneg _ (by omega), Int.emod_lt_of_pos _ h2⟩
end ZC
theorem zin_c {a b c : Int64} : T1 (d_107 a b c) (fun r => (r = true → b.toInt ≤ a.toInt ∧ a.toInt ≤ c.toInt) ∧ (r = false → a.toInt < b.toInt ∨ c.toInt < a.toInt)) := by
  unfold d_107
  have k1 := zl_cmp (x := a) (y := b)
  have k2 := zl_cmp (x := a) (y := c)
  have e1 : (-1 : Int32).toInt = -1 := by decide
  have e2 : (1 : Int32).toInt = 1 := by decide
  have e3 : (0 : Int32).toInt = 0 := by decide
  refine T1.ite (fun hc => ?_) (fun hc => ?_)
  · have c1 := zc_ltT hc
    refine T1.ret ⟨(fun q => by cases q), fun _ => Or.inl ?_⟩
    rcases Int.lt_trichotomy a.toInt b.toInt with q | q | q
    · exact q
    · rw [k1.2.2 q] at c1; omega
    · rw [k1.2.1 q] at c1; omega
  · have c1 := zc_ltF hc
    have n1 : b.toInt ≤ a.toInt := by
      rcases Int.lt_trichotomy a.toInt b.toInt with q | q | q
      · rw [k1.1 q] at c1; omega
      · omega
      · omega
    refine T1.ite (fun hc => ?_) (fun hc => ?_)
    · have c2 := zc_gtT hc
      refine T1.ret ⟨(fun q => by cases q), fun _ => Or.inr ?_⟩
      rcases Int.lt_trichotomy a.toInt c.toInt with q | q | q
      · rw [k2.1 q] at c2; omega
      · rw [k2.2.2 q] at c2; omega
      · exact q
    · have c2 := zc_gtF hc
      refine T1.ret ⟨fun _ => ⟨n1, ?_⟩, fun q => by cases q⟩
      rcases Int.lt_trichotomy a.toInt c.toInt with q | q | q
      · omega
      · omega
      · rw [k2.2.1 q] at c2; omega
