/-! frames: which cells a call may change (printed by wip/tools/frame.py) -/
def P1 {α : Type} (t : Option α) (P : α → Prop) : Prop := ∀ a, t = some a → P a
section FRS
variable {α β γ : Type} {P : α → Prop}
theorem P1.nn : P1 (none : Option α) P := fun a h => by cases h
theorem P1.ret {a : α} (h : P a) : P1 (some a) P := fun b hb => by cases hb; exact h
theorem P1.ite {c : Bool} {a b : Option α} (h1 : c = true → P1 a P) (h2 : c = false → P1 b P) : P1 (bif c then a else b) P := by
  cases c with
  | true => exact h1 rfl
  | false => exact h2 rfl
theorem P1.lt {a : β} {f : β → Option α} (K : ∀ v, a = v → P1 (f v) P) : P1 (zb_l a f) P := K a rfl
theorem P1.lc {a : β} {f : β → Option α} {R : β → Prop} (h : T1 a R) (K : ∀ v, a = v → R v → P1 (f v) P) : P1 (zb_l a f) P := K a rfl h
theorem P1.pc {a : β × γ} {f : β → γ → Option α} {R : β × γ → Prop} (h : T1 a R) (K : ∀ v w, a = (v, w) → R (v, w) → P1 (f v w) P) : P1 (zb_p a f) P := K a.1 a.2 rfl h
theorem P1.bs {a : Option β} {f : β → Option α} (K : ∀ v, a = some v → P1 (f v) P) : P1 (Option.bind a f) P := by
  cases h : a with
  | none => exact fun _ q => by cases q
  | some v => exact K v h
theorem P1.bd {a : Option β} {f : β → Option α} {R : β → Prop} (h : P1 a R) (K : ∀ v, a = some v → R v → P1 (f v) P) : P1 (Option.bind a f) P := P1.bs fun v hv => K v hv (h v hv)
theorem P1.bp {a : Option (β × γ)} {f : β → γ → Option α} {R : β × γ → Prop} (h : P1 a R) (K : ∀ v w, a = some (v, w) → R (v, w) → P1 (f v w) P) : P1 (zb_bp a f) P := P1.bs (a := a) (f := fun q => f q.1 q.2) fun v hv => K v.1 v.2 hv (h v hv)
theorem P1.mono {t : Option α} {R : α → Prop} (h : P1 t R) (hq : ∀ a, R a → P a) : P1 t P := fun a ha => hq a (h a ha)
theorem zm_ix_ko {i : Int32} {n k : Nat} (h : zm_ix i n = some k) : (k : Int) = i.toInt ∧ k < n := by
  unfold zm_ix at h
  cases h0 : decide (i < 0) with
  | true => rw [h0] at h; cases h
  | false =>
    rw [h0, cond_false] at h
    cases h1 : Nat.blt i.toNatClampNeg n with
    | false => rw [h1] at h; cases h
    | true =>
      rw [h1, cond_true] at h
      have e := Option.some.inj h
      have h2 : ¬ i < 0 := of_decide_eq_false h0
      have h3 : ¬ i.toInt < 0 := fun q => h2 (Int32.lt_iff_toInt_lt.mpr (by have e : (0 : Int32).toInt = 0 := by decide
                                                                            omega))
      have h4 : i.toNatClampNeg < n := Nat.le_of_ble_eq_true h1
      unfold Int32.toNatClampNeg at e h4
      omega
theorem P1.ix {i : Int32} {n : Nat} {f : Nat → Option α} (K : ∀ k : Nat, (k : Int) = i.toInt → k < n → P1 (f k) P) : P1 (Option.bind (zm_ix i n) f) P := P1.bs fun k hk => K k (zm_ix_ko hk).1 (zm_ix_ko hk).2
theorem P1.gd {c : Bool} {a : Option α} (K : P1 a P) : P1 (bif c then none else a) P := by
  cases c with
  | true => exact P1.nn
  | false => exact K
theorem P1.nd {c : Bool} {a : Option α} (K : P1 a P) : P1 (bif c then a else none) P := by
  cases c with
  | true => exact K
  | false => exact P1.nn
theorem T1.mono {t : α} {R : α → Prop} (h : T1 t R) (hq : ∀ a, R a → P a) : T1 t P := hq t h
theorem S1.and {t : Option α} {R : α → Prop} (h : S1 t P) (h2 : P1 t R) : S1 t (fun a => P a ∧ R a) := by
  obtain ⟨a, ha, hp⟩ := h
  exact ⟨a, ha, hp, h2 a ha⟩
theorem zg_fr {g g1 : G} {R K : Nat} {v : Int32} (h : zg_up g R K v = g1) : ∀ r k, ¬ (r = R ∧ k = K) → g1 r k = g r k := by
  subst h
  intro r k hn
  cases h1 : Nat.beq r R with
  | false => simp [zg_up, h1]
  | true =>
    have e := Nat.eq_of_beq_eq_true h1
    subst e
    cases h2 : Nat.beq k K with
    | false => simp [zg_up, zg_u1, Nat.beq_refl, h2]
    | true => exact absurd ⟨rfl, Nat.eq_of_beq_eq_true h2⟩ hn
end FRS
