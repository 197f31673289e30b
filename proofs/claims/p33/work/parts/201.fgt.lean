/-! a run that knows less of its locals is one that knows more -/
def zm_lle : LO → LO → Prop
  | [], [] => True
  | none :: a, _ :: b => zm_lle a b
  | some v :: a, w :: b => w = some v ∧ zm_lle a b
  | _, _ => False
theorem zm_lle_refl : ∀ a : LO, zm_lle a a
  | [] => trivial
  | none :: a => zm_lle_refl a
  | some _ :: a => ⟨rfl, zm_lle_refl a⟩
theorem zm_lle_len : ∀ {a b : LO}, zm_lle a b → a.length = b.length
  | [], [], _ => rfl
  | none :: a, _ :: b, h => by have := zm_lle_len (a := a) (b := b) h; simp [this]
  | some _ :: a, _ :: b, h => by have := zm_lle_len h.2; simp [this]
  | [], _ :: _, h => h.elim
  | none :: _, [], h => h.elim
  | some _ :: _, [], h => h.elim
theorem zm_lle_get : ∀ {a b : LO} (i : Nat) {v : Value}, zm_lle a b → zm_lget a i = some v → zm_lget b i = some v
  | [], [], _, _, _, h => h
  | none :: a, _ :: b, 0, v, _, h => by simp [zm_lget] at h
  | none :: a, _ :: b, i + 1, v, hl, h => by
    have := zm_lle_get (a := a) (b := b) i (v := v) hl (by simpa [zm_lget] using h)
    simpa [zm_lget] using this
  | some w :: a, x :: b, 0, v, hl, h => by
    rw [hl.1]
    exact h
  | some w :: a, x :: b, i + 1, v, hl, h => by
    have := zm_lle_get (a := a) (b := b) i (v := v) hl.2 (by simpa [zm_lget] using h)
    simpa [zm_lget] using this
  | [], _ :: _, _, _, hl, _ => hl.elim
  | none :: _, [], _, _, hl, _ => hl.elim
  | some _ :: _, [], _, _, hl, _ => hl.elim
theorem zm_lle_set (w : Value) : ∀ {a b : LO} (i : Nat), zm_lle a b → zm_lle (a.set i (some w)) (b.set i (some w))
  | [], [], _, _ => trivial
  | none :: a, _ :: b, 0, hl => ⟨rfl, hl⟩
  | none :: a, _ :: b, i + 1, hl => zm_lle_set w (a := a) (b := b) i hl
  | some _ :: a, _ :: b, 0, hl => ⟨rfl, hl.2⟩
  | some _ :: a, _ :: b, i + 1, hl => ⟨hl.1, zm_lle_set w i hl.2⟩
  | [], _ :: _, _, hl => hl.elim
  | none :: _, [], _, hl => hl.elim
  | some _ :: _, [], _, hl => hl.elim
theorem zm_lle_setn (w : Option Value) : ∀ {a b : LO} (i : Nat), zm_lle a b → zm_lle (a.set i none) (b.set i w)
  | [], [], _, _ => trivial
  | none :: a, _ :: b, 0, hl => hl
  | none :: a, _ :: b, i + 1, hl => zm_lle_setn w (a := a) (b := b) i hl
  | some _ :: a, _ :: b, 0, hl => hl.2
  | some _ :: a, _ :: b, i + 1, hl => ⟨hl.1, zm_lle_setn w i hl.2⟩
  | [], _ :: _, _, hl => hl.elim
  | none :: _, [], _, hl => hl.elim
  | some _ :: _, [], _, hl => hl.elim
theorem zm_lle_setr (w : Option Value) : ∀ {a b : LO} (i : Nat), zm_lle a b → zm_lget a i = none → zm_lle a (b.set i w)
  | [], [], _, _, _ => trivial
  | none :: a, _ :: b, 0, hl, _ => hl
  | none :: a, _ :: b, i + 1, hl, h => zm_lle_setr w (a := a) (b := b) i hl (by simpa [zm_lget] using h)
  | some v :: a, _ :: b, 0, hl, h => by simp [zm_lget] at h
  | some _ :: a, _ :: b, i + 1, hl, h => ⟨hl.1, zm_lle_setr w i hl.2 (by simpa [zm_lget] using h)⟩
  | [], _ :: _, _, hl, _ => hl.elim
  | none :: _, [], _, hl, _ => hl.elim
  | some _ :: _, [], _, hl, _ => hl.elim
theorem zm_lle_clr {a b : LO} (i : Nat) (hl : zm_lle a b) : zm_lle (zm_clr a i) (zm_clr b i) := by
  cases i with
  | zero => exact hl
  | succ k =>
    show zm_lle (bif zm_wide (zm_lget a k) then a.set k none else a) (bif zm_wide (zm_lget b k) then b.set k none else b)
    cases h1 : zm_lget a k with
    | none =>
      cases h2 : zm_wide (zm_lget b k) with
      | false => exact hl
      | true => exact zm_lle_setr none k hl h1
    | some v =>
      rw [zm_lle_get k hl h1]
      cases zm_wide (some v) with
      | false => exact hl
      | true => exact zm_lle_setn none k hl
theorem zm_lle_put1 {a b : LO} (i : Nat) (v : Value) (hl : zm_lle a b) : zm_lle (zm_put1 a i v) (zm_put1 b i v) := zm_lle_set v i (zm_lle_clr i hl)
theorem zm_lle_put2 {a b : LO} (i : Nat) (v : Value) (hl : zm_lle a b) : zm_lle (zm_put2 a i v) (zm_put2 b i v) := zm_lle_setn none (i + 1) (zm_lle_set v i (zm_lle_clr i hl))
def zm_isl : Instr → Bool
  | .iload_n _ => true
  | .iload _ => true
  | .lload_n _ => true
  | .lload _ => true
  | .aload_n _ => true
  | .aload _ => true
  | .istore_n _ => true
  | .istore _ => true
  | .lstore_n _ => true
  | .lstore _ => true
  | .astore_n _ => true
  | .astore _ => true
  | .iinc _ _ => true
  | _ => false
def zm_rel (lo1 : LO) (q : Option ZS) : Option ZS := match q with
  | some (p, _, s, h) => some (p, lo1, s, h)
  | none => none
theorem zm_rel_if (lo1 : LO) (c : Bool) (x y : Option ZS) : zm_rel lo1 (bif c then x else y) = bif c then zm_rel lo1 x else zm_rel lo1 y := by cases c <;> rfl
set_option maxHeartbeats 8000000 in
/-- an instruction that touches no local passes them on -/
theorem zm_st_nl {sc : Option (List Int32)} {x : XI} {pc : Nat} {lo lo1 : LO} {st : List Value} {h : HP} (hx : zm_isl x.1 = false) : zm_st sc x pc lo1 st h = zm_rel lo1 (zm_st sc x pc lo st h) := by
  obtain ⟨i, n, a, b⟩ := x
  cases i
  all_goals first
    | rfl
    | (cases hx; done)
    | (simp only [zm_st, zm_b, zm_d, zm_lb, zm_ld, zm_u]; (repeat' split) <;> (first | rfl | (simp only [zm_rel_if]; rfl) | simp_all [zm_rel, zm_rel_if]))
