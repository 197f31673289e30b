/-! a run that knows less of its locals is one that knows more -/
def zm_lle : LO → LO → Prop
  | [], [] => True
  | none :: a, _ :: b => zm_lle a b
  | some v :: a, w :: b => w = some v ∧ zm_lle a b
  | _, _ => False
theorem zm_lle_refl : ∀ a : LO, zm_lle a a
  | [] => trivial
  | none :: a => zm_lle_refl a
  | some _ :: a => ⟨rfl, zm_lle_refl a⟩
theorem zm_lle_len : ∀ {a b : LO}, zm_lle a b → a.length = b.length
  | [], [], _ => rfl
  | none :: a, _ :: b, h => by have := zm_lle_len (a := a) (b := b) h; simp [this]
  | some _ :: a, _ :: b, h => by have := zm_lle_len h.2; simp [this]
  | [], _ :: _, h => h.elim
  | none :: _, [], h => h.elim
  | some _ :: _, [], h => h.elim
theorem zm_lle_get : ∀ {a b : LO} (i : Nat) {v : Value}, zm_lle a b → zm_lget a i = some v → zm_lget b i = some v
  | [], [], _, _, _, h => h
  | none :: a, _ :: b, 0, v, _, h => by simp [zm_lget] at h
  | none :: a, _ :: b, i + 1, v, hl, h => by
    have := zm_lle_get (a := a) (b := b) i (v := v) hl (by simpa [zm_lget] using h)
    simpa [zm_lget] using this
  | some w :: a, x :: b, 0, v, hl, h => by
    rw [hl.1]
    exact h
  | some w :: a, x :: b, i + 1, v, hl, h => by
    have := zm_lle_get (a := a) (b := b) i (v := v) hl.2 (by simpa [zm_lget] using h)
    simpa [zm_lget] using this
  | [], _ :: _, _, _, hl, _ => hl.elim
  | none :: _, [], _, _, hl, _ => hl.elim
  | some _ :: _, [], _, _, hl, _ => hl.elim
theorem zm_lle_set (w : Value) : ∀ {a b : LO} (i : Nat), zm_lle a b → zm_lle (a.set i (some w)) (b.set i (some w))
  | [], [], _, _ => trivial
  | none :: a, _ :: b, 0, hl => ⟨rfl, hl⟩
  | none :: a, _ :: b, i + 1, hl => zm_lle_set w (a := a) (b := b) i hl
  | some _ :: a, _ :: b, 0, hl => ⟨rfl, hl.2⟩
  | some _ :: a, _ :: b, i + 1, hl => ⟨hl.1, zm_lle_set w i hl.2⟩
  | [], _ :: _, _, hl => hl.elim
  | none :: _, [], _, hl => hl.elim
  | some _ :: _, [], _, hl => hl.elim
theorem zm_lle_setn (w : Option Value) : ∀ {a b : LO} (i : Nat), zm_lle a b → zm_lle (a.set i none) (b.set i w)
  | [], [], _, _ => trivial
  | none :: a, _ :: b, 0, hl => hl
  | none :: a, _ :: b, i + 1, hl => zm_lle_setn w (a := a) (b := b) i hl
  | some _ :: a, _ :: b, 0, hl => hl.2
  | some _ :: a, _ :: b, i + 1, hl => ⟨hl.1, zm_lle_setn w i hl.2⟩
  | [], _ :: _, _, hl => hl.elim
  | none :: _, [], _, hl => hl.elim
  | some _ :: _, [], _, hl => hl.elim
theorem zm_lle_setr (w : Option Value) : ∀ {a b : LO} (i : Nat), zm_lle a b → zm_lget a i = none → zm_lle a (b.set i w)
  | [], [], _, _, _ => trivial
  | none :: a, _ :: b, 0, hl, _ => hl
  | none :: a, _ :: b, i + 1, hl, h => zm_lle_setr w (a := a) (b := b) i hl (by simpa [zm_lget] using h)
  | some v :: a, _ :: b, 0, hl, h => by simp [zm_lget] at h
  | some _ :: a, _ :: b, i + 1, hl, h => ⟨hl.1, zm_lle_setr w i hl.2 (by simpa [zm_lget] using h)⟩
  | [], _ :: _, _, hl, _ => hl.elim
  | none :: _, [], _, hl, _ => hl.elim
  | some _ :: _, [], _, hl, _ => hl.elim
theorem zm_lle_clr {a b : LO} (i : Nat) (hl : zm_lle a b) : zm_lle (zm_clr a i) (zm_clr b i) := by
  cases i with
  | zero => exact hl
  | succ k =>
    show zm_lle (bif zm_wide (zm_lget a k) then a.set k none else a) (bif zm_wide (zm_lget b k) then b.set k none else b)
    cases h1 : zm_lget a k with
    | none =>
      cases h2 : zm_wide (zm_lget b k) with
      | false => exact hl
      | true => exact zm_lle_setr none k hl h1
    | some v =>
      rw [zm_lle_get k hl h1]
      cases zm_wide (some v) with
      | false => exact hl
      | true => exact zm_lle_setn none k hl
theorem zm_lle_put1 {a b : LO} (i : Nat) (v : Value) (hl : zm_lle a b) : zm_lle (zm_put1 a i v) (zm_put1 b i v) := zm_lle_set v i (zm_lle_clr i hl)
theorem zm_lle_put2 {a b : LO} (i : Nat) (v : Value) (hl : zm_lle a b) : zm_lle (zm_put2 a i v) (zm_put2 b i v) := zm_lle_setn none (i + 1) (zm_lle_set v i (zm_lle_clr i hl))
def zm_isl : Instr → Bool
  | .iload_n _ => true
  | .iload _ => true
  | .lload_n _ => true
  | .lload _ => true
  | .aload_n _ => true
  | .aload _ => true
  | .istore_n _ => true
  | .istore _ => true
  | .lstore_n _ => true
  | .lstore _ => true
  | .astore_n _ => true
  | .astore _ => true
  | .iinc _ _ => true
  | _ => false
def zm_rel (lo1 : LO) (q : Option ZS) : Option ZS := match q with
  | some (p, _, s, h) => some (p, lo1, s, h)
  | none => none
theorem zm_rel_if (lo1 : LO) (c : Bool) (x y : Option ZS) : zm_rel lo1 (bif c then x else y) = bif c then zm_rel lo1 x else zm_rel lo1 y := by cases c <;> rfl
set_option maxHeartbeats 8000000 in
/-- an instruction that touches no local passes them on -/
theorem zm_st_nl {sc : Option (List Int32)} {x : XI} {pc : Nat} {lo lo1 : LO} {st : List Value} {h : HP} (hx : zm_isl x.1 = false) : zm_st sc x pc lo1 st h = zm_rel lo1 (zm_st sc x pc lo st h) := by
  obtain ⟨i, n, a, b⟩ := x
  cases i
  all_goals first
    | rfl
    | (cases hx; done)
    | (simp only [zm_st, zm_b, zm_d, zm_lb, zm_ld, zm_u]; (repeat' split) <;> (first | rfl | (simp only [zm_rel_if]; rfl) | simp_all [zm_rel, zm_rel_if]))
theorem zm_st_ll {sc : Option (List Int32)} {x : XI} {pc : Nat} {lo lo1 : LO} {st : List Value} {h : HP} {r : ZS} (hl : zm_lle lo lo1) (hs : zm_st sc x pc lo st h = some r) : ∃ lo2, zm_st sc x pc lo1 st h = some (r.1, lo2, r.2.2.1, r.2.2.2) ∧ zm_lle r.2.1 lo2 := by
  cases hx : zm_isl x.1 with
  | false =>
    obtain ⟨p, lr, s, k⟩ := r
    have h1 := zm_st_nl (sc := sc) (pc := pc) (lo := lo) (lo1 := lo) (st := st) (h := h) hx
    rw [hs] at h1
    have h1 : some (p, lr, s, k) = some (p, lo, s, k) := h1
    cases h1
    refine ⟨lo1, ?_, hl⟩
    rw [zm_st_nl (lo := lo) (lo1 := lo1) hx, hs]
    rfl
  | true =>
    obtain ⟨i, n, a, b⟩ := x
    have li : ∀ {k pc : Nat} {r : ZS}, zm_li lo k pc st h = some r → ∃ lo2, zm_li lo1 k pc st h = some (r.1, lo2, r.2.2.1, r.2.2.2) ∧ zm_lle r.2.1 lo2 := by
      intro k pc r hs
      obtain ⟨v, hv, g⟩ := zm_li_s hs
      cases g
      exact ⟨lo1, by unfold zm_li; rw [zm_lle_get k hl hv], hl⟩
    have ll : ∀ {k pc : Nat} {r : ZS}, zm_ll lo k pc st h = some r → ∃ lo2, zm_ll lo1 k pc st h = some (r.1, lo2, r.2.2.1, r.2.2.2) ∧ zm_lle r.2.1 lo2 := by
      intro k pc r hs
      obtain ⟨v, hv, g⟩ := zm_ll_s hs
      cases g
      exact ⟨lo1, by unfold zm_ll; rw [zm_lle_get k hl hv], hl⟩
    have la : ∀ {k pc : Nat} {r : ZS}, zm_la lo k pc st h = some r → ∃ lo2, zm_la lo1 k pc st h = some (r.1, lo2, r.2.2.1, r.2.2.2) ∧ zm_lle r.2.1 lo2 := by
      intro k pc r hs
      obtain ⟨v, hv, g⟩ := zm_la_s hs
      cases g
      exact ⟨lo1, by unfold zm_la; rw [zm_lle_get k hl hv], hl⟩
    have hlen := zm_lle_len hl
    have si : ∀ {k pc : Nat} {r : ZS}, zm_si lo k pc st h = some r → ∃ lo2, zm_si lo1 k pc st h = some (r.1, lo2, r.2.2.1, r.2.2.2) ∧ zm_lle r.2.1 lo2 := by
      intro k pc r hs
      obtain ⟨v, r0, hst, hk, g⟩ := zm_si_s hs
      cases g
      refine ⟨zm_put1 lo1 k (.int v), ?_, zm_lle_put1 _ _ hl⟩
      rw [hst]
      show (bif Nat.blt k lo1.length then some (pc, zm_put1 lo1 k (.int v), r0, h) else none) = _
      rw [← hlen, show Nat.blt k lo.length = true from Nat.ble_eq_true_of_le hk]
      rfl
    have sl : ∀ {k pc : Nat} {r : ZS}, zm_sl lo k pc st h = some r → ∃ lo2, zm_sl lo1 k pc st h = some (r.1, lo2, r.2.2.1, r.2.2.2) ∧ zm_lle r.2.1 lo2 := by
      intro k pc r hs
      obtain ⟨v, r0, hst, hk, g⟩ := zm_sl_s hs
      cases g
      refine ⟨zm_put2 lo1 k (.long v), ?_, zm_lle_put2 _ _ hl⟩
      rw [hst]
      show (bif Nat.blt (k + 1) lo1.length then some (pc, zm_put2 lo1 k (.long v), r0, h) else none) = _
      rw [← hlen, show Nat.blt (k + 1) lo.length = true from Nat.ble_eq_true_of_le hk]
      rfl
    have sa : ∀ {k pc : Nat} {r : ZS}, zm_sa lo k pc st h = some r → ∃ lo2, zm_sa lo1 k pc st h = some (r.1, lo2, r.2.2.1, r.2.2.2) ∧ zm_lle r.2.1 lo2 := by
      intro k pc r hs
      obtain ⟨v, r0, hst, hk, g⟩ := zm_sa_s hs
      cases g
      refine ⟨zm_put1 lo1 k (.ref v), ?_, zm_lle_put1 _ _ hl⟩
      rw [hst]
      show (bif Nat.blt k lo1.length then some (pc, zm_put1 lo1 k (.ref v), r0, h) else none) = _
      rw [← hlen, show Nat.blt k lo.length = true from Nat.ble_eq_true_of_le hk]
      rfl
    cases i with
    | iload_n k => exact li hs
    | iload k => exact li hs
    | lload_n k => exact ll hs
    | lload k => exact ll hs
    | aload_n k => exact la hs
    | aload k => exact la hs
    | istore_n k => exact si hs
    | istore k => exact si hs
    | lstore_n k => exact sl hs
    | lstore k => exact sl hs
    | astore_n k => exact sa hs
    | astore k => exact sa hs
    | iinc k w =>
      have hs : (match zm_lget lo k with
        | some (.int v) => some (pc + 3, zm_put1 lo k (.int (v + Int32.ofInt w)), st, h)
        | _ => none) = some r := hs
      split at hs
      · next v hv =>
        cases hs
        refine ⟨zm_put1 lo1 k (.int (v + Int32.ofInt w)), ?_, zm_lle_put1 _ _ hl⟩
        show (match zm_lget lo1 k with
          | some (.int v) => some (pc + 3, zm_put1 lo1 k (.int (v + Int32.ofInt w)), st, h)
          | _ => none) = _
        rw [zm_lle_get k hl hv]
      · cases hs
    | _ => cases hx
theorem zm_run_ll {sc : Option (List Int32)} (f d j pc : Nat) (lo lo1 : LO) (st : List Value) (h : HP) (r : Nat × List Value × HP) (hl : zm_lle lo lo1) (hr : zm_run sc f d j pc lo st h = some r) : zm_run sc f d j pc lo1 st h = some r := by
  induction f generalizing d j pc lo lo1 st h r with
  | zero => cases hr
  | succ f ih =>
    rw [zm_run_eq] at hr ⊢
    unfold zm_one at hr ⊢
    cases hx : zm_at j pc with
    | none => rw [hx] at hr; cases hr
    | some x =>
      rw [hx] at hr
      have hr : (match (generalizing := false) zm_kd x.1 with
        | 0 => (match zm_st sc x pc lo st h with
          | none => none
          | some (pc1, lo1, st1, h1) => zm_run sc f d j pc1 lo1 st1 h1)
        | 1 => bif Nat.ble x.2.2.2 st.length && Nat.ble (zm_cat (st.drop x.2.2.2)) 8 && zm_rok h x (st.take x.2.2.2).reverse then (match (generalizing := false) d with
          | 0 => none
          | d1 + 1 => bif Nat.beq x.2.2.1 0 then zm_run sc f (d1 + 1) j (pc + 3) lo (st.drop x.2.2.2) h else
            bif Nat.ble (zm_sl2 (st.take x.2.2.2).reverse).length (z_L x.2.2.1) then
            (match zm_run sc f d1 x.2.2.1 0 (zm_ent (z_L x.2.2.1) (st.take x.2.2.2).reverse) [] h with
            | none => none
            | some (_, st1, h1) => zm_run sc f (d1 + 1) j (pc + 3) lo (st1 ++ st.drop x.2.2.2) h1) else none) else none
        | _ => bif zm_ret (z_R j) x.1 st then some (pc, st, h) else none) = some r := hr
      show (match (generalizing := false) zm_kd x.1 with
        | 0 => (match zm_st sc x pc lo1 st h with
          | none => none
          | some (pc1, lo1, st1, h1) => zm_run sc f d j pc1 lo1 st1 h1)
        | 1 => bif Nat.ble x.2.2.2 st.length && Nat.ble (zm_cat (st.drop x.2.2.2)) 8 && zm_rok h x (st.take x.2.2.2).reverse then (match (generalizing := false) d with
          | 0 => none
          | d1 + 1 => bif Nat.beq x.2.2.1 0 then zm_run sc f (d1 + 1) j (pc + 3) lo1 (st.drop x.2.2.2) h else
            bif Nat.ble (zm_sl2 (st.take x.2.2.2).reverse).length (z_L x.2.2.1) then
            (match zm_run sc f d1 x.2.2.1 0 (zm_ent (z_L x.2.2.1) (st.take x.2.2.2).reverse) [] h with
            | none => none
            | some (_, st1, h1) => zm_run sc f (d1 + 1) j (pc + 3) lo1 (st1 ++ st.drop x.2.2.2) h1) else none) else none
        | _ => bif zm_ret (z_R j) x.1 st then some (pc, st, h) else none) = some r
      generalize zm_kd x.1 = kk at hr ⊢
      match kk, hr with
      | 0, hr =>
        have hr : (match zm_st sc x pc lo st h with
          | none => none
          | some (pc1, lo1, st1, h1) => zm_run sc f d j pc1 lo1 st1 h1) = some r := hr
        cases hs : zm_st sc x pc lo st h with
        | none => rw [hs] at hr; cases hr
        | some q =>
          rw [hs] at hr
          obtain ⟨pc1, lo2, st1, h1⟩ := q
          obtain ⟨lo3, hs3, hl3⟩ := zm_st_ll hl hs
          show (match zm_st sc x pc lo1 st h with
            | none => none
            | some (pc1, lo1, st1, h1) => zm_run sc f d j pc1 lo1 st1 h1) = some r
          rw [hs3]
          exact ih _ _ _ _ _ _ _ _ hl3 hr
      | 1, hr =>
        obtain ⟨g0, g1⟩ := zm_if hr
        show (bif _ then _ else none) = some r
        rw [g0, cond_true]
        cases d with
        | zero => exact absurd (show (none : Option (Nat × List Value × HP)) = some r from g1) (by simp)
        | succ d1 =>
          have g1 : (bif Nat.beq x.2.2.1 0 then zm_run sc f (d1 + 1) j (pc + 3) lo (st.drop x.2.2.2) h else
            bif Nat.ble (zm_sl2 (st.take x.2.2.2).reverse).length (z_L x.2.2.1) then
            (match zm_run sc f d1 x.2.2.1 0 (zm_ent (z_L x.2.2.1) (st.take x.2.2.2).reverse) [] h with
            | none => none
            | some (_, st1, h1) => zm_run sc f (d1 + 1) j (pc + 3) lo (st1 ++ st.drop x.2.2.2) h1) else none) = some r := g1
          show (bif Nat.beq x.2.2.1 0 then zm_run sc f (d1 + 1) j (pc + 3) lo1 (st.drop x.2.2.2) h else
            bif Nat.ble (zm_sl2 (st.take x.2.2.2).reverse).length (z_L x.2.2.1) then
            (match zm_run sc f d1 x.2.2.1 0 (zm_ent (z_L x.2.2.1) (st.take x.2.2.2).reverse) [] h with
            | none => none
            | some (_, st1, h1) => zm_run sc f (d1 + 1) j (pc + 3) lo1 (st1 ++ st.drop x.2.2.2) h1) else none) = some r
          cases hb : Nat.beq x.2.2.1 0 with
          | true =>
            rw [hb, cond_true] at g1
            rw [cond_true]
            exact ih _ _ _ _ _ _ _ _ hl g1
          | false =>
            rw [hb, cond_false] at g1
            rw [cond_false]
            obtain ⟨g2, g3⟩ := zm_if g1
            rw [g2, cond_true]
            cases hs : zm_run sc f d1 x.2.2.1 0 (zm_ent (z_L x.2.2.1) (st.take x.2.2.2).reverse) [] h with
            | none => rw [hs] at g3; cases g3
            | some q =>
              rw [hs] at g3
              obtain ⟨pcR, st1, h1⟩ := q
              exact ih _ _ _ _ _ _ _ _ hl g3
      | k + 2, hr => exact hr
/-- what is not looked at again may be forgotten -/
theorem Wp.fg {sc : Option (List Int32)} {d j pc : Nat} {lo : LO} {st : List Value} {h : HP} {Q : Nat × List Value × HP → Prop} (lo1 : LO) (hl : zm_lle lo1 lo) (K : Wp sc d j pc lo1 st h Q) : Wp sc d j pc lo st h Q := by
  obtain ⟨f, r, h1, h2⟩ := K
  exact ⟨f, r, zm_run_ll _ _ _ _ _ _ _ _ _ hl h1, h2⟩
theorem zm_lle_0 : zm_lle [] [] := trivial
theorem zm_lle_n {x : Option Value} {a b : LO} (h : zm_lle a b) : zm_lle (none :: a) (x :: b) := h
theorem zm_lle_s {v : Value} {a b : LO} (h : zm_lle a b) : zm_lle (some v :: a) (some v :: b) := ⟨rfl, h⟩
