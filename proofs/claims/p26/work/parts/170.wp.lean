/-! runs of the small machine, goal first -/
def zm_steps (sc : Option (List Int32)) : Nat → Nat → Nat → LO → List Value → HP → Option ZS
  | 0, _, pc, lo, st, h => some (pc, lo, st, h)
  | n + 1, j, pc, lo, st, h => match zm_at j pc with
    | none => none
    | some x => bif Nat.beq (zm_kd x.1) 0 then (match zm_st sc x pc lo st h with
      | none => none
      | some (pc1, lo1, st1, h1) => zm_steps sc n j pc1 lo1 st1 h1) else none
def Wp (sc : Option (List Int32)) (d j pc : Nat) (lo : LO) (st : List Value) (h : HP) (Q : Nat × List Value × HP → Prop) : Prop := ∃ f r, zm_run sc f d j pc lo st h = some r ∧ Q r
/-- the body of a run, over what is run behind -/
def zm_one (sc : Option (List Int32)) (rn : Nat → Nat → Nat → LO → List Value → HP → Option (Nat × List Value × HP)) (d j pc : Nat) (lo : LO) (st : List Value) (h : HP) : Option (Nat × List Value × HP) := match zm_at j pc with
    | none => none
    | some x => match zm_kd x.1 with
      | 0 => (match zm_st sc x pc lo st h with
        | none => none
        | some (pc1, lo1, st1, h1) => rn d j pc1 lo1 st1 h1)
      | 1 => bif Nat.ble x.2.2.2 st.length && Nat.ble (zm_cat (st.drop x.2.2.2)) 8 && zm_rok h x (st.take x.2.2.2).reverse then (match d with
        | 0 => none
        | d1 + 1 => bif Nat.beq x.2.2.1 0 then rn (d1 + 1) j (pc + 3) lo (st.drop x.2.2.2) h else
          bif Nat.ble (zm_sl2 (st.take x.2.2.2).reverse).length (z_L x.2.2.1) then
          (match rn d1 x.2.2.1 0 (zm_ent (z_L x.2.2.1) (st.take x.2.2.2).reverse) [] h with
          | none => none
          | some (_, st1, h1) => rn (d1 + 1) j (pc + 3) lo (st1 ++ st.drop x.2.2.2) h1) else none) else none
      | _ => bif zm_ret (z_R j) x.1 st then some (pc, st, h) else none
theorem zm_run_eq (sc : Option (List Int32)) (f d j pc : Nat) (lo : LO) (st : List Value) (h : HP) : zm_run sc (f + 1) d j pc lo st h = zm_one sc (zm_run sc f) d j pc lo st h := rfl
theorem zm_one_mono {sc sc' : Option (List Int32)} {rn rn' : Nat → Nat → Nat → LO → List Value → HP → Option (Nat × List Value × HP)} (hst : ∀ x pc lo st h r, zm_st sc x pc lo st h = some r → zm_st sc' x pc lo st h = some r) (hrn : ∀ d j pc lo st h r, rn d j pc lo st h = some r → rn' d j pc lo st h = some r)
    {d j pc : Nat} {lo : LO} {st : List Value} {h : HP} {r : Nat × List Value × HP} (hr : zm_one sc rn d j pc lo st h = some r) : zm_one sc' rn' d j pc lo st h = some r := by
  unfold zm_one at hr ⊢
  cases hx : zm_at j pc with
  | none => rw [hx] at hr; cases hr
  | some x =>
    rw [hx] at hr
    have hr : (match (generalizing := false) zm_kd x.1 with
      | 0 => (match zm_st sc x pc lo st h with
        | none => none
        | some (pc1, lo1, st1, h1) => rn d j pc1 lo1 st1 h1)
      | 1 => bif Nat.ble x.2.2.2 st.length && Nat.ble (zm_cat (st.drop x.2.2.2)) 8 && zm_rok h x (st.take x.2.2.2).reverse then (match (generalizing := false) d with
        | 0 => none
        | d1 + 1 => bif Nat.beq x.2.2.1 0 then rn (d1 + 1) j (pc + 3) lo (st.drop x.2.2.2) h else
          bif Nat.ble (zm_sl2 (st.take x.2.2.2).reverse).length (z_L x.2.2.1) then
          (match rn d1 x.2.2.1 0 (zm_ent (z_L x.2.2.1) (st.take x.2.2.2).reverse) [] h with
          | none => none
          | some (_, st1, h1) => rn (d1 + 1) j (pc + 3) lo (st1 ++ st.drop x.2.2.2) h1) else none) else none
      | _ => bif zm_ret (z_R j) x.1 st then some (pc, st, h) else none) = some r := hr
    show (match (generalizing := false) zm_kd x.1 with
      | 0 => (match zm_st sc' x pc lo st h with
        | none => none
        | some (pc1, lo1, st1, h1) => rn' d j pc1 lo1 st1 h1)
      | 1 => bif Nat.ble x.2.2.2 st.length && Nat.ble (zm_cat (st.drop x.2.2.2)) 8 && zm_rok h x (st.take x.2.2.2).reverse then (match (generalizing := false) d with
        | 0 => none
        | d1 + 1 => bif Nat.beq x.2.2.1 0 then rn' (d1 + 1) j (pc + 3) lo (st.drop x.2.2.2) h else
          bif Nat.ble (zm_sl2 (st.take x.2.2.2).reverse).length (z_L x.2.2.1) then
          (match rn' d1 x.2.2.1 0 (zm_ent (z_L x.2.2.1) (st.take x.2.2.2).reverse) [] h with
          | none => none
          | some (_, st1, h1) => rn' (d1 + 1) j (pc + 3) lo (st1 ++ st.drop x.2.2.2) h1) else none) else none
      | _ => bif zm_ret (z_R j) x.1 st then some (pc, st, h) else none) = some r
    generalize zm_kd x.1 = kk at hr ⊢
    match kk, hr with
    | 0, hr =>
      have hr : (match zm_st sc x pc lo st h with
        | none => none
        | some (pc1, lo1, st1, h1) => rn d j pc1 lo1 st1 h1) = some r := hr
      cases hs : zm_st sc x pc lo st h with
      | none => rw [hs] at hr; cases hr
      | some q =>
        rw [hs] at hr
        obtain ⟨pc1, lo1, st1, h1⟩ := q
        show (match zm_st sc' x pc lo st h with
          | none => none
          | some (pc1, lo1, st1, h1) => rn' d j pc1 lo1 st1 h1) = some r
        rw [hst _ _ _ _ _ _ hs]
        exact hrn _ _ _ _ _ _ _ hr
    | 1, hr =>
      obtain ⟨g0, g1⟩ := zm_if hr
      show (bif _ then _ else none) = some r
      rw [g0, cond_true]
      cases d with
      | zero => exact absurd (show (none : Option (Nat × List Value × HP)) = some r from g1) (by simp)
      | succ d1 =>
        have g1 : (bif Nat.beq x.2.2.1 0 then rn (d1 + 1) j (pc + 3) lo (st.drop x.2.2.2) h else
          bif Nat.ble (zm_sl2 (st.take x.2.2.2).reverse).length (z_L x.2.2.1) then
          (match rn d1 x.2.2.1 0 (zm_ent (z_L x.2.2.1) (st.take x.2.2.2).reverse) [] h with
          | none => none
          | some (_, st1, h1) => rn (d1 + 1) j (pc + 3) lo (st1 ++ st.drop x.2.2.2) h1) else none) = some r := g1
        show (bif Nat.beq x.2.2.1 0 then rn' (d1 + 1) j (pc + 3) lo (st.drop x.2.2.2) h else
          bif Nat.ble (zm_sl2 (st.take x.2.2.2).reverse).length (z_L x.2.2.1) then
          (match rn' d1 x.2.2.1 0 (zm_ent (z_L x.2.2.1) (st.take x.2.2.2).reverse) [] h with
          | none => none
          | some (_, st1, h1) => rn' (d1 + 1) j (pc + 3) lo (st1 ++ st.drop x.2.2.2) h1) else none) = some r
        cases hb : Nat.beq x.2.2.1 0 with
        | true =>
          rw [hb, cond_true] at g1
          rw [cond_true]
          exact hrn _ _ _ _ _ _ _ g1
        | false =>
          rw [hb, cond_false] at g1
          rw [cond_false]
          obtain ⟨g2, g3⟩ := zm_if g1
          rw [g2, cond_true]
          cases hs : rn d1 x.2.2.1 0 (zm_ent (z_L x.2.2.1) (st.take x.2.2.2).reverse) [] h with
          | none => rw [hs] at g3; cases g3
          | some q =>
            rw [hs] at g3
            obtain ⟨pcR, st1, h1⟩ := q
            rw [hrn _ _ _ _ _ _ _ hs]
            exact hrn _ _ _ _ _ _ _ g3
    | k + 2, hr => exact hr
section WP
variable {sc : Option (List Int32)} {d j pc : Nat} {lo : LO} {st : List Value} {h : HP} {Q : Nat × List Value × HP → Prop}
theorem zm_run_up (f d j pc : Nat) (lo : LO) (st : List Value) (h : HP) (r : Nat × List Value × HP) (hr : zm_run sc f d j pc lo st h = some r) : zm_run sc (f + 1) d j pc lo st h = some r := by
  induction f generalizing d j pc lo st h r with
  | zero => cases hr
  | succ f ih => exact zm_one_mono (sc := sc) (fun _ _ _ _ _ _ hs => hs) (fun d j pc lo st h r hr => ih d j pc lo st h r hr) hr
theorem zm_run_more {f d j pc : Nat} {lo : LO} {st : List Value} {h : HP} {r : Nat × List Value × HP} (k : Nat) (hr : zm_run sc f d j pc lo st h = some r) : zm_run sc (f + k) d j pc lo st h = some r := by
  induction k with
  | zero => exact hr
  | succ k ih => exact zm_run_up _ _ _ _ _ _ _ _ ih
theorem Wp.mono {Q' : Nat × List Value × HP → Prop} (hw : Wp sc d j pc lo st h Q) (hq : ∀ r, Q r → Q' r) : Wp sc d j pc lo st h Q' := by
  obtain ⟨f, r, h1, h2⟩ := hw
  exact ⟨f, r, h1, hq r h2⟩
theorem Wp.run {r : Nat × List Value × HP} (f : Nat) (hr : zm_run sc f d j pc lo st h = some r) (hq : Q r) : Wp sc d j pc lo st h Q := ⟨f, r, hr, hq⟩
theorem Wp.steps (n : Nat) {pc1 : Nat} {lo1 : LO} {st1 : List Value} {h1 : HP} (hs : zm_steps sc n j pc lo st h = some (pc1, lo1, st1, h1)) (K : Wp sc d j pc1 lo1 st1 h1 Q) : Wp sc d j pc lo st h Q := by
  obtain ⟨f, r, hr, hq⟩ := K
  refine ⟨f + n, r, ?_, hq⟩
  clear hq
  induction n generalizing pc lo st h with
  | zero => cases hs; exact hr
  | succ n ih =>
    unfold zm_steps at hs
    split at hs
    · cases hs
    · next x hx =>
      obtain ⟨g0, hs⟩ := zm_if hs
      split at hs
      · cases hs
      · next pc2 lo2 st2 h2 hst =>
        have := ih hs
        show zm_one sc (zm_run sc (f + n)) d j pc lo st h = some r
        unfold zm_one
        simp only [hx, Nat.eq_of_beq_eq_true g0, hst]
        exact this
/-- a conditional jump whose outcome is known -/
theorem Wp.ifT {i : Instr} {n a b : Nat} {c : ClassFile.Cond} {off : Int} {v : Int32} (hat : zm_at j pc = some (.ifCond c off, n, a, b)) (hc : zm_cmp c v 0 = true) (K : Wp sc d j (zm_tg pc off) lo st h Q) : Wp sc d j pc lo (.int v :: st) h Q := by
  refine Wp.steps 1 (pc1 := zm_tg pc off) (lo1 := lo) (st1 := st) (h1 := h) ?_ K
  unfold zm_steps
  rw [hat]
  show (match (bif zm_cmp c v 0 then some (zm_tg pc off, lo, st, h) else some (pc + 3, lo, st, h)) with
      | none => none
      | some (pc1, lo1, st1, h1) => zm_steps sc 0 j pc1 lo1 st1 h1) = _
  rw [hc]
  rfl
theorem Wp.ifF {i : Instr} {n a b : Nat} {c : ClassFile.Cond} {off : Int} {v : Int32} (hat : zm_at j pc = some (.ifCond c off, n, a, b)) (hc : zm_cmp c v 0 = false) (K : Wp sc d j (pc + 3) lo st h Q) : Wp sc d j pc lo (.int v :: st) h Q := by
  refine Wp.steps 1 (pc1 := pc + 3) (lo1 := lo) (st1 := st) (h1 := h) ?_ K
  unfold zm_steps
  rw [hat]
  show (match (bif zm_cmp c v 0 then some (zm_tg pc off, lo, st, h) else some (pc + 3, lo, st, h)) with
      | none => none
      | some (pc1, lo1, st1, h1) => zm_steps sc 0 j pc1 lo1 st1 h1) = _
  rw [hc]
  rfl
theorem Wp.icT {i : Instr} {n a b : Nat} {c : ClassFile.Cond} {off : Int} {v w : Int32} (hat : zm_at j pc = some (.if_icmp c off, n, a, b)) (hc : zm_cmp c v w = true) (K : Wp sc d j (zm_tg pc off) lo st h Q) : Wp sc d j pc lo (.int w :: .int v :: st) h Q := by
  refine Wp.steps 1 (pc1 := zm_tg pc off) (lo1 := lo) (st1 := st) (h1 := h) ?_ K
  unfold zm_steps
  rw [hat]
  show (match (bif zm_cmp c v w then some (zm_tg pc off, lo, st, h) else some (pc + 3, lo, st, h)) with
      | none => none
      | some (pc1, lo1, st1, h1) => zm_steps sc 0 j pc1 lo1 st1 h1) = _
  rw [hc]
  rfl
theorem Wp.icF {i : Instr} {n a b : Nat} {c : ClassFile.Cond} {off : Int} {v w : Int32} (hat : zm_at j pc = some (.if_icmp c off, n, a, b)) (hc : zm_cmp c v w = false) (K : Wp sc d j (pc + 3) lo st h Q) : Wp sc d j pc lo (.int w :: .int v :: st) h Q := by
  refine Wp.steps 1 (pc1 := pc + 3) (lo1 := lo) (st1 := st) (h1 := h) ?_ K
  unfold zm_steps
  rw [hat]
  show (match (bif zm_cmp c v w then some (zm_tg pc off, lo, st, h) else some (pc + 3, lo, st, h)) with
      | none => none
      | some (pc1, lo1, st1, h1) => zm_steps sc 0 j pc1 lo1 st1 h1) = _
  rw [hc]
  rfl
/-- a call: the callee's run, then on -/
theorem Wp.call {x : XI} {as rest : List Value} (hat : zm_at j pc = some x) (hk : zm_kd x.1 = 1) (h0 : Nat.beq x.2.2.1 0 = false) (hna : Nat.ble x.2.2.2 st.length = true) (has : (st.take x.2.2.2).reverse = as) (hre : st.drop x.2.2.2 = rest) (hcat : Nat.ble (zm_cat rest) 8 = true) (hro : zm_rok h x as = true) (hfit : Nat.ble (zm_sl2 as).length (z_L x.2.2.1) = true)
    (K : Wp sc d x.2.2.1 0 (zm_ent (z_L x.2.2.1) as) [] h (fun r => Wp sc (d + 1) j (pc + 3) lo (r.2.1 ++ rest) r.2.2 Q)) : Wp sc (d + 1) j pc lo st h Q := by
  obtain ⟨f, r, hr, f2, r2, hr2, hq⟩ := K
  subst has
  subst hre
  refine ⟨f + f2 + 1, r2, ?_, hq⟩
  show zm_one sc (zm_run sc (f + f2)) (d + 1) j pc lo st h = some r2
  have h3 := zm_run_more f2 hr
  have h4 := zm_run_more f hr2
  rw [Nat.add_comm] at h4
  unfold zm_one
  simp only [hat, hk, hna, hcat, hro, h0, hfit, h3, Bool.and_true, cond_true, cond_false]
  exact h4
theorem Wp.ret {x : XI} (hat : zm_at j pc = some x) (hk : zm_kd x.1 = 2) (hre : zm_ret (z_R j) x.1 st = true) (hq : Q (pc, st, h)) : Wp sc d j pc lo st h Q := by
  refine ⟨1, _, ?_, hq⟩
  show zm_one sc (zm_run sc 0) d j pc lo st h = _
  unfold zm_one
  simp only [hat, hk, hre, cond_true]
end WP
set_option maxHeartbeats 4000000 in
theorem zm_st_none {sc : Option (List Int32)} {x : XI} {pc : Nat} {lo : LO} {st : List Value} {h : HP} {r : ZS} (hs : zm_st none x pc lo st h = some r) : zm_st sc x pc lo st h = some r := by
  obtain ⟨i, n, a, b⟩ := x
  cases i with
  | iaload =>
    have hs : (match (generalizing := false) st with
      | .int i :: .ref r :: rest => bif Nat.beq r zm_SP then (match zm_sld none i with
        | some v => some (pc + 1, lo, .int v :: rest, h)
        | none => none) else (match zm_ald h r 0 0 i with
        | some v => some (pc + 1, lo, .int v :: rest, h)
        | none => none)
      | _ => none) = some r := hs
    split at hs
    · next i r0 rest _ =>
      cases hq : Nat.beq r0 zm_SP with
      | true => rw [hq] at hs; cases hs
      | false =>
        rw [hq, cond_false] at hs
        show (bif Nat.beq r0 zm_SP then _ else _) = _
        rw [hq, cond_false]
        exact hs
    · cases hs
  | arraylength =>
    have hs : (match (generalizing := false) st with
      | .ref r :: rest => bif Nat.beq r zm_SP then none else (match (bif zm_isB r then some (zm_sby r).length else zm_len h r) with
        | some n => some (pc + 1, lo, .int (Int32.ofNat n) :: rest, h)
        | none => none)
      | _ => none) = some r := hs
    split at hs
    · next r0 rest _ =>
      cases hq : Nat.beq r0 zm_SP with
      | true => rw [hq] at hs; cases hs
      | false =>
        rw [hq, cond_false] at hs
        show (bif Nat.beq r0 zm_SP then _ else _) = _
        rw [hq, cond_false]
        exact hs
    · cases hs
  | _ => exact hs
theorem zm_run_none {sc : Option (List Int32)} (f d j pc : Nat) (lo : LO) (st : List Value) (h : HP) (r : Nat × List Value × HP) (hr : zm_run none f d j pc lo st h = some r) : zm_run sc f d j pc lo st h = some r := by
  induction f generalizing d j pc lo st h r with
  | zero => cases hr
  | succ f ih => exact zm_one_mono (sc := none) (fun _ _ _ _ _ _ hs => zm_st_none hs) (fun d j pc lo st h r hr => ih d j pc lo st h r hr) hr
theorem Wp.anyS {sc : Option (List Int32)} {d j pc : Nat} {lo : LO} {st : List Value} {h : HP} {Q : Nat × List Value × HP → Prop} (hw : Wp none d j pc lo st h Q) : Wp sc d j pc lo st h Q := by
  obtain ⟨f, r, h1, h2⟩ := hw
  exact ⟨f, r, zm_run_none _ _ _ _ _ _ _ _ h1, h2⟩
