/-! runs of the small machine, goal first -/
def zm_steps (sc : Option (List Int32)) : Nat → Nat → Nat → LO → List Value → HP → Option ZS
  | 0, _, pc, lo, st, h => some (pc, lo, st, h)
  | n + 1, j, pc, lo, st, h => match zm_at j pc with
    | none => none
    | some x => bif Nat.beq (zm_kd x.1) 0 then (match zm_st sc x pc lo st h with
      | none => none
      | some (pc1, lo1, st1, h1) => zm_steps sc n j pc1 lo1 st1 h1) else none
def Wp (sc : Option (List Int32)) (d j pc : Nat) (lo : LO) (st : List Value) (h : HP) (Q : Nat × List Value × HP → Prop) : Prop := ∃ f r, zm_run sc f d j pc lo st h = some r ∧ Q r
section WP
variable {sc : Option (List Int32)} {d j pc : Nat} {lo : LO} {st : List Value} {h : HP} {Q : Nat × List Value × HP → Prop}
theorem zm_run_up : ∀ (f d j pc : Nat) (lo : LO) (st : List Value) (h : HP) (r : Nat × List Value × HP), zm_run sc f d j pc lo st h = some r → zm_run sc (f + 1) d j pc lo st h = some r := by
  intro f
  induction f with
  | zero => intro d j pc lo st h r hr; cases hr
  | succ f ih =>
    intro d j pc lo st h r hr
    unfold zm_run at hr ⊢
    split at hr
    · cases hr
    · next x hx =>
      rw [hx]
      dsimp only
      split at hr
      · next hk =>
        rw [hk]
        dsimp only
        split at hr
        · cases hr
        · next pc1 lo1 st1 h1 hs =>
          rw [hs]
          exact ih _ _ _ _ _ _ _ hr
      · next hk =>
        rw [hk]
        dsimp only
        obtain ⟨g0, hr⟩ := zm_if hr
        rw [g0, cond_true]
        split at hr
        · cases hr
        · next d1 =>
          dsimp only
          cases hb : Nat.beq x.2.2.1 0 with
          | true =>
            rw [hb, cond_true] at hr
            rw [cond_true]
            exact ih _ _ _ _ _ _ _ hr
          | false =>
            rw [hb, cond_false] at hr
            rw [cond_false]
            obtain ⟨g1, hr⟩ := zm_if hr
            rw [g1, cond_true]
            split at hr
            · cases hr
            · next pcR st1 h1 hs =>
              rw [ih _ _ _ _ _ _ _ hs]
              exact ih _ _ _ _ _ _ _ hr
      · next hk0 hk1 =>
        split
        · next hk => exact absurd hk hk0
        · next hk => exact absurd hk hk1
        · exact hr
theorem zm_run_more {f d j pc : Nat} {lo : LO} {st : List Value} {h : HP} {r : Nat × List Value × HP} (k : Nat) (hr : zm_run sc f d j pc lo st h = some r) : zm_run sc (f + k) d j pc lo st h = some r := by
  induction k with
  | zero => exact hr
  | succ k ih => exact zm_run_up _ _ _ _ _ _ _ _ ih
theorem Wp.mono {Q' : Nat × List Value × HP → Prop} (hw : Wp sc d j pc lo st h Q) (hq : ∀ r, Q r → Q' r) : Wp sc d j pc lo st h Q' := by
  obtain ⟨f, r, h1, h2⟩ := hw
  exact ⟨f, r, h1, hq r h2⟩
theorem Wp.run {r : Nat × List Value × HP} (f : Nat) (hr : zm_run sc f d j pc lo st h = some r) (hq : Q r) : Wp sc d j pc lo st h Q := ⟨f, r, hr, hq⟩
theorem Wp.steps (n : Nat) {pc1 : Nat} {lo1 : LO} {st1 : List Value} {h1 : HP} (hs : zm_steps sc n j pc lo st h = some (pc1, lo1, st1, h1)) (K : Wp sc d j pc1 lo1 st1 h1 Q) : Wp sc d j pc lo st h Q := by
  obtain ⟨f, r, hr, hq⟩ := K
  refine ⟨f + n, r, ?_, hq⟩
  clear hq
  induction n generalizing pc lo st h with
  | zero => cases hs; exact hr
  | succ n ih =>
    unfold zm_steps at hs
    split at hs
    · cases hs
    · next x hx =>
      obtain ⟨g0, hs⟩ := zm_if hs
      split at hs
      · cases hs
      · next pc2 lo2 st2 h2 hst =>
        have := ih hs
        show zm_run sc (f + n + 1) d j pc lo st h = some r
        unfold zm_run
        rw [hx]
        dsimp only
        rw [Nat.eq_of_beq_eq_true g0]
        dsimp only
        rw [hst]
        exact this
/-- a conditional jump whose outcome is known -/
theorem Wp.ifT {i : Instr} {n a b : Nat} {c : ClassFile.Cond} {off : Int} {v : Int32} (hat : zm_at j pc = some (.ifCond c off, n, a, b)) (hc : zm_cmp c v 0 = true) (K : Wp sc d j (zm_tg pc off) lo st h Q) : Wp sc d j pc lo (.int v :: st) h Q := by
  refine Wp.steps 1 (pc1 := zm_tg pc off) (lo1 := lo) (st1 := st) (h1 := h) ?_ K
  unfold zm_steps
  rw [hat]
  show (match (bif zm_cmp c v 0 then some (zm_tg pc off, lo, st, h) else some (pc + 3, lo, st, h)) with
      | none => none
      | some (pc1, lo1, st1, h1) => zm_steps sc 0 j pc1 lo1 st1 h1) = _
  rw [hc]
  rfl
theorem Wp.ifF {i : Instr} {n a b : Nat} {c : ClassFile.Cond} {off : Int} {v : Int32} (hat : zm_at j pc = some (.ifCond c off, n, a, b)) (hc : zm_cmp c v 0 = false) (K : Wp sc d j (pc + 3) lo st h Q) : Wp sc d j pc lo (.int v :: st) h Q := by
  refine Wp.steps 1 (pc1 := pc + 3) (lo1 := lo) (st1 := st) (h1 := h) ?_ K
  unfold zm_steps
  rw [hat]
  show (match (bif zm_cmp c v 0 then some (zm_tg pc off, lo, st, h) else some (pc + 3, lo, st, h)) with
      | none => none
      | some (pc1, lo1, st1, h1) => zm_steps sc 0 j pc1 lo1 st1 h1) = _
  rw [hc]
  rfl
theorem Wp.icT {i : Instr} {n a b : Nat} {c : ClassFile.Cond} {off : Int} {v w : Int32} (hat : zm_at j pc = some (.if_icmp c off, n, a, b)) (hc : zm_cmp c v w = true) (K : Wp sc d j (zm_tg pc off) lo st h Q) : Wp sc d j pc lo (.int w :: .int v :: st) h Q := by
  refine Wp.steps 1 (pc1 := zm_tg pc off) (lo1 := lo) (st1 := st) (h1 := h) ?_ K
  unfold zm_steps
  rw [hat]
  show (match (bif zm_cmp c v w then some (zm_tg pc off, lo, st, h) else some (pc + 3, lo, st, h)) with
      | none => none
      | some (pc1, lo1, st1, h1) => zm_steps sc 0 j pc1 lo1 st1 h1) = _
  rw [hc]
  rfl
theorem Wp.icF {i : Instr} {n a b : Nat} {c : ClassFile.Cond} {off : Int} {v w : Int32} (hat : zm_at j pc = some (.if_icmp c off, n, a, b)) (hc : zm_cmp c v w = false) (K : Wp sc d j (pc + 3) lo st h Q) : Wp sc d j pc lo (.int w :: .int v :: st) h Q := by
  refine Wp.steps 1 (pc1 := pc + 3) (lo1 := lo) (st1 := st) (h1 := h) ?_ K
  unfold zm_steps
  rw [hat]
  show (match (bif zm_cmp c v w then some (zm_tg pc off, lo, st, h) else some (pc + 3, lo, st, h)) with
      | none => none
      | some (pc1, lo1, st1, h1) => zm_steps sc 0 j pc1 lo1 st1 h1) = _
  rw [hc]
  rfl
/-- a call: the callee's run, then on -/
theorem Wp.call {x : XI} {as rest : List Value} (hat : zm_at j pc = some x) (hk : zm_kd x.1 = 1) (h0 : Nat.beq x.2.2.1 0 = false) (hna : Nat.ble x.2.2.2 st.length = true) (has : (st.take x.2.2.2).reverse = as) (hre : st.drop x.2.2.2 = rest) (hcat : Nat.ble (zm_cat rest) 8 = true) (hro : zm_rok h x as = true) (hfit : Nat.ble (zm_sl2 as).length (z_L x.2.2.1) = true)
    (K : Wp sc d x.2.2.1 0 (zm_ent (z_L x.2.2.1) as) [] h (fun r => Wp sc (d + 1) j (pc + 3) lo (r.2.1 ++ rest) r.2.2 Q)) : Wp sc (d + 1) j pc lo st h Q := by
  obtain ⟨f, r, hr, f2, r2, hr2, hq⟩ := K
  subst has
  subst hre
  refine ⟨f + f2 + 1, r2, ?_, hq⟩
  unfold zm_run
  rw [hat]
  dsimp only
  rw [hk]
  dsimp only
  rw [hna, hcat, hro]
  simp only [Bool.and_true, cond_true]
  rw [h0, cond_false, hfit, cond_true, zm_run_more f2 hr]
  obtain ⟨pcR, st1, h1⟩ := r
  dsimp only
  have := zm_run_more f hr2
  rw [Nat.add_comm] at this
  exact this
theorem Wp.ret {x : XI} (hat : zm_at j pc = some x) (hk : zm_kd x.1 = 2) (hre : zm_ret (z_R j) x.1 st = true) (hq : Q (pc, st, h)) : Wp sc d j pc lo st h Q := by
  refine ⟨1, _, ?_, hq⟩
  unfold zm_run
  rw [hat]
  dsimp only
  rw [hk]
  dsimp only
  rw [hre]
  rfl
end WP
set_option maxHeartbeats 4000000 in
theorem zm_st_none {sc : Option (List Int32)} {x : XI} {pc : Nat} {lo : LO} {st : List Value} {h : HP} {r : ZS} (hs : zm_st none x pc lo st h = some r) : zm_st sc x pc lo st h = some r := by
  obtain ⟨i, n, a, b⟩ := x
  cases i with
  | iaload =>
    have hs : (match (generalizing := false) st with
      | .int i :: .ref r :: rest => bif Nat.beq r zm_SP then (match zm_sld none i with
        | some v => some (pc + 1, lo, .int v :: rest, h)
        | none => none) else (match zm_ald h r 0 0 i with
        | some v => some (pc + 1, lo, .int v :: rest, h)
        | none => none)
      | _ => none) = some r := hs
    split at hs
    · next i r0 rest =>
      cases hq : Nat.beq r0 zm_SP with
      | true => rw [hq] at hs; cases hs
      | false =>
        rw [hq, cond_false] at hs
        show (bif Nat.beq r0 zm_SP then _ else _) = _
        rw [hq, cond_false]
        exact hs
    · cases hs
  | arraylength =>
    have hs : (match (generalizing := false) st with
      | .ref r :: rest => bif Nat.beq r zm_SP then none else (match zm_len h r with
        | some n => some (pc + 1, lo, .int (Int32.ofNat n) :: rest, h)
        | none => none)
      | _ => none) = some r := hs
    split at hs
    · next r0 rest =>
      cases hq : Nat.beq r0 zm_SP with
      | true => rw [hq] at hs; cases hs
      | false =>
        rw [hq, cond_false] at hs
        show (bif Nat.beq r0 zm_SP then _ else _) = _
        rw [hq, cond_false]
        exact hs
    · cases hs
  | _ => exact hs
theorem zm_run_none {sc : Option (List Int32)} : ∀ (f d j pc : Nat) (lo : LO) (st : List Value) (h : HP) (r : Nat × List Value × HP), zm_run none f d j pc lo st h = some r → zm_run sc f d j pc lo st h = some r := by
  intro f
  induction f with
  | zero => intro d j pc lo st h r hr; cases hr
  | succ f ih =>
    intro d j pc lo st h r hr
    unfold zm_run at hr ⊢
    split at hr
    · cases hr
    · next x hx =>
      rw [hx]
      dsimp only
      split at hr
      · next hk =>
        rw [hk]
        dsimp only
        split at hr
        · cases hr
        · next pc1 lo1 st1 h1 hs =>
          rw [zm_st_none hs]
          exact ih _ _ _ _ _ _ _ hr
      · next hk =>
        rw [hk]
        dsimp only
        obtain ⟨g0, hr⟩ := zm_if hr
        rw [g0, cond_true]
        split at hr
        · cases hr
        · next d1 =>
          dsimp only
          cases hb : Nat.beq x.2.2.1 0 with
          | true =>
            rw [hb, cond_true] at hr
            rw [cond_true]
            exact ih _ _ _ _ _ _ _ hr
          | false =>
            rw [hb, cond_false] at hr
            rw [cond_false]
            obtain ⟨g1, hr⟩ := zm_if hr
            rw [g1, cond_true]
            split at hr
            · cases hr
            · next pcR st1 h1 hs =>
              rw [ih _ _ _ _ _ _ _ hs]
              exact ih _ _ _ _ _ _ _ hr
      · next hk0 hk1 =>
        split
        · next hk => exact absurd hk hk0
        · next hk => exact absurd hk hk1
        · exact hr
theorem Wp.none {sc : Option (List Int32)} {d j pc : Nat} {lo : LO} {st : List Value} {h : HP} {Q : Nat × List Value × HP → Prop} (hw : Wp none d j pc lo st h Q) : Wp sc d j pc lo st h Q := by
  obtain ⟨f, r, h1, h2⟩ := hw
  exact ⟨f, r, zm_run_none _ _ _ _ _ _ _ _ h1, h2⟩
