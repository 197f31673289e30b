/-! cells are only added -/
def zm_le (h h1 : HP) : Prop := h.length ≤ h1.length ∧ zm_hsz h ≤ zm_hsz h1
theorem zm_le_refl (h : HP) : zm_le h h := ⟨Nat.le_refl _, Nat.le_refl _⟩
theorem zm_le_trans {a b c : HP} (h1 : zm_le a b) (h2 : zm_le b c) : zm_le a c := ⟨Nat.le_trans h1.1 h2.1, Nat.le_trans h1.2 h2.2⟩
theorem zm_le_set {h : HP} {r : Nat} {c c1 : AC} (hr : h[r]? = some c) (e : zm_csz c1 = zm_csz c) : zm_le h (h.set r c1) := ⟨by simp, by rw [zm_hsz_set _ _ _ _ hr e]; exact Nat.le_refl _⟩
theorem zm_le_push (h : HP) (c : AC) : zm_le h (h ++ [c]) := ⟨by simp, by rw [zm_hsz_push]; exact Nat.le_add_right _ _⟩
theorem zm_m1 {α : Type} {b : Bool} {x y : Option α} {r : α} (h : (bif b then x else y) = some r) : x = some r ∨ y = some r := by
  cases b
  · exact Or.inr h
  · exact Or.inl h
set_option maxHeartbeats 8000000 in
theorem zm_st_le {sc : Option (List Int32)} {x : XI} {pc : Nat} {lo : LO} {st : List Value} {h : HP} {r : ZS} (hs : zm_st sc x pc lo st h = some r) : zm_le h r.2.2.2 := by
  obtain ⟨i, n, a, b⟩ := x
  cases i with
  | iconst k => cases hs; exact zm_le_refl _
  | bipush k => cases hs; exact zm_le_refl _
  | sipush k => cases hs; exact zm_le_refl _
  | lconst k => cases hs; exact zm_le_refl _
  | ldc k =>
    rcases zm_m1 hs with g | g <;> cases g <;> exact zm_le_refl _
  | getstatic k =>
    have hs : (match zm_gs a with
      | some v => some (pc + 3, lo, v :: st, h)
      | none => none) = some r := hs
    cases hq : zm_gs a with
    | none => rw [hq] at hs; cases hs
    | some v => rw [hq] at hs; cases hs; exact zm_le_refl _
  | i2c => obtain ⟨_, _, _, g⟩ := zm_u_s hs; cases g; exact zm_le_refl _
  | ldc_w k => cases hs; exact zm_le_refl _
  | ldc2_w k => cases hs; exact zm_le_refl _
  | iload_n k => obtain ⟨_, _, g⟩ := zm_li_s hs; cases g; exact zm_le_refl _
  | iload k => obtain ⟨_, _, g⟩ := zm_li_s hs; cases g; exact zm_le_refl _
  | lload_n k => obtain ⟨_, _, g⟩ := zm_ll_s hs; cases g; exact zm_le_refl _
  | lload k => obtain ⟨_, _, g⟩ := zm_ll_s hs; cases g; exact zm_le_refl _
  | aload_n k => obtain ⟨_, _, g⟩ := zm_la_s hs; cases g; exact zm_le_refl _
  | aload k => obtain ⟨_, _, g⟩ := zm_la_s hs; cases g; exact zm_le_refl _
  | istore_n k => obtain ⟨_, _, _, _, g⟩ := zm_si_s hs; cases g; exact zm_le_refl _
  | istore k => obtain ⟨_, _, _, _, g⟩ := zm_si_s hs; cases g; exact zm_le_refl _
  | lstore_n k => obtain ⟨_, _, _, _, g⟩ := zm_sl_s hs; cases g; exact zm_le_refl _
  | lstore k => obtain ⟨_, _, _, _, g⟩ := zm_sl_s hs; cases g; exact zm_le_refl _
  | astore_n k => obtain ⟨_, _, _, _, g⟩ := zm_sa_s hs; cases g; exact zm_le_refl _
  | astore k => obtain ⟨_, _, _, _, g⟩ := zm_sa_s hs; cases g; exact zm_le_refl _
  | iinc k w =>
    have hs : (match zm_lget lo k with
      | some (.int v) => some (pc + 3, zm_put1 lo k (.int (v + Int32.ofInt w)), st, h)
      | _ => none) = some r := hs
    split at hs
    · cases hs; exact zm_le_refl _
    · cases hs
  | iadd => obtain ⟨_, _, _, _, g⟩ := zm_b_s hs; cases g; exact zm_le_refl _
  | isub => obtain ⟨_, _, _, _, g⟩ := zm_b_s hs; cases g; exact zm_le_refl _
  | imul => obtain ⟨_, _, _, _, g⟩ := zm_b_s hs; cases g; exact zm_le_refl _
  | iand => obtain ⟨_, _, _, _, g⟩ := zm_b_s hs; cases g; exact zm_le_refl _
  | ior => obtain ⟨_, _, _, _, g⟩ := zm_b_s hs; cases g; exact zm_le_refl _
  | ixor => obtain ⟨_, _, _, _, g⟩ := zm_b_s hs; cases g; exact zm_le_refl _
  | ishl => obtain ⟨_, _, _, _, g⟩ := zm_b_s hs; cases g; exact zm_le_refl _
  | ishr => obtain ⟨_, _, _, _, g⟩ := zm_b_s hs; cases g; exact zm_le_refl _
  | iushr => obtain ⟨_, _, _, _, g⟩ := zm_b_s hs; cases g; exact zm_le_refl _
  | idiv => obtain ⟨_, _, _, _, _, g⟩ := zm_d_s hs; cases g; exact zm_le_refl _
  | irem => obtain ⟨_, _, _, _, _, g⟩ := zm_d_s hs; cases g; exact zm_le_refl _
  | ladd => obtain ⟨_, _, _, _, g⟩ := zm_lb_s hs; cases g; exact zm_le_refl _
  | lsub => obtain ⟨_, _, _, _, g⟩ := zm_lb_s hs; cases g; exact zm_le_refl _
  | lmul => obtain ⟨_, _, _, _, g⟩ := zm_lb_s hs; cases g; exact zm_le_refl _
  | ldiv => obtain ⟨_, _, _, _, _, g⟩ := zm_ld_s hs; cases g; exact zm_le_refl _
  | lrem => obtain ⟨_, _, _, _, _, g⟩ := zm_ld_s hs; cases g; exact zm_le_refl _
  | i2b => obtain ⟨_, _, _, g⟩ := zm_u_s hs; cases g; exact zm_le_refl _
  | i2s => obtain ⟨_, _, _, g⟩ := zm_u_s hs; cases g; exact zm_le_refl _
  | i2l =>
    have hs : (match (generalizing := false) st with
      | .int v :: r => some (pc + 1, lo, .long v.toInt64 :: r, h)
      | _ => none) = some r := hs
    split at hs
    · cases hs; exact zm_le_refl _
    · cases hs
  | lcmp =>
    have hs : (match (generalizing := false) st with
      | .long y :: .long x :: r => some (pc + 1, lo, .int (lg_cmp x y) :: r, h)
      | _ => none) = some r := hs
    split at hs
    · cases hs; exact zm_le_refl _
    · cases hs
  | dup =>
    have hs : (match (generalizing := false) st with
      | v :: r => bif Nat.beq v.category 1 then some (pc + 1, lo, v :: v :: r, h) else none
      | _ => none) = some r := hs
    split at hs
    · obtain ⟨-, g⟩ := zm_if hs; cases g; exact zm_le_refl _
    · cases hs
  | pop =>
    have hs : (match (generalizing := false) st with
      | v :: r => bif Nat.beq v.category 1 then some (pc + 1, lo, r, h) else none
      | _ => none) = some r := hs
    split at hs
    · obtain ⟨-, g⟩ := zm_if hs; cases g; exact zm_le_refl _
    · cases hs
  | pop2 =>
    have hs : (match (generalizing := false) st with
      | v :: r => bif Nat.beq v.category 2 then some (pc + 1, lo, r, h) else none
      | _ => none) = some r := hs
    split at hs
    · obtain ⟨-, g⟩ := zm_if hs; cases g; exact zm_le_refl _
    · cases hs
  | dup2 =>
    have hs : (match (generalizing := false) st with
      | v :: w :: r => bif Nat.beq v.category 1 && Nat.beq w.category 1 then some (pc + 1, lo, v :: w :: v :: w :: r, h) else none
      | _ => none) = some r := hs
    split at hs
    · obtain ⟨-, g⟩ := zm_if hs; cases g; exact zm_le_refl _
    · cases hs
  | ifCond cd off =>
    have hs : (match (generalizing := false) st with
      | .int v :: r => bif zm_cmp cd v 0 then some (zm_tg pc off, lo, r, h) else some (pc + 3, lo, r, h)
      | _ => none) = some r := hs
    split at hs
    · rcases zm_m1 hs with g | g <;> cases g <;> exact zm_le_refl _
    · cases hs
  | if_icmp cd off =>
    have hs : (match (generalizing := false) st with
      | .int w :: .int v :: r => bif zm_cmp cd v w then some (zm_tg pc off, lo, r, h) else some (pc + 3, lo, r, h)
      | _ => none) = some r := hs
    split at hs
    · rcases zm_m1 hs with g | g <;> cases g <;> exact zm_le_refl _
    · cases hs
  | goto off => cases hs; exact zm_le_refl _
  | tableswitch d0 l0 u0 os =>
    have hs : (match (generalizing := false) st with
      | .int v :: r => (match zm_tab pc d0 l0 u0 os v with
        | some t => some (t, lo, r, h)
        | none => none)
      | _ => none) = some r := hs
    split at hs
    · split at hs
      · cases hs; exact zm_le_refl _
      · cases hs
    · cases hs
  | lookupswitch d0 ps =>
    have hs : (match (generalizing := false) st with
      | .int v :: r => some (zm_tg pc (Op.lookupswitch.offset ps.toList d0 v.toInt), lo, r, h)
      | _ => none) = some r := hs
    split at hs
    · cases hs; exact zm_le_refl _
    · cases hs
  | getfield k =>
    have hs : (match (generalizing := false) st with
      | .ref r :: rest => (match (bif Nat.beq a 90 then zm_sget r b else zm_get h r a b) with
        | some v => some (pc + 3, lo, v :: rest, h)
        | none => none)
      | _ => none) = some r := hs
    split at hs
    · split at hs
      · cases hs; exact zm_le_refl _
      · cases hs
    · cases hs
  | putfield k =>
    have hs : (match (generalizing := false) st with
      | v :: .ref r :: rest => bif zm_ok (z_ty a b) v then (match zm_set h r a b v with
        | some h1 => some (pc + 3, lo, rest, h1)
        | none => none) else none
      | _ => none) = some r := hs
    split at hs
    · obtain ⟨g0, hs⟩ := zm_if hs
      split at hs
      · next hh hv =>
        cases hs
        obtain ⟨fs, g1, g2, rfl⟩ := zm_set_s hv
        exact zm_le_set g1 (by simp [zm_csz])
      · cases hs
    · cases hs
  | iaload =>
    have hs : (match (generalizing := false) st with
      | .int i :: .ref r :: rest => bif Nat.beq r zm_SP then (match zm_sld sc i with
        | some v => some (pc + 1, lo, .int v :: rest, h)
        | none => none) else (match zm_ald h r 0 0 i with
        | some v => some (pc + 1, lo, .int v :: rest, h)
        | none => none)
      | _ => none) = some r := hs
    split at hs
    · rcases zm_m1 hs with g | g <;> (split at g <;> cases g) <;> exact zm_le_refl _
    · cases hs
  | baload =>
    have hs : (match (generalizing := false) st with
      | .int i :: .ref r :: rest => (match (bif zm_isB r then (match zm_ix i (zm_sby r).length with | some k => some ((zm_sby r).getD k 0) | none => none) else zm_ald h r 1 2 i) with
        | some v => some (pc + 1, lo, .int v :: rest, h)
        | none => none)
      | _ => none) = some r := hs
    split at hs
    · split at hs <;> cases hs <;> exact zm_le_refl _
    · cases hs
  | iastore =>
    have hs : (match (generalizing := false) st with
      | .int v :: .int i :: .ref r :: rest => (match zm_ast h r 0 0 i v with
        | some h1 => some (pc + 1, lo, rest, h1)
        | none => none)
      | _ => none) = some r := hs
    split at hs
    · split at hs
      · next hh hv =>
        cases hs
        obtain ⟨t, xs, g1, g2, g3, rfl⟩ := zm_ast_s hv
        exact zm_le_set g1 (by simp [zm_csz])
      · cases hs
    · cases hs
  | bastore =>
    have hs : (match (generalizing := false) st with
      | .int v :: .int i :: .ref r :: rest => (match zm_ast h r 1 2 i v with
        | some h1 => some (pc + 1, lo, rest, h1)
        | none => none)
      | _ => none) = some r := hs
    split at hs
    · split at hs
      · next hh hv =>
        cases hs
        obtain ⟨t, xs, g1, g2, g3, rfl⟩ := zm_ast_s hv
        exact zm_le_set g1 (by simp [zm_csz])
      · cases hs
    · cases hs
  | aaload =>
    have hs : (match (generalizing := false) st with
      | .int i :: .ref r :: rest => (match zm_aald h r i with
        | some v => some (pc + 1, lo, v :: rest, h)
        | none => none)
      | _ => none) = some r := hs
    split at hs
    · split at hs <;> cases hs <;> exact zm_le_refl _
    · cases hs
  | aastore =>
    have hs : (match (generalizing := false) st with
      | .ref v :: .int i :: .ref r :: rest => (match zm_aast z_el h r v i with
        | some h1 => some (pc + 1, lo, rest, h1)
        | none => none)
      | _ => none) = some r := hs
    split at hs
    · split at hs
      · next hh hv =>
        cases hs
        obtain ⟨t, rs0, fs, g1, g0, g3, g4, rfl⟩ := zm_aast_s hv
        exact zm_le_set g1 (by simp [zm_csz])
      · cases hs
    · cases hs
  | arraylength =>
    have hs : (match (generalizing := false) st with
      | .ref r :: rest => bif Nat.beq r zm_SP then (match (generalizing := false) sc with
        | some l => some (pc + 1, lo, .int (Int32.ofNat l.length) :: rest, h)
        | none => none) else (match (bif zm_isB r then some (zm_sby r).length else zm_len h r) with
        | some n => some (pc + 1, lo, .int (Int32.ofNat n) :: rest, h)
        | none => none)
      | _ => none) = some r := hs
    split at hs
    · rcases zm_m1 hs with g | g <;> (split at g <;> cases g) <;> exact zm_le_refl _
    · cases hs
  | new k =>
    obtain ⟨g1, g2⟩ := zm_if (show (bif Nat.blt h.length 100000 then some (pc + 3, lo, Value.ref h.length :: st, h ++ [.inr (.inr (a, z_dv a))]) else none) = some r from hs)
    cases g2
    exact zm_le_push _ _
  | newarray k =>
    have hs : (match (generalizing := false) zm_aty k, st with
      | some t, .int n :: rest => bif decide (n < 0) || Nat.blt 10000 n.toNatClampNeg || Nat.ble 100000 h.length then none else some (pc + 2, lo, .ref h.length :: rest, h ++ [.inl (t, List.replicate n.toNatClampNeg 0)])
      | _, _ => none) = some r := hs
    split at hs
    · obtain ⟨g1, g2⟩ := zm_ifn hs
      cases g2
      exact zm_le_push _ _
    · cases hs
  | anewarray k =>
    have hs : (match (generalizing := false) st with
      | .int n :: rest => bif decide (n < 0) || Nat.blt 10000 n.toNatClampNeg || Nat.ble 100000 h.length then none else some (pc + 3, lo, .ref h.length :: rest, h ++ [.inr (.inl (a, List.replicate n.toNatClampNeg none))])
      | _ => none) = some r := hs
    split at hs
    · obtain ⟨g1, g2⟩ := zm_ifn hs
      cases g2
      exact zm_le_push _ _
    · cases hs
  | _ => exact absurd (show (none : Option ZS) = some r from hs) (by simp)
theorem zm_run_le {sc : Option (List Int32)} : ∀ (f d j pc : Nat) (lo : LO) (st : List Value) (h : HP) (r : Nat × List Value × HP), zm_run sc f d j pc lo st h = some r → zm_le h r.2.2 := by
  intro f
  induction f with
  | zero => intro d j pc lo st h r hr; cases hr
  | succ f ih =>
    intro d j pc lo st h r hr
    unfold zm_run at hr
    split at hr
    · cases hr
    · next x hx =>
      split at hr
      · split at hr
        · cases hr
        · next pc1 lo1 st1 h1 hs => exact zm_le_trans (zm_st_le hs) (ih _ _ _ _ _ _ _ hr)
      · obtain ⟨-, hr⟩ := zm_if hr
        split at hr
        · cases hr
        · next d1 =>
          rcases zm_m1 hr with g | g
          · exact ih _ _ _ _ _ _ _ g
          · obtain ⟨-, g⟩ := zm_if g
            split at g
            · cases g
            · next st1 h1 hs => exact zm_le_trans (ih _ _ _ _ _ _ _ hs) (ih _ _ _ _ _ _ _ g)
      · obtain ⟨-, g⟩ := zm_if hr
        cases g
        exact zm_le_refl _
