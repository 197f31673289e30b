section ZD
variable {p : Program} {l : Launch} {e : Env} {R : Room} {s : State} {m : MethodId} {args : Array Value} {below : List Frame} {meth : Method} {c : Code} {H : Heap} {locs : List Loc} {cells slots : Nat} {Q : State → Prop}
variable {D : va_G} {tyc : Nat → ClassId} {H0 : Heap} {sa : Nat → Nat} {sc : Option (List Int32)} {j pc : Nat} {ls : Array Slot} {h : HP}
theorem zx_sp : zx_ad H0 sa zm_SP = sa 0 := by simp [zx_ad]
set_option maxHeartbeats 4000000 in
theorem zx_icmp (hx : p.tables.exec = Jvm.exec) (hb : c.code = z_B j) {cd : ClassFile.Cond} {off : Int} {x y : Int32} {rest : List Value} (ht : 0 ≤ (pc : Int) + off) (hd : decode (z_B j) pc = .ok (.if_icmp cd off, 3))
    (K : W p l e R s m args below meth c H locs cells slots Q (F0 m (bif zm_cmp cd x y then zm_tg pc off else pc + 3) ls rest)) : W p l e R s m args below meth c H locs cells slots Q (F0 m pc ls (.int y :: .int x :: rest)) := by
  have htt : (pc : Int) + off = ((zm_tg pc off : Nat) : Int) := (Int.toNat_of_nonneg ht).symm
  cases cd with
  | eq => exact lv_icmp_eq hx hb hd htt (fun q => by simpa [zm_cmp, q] using K) (fun q => by simpa [zm_cmp, q] using K)
  | ne => exact lv_icmp_ne hx hb hd htt (fun q => by simpa [zm_cmp, q] using K) (fun q => by simpa [zm_cmp, q] using K)
  | lt => exact lv_icmp_lt hx hb hd htt (fun q => by simpa [zm_cmp, q] using K) (fun q => by simpa [zm_cmp, q] using K)
  | ge => exact lv_icmp_ge hx hb hd htt (fun q => by simpa [zm_cmp, q] using K) (fun q => by simpa [zm_cmp, q] using K)
  | gt => exact lv_icmp_gt hx hb hd htt (fun q => by simpa [zm_cmp, q] using K) (fun q => by simpa [zm_cmp, q] using K)
  | le => exact lv_icmp_le hx hb hd htt (fun q => by simpa [zm_cmp, q] using K) (fun q => by simpa [zm_cmp, q] using K)
set_option maxHeartbeats 4000000 in
theorem zx_if (hx : p.tables.exec = Jvm.exec) (hb : c.code = z_B j) {cd : ClassFile.Cond} {off : Int} {x : Int32} {rest : List Value} (ht : 0 ≤ (pc : Int) + off) (hd : decode (z_B j) pc = .ok (.ifCond cd off, 3))
    (K : W p l e R s m args below meth c H locs cells slots Q (F0 m (bif zm_cmp cd x 0 then zm_tg pc off else pc + 3) ls rest)) : W p l e R s m args below meth c H locs cells slots Q (F0 m pc ls (.int x :: rest)) := by
  have htt : (pc : Int) + off = ((zm_tg pc off : Nat) : Int) := (Int.toNat_of_nonneg ht).symm
  cases cd with
  | eq => exact lv_if_eq hx hb hd htt (fun q => by simpa [zm_cmp, q] using K) (fun q => by simpa [zm_cmp, q] using K)
  | ne => exact lv_if_ne hx hb hd htt (fun q => by simpa [zm_cmp, q] using K) (fun q => by simpa [zm_cmp, q] using K)
  | lt => exact lv_if_lt hx hb hd htt (fun q => by simpa [zm_cmp, q] using K) (fun q => by simpa [zm_cmp, q] using K)
  | ge => exact lv_if_ge hx hb hd htt (fun q => by simpa [zm_cmp, q] using K) (fun q => by simpa [zm_cmp, q] using K)
  | gt => exact lv_if_gt hx hb hd htt (fun q => by simpa [zm_cmp, q] using K) (fun q => by simpa [zm_cmp, q] using K)
  | le => exact lv_if_le hx hb hd htt (fun q => by simpa [zm_cmp, q] using K) (fun q => by simpa [zm_cmp, q] using K)
set_option maxHeartbeats 8000000 in
set_option maxRecDepth 20000 in
/-- one instruction -/
theorem zx_st {x : XI} {lo : LO} {st : List Value} {c0 s0 pc1 : Nat} {lo1 : LO} {st1 : List Value} {h1 : HP} (G : zx_G D tyc H0 sa sc p s m args meth c j) (hat : zm_at j pc = some x) (hs : zm_st sc x pc lo st h = some (pc1, lo1, st1, h1))
    (hR : zx_R D tyc H0 sa h H) (hlc : ∀ q ∈ locs, H0.size ≤ q.base) (hL : zx_L (zx_ad H0 sa) lo ls (z_L j)) (hH : zx_H H0 s c0) (hc0 : cells + c0 = h.length) (hs0 : slots + s0 = zm_hsz h) (rc : h1.length ≤ R.cells + c0) (rs : zm_hsz h1 ≤ R.slots + s0)
    (K : ∀ (H1 : Heap) (locs1 : List Loc) (ls1 : Array Slot) (cells1 slots1 : Nat), zx_R D tyc H0 sa h1 H1 → (∀ q ∈ locs1, H0.size ≤ q.base) → zx_L (zx_ad H0 sa) lo1 ls1 (z_L j) → cells1 + c0 = h1.length → slots1 + s0 = zm_hsz h1 →
      W p l e R s m args below meth c H1 locs1 cells1 slots1 Q (F0 m pc1 ls1 (st1.map (zx_cv (zx_ad H0 sa))))) : W p l e R s m args below meth c H locs cells slots Q (F0 m pc ls (st.map (zx_cv (zx_ad H0 sa)))) := by
  have hdec := zk_dec hat
  have hlk := zk_lk hat
  have hx := G.1
  have hb := G.2.1
  obtain ⟨i, n, a, b⟩ := x
  cases i with
  | iconst k => cases hs; exact lv_iconst hx hb hdec rfl (K _ _ _ _ _ hR hlc hL hc0 hs0)
  | bipush k => cases hs; exact lv_bipush hx hb hdec rfl (K _ _ _ _ _ hR hlc hL hc0 hs0)
  | sipush k => cases hs; exact lv_sipush hx hb hdec rfl (K _ _ _ _ _ hR hlc hL hc0 hs0)
  | lconst k => cases hs; exact lv_lconst hx hb hdec rfl (K _ _ _ _ _ hR hlc hL hc0 hs0)
  | ldc k =>
    have hs : (bif Nat.beq b 0 then some (pc + 2, lo, Value.int (Int32.ofNat a) :: st, h) else some (pc + 2, lo, Value.ref (zm_SP + 1 + a) :: st, h)) = some (pc1, lo1, st1, h1) := hs
    cases hq : Nat.beq b 0 with
    | true =>
      rw [hq, cond_true] at hs
      cases hs
      exact lv_ldc hx hb G.2.2.2.1 (G.2.2.2.2.1 _ (hlk.1 hq)) hdec (K _ _ _ _ _ hR hlc hL hc0 hs0)
    | false =>
      rw [hq, cond_false] at hs
      cases hs
      exact zx_ldcS G (zk_own hat) (hlk.2 hq) hdec (K _ _ _ _ _ hR hlc hL hc0 hs0)
  | getstatic k =>
    have hs : (match zm_gs a with
      | some v => some (pc + 3, lo, v :: st, h)
      | none => none) = some (pc1, lo1, st1, h1) := hs
    cases hq : zm_gs a with
    | none => rw [hq] at hs; cases hs
    | some v =>
      rw [hq] at hs
      cases hs
      exact zx_gets G hR hH (by omega) hlc (zk_own hat) hlk hq hdec (K _ _ _ _ _ hR hlc hL hc0 hs0)
  | i2c => obtain ⟨v, r0, g1, g2⟩ := zm_u_s hs; cases g2; subst g1; exact lv_i2c hx hb hdec rfl (K _ _ _ _ _ hR hlc hL hc0 hs0)
  | ldc_w k => cases hs; exact lv_ldcw hx hb G.2.2.2.1 (G.2.2.2.2.1 _ hlk) hdec (K _ _ _ _ _ hR hlc hL hc0 hs0)
  | ldc2_w k => cases hs; exact lv_ldc2 hx hb G.2.2.2.1 (G.2.2.2.2.1 _ hlk) hdec (K _ _ _ _ _ hR hlc hL hc0 hs0)
  | iload_n k => obtain ⟨v, g1, g2⟩ := zm_li_s hs; cases g2; exact lv_iload_n hx hb hdec rfl (hL.at g1) (K _ _ _ _ _ hR hlc hL hc0 hs0)
  | iload k => obtain ⟨v, g1, g2⟩ := zm_li_s hs; cases g2; exact lv_iload hx hb hdec (hL.at g1) (K _ _ _ _ _ hR hlc hL hc0 hs0)
  | lload_n k => obtain ⟨v, g1, g2⟩ := zm_ll_s hs; cases g2; exact lv_lload_n hx hb hdec rfl (hL.at g1) (K _ _ _ _ _ hR hlc hL hc0 hs0)
  | lload k => obtain ⟨v, g1, g2⟩ := zm_ll_s hs; cases g2; exact lv_lload hx hb hdec (hL.at g1) (K _ _ _ _ _ hR hlc hL hc0 hs0)
  | aload_n k => obtain ⟨v, g1, g2⟩ := zm_la_s hs; cases g2; exact lv_aload_n hx hb hdec rfl (hL.at g1) (K _ _ _ _ _ hR hlc hL hc0 hs0)
  | aload k => obtain ⟨v, g1, g2⟩ := zm_la_s hs; cases g2; exact lv_aload hx hb hdec (hL.at g1) (K _ _ _ _ _ hR hlc hL hc0 hs0)
  | istore_n k =>
    obtain ⟨v, r0, g1, g2, g3⟩ := zm_si_s hs; cases g3; subst g1
    rw [hL.2.1] at g2
    exact lv_istore_n hx hb hdec rfl hL.has g2 rfl (fun ls1 h1 => K _ _ _ _ _ hR hlc (hL.put1 g2 h1) hc0 hs0)
  | istore k =>
    obtain ⟨v, r0, g1, g2, g3⟩ := zm_si_s hs; cases g3; subst g1
    rw [hL.2.1] at g2
    exact lv_istore hx hb hdec hL.has g2 rfl (fun ls1 h1 => K _ _ _ _ _ hR hlc (hL.put1 g2 h1) hc0 hs0)
  | lstore_n k =>
    obtain ⟨v, r0, g1, g2, g3⟩ := zm_sl_s hs; cases g3; subst g1
    rw [hL.2.1] at g2
    exact lv_lstore_n hx hb hdec rfl hL.has g2 rfl (fun ls1 h1 => K _ _ _ _ _ hR hlc (hL.put2 g2 h1) hc0 hs0)
  | lstore k =>
    obtain ⟨v, r0, g1, g2, g3⟩ := zm_sl_s hs; cases g3; subst g1
    rw [hL.2.1] at g2
    exact lv_lstore hx hb hdec hL.has g2 rfl (fun ls1 h1 => K _ _ _ _ _ hR hlc (hL.put2 g2 h1) hc0 hs0)
  | astore_n k =>
    obtain ⟨v, r0, g1, g2, g3⟩ := zm_sa_s hs; cases g3; subst g1
    rw [hL.2.1] at g2
    exact lv_astore_n hx hb hdec rfl hL.has g2 rfl (fun ls1 h1 => K _ _ _ _ _ hR hlc (hL.put1 (v := .ref v) g2 h1) hc0 hs0)
  | astore k =>
    obtain ⟨v, r0, g1, g2, g3⟩ := zm_sa_s hs; cases g3; subst g1
    rw [hL.2.1] at g2
    exact lv_astore hx hb hdec hL.has g2 rfl (fun ls1 h1 => K _ _ _ _ _ hR hlc (hL.put1 (v := .ref v) g2 h1) hc0 hs0)
  | iinc k w =>
    have hs : (match zm_lget lo k with
      | some (.int v) => some (pc + 3, zm_put1 lo k (.int (v + Int32.ofInt w)), st, h)
      | _ => none) = some (pc1, lo1, st1, h1) := hs
    split at hs
    · next v hv =>
      cases hs
      have hmem : (k, Value.int v) ∈ zx_lp (zx_ad H0 sa) lo := zx_lp_mem.mpr ⟨_, zm_lget_some.mp hv, rfl⟩
      obtain ⟨q, hq⟩ := List.getElem?_of_mem hmem
      have hk : k < z_L j := by rw [← hL.2.1]; exact (List.getElem?_eq_some_iff.mp (zm_lget_some.mp hv)).1
      exact lv_iinc hx hb hdec hL.has hq rfl hk rfl (fun ls1 h1 => K _ _ _ _ _ hR hlc (hL.put1 hk h1) hc0 hs0)
    · cases hs
  | iadd => obtain ⟨v, w, r0, g1, g2⟩ := zm_b_s hs; cases g2; subst g1; exact lv_iadd hx hb hdec (K _ _ _ _ _ hR hlc hL hc0 hs0)
  | isub => obtain ⟨v, w, r0, g1, g2⟩ := zm_b_s hs; cases g2; subst g1; exact lv_isub hx hb hdec (K _ _ _ _ _ hR hlc hL hc0 hs0)
  | imul => obtain ⟨v, w, r0, g1, g2⟩ := zm_b_s hs; cases g2; subst g1; exact lv_imul hx hb hdec (K _ _ _ _ _ hR hlc hL hc0 hs0)
  | iand => obtain ⟨v, w, r0, g1, g2⟩ := zm_b_s hs; cases g2; subst g1; exact lv_iand hx hb hdec (K _ _ _ _ _ hR hlc hL hc0 hs0)
  | ior => obtain ⟨v, w, r0, g1, g2⟩ := zm_b_s hs; cases g2; subst g1; exact lv_ior hx hb hdec (K _ _ _ _ _ hR hlc hL hc0 hs0)
  | ixor => obtain ⟨v, w, r0, g1, g2⟩ := zm_b_s hs; cases g2; subst g1; exact lv_ixor hx hb hdec (K _ _ _ _ _ hR hlc hL hc0 hs0)
  | ishl => obtain ⟨v, w, r0, g1, g2⟩ := zm_b_s hs; cases g2; subst g1; exact lv_ishl hx hb hdec (K _ _ _ _ _ hR hlc hL hc0 hs0)
  | ishr => obtain ⟨v, w, r0, g1, g2⟩ := zm_b_s hs; cases g2; subst g1; exact lv_ishr hx hb hdec (K _ _ _ _ _ hR hlc hL hc0 hs0)
  | iushr => obtain ⟨v, w, r0, g1, g2⟩ := zm_b_s hs; cases g2; subst g1; exact lv_iushr hx hb hdec rfl (K _ _ _ _ _ hR hlc hL hc0 hs0)
  | idiv => obtain ⟨v, w, r0, g1, g0, g2⟩ := zm_d_s hs; cases g2; subst g1; exact lv_idiv hx hb hdec g0 (K _ _ _ _ _ hR hlc hL hc0 hs0)
  | irem => obtain ⟨v, w, r0, g1, g0, g2⟩ := zm_d_s hs; cases g2; subst g1; exact lv_irem hx hb hdec g0 (K _ _ _ _ _ hR hlc hL hc0 hs0)
  | ladd => obtain ⟨v, w, r0, g1, g2⟩ := zm_lb_s hs; cases g2; subst g1; exact lv_ladd hx hb hdec (K _ _ _ _ _ hR hlc hL hc0 hs0)
  | lsub => obtain ⟨v, w, r0, g1, g2⟩ := zm_lb_s hs; cases g2; subst g1; exact lv_lsub hx hb hdec (K _ _ _ _ _ hR hlc hL hc0 hs0)
  | lmul => obtain ⟨v, w, r0, g1, g2⟩ := zm_lb_s hs; cases g2; subst g1; exact lv_lmul hx hb hdec (K _ _ _ _ _ hR hlc hL hc0 hs0)
  | ldiv => obtain ⟨v, w, r0, g1, g0, g2⟩ := zm_ld_s hs; cases g2; subst g1; exact lv_ldiv hx hb hdec g0 (K _ _ _ _ _ hR hlc hL hc0 hs0)
  | lrem => obtain ⟨v, w, r0, g1, g0, g2⟩ := zm_ld_s hs; cases g2; subst g1; exact lv_lrem hx hb hdec g0 (K _ _ _ _ _ hR hlc hL hc0 hs0)
  | i2b => obtain ⟨v, r0, g1, g2⟩ := zm_u_s hs; cases g2; subst g1; exact lv_i2b hx hb hdec rfl (K _ _ _ _ _ hR hlc hL hc0 hs0)
  | i2s => obtain ⟨v, r0, g1, g2⟩ := zm_u_s hs; cases g2; subst g1; exact lv_i2s hx hb hdec rfl (K _ _ _ _ _ hR hlc hL hc0 hs0)
  | i2l =>
    have hs : (match (generalizing := false) st with
      | .int v :: r => some (pc + 1, lo, .long v.toInt64 :: r, h)
      | _ => none) = some (pc1, lo1, st1, h1) := hs
    split at hs
    · cases hs; exact lv_i2l hx hb hdec rfl (K _ _ _ _ _ hR hlc hL hc0 hs0)
    · cases hs
  | lcmp =>
    have hs : (match (generalizing := false) st with
      | .long y :: .long x :: r => some (pc + 1, lo, .int (lg_cmp x y) :: r, h)
      | _ => none) = some (pc1, lo1, st1, h1) := hs
    split at hs
    · cases hs; exact W.lcmp hx hb hdec (K _ _ _ _ _ hR hlc hL hc0 hs0)
    · cases hs
  | dup =>
    have hs : (match (generalizing := false) st with
      | v :: r => bif Nat.beq v.category 1 then some (pc + 1, lo, v :: v :: r, h) else none
      | _ => none) = some (pc1, lo1, st1, h1) := hs
    split at hs
    · obtain ⟨g1, g2⟩ := zm_if hs
      cases g2; exact lv_dup hx hb hdec (by rw [zx_cv_cat]; exact Nat.eq_of_beq_eq_true g1) (K _ _ _ _ _ hR hlc hL hc0 hs0)
    · cases hs
  | pop =>
    have hs : (match (generalizing := false) st with
      | v :: r => bif Nat.beq v.category 1 then some (pc + 1, lo, r, h) else none
      | _ => none) = some (pc1, lo1, st1, h1) := hs
    split at hs
    · obtain ⟨g1, g2⟩ := zm_if hs
      cases g2; exact lv_pop hx hb hdec (by rw [zx_cv_cat]; exact Nat.eq_of_beq_eq_true g1) (K _ _ _ _ _ hR hlc hL hc0 hs0)
    · cases hs
  | pop2 =>
    have hs : (match (generalizing := false) st with
      | v :: r => bif Nat.beq v.category 2 then some (pc + 1, lo, r, h) else none
      | _ => none) = some (pc1, lo1, st1, h1) := hs
    split at hs
    · obtain ⟨g1, g2⟩ := zm_if hs
      cases g2; exact lv_pop2_2 hx hb hdec (by rw [zx_cv_cat]; exact Nat.eq_of_beq_eq_true g1) (K _ _ _ _ _ hR hlc hL hc0 hs0)
    · cases hs
  | dup2 =>
    have hs : (match (generalizing := false) st with
      | v :: w :: r => bif Nat.beq v.category 1 && Nat.beq w.category 1 then some (pc + 1, lo, v :: w :: v :: w :: r, h) else none
      | _ => none) = some (pc1, lo1, st1, h1) := hs
    split at hs
    · obtain ⟨g1, g2⟩ := zm_if hs
      rw [Bool.and_eq_true] at g1
      cases g2; exact lv_dup2_11 hx hb hdec (by rw [zx_cv_cat]; exact Nat.eq_of_beq_eq_true g1.1) (by rw [zx_cv_cat]; exact Nat.eq_of_beq_eq_true g1.2) (K _ _ _ _ _ hR hlc hL hc0 hs0)
    · cases hs
  | ifCond cd off =>
    have hs : (match (generalizing := false) st with
      | .int v :: r => bif zm_cmp cd v 0 then some (zm_tg pc off, lo, r, h) else some (pc + 3, lo, r, h)
      | _ => none) = some (pc1, lo1, st1, h1) := hs
    split at hs
    · next v r _ =>
      refine zx_if hx hb hlk hdec ?_
      cases hq : zm_cmp cd v 0 <;> rw [hq] at hs <;> cases hs <;> exact K _ _ _ _ _ hR hlc hL hc0 hs0
    · cases hs
  | if_icmp cd off =>
    have hs : (match (generalizing := false) st with
      | .int w :: .int v :: r => bif zm_cmp cd v w then some (zm_tg pc off, lo, r, h) else some (pc + 3, lo, r, h)
      | _ => none) = some (pc1, lo1, st1, h1) := hs
    split at hs
    · next w v r _ =>
      refine zx_icmp hx hb hlk hdec ?_
      cases hq : zm_cmp cd v w <;> rw [hq] at hs <;> cases hs <;> exact K _ _ _ _ _ hR hlc hL hc0 hs0
    · cases hs
  | goto off => cases hs; exact lv_goto hx hb hdec (Int.toNat_of_nonneg hlk).symm (K _ _ _ _ _ hR hlc hL hc0 hs0)
  | tableswitch d0 l0 u0 os =>
    have hs : (match (generalizing := false) st with
      | .int v :: r => (match zm_tab pc d0 l0 u0 os v with
        | some t => some (t, lo, r, h)
        | none => none)
      | _ => none) = some (pc1, lo1, st1, h1) := hs
    split at hs
    · split at hs
      · next t ht =>
        cases hs
        obtain ⟨k1, k2⟩ := hlk
        rcases zm_tab_s ht with ⟨g1, rfl⟩ | ⟨g1, g2, off, g3, rfl⟩
        · exact lv_tableOut hx hb hdec g1 (Int.toNat_of_nonneg k1).symm (K _ _ _ _ _ hR hlc hL hc0 hs0)
        · exact lv_tableIn hx hb hdec g1 g2 g3 (Int.toNat_of_nonneg (k2 off (Array.mem_of_getElem? g3))).symm (K _ _ _ _ _ hR hlc hL hc0 hs0)
      · cases hs
    · cases hs
  | lookupswitch d0 ps =>
    have hs : (match (generalizing := false) st with
      | .int v :: r => some (zm_tg pc (Op.lookupswitch.offset ps.toList d0 v.toInt), lo, r, h)
      | _ => none) = some (pc1, lo1, st1, h1) := hs
    split at hs
    · cases hs
      exact lv_lookup hx hb hdec hlk.1 rfl (Int.toNat_of_nonneg (hlk.2 _)).symm (K _ _ _ _ _ hR hlc hL hc0 hs0)
    · cases hs
  | getfield k =>
    have hs : (match (generalizing := false) st with
      | .ref r :: rest => (match (bif Nat.beq a 90 then zm_sget r b else zm_get h r a b) with
        | some v => some (pc + 3, lo, v :: rest, h)
        | none => none)
      | _ => none) = some (pc1, lo1, st1, h1) := hs
    split at hs
    · next r rest _ =>
      cases hq : Nat.beq a 90 with
      | true =>
        rw [hq, cond_true] at hs
        cases hv : zm_sget r b with
        | none => rw [hv] at hs; cases hs
        | some v =>
          rw [hv] at hs
          cases hs
          exact zx_sget G hR hH (by omega) hlc (zk_own hat) (hlk.2 hq) hv hdec (K _ _ _ _ _ hR hlc hL hc0 hs0)
      | false =>
        rw [hq, cond_false] at hs
        cases hv : zm_get h r a b with
        | none => rw [hv] at hs; cases hs
        | some v =>
          rw [hv] at hs
          cases hs
          obtain ⟨fs, g1, g2⟩ := zm_get_s hv
          exact zx_getf G hR g1 g2 (hlk.1 hq) hdec (K _ _ _ _ _ hR hlc hL hc0 hs0)
    · cases hs
  | putfield k =>
    have hs : (match (generalizing := false) st with
      | v :: .ref r :: rest => bif zm_ok (z_ty a b) v then (match zm_set h r a b v with
        | some h1 => some (pc + 3, lo, rest, h1)
        | none => none) else none
      | _ => none) = some (pc1, lo1, st1, h1) := hs
    split at hs
    · obtain ⟨g0, hs⟩ := zm_if hs
      split at hs
      · next hh hv =>
        cases hs
        obtain ⟨fs, g1, g2, rfl⟩ := zm_set_s hv
        exact zx_putf G hR hlc g1 g2 g0 hlk.1 hlk.2 hdec (fun H1 locs1 r1 r2 => K _ _ _ _ _ r1 r2 hL (by simpa using hc0) (by rw [zm_hsz_set _ _ _ _ g1 (by simp [zm_csz])]; exact hs0))
      · cases hs
    · cases hs
  | iaload =>
    have hs : (match (generalizing := false) st with
      | .int i :: .ref r :: rest => bif Nat.beq r zm_SP then (match zm_sld sc i with
        | some v => some (pc + 1, lo, .int v :: rest, h)
        | none => none) else (match zm_ald h r 0 0 i with
        | some v => some (pc + 1, lo, .int v :: rest, h)
        | none => none)
      | _ => none) = some (pc1, lo1, st1, h1) := hs
    split at hs
    · next i r rest _ =>
      cases hq : Nat.beq r zm_SP with
      | true =>
        rw [hq] at hs
        have hq := Nat.eq_of_beq_eq_true hq
        subst hq
        have hs : (match zm_sld sc i with
          | some v => some (pc + 1, lo, .int v :: rest, h)
          | none => none) = some (pc1, lo1, st1, h1) := hs
        split at hs
        · next v hv =>
          cases hs
          obtain ⟨sl, hsl, q1, rfl⟩ := zm_sld_s hv
          have hX := G.2.2.2.2.2.2.2.1 sl hsl
          show W p l e R s m args below meth c H locs cells slots Q (F0 m pc ls (.int i :: .ref (zx_ad H0 sa zm_SP) :: _))
          rw [zx_sp]
          exact va_sld hx hb hX.1 hX.2 (Nat.not_le.mpr hX.2) (hR.S hlc) q1 hdec (K _ _ _ _ _ hR hlc hL hc0 hs0)
        · cases hs
      | false =>
        rw [hq] at hs
        have hs : (match zm_ald h r 0 0 i with
          | some v => some (pc + 1, lo, .int v :: rest, h)
          | none => none) = some (pc1, lo1, st1, h1) := hs
        split at hs
        · next v hv =>
          cases hs
          obtain ⟨t, xs, g1, g2, g3, rfl⟩ := zm_ald_s hv
          have g2 : t = 0 := by omega
          subst g2
          exact zx_iald G hR g1 g3 hdec (K _ _ _ _ _ hR hlc hL hc0 hs0)
        · cases hs
    · cases hs
  | baload =>
    have hs : (match (generalizing := false) st with
      | .int i :: .ref r :: rest => (match (bif zm_isB r then (match zm_ix i (zm_sby r).length with | some k => some ((zm_sby r).getD k 0) | none => none) else zm_ald h r 1 2 i) with
        | some v => some (pc + 1, lo, .int v :: rest, h)
        | none => none)
      | _ => none) = some (pc1, lo1, st1, h1) := hs
    split at hs
    · next i r rest _ =>
      cases hq : zm_isB r with
      | true =>
        rw [hq, cond_true] at hs
        cases hv : zm_ix i (zm_sby r).length with
        | none => rw [hv] at hs; cases hs
        | some k =>
          rw [hv] at hs
          cases hs
          obtain ⟨q1, q2, q3⟩ := zm_ix_s hv
          subst q2
          exact zx_sbald G hR hH (by omega) hlc hq q1 hdec (K _ _ _ _ _ hR hlc hL hc0 hs0)
      | false =>
        rw [hq, cond_false] at hs
        cases hv : zm_ald h r 1 2 i with
        | none => rw [hv] at hs; cases hs
        | some v =>
          rw [hv] at hs
          cases hs
          obtain ⟨t, xs, g1, g2, g3, rfl⟩ := zm_ald_s hv
          exact zx_bald G hR g2 g1 g3 hdec (K _ _ _ _ _ hR hlc hL hc0 hs0)
    · cases hs
  | iastore =>
    have hs : (match (generalizing := false) st with
      | .int v :: .int i :: .ref r :: rest => (match zm_ast h r 0 0 i v with
        | some h1 => some (pc + 1, lo, rest, h1)
        | none => none)
      | _ => none) = some (pc1, lo1, st1, h1) := hs
    split at hs
    · split at hs
      · next hh hv =>
        cases hs
        obtain ⟨t, xs, g1, g2, g3, rfl⟩ := zm_ast_s hv
        have g2 : t = 0 := by omega
        subst g2
        exact zx_iast G hR hlc g1 g3 hdec (fun H1 locs1 r1 r2 => K _ _ _ _ _ r1 r2 hL (by simpa using hc0) (by rw [zm_hsz_set _ _ _ _ g1 (by simp [zm_csz])]; exact hs0))
      · cases hs
    · cases hs
  | bastore =>
    have hs : (match (generalizing := false) st with
      | .int v :: .int i :: .ref r :: rest => (match zm_ast h r 1 2 i v with
        | some h1 => some (pc + 1, lo, rest, h1)
        | none => none)
      | _ => none) = some (pc1, lo1, st1, h1) := hs
    split at hs
    · split at hs
      · next hh hv =>
        cases hs
        obtain ⟨t, xs, g1, g2, g3, rfl⟩ := zm_ast_s hv
        exact zx_bast G hR hlc g2 g1 g3 hdec (fun H1 locs1 r1 r2 => K _ _ _ _ _ r1 r2 hL (by simpa using hc0) (by rw [zm_hsz_set _ _ _ _ g1 (by simp [zm_csz])]; exact hs0))
      · cases hs
    · cases hs
  | aaload =>
    have hs : (match (generalizing := false) st with
      | .int i :: .ref r :: rest => (match zm_aald h r i with
        | some v => some (pc + 1, lo, v :: rest, h)
        | none => none)
      | _ => none) = some (pc1, lo1, st1, h1) := hs
    split at hs
    · split at hs
      · next v hv =>
        cases hs
        obtain ⟨t, rs0, g1, g2, g3, rfl⟩ := zm_aald_s hv
        exact zx_aald G hR g1 g2 g3 hdec (K _ _ _ _ _ hR hlc hL hc0 hs0)
      · cases hs
    · cases hs
  | aastore =>
    have hs : (match (generalizing := false) st with
      | .ref v :: .int i :: .ref r :: rest => (match zm_aast z_el h r v i with
        | some h1 => some (pc + 1, lo, rest, h1)
        | none => none)
      | _ => none) = some (pc1, lo1, st1, h1) := hs
    split at hs
    · split at hs
      · next hh hv =>
        cases hs
        obtain ⟨t, rs0, fs, g1, g0, g3, g4, rfl⟩ := zm_aast_s hv
        exact zx_aast G hR hlc g1 g0 g3 g4 hdec (fun H1 locs1 r1 r2 => K _ _ _ _ _ r1 r2 hL (by simpa using hc0) (by rw [zm_hsz_set _ _ _ _ g1 (by simp [zm_csz])]; exact hs0))
      · cases hs
    · cases hs
  | arraylength =>
    have hs : (match (generalizing := false) st with
      | .ref r :: rest => bif Nat.beq r zm_SP then (match (generalizing := false) sc with
        | some l => some (pc + 1, lo, .int (Int32.ofNat l.length) :: rest, h)
        | none => none) else (match (bif zm_isB r then some (zm_sby r).length else zm_len h r) with
        | some n => some (pc + 1, lo, .int (Int32.ofNat n) :: rest, h)
        | none => none)
      | _ => none) = some (pc1, lo1, st1, h1) := hs
    split at hs
    · next r rest _ =>
      cases hq : Nat.beq r zm_SP with
      | true =>
        rw [hq] at hs
        have hq := Nat.eq_of_beq_eq_true hq
        subst hq
        have hs : (match (generalizing := false) sc with
          | some l => some (pc + 1, lo, .int (Int32.ofNat l.length) :: rest, h)
          | none => none) = some (pc1, lo1, st1, h1) := hs
        split at hs
        · cases hs
          have hX := G.2.2.2.2.2.2.2.1 _ rfl
          show W p l e R s m args below meth c H locs cells slots Q (F0 m pc ls (.ref (zx_ad H0 sa zm_SP) :: _))
          rw [zx_sp]
          exact va_slen hx hb hX.1 hX.2 (Nat.not_le.mpr hX.2) (hR.S hlc) hdec (K _ _ _ _ _ hR hlc hL hc0 hs0)
        · cases hs
      | false =>
        rw [hq] at hs
        have hs : (match (bif zm_isB r then some (zm_sby r).length else zm_len h r) with
          | some n => some (pc + 1, lo, .int (Int32.ofNat n) :: rest, h)
          | none => none) = some (pc1, lo1, st1, h1) := hs
        cases hqb : zm_isB r with
        | true =>
          rw [hqb, cond_true] at hs
          cases hs
          exact zx_salen G hR hH (by omega) hlc hqb hdec (K _ _ _ _ _ hR hlc hL hc0 hs0)
        | false =>
          rw [hqb, cond_false] at hs
          cases hn : zm_len h r with
          | none => rw [hn] at hs; cases hs
          | some n =>
            rw [hn] at hs
            cases hs
            exact zx_alen G hR hn hdec (K _ _ _ _ _ hR hlc hL hc0 hs0)
    · cases hs
  | new k =>
    obtain ⟨g1, g2⟩ := zm_if (show (bif Nat.blt h.length 100000 then some (pc + 3, lo, Value.ref h.length :: st, h ++ [.inr (.inr (a, z_dv a))]) else none) = some (pc1, lo1, st1, h1) from hs)
    cases g2
    have hl : h.length < 100000 := Nat.le_of_ble_eq_true g1
    have e1 : zm_hsz (h ++ [.inr (.inr (a, z_dv a))]) = zm_hsz h + (z_dv a).length := by rw [zm_hsz_push]; rfl
    have e2 : (h ++ [(.inr (.inr (a, z_dv a)) : AC)]).length = h.length + 1 := by simp
    rw [e1] at rs
    rw [e2] at rc
    exact zx_new (ci := a) G hR hl hlk (by omega) (by omega) hdec (fun H1 r1 => K _ _ _ _ _ r1 hlc hL (by rw [e2]; omega) (by rw [e1]; omega))
  | newarray k =>
    have hs : (match (generalizing := false) zm_aty k, st with
      | some t, .int n :: rest => bif decide (n < 0) || Nat.blt 10000 n.toNatClampNeg || Nat.ble 100000 h.length then none else some (pc + 2, lo, .ref h.length :: rest, h ++ [.inl (t, List.replicate n.toNatClampNeg 0)])
      | _, _ => none) = some (pc1, lo1, st1, h1) := hs
    split at hs
    · next t w rest ht _ =>
      obtain ⟨g1, g2⟩ := zm_ifn hs
      cases g2
      simp only [Bool.or_eq_false_iff, decide_eq_false_iff_not] at g1
      have q1 : w.toNatClampNeg ≤ 10000 := by
        rcases Nat.lt_or_ge 10000 w.toNatClampNeg with q | q
        · have := Nat.ble_eq_true_of_le q; rw [show Nat.blt 10000 w.toNatClampNeg = Nat.ble (10000 + 1) w.toNatClampNeg from rfl, this] at g1; simp at g1
        · exact q
      have q2 : h.length < 100000 := by
        rcases Nat.lt_or_ge h.length 100000 with q | q
        · exact q
        · have := Nat.ble_eq_true_of_le q; rw [this] at g1; simp at g1
      have e1 : zm_hsz (h ++ [.inl (t, List.replicate w.toNatClampNeg (0 : Int32))]) = zm_hsz h + w.toNatClampNeg := by rw [zm_hsz_push]; simp [zm_csz]
      have e2 : (h ++ [(.inl (t, List.replicate w.toNatClampNeg (0 : Int32)) : AC)]).length = h.length + 1 := by simp
      rw [e1] at rs
      rw [e2] at rc
      exact zx_newa G hR ht q2 g1.1.1 q1 (by omega) (by omega) hdec (fun H1 r1 => K _ _ _ _ _ r1 hlc hL (by rw [e2]; omega) (by rw [e1]; omega))
    · cases hs
  | anewarray k =>
    have hs : (match (generalizing := false) st with
      | .int n :: rest => bif decide (n < 0) || Nat.blt 10000 n.toNatClampNeg || Nat.ble 100000 h.length then none else some (pc + 3, lo, .ref h.length :: rest, h ++ [.inr (.inl (a, List.replicate n.toNatClampNeg none))])
      | _ => none) = some (pc1, lo1, st1, h1) := hs
    split at hs
    · next w rest _ =>
      obtain ⟨g1, g2⟩ := zm_ifn hs
      cases g2
      simp only [Bool.or_eq_false_iff, decide_eq_false_iff_not] at g1
      have q1 : w.toNatClampNeg ≤ 10000 := by
        rcases Nat.lt_or_ge 10000 w.toNatClampNeg with q | q
        · have := Nat.ble_eq_true_of_le q; rw [show Nat.blt 10000 w.toNatClampNeg = Nat.ble (10000 + 1) w.toNatClampNeg from rfl, this] at g1; simp at g1
        · exact q
      have q2 : h.length < 100000 := by
        rcases Nat.lt_or_ge h.length 100000 with q | q
        · exact q
        · have := Nat.ble_eq_true_of_le q; rw [this] at g1; simp at g1
      have e1 : zm_hsz (h ++ [.inr (.inl (a, List.replicate w.toNatClampNeg (none : Option Nat)))]) = zm_hsz h + w.toNatClampNeg := by rw [zm_hsz_push]; simp [zm_csz]
      have e2 : (h ++ [(.inr (.inl (a, List.replicate w.toNatClampNeg (none : Option Nat))) : AC)]).length = h.length + 1 := by simp
      rw [e1] at rs
      rw [e2] at rc
      exact zx_newq (t := a) G hR hlk q2 g1.1.1 q1 (by omega) (by omega) hdec (fun H1 r1 => K _ _ _ _ _ r1 hlc hL (by rw [e2]; omega) (by rw [e1]; omega))
    · cases hs
  | _ => exact absurd (show (none : Option ZS) = some (pc1, lo1, st1, h1) from hs) (by simp)
end ZD
