/-! what is known of an instruction that the small machine meets -/
theorem zk_gd {α : Type} {l : List α} {k : Nat} {d x : α} (h : l.getD k d = x) (hne : x ≠ d) : l[k]? = some x := by
  rw [List.getD_eq_getElem?_getD] at h
  cases hl : l[k]? with
  | none => rw [hl] at h; exact absurd h.symm hne
  | some y => rw [hl] at h; exact congrArg some h
theorem zk_at {j pc : Nat} {x : XI} (h : zm_at j pc = some x) : ∃ ls l, z_P[j]? = some ls ∧ ls[pc / 32]? = some l ∧ l[pc % 32]? = some (some x) := by
  unfold zm_at at h
  have h1 := zk_gd h (by simp)
  have h2 : (z_P.getD j []).getD (pc / 32) [] ≠ [] := fun q => by rw [q] at h1; simp at h1
  have h3 := zk_gd rfl h2
  have h4 : z_P.getD j [] ≠ [] := fun q => by rw [q] at h3; simp at h3
  exact ⟨_, _, zk_gd rfl h4, h3, h1⟩
theorem zk_lt {j pc : Nat} {x : XI} (h : zm_at j pc = some x) : j < z_nM := by
  obtain ⟨ls, l, h1, -⟩ := zk_at h
  exact (List.getElem?_eq_some_iff.mp h1).1
theorem zk_both {j pc : Nat} {x : XI} (h : zm_at j pc = some x) : decode (z_B j) pc = .ok (x.1, zk_ln x.1 x.2.1) ∧ zk_b j pc x = true := by
  obtain ⟨ls, l, h1, h2, h3⟩ := zk_at h
  have := zk_ch_s l _ (zk_chs_s ls 0 (zk_h h1) _ l h2) _ x h3
  rwa [show 32 * (0 + pc / 32) + pc % 32 = pc by omega] at this
theorem zk_dec {j pc : Nat} {x : XI} (h : zm_at j pc = some x) : decode (z_B j) pc = .ok (x.1, zk_ln x.1 x.2.1) := (zk_both h).1
theorem zk_bb {j pc : Nat} {x : XI} (h : zm_at j pc = some x) : zk_b j pc x = true := (zk_both h).2
theorem zk_j0 {pc : Nat} {x : XI} (h : zm_at 0 pc = some x) : False := by
  obtain ⟨ls, l, a, b, -⟩ := zk_at h
  have : ls = [] := (Option.some.inj a).symm
  subst this
  simp at b
theorem zk_mm_s {j : Nat} (h : j < z_nM) (h0 : 0 < j) : ((z_Y j).cls ≠ "java/lang/invoke/MethodHandle" ∧ (z_Y j).cls ≠ "java/lang/invoke/VarHandle" ∧ (parseMethodDescriptor (z_Y j).desc).map (fun d => d.parameters.length) = some (z_N j)) ∧ z_L j ≤ 12 ∧ (z_Y j).cls = z_cn (z_O j) ∧ plainName (z_Y j).cls = true ∧ (z_K j = 2 → (z_Y j).name = "<init>" ∧ z_R j = none) ∧ z_O j < 14 := by
  have := List.all_eq_true.mp zo_mm j (List.mem_range.mpr h)
  have hj : Nat.beq j 0 = false := by
    cases hq : Nat.beq j 0 with
    | false => rfl
    | true => have := Nat.eq_of_beq_eq_true hq; omega
  simp only [zk_mm, hj, Bool.false_or, Bool.and_eq_true, decide_eq_true_eq] at this
  obtain ⟨⟨⟨⟨⟨⟨a1, a2⟩, a3⟩, a4⟩, a5, a6⟩, a7⟩, a8⟩ := this
  refine ⟨⟨a1, a2, a3⟩, Nat.le_of_ble_eq_true a4, a5, a6, fun hk => ?_, Nat.le_of_ble_eq_true a8⟩
  rw [hk] at a7
  simpa using a7
theorem zk_own {j pc : Nat} {x : XI} (h : zm_at j pc = some x) : (z_Y j).cls = z_cn (z_O j) := by
  have h1 := zk_lt h
  have h0 : 0 < j := by
    rcases Nat.eq_zero_or_pos j with rfl | q
    · exact (zk_j0 h).elim
    · exact q
  exact (zk_mm_s h1 h0).2.2.1
def zk_I (j pc : Nat) (x : XI) : Prop := match x.1 with
  | .ldc k => (Nat.beq x.2.2.2 0 = true → Cond.constant (z_Y j).cls k (Int32.ofNat x.2.2.1) ∈ z_T) ∧ (Nat.beq x.2.2.2 0 = false → zk_has zk_e3 z_ls (z_O j, k, x.2.2.1) = true)
  | .getstatic k => zk_has zk_e3 z_gs (z_O j, k, x.2.2.1) = true
  | .ldc_w k => Cond.constant (z_Y j).cls k (Int32.ofNat x.2.2.1) ∈ z_T
  | .ldc2_w k => Cond.constantLong (z_Y j).cls k (Int64.ofNat x.2.2.1) ∈ z_T
  | .ifCond _ off => 0 ≤ (pc : Int) + off
  | .if_icmp _ off => 0 ≤ (pc : Int) + off
  | .goto off => 0 ≤ (pc : Int) + off
  | .tableswitch d _ _ os => 0 ≤ (pc : Int) + d ∧ ∀ off ∈ os, 0 ≤ (pc : Int) + off
  | .lookupswitch d ps => (ps.toList.zip (ps.toList.drop 1)).all (fun (a, next) => a.1 < next.1) = true ∧ ∀ v : Int, 0 ≤ (pc : Int) + Op.lookupswitch.offset ps.toList d v
  | .getfield k => (Nat.beq x.2.2.1 90 = false → zk_F j k x.2.2.1 x.2.2.2) ∧ (Nat.beq x.2.2.1 90 = true → zk_has zk_e3 z_sf (z_O j, k, x.2.2.2) = true)
  | .putfield k => zk_F j k x.2.2.1 x.2.2.2 ∧ zk_W j x.2.2.1 x.2.2.2
  | .new k => zk_N j k x.2.2.1
  | .anewarray k => zk_Q j k x.2.2.1
  | _ => True
theorem zk_off (ps : List (Int × Int)) (d v : Int) (pc : Nat) (h0 : 0 ≤ (pc : Int) + d) (h : ∀ q ∈ ps, 0 ≤ (pc : Int) + q.2) : 0 ≤ (pc : Int) + Op.lookupswitch.offset ps d v := by
  induction ps with
  | nil => exact h0
  | cons q ps ih =>
    obtain ⟨a, o⟩ := q
    rw [Op.lookupswitch.offset_cons]
    by_cases e : a = v
    · rw [if_pos e]; exact h (a, o) List.mem_cons_self
    · rw [if_neg e]; exact ih (fun q hq => h q (List.mem_cons_of_mem _ hq))
theorem zk_fl_s {j k a b : Nat} (hc : (z_Y j).cls = z_cn (z_O j)) (h1 : Nat.blt a 9 = true) (h2 : Nat.blt b (z_dv a).length = true) (h3 : zk_has zk_e4 z_fl (z_O j, k, a, b) = true) (h4 : (z_F a b).1 = z_cn a) : zk_F j k a b := by
  obtain ⟨p, hp⟩ := zk_has_in (fun _ _ => zk_e4_eq) zo_f h3
  exact ⟨Nat.le_of_ble_eq_true h1, Nat.le_of_ble_eq_true h2, h4, z_T_in hp rfl, hc⟩
set_option maxHeartbeats 4000000 in
theorem zk_lk {j pc : Nat} {x : XI} (h : zm_at j pc = some x) : zk_I j pc x := by
  have hb := zk_bb h
  have hc := zk_own h
  have hlt := zk_lt h
  obtain ⟨i, n, a, b⟩ := x
  cases i with
  | ldc k =>
    have hb : (bif Nat.beq b 0 then zk_has zk_e3 z_kc (z_O j, k, a) else zk_has zk_e3 z_ls (z_O j, k, a) && Nat.blt a 9) = true := hb
    refine ⟨fun q => ?_, fun q => ?_⟩
    · have q : Nat.beq b 0 = true := q
      rw [q, cond_true] at hb
      obtain ⟨p, hp⟩ := zk_has_in (fun _ _ => zk_e3_eq) zo_kc hb
      show Cond.constant (z_Y j).cls k (Int32.ofNat a) ∈ z_T
      rw [hc]; exact z_T_in hp rfl
    · have q : Nat.beq b 0 = false := q
      rw [q, cond_false, Bool.and_eq_true] at hb
      exact hb.1
  | getstatic k =>
    have hb : (Nat.blt a 2 && zk_has zk_e3 z_gs (z_O j, k, a)) = true := hb
    rw [Bool.and_eq_true] at hb
    exact hb.2
  | ldc_w k =>
    obtain ⟨p, hp⟩ := zk_has_in (fun _ _ => zk_e3_eq) zo_kc hb
    show Cond.constant (z_Y j).cls k (Int32.ofNat a) ∈ z_T
    rw [hc]; exact z_T_in hp rfl
  | ldc2_w k =>
    obtain ⟨p, hp⟩ := zk_has_in (fun _ _ => zk_e3_eq) zo_kl hb
    show Cond.constantLong (z_Y j).cls k (Int64.ofNat a) ∈ z_T
    rw [hc]; exact z_T_in hp rfl
  | ifCond c off => exact of_decide_eq_true (p := 0 ≤ (pc : Int) + off) hb
  | if_icmp c off => exact of_decide_eq_true (p := 0 ≤ (pc : Int) + off) hb
  | goto off => exact of_decide_eq_true (p := 0 ≤ (pc : Int) + off) hb
  | tableswitch d0 l0 u0 os =>
    simp only [zk_b, Bool.and_eq_true] at hb
    refine ⟨of_decide_eq_true hb.1, fun off ho => ?_⟩
    exact of_decide_eq_true (List.all_eq_true.mp hb.2 off (Array.mem_toList_iff.mpr ho))
  | lookupswitch d0 ps =>
    simp only [zk_b, Bool.and_eq_true] at hb
    refine ⟨hb.1.1, fun v => zk_off _ _ _ _ (of_decide_eq_true hb.1.2) (fun q hq => of_decide_eq_true (List.all_eq_true.mp hb.2 q hq))⟩
  | getfield k =>
    have hb : (bif Nat.beq a 90 then Nat.blt b 2 && zk_has zk_e3 z_sf (z_O j, k, b) else Nat.blt a 9 && Nat.blt b (z_dv a).length && zk_has zk_e4 z_fl (z_O j, k, a, b) && decide ((z_F a b).1 = z_cn a)) = true := hb
    refine ⟨fun q => ?_, fun q => ?_⟩
    · have q : Nat.beq a 90 = false := q
      rw [q, cond_false] at hb
      simp only [Bool.and_eq_true] at hb
      exact zk_fl_s hc hb.1.1.1 hb.1.1.2 hb.1.2 (of_decide_eq_true hb.2)
    · have q : Nat.beq a 90 = true := q
      rw [q, cond_true, Bool.and_eq_true] at hb
      exact hb.2
  | putfield k =>
    simp only [zk_b, Bool.and_eq_true] at hb
    refine ⟨zk_fl_s hc hb.1.1.1.1 hb.1.1.1.2 hb.1.1.2 (of_decide_eq_true hb.1.2), fun hf => ?_⟩
    have hf : (z_F a b).2.2.2 = true := hf
    have h2 := hb.2
    rw [hf] at h2
    simp only [Bool.not_true, Bool.false_or, Bool.and_eq_true] at h2
    have e1 := Nat.eq_of_beq_eq_true h2.1
    have e2 := Nat.eq_of_beq_eq_true h2.2
    have h0 : 0 < j := by
      rcases Nat.eq_zero_or_pos j with rfl | q
      · exact (zk_j0 h).elim
      · exact q
    exact ⟨((zk_mm_s hlt h0).2.2.2.2.1 e1).1, by show z_cn a = _; rw [hc, e2]⟩
  | new k =>
    simp only [zk_b, Bool.and_eq_true] at hb
    obtain ⟨p, hp⟩ := zk_has_in (fun _ _ => zk_e3_eq) zo_c hb.2
    exact ⟨Nat.le_of_ble_eq_true hb.1, z_T_in hp rfl, hc⟩
  | anewarray k =>
    simp only [zk_b, Bool.and_eq_true] at hb
    obtain ⟨p, hp⟩ := zk_has_in (fun _ _ => zk_e3_eq) zo_q hb.2
    exact ⟨hb.1, z_T_in hp rfl, hc⟩
  | _ => trivial
