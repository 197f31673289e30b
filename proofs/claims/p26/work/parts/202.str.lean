/-! the String constants: length and charAt; a lookupswitch of two (printed by wip/tools/str.py) -/
theorem zls_2 {v a b : Int32} {A B x y dflt : Int} (ha : a.toInt = A) (hb : b.toInt = B) (h1 : (v == a) = false) (h2 : (v == b) = false) : Op.lookupswitch.offset [(A, x), (B, y)] dflt v.toInt = dflt := by
  have e1 : ¬ A = v.toInt := fun q => by
    have : v = a := Int32.toInt_inj.mp (by omega)
    simp [this] at h1
  have e2 : ¬ B = v.toInt := fun q => by
    have : v = b := Int32.toInt_inj.mp (by omega)
    simp [this] at h2
  simp [Op.lookupswitch.offset, e1, e2]
def zs_ln (w : Nat) : Int32 := Int32.ofNat (z_by w).length
def zs_ch (w : Nat) (i : Int32) : Option Int32 := (zm_ix i (z_by w).length).bind fun k => some ((z_by w).getD k 0)
theorem zm_ix_i {i : Int32} {n k : Nat} (h : zm_ix i n = some k) : i = Int32.ofNat k := by
  unfold zm_ix at h
  cases hq : decide (i < 0) with
  | true => rw [hq] at h; cases h
  | false =>
    rw [hq, cond_false] at h
    obtain ⟨a, b⟩ := zm_if h
    cases b
    have h0 : ¬ i < 0 := of_decide_eq_false hq
    have h1 : 0 ≤ i.toInt := by
      have := Int32.not_lt.mp h0
      have := Int32.le_iff_toInt_le.mp this
      simpa using this
    apply Int32.toInt_inj.mp
    have h2 : i.toInt < 2147483648 := Int32.toInt_lt i
    rw [Int32.toInt_ofNat_of_lt (by show i.toNatClampNeg < 2147483648; unfold Int32.toNatClampNeg; omega)]
    unfold Int32.toNatClampNeg
    omega
theorem zs_rok {h : HP} {k n m a w : Nat} {as : List Value} (hw : w < 9) (hm : Nat.beq (z_O m) 11 = true) : zm_rok h (.invokevirtual k, n, m, a) (.ref (zm_SP + 1 + w) :: as) = true := by
  show (bif Nat.beq (z_O m) 11 then zm_isS (zm_SP + 1 + w) else _) = true
  rw [hm, cond_true]
  have h1 : Nat.blt zm_SP (zm_SP + 1 + w) = true := Nat.ble_eq_true_of_le (by omega)
  have h2 : Nat.ble (zm_SP + 1 + w) (zm_SP + 9) = true := Nat.ble_eq_true_of_le (by omega)
  simp [zm_isS, h1, h2]
section STR
variable {sc : Option (List Int32)} {d : Nat} {h : HP}
theorem zs_l0 : zm_run sc 30 (d + 4) 191 0 (zm_ent (z_L 191) [.ref (zm_SP + 1 + 0)]) [] h = some (10, [.int 5], h) := rfl
theorem zs_c0_0 : zm_run sc 50 (d + 4) 192 0 (zm_ent (z_L 192) [.ref (zm_SP + 1 + 0), .int 0]) [] h = some (15, [.int 104], h) := rfl
theorem zs_c0_1 : zm_run sc 50 (d + 4) 192 0 (zm_ent (z_L 192) [.ref (zm_SP + 1 + 0), .int 1]) [] h = some (15, [.int 111], h) := rfl
theorem zs_c0_2 : zm_run sc 50 (d + 4) 192 0 (zm_ent (z_L 192) [.ref (zm_SP + 1 + 0), .int 2]) [] h = some (15, [.int 117], h) := rfl
theorem zs_c0_3 : zm_run sc 50 (d + 4) 192 0 (zm_ent (z_L 192) [.ref (zm_SP + 1 + 0), .int 3]) [] h = some (15, [.int 114], h) := rfl
theorem zs_c0_4 : zm_run sc 50 (d + 4) 192 0 (zm_ent (z_L 192) [.ref (zm_SP + 1 + 0), .int 4]) [] h = some (15, [.int 115], h) := rfl
theorem zs_l1 : zm_run sc 30 (d + 4) 191 0 (zm_ent (z_L 191) [.ref (zm_SP + 1 + 1)]) [] h = some (10, [.int 3], h) := rfl
theorem zs_c1_0 : zm_run sc 50 (d + 4) 192 0 (zm_ent (z_L 192) [.ref (zm_SP + 1 + 1), .int 0]) [] h = some (15, [.int 111], h) := rfl
theorem zs_c1_1 : zm_run sc 50 (d + 4) 192 0 (zm_ent (z_L 192) [.ref (zm_SP + 1 + 1), .int 1]) [] h = some (15, [.int 110], h) := rfl
theorem zs_c1_2 : zm_run sc 50 (d + 4) 192 0 (zm_ent (z_L 192) [.ref (zm_SP + 1 + 1), .int 2]) [] h = some (15, [.int 101], h) := rfl
theorem zs_l2 : zm_run sc 30 (d + 4) 191 0 (zm_ent (z_L 191) [.ref (zm_SP + 1 + 2)]) [] h = some (10, [.int 4], h) := rfl
theorem zs_c2_0 : zm_run sc 50 (d + 4) 192 0 (zm_ent (z_L 192) [.ref (zm_SP + 1 + 2), .int 0]) [] h = some (15, [.int 100], h) := rfl
theorem zs_c2_1 : zm_run sc 50 (d + 4) 192 0 (zm_ent (z_L 192) [.ref (zm_SP + 1 + 2), .int 1]) [] h = some (15, [.int 101], h) := rfl
theorem zs_c2_2 : zm_run sc 50 (d + 4) 192 0 (zm_ent (z_L 192) [.ref (zm_SP + 1 + 2), .int 2]) [] h = some (15, [.int 101], h) := rfl
theorem zs_c2_3 : zm_run sc 50 (d + 4) 192 0 (zm_ent (z_L 192) [.ref (zm_SP + 1 + 2), .int 3]) [] h = some (15, [.int 100], h) := rfl
theorem zs_l3 : zm_run sc 30 (d + 4) 191 0 (zm_ent (z_L 191) [.ref (zm_SP + 1 + 3)]) [] h = some (10, [.int 4], h) := rfl
theorem zs_c3_0 : zm_run sc 50 (d + 4) 192 0 (zm_ent (z_L 192) [.ref (zm_SP + 1 + 3), .int 0]) [] h = some (15, [.int 109], h) := rfl
theorem zs_c3_1 : zm_run sc 50 (d + 4) 192 0 (zm_ent (z_L 192) [.ref (zm_SP + 1 + 3), .int 1]) [] h = some (15, [.int 117], h) := rfl
theorem zs_c3_2 : zm_run sc 50 (d + 4) 192 0 (zm_ent (z_L 192) [.ref (zm_SP + 1 + 3), .int 2]) [] h = some (15, [.int 115], h) := rfl
theorem zs_c3_3 : zm_run sc 50 (d + 4) 192 0 (zm_ent (z_L 192) [.ref (zm_SP + 1 + 3), .int 3]) [] h = some (15, [.int 116], h) := rfl
theorem zs_l4 : zm_run sc 30 (d + 4) 191 0 (zm_ent (z_L 191) [.ref (zm_SP + 1 + 4)]) [] h = some (10, [.int 5], h) := rfl
theorem zs_c4_0 : zm_run sc 50 (d + 4) 192 0 (zm_ent (z_L 192) [.ref (zm_SP + 1 + 4), .int 0]) [] h = some (15, [.int 110], h) := rfl
theorem zs_c4_1 : zm_run sc 50 (d + 4) 192 0 (zm_ent (z_L 192) [.ref (zm_SP + 1 + 4), .int 1]) [] h = some (15, [.int 101], h) := rfl
theorem zs_c4_2 : zm_run sc 50 (d + 4) 192 0 (zm_ent (z_L 192) [.ref (zm_SP + 1 + 4), .int 2]) [] h = some (15, [.int 118], h) := rfl
theorem zs_c4_3 : zm_run sc 50 (d + 4) 192 0 (zm_ent (z_L 192) [.ref (zm_SP + 1 + 4), .int 3]) [] h = some (15, [.int 101], h) := rfl
theorem zs_c4_4 : zm_run sc 50 (d + 4) 192 0 (zm_ent (z_L 192) [.ref (zm_SP + 1 + 4), .int 4]) [] h = some (15, [.int 114], h) := rfl
theorem zs_l5 : zm_run sc 30 (d + 4) 191 0 (zm_ent (z_L 191) [.ref (zm_SP + 1 + 5)]) [] h = some (10, [.int 4], h) := rfl
theorem zs_c5_0 : zm_run sc 50 (d + 4) 192 0 (zm_ent (z_L 192) [.ref (zm_SP + 1 + 5), .int 0]) [] h = some (15, [.int 111], h) := rfl
theorem zs_c5_1 : zm_run sc 50 (d + 4) 192 0 (zm_ent (z_L 192) [.ref (zm_SP + 1 + 5), .int 1]) [] h = some (15, [.int 100], h) := rfl
theorem zs_c5_2 : zm_run sc 50 (d + 4) 192 0 (zm_ent (z_L 192) [.ref (zm_SP + 1 + 5), .int 2]) [] h = some (15, [.int 100], h) := rfl
theorem zs_c5_3 : zm_run sc 50 (d + 4) 192 0 (zm_ent (z_L 192) [.ref (zm_SP + 1 + 5), .int 3]) [] h = some (15, [.int 115], h) := rfl
theorem zs_l6 : zm_run sc 30 (d + 4) 191 0 (zm_ent (z_L 191) [.ref (zm_SP + 1 + 6)]) [] h = some (10, [.int 5], h) := rfl
theorem zs_c6_0 : zm_run sc 50 (d + 4) 192 0 (zm_ent (z_L 192) [.ref (zm_SP + 1 + 6), .int 0]) [] h = some (15, [.int 102], h) := rfl
theorem zs_c6_1 : zm_run sc 50 (d + 4) 192 0 (zm_ent (z_L 192) [.ref (zm_SP + 1 + 6), .int 1]) [] h = some (15, [.int 111], h) := rfl
theorem zs_c6_2 : zm_run sc 50 (d + 4) 192 0 (zm_ent (z_L 192) [.ref (zm_SP + 1 + 6), .int 2]) [] h = some (15, [.int 114], h) := rfl
theorem zs_c6_3 : zm_run sc 50 (d + 4) 192 0 (zm_ent (z_L 192) [.ref (zm_SP + 1 + 6), .int 3]) [] h = some (15, [.int 116], h) := rfl
theorem zs_c6_4 : zm_run sc 50 (d + 4) 192 0 (zm_ent (z_L 192) [.ref (zm_SP + 1 + 6), .int 4]) [] h = some (15, [.int 104], h) := rfl
theorem zs_l7 : zm_run sc 30 (d + 4) 191 0 (zm_ent (z_L 191) [.ref (zm_SP + 1 + 7)]) [] h = some (10, [.int 4], h) := rfl
theorem zs_c7_0 : zm_run sc 50 (d + 4) 192 0 (zm_ent (z_L 192) [.ref (zm_SP + 1 + 7), .int 0]) [] h = some (15, [.int 98], h) := rfl
theorem zs_c7_1 : zm_run sc 50 (d + 4) 192 0 (zm_ent (z_L 192) [.ref (zm_SP + 1 + 7), .int 1]) [] h = some (15, [.int 97], h) := rfl
theorem zs_c7_2 : zm_run sc 50 (d + 4) 192 0 (zm_ent (z_L 192) [.ref (zm_SP + 1 + 7), .int 2]) [] h = some (15, [.int 99], h) := rfl
theorem zs_c7_3 : zm_run sc 50 (d + 4) 192 0 (zm_ent (z_L 192) [.ref (zm_SP + 1 + 7), .int 3]) [] h = some (15, [.int 107], h) := rfl
theorem zs_l8 : zm_run sc 30 (d + 4) 191 0 (zm_ent (z_L 191) [.ref (zm_SP + 1 + 8)]) [] h = some (10, [.int 5], h) := rfl
theorem zs_c8_0 : zm_run sc 50 (d + 4) 192 0 (zm_ent (z_L 192) [.ref (zm_SP + 1 + 8), .int 0]) [] h = some (15, [.int 111], h) := rfl
theorem zs_c8_1 : zm_run sc 50 (d + 4) 192 0 (zm_ent (z_L 192) [.ref (zm_SP + 1 + 8), .int 1]) [] h = some (15, [.int 116], h) := rfl
theorem zs_c8_2 : zm_run sc 50 (d + 4) 192 0 (zm_ent (z_L 192) [.ref (zm_SP + 1 + 8), .int 2]) [] h = some (15, [.int 104], h) := rfl
theorem zs_c8_3 : zm_run sc 50 (d + 4) 192 0 (zm_ent (z_L 192) [.ref (zm_SP + 1 + 8), .int 3]) [] h = some (15, [.int 101], h) := rfl
theorem zs_c8_4 : zm_run sc 50 (d + 4) 192 0 (zm_ent (z_L 192) [.ref (zm_SP + 1 + 8), .int 4]) [] h = some (15, [.int 114], h) := rfl
theorem zs_wln {w : Nat} (hw : w < 9) {v : Int32} (e : zs_ln w = v) : zB sc (d + 4) 191 0 (zm_ent (z_L 191) [.ref (zm_SP + 1 + w)]) [] h [.int v] h := by
  subst e
  intro Q K
  match w, hw with
  | 0, _ => exact Wp.run 30 zs_l0 (K _)
  | 1, _ => exact Wp.run 30 zs_l1 (K _)
  | 2, _ => exact Wp.run 30 zs_l2 (K _)
  | 3, _ => exact Wp.run 30 zs_l3 (K _)
  | 4, _ => exact Wp.run 30 zs_l4 (K _)
  | 5, _ => exact Wp.run 30 zs_l5 (K _)
  | 6, _ => exact Wp.run 30 zs_l6 (K _)
  | 7, _ => exact Wp.run 30 zs_l7 (K _)
  | 8, _ => exact Wp.run 30 zs_l8 (K _)
theorem zs_wch {w : Nat} (hw : w < 9) {i v : Int32} (e : zs_ch w i = some v) : zB sc (d + 4) 192 0 (zm_ent (z_L 192) [.ref (zm_SP + 1 + w), .int i]) [] h [.int v] h := by
  obtain ⟨k, hk, e⟩ := zb_bind e
  have e := Option.some.inj e
  subst e
  have hl := zm_ix_lt hk
  have hi := zm_ix_i hk
  subst hi
  clear hk
  intro Q K
  match w, hw with
  | 0, _ =>
    match k, hl with
    | 0, _ => exact Wp.run 50 zs_c0_0 (K _)
    | 1, _ => exact Wp.run 50 zs_c0_1 (K _)
    | 2, _ => exact Wp.run 50 zs_c0_2 (K _)
    | 3, _ => exact Wp.run 50 zs_c0_3 (K _)
    | 4, _ => exact Wp.run 50 zs_c0_4 (K _)
    | k + 5, hl => exact absurd hl (by show ¬ k + 5 < 5; omega)
  | 1, _ =>
    match k, hl with
    | 0, _ => exact Wp.run 50 zs_c1_0 (K _)
    | 1, _ => exact Wp.run 50 zs_c1_1 (K _)
    | 2, _ => exact Wp.run 50 zs_c1_2 (K _)
    | k + 3, hl => exact absurd hl (by show ¬ k + 3 < 3; omega)
  | 2, _ =>
    match k, hl with
    | 0, _ => exact Wp.run 50 zs_c2_0 (K _)
    | 1, _ => exact Wp.run 50 zs_c2_1 (K _)
    | 2, _ => exact Wp.run 50 zs_c2_2 (K _)
    | 3, _ => exact Wp.run 50 zs_c2_3 (K _)
    | k + 4, hl => exact absurd hl (by show ¬ k + 4 < 4; omega)
  | 3, _ =>
    match k, hl with
    | 0, _ => exact Wp.run 50 zs_c3_0 (K _)
    | 1, _ => exact Wp.run 50 zs_c3_1 (K _)
    | 2, _ => exact Wp.run 50 zs_c3_2 (K _)
    | 3, _ => exact Wp.run 50 zs_c3_3 (K _)
    | k + 4, hl => exact absurd hl (by show ¬ k + 4 < 4; omega)
  | 4, _ =>
    match k, hl with
    | 0, _ => exact Wp.run 50 zs_c4_0 (K _)
    | 1, _ => exact Wp.run 50 zs_c4_1 (K _)
    | 2, _ => exact Wp.run 50 zs_c4_2 (K _)
    | 3, _ => exact Wp.run 50 zs_c4_3 (K _)
    | 4, _ => exact Wp.run 50 zs_c4_4 (K _)
    | k + 5, hl => exact absurd hl (by show ¬ k + 5 < 5; omega)
  | 5, _ =>
    match k, hl with
    | 0, _ => exact Wp.run 50 zs_c5_0 (K _)
    | 1, _ => exact Wp.run 50 zs_c5_1 (K _)
    | 2, _ => exact Wp.run 50 zs_c5_2 (K _)
    | 3, _ => exact Wp.run 50 zs_c5_3 (K _)
    | k + 4, hl => exact absurd hl (by show ¬ k + 4 < 4; omega)
  | 6, _ =>
    match k, hl with
    | 0, _ => exact Wp.run 50 zs_c6_0 (K _)
    | 1, _ => exact Wp.run 50 zs_c6_1 (K _)
    | 2, _ => exact Wp.run 50 zs_c6_2 (K _)
    | 3, _ => exact Wp.run 50 zs_c6_3 (K _)
    | 4, _ => exact Wp.run 50 zs_c6_4 (K _)
    | k + 5, hl => exact absurd hl (by show ¬ k + 5 < 5; omega)
  | 7, _ =>
    match k, hl with
    | 0, _ => exact Wp.run 50 zs_c7_0 (K _)
    | 1, _ => exact Wp.run 50 zs_c7_1 (K _)
    | 2, _ => exact Wp.run 50 zs_c7_2 (K _)
    | 3, _ => exact Wp.run 50 zs_c7_3 (K _)
    | k + 4, hl => exact absurd hl (by show ¬ k + 4 < 4; omega)
  | 8, _ =>
    match k, hl with
    | 0, _ => exact Wp.run 50 zs_c8_0 (K _)
    | 1, _ => exact Wp.run 50 zs_c8_1 (K _)
    | 2, _ => exact Wp.run 50 zs_c8_2 (K _)
    | 3, _ => exact Wp.run 50 zs_c8_3 (K _)
    | 4, _ => exact Wp.run 50 zs_c8_4 (K _)
    | k + 5, hl => exact absurd hl (by show ¬ k + 5 < 5; omega)
end STR
