/-! numbers (printed by wip/tools/safe.py) -/
theorem zg_upk {g g1 : G} {r k k1 : Nat} {v : Int32} (h : zg_up g r k v = g1) (hk : k1 ≠ k) : (g1 r k1).toInt = (g r k1).toInt := by
  subst h
  have : Nat.beq k1 k = false := by
    cases hb : Nat.beq k1 k with
    | false => rfl
    | true => exact absurd (Nat.eq_of_beq_eq_true hb) hk
  simp [zg_up, zg_u1, Nat.beq_refl, this]
theorem zg_upc {g g1 : G} {r k r1 k1 c : Nat} {v : Int32} (h : zg_up g r k v = g1) (hr : zg_cl r = c) (hc : zg_cl r1 ≠ c) : (g1 r1 k1).toInt = (g r1 k1).toInt := by
  subst h
  have : Nat.beq r1 r = false := by
    cases hb : Nat.beq r1 r with
    | false => rfl
    | true => exact absurd (by rw [Nat.eq_of_beq_eq_true hb]; exact hr) hc
  simp [zg_up, this]
set_option maxRecDepth 100000 in
theorem zg_c90 : ∀ r, r < 123 → zg_cl r = 5 → zg_cl (r + 1) = 9 := by decide +kernel
set_option maxRecDepth 100000 in
theorem zg_c95 : ∀ r, r < 123 → zg_cl r = 5 → r = 105 ∨ r = 107 ∨ r = 109 ∨ r = 111 := by decide +kernel
theorem bdP_cells {r k : Nat} {v : Int} (h : zg_cl r = 5) : bdP 9 (r + 1) k v := by
  rcases zg_c95 r (zg_lt h rfl) h with rfl | rfl | rfl | rfl <;> trivial
theorem stP_0 {k : Nat} : stP k 0 := by
  unfold stP
  split
  · omega
  · split
    · split <;> first | omega | trivial
    · split
      · split <;> first | omega | trivial
      · trivial
theorem stP_eq {k k1 : Nat} {v : Int} (h : k = k1) (hs : stP k v) : stP k1 v := h ▸ hs
theorem zs_lne {w : Nat} (hw : w < 9) : (zs_ln w).toInt = ((z_by w).length : Int) ∧ 3 ≤ (zs_ln w).toInt ∧ (zs_ln w).toInt ≤ 5 := by
  match w, hw with
  | 0, _ => exact ⟨by decide, by decide, by decide⟩
  | 1, _ => exact ⟨by decide, by decide, by decide⟩
  | 2, _ => exact ⟨by decide, by decide, by decide⟩
  | 3, _ => exact ⟨by decide, by decide, by decide⟩
  | 4, _ => exact ⟨by decide, by decide, by decide⟩
  | 5, _ => exact ⟨by decide, by decide, by decide⟩
  | 6, _ => exact ⟨by decide, by decide, by decide⟩
  | 7, _ => exact ⟨by decide, by decide, by decide⟩
  | 8, _ => exact ⟨by decide, by decide, by decide⟩

theorem zs_lnb {w : Nat} (hw : w < 9) : 3 ≤ (zs_ln w).toInt ∧ (zs_ln w).toInt ≤ 5 := (zs_lne hw).2
theorem zs_sch {w : Nat} (hw : w < 9) {i : Int32} (h : 0 ≤ i.toInt ∧ i.toInt < (zs_ln w).toInt) : S1 (zs_ch w i) (fun _ => True) := by
  have := zs_lne hw
  unfold zs_ch
  refine S1.ix (by omega) ?_
  intro k _ _
  exact S1.ret trivial
theorem zi_bp {v : Bool} {A B : Prop} (h : (v = true → A) ∧ (v = false → B)) : ((zb_i v).toInt = 1 ∧ A) ∨ ((zb_i v).toInt = 0 ∧ B) := by
  cases v with
  | true => exact Or.inl ⟨by decide, h.1 rfl⟩
  | false => exact Or.inr ⟨by decide, h.2 rfl⟩
theorem S1.sl {α : Type} {P : α → Prop} {l : List Int32} {i : Int32} {f : Int32 → Option α} (h : 0 ≤ i.toInt ∧ i.toInt < l.length) (K : ∀ v : Int32, zm_sld (some l) i = some v → S1 (f v) P) : S1 (Option.bind (zm_sld (some l) i) f) P := by
  have e : zm_sld (some l) i = some (l.getD i.toInt.toNat 0) := by
    show (match zm_ix i l.length with
      | some k => some (l.getD k 0)
      | none => none) = _
    rw [zm_ix_ok h]
  have := K _ e
  rw [e]
  exact this
theorem zl_cf {x y : Int64} : ((lg_cmp x y).toInt = -1 ∧ x.toInt < y.toInt) ∨ ((lg_cmp x y).toInt = 1 ∧ y.toInt < x.toInt) ∨ ((lg_cmp x y).toInt = 0 ∧ x.toInt = y.toInt) := by
  rcases Int.lt_trichotomy x.toInt y.toInt with q | q | q
  · rw [zl_cmp.1 q]; exact Or.inl ⟨by decide, q⟩
  · rw [zl_cmp.2.2 q]; exact Or.inr (Or.inr ⟨by decide, q⟩)
  · rw [zl_cmp.2.1 q]; exact Or.inr (Or.inl ⟨by decide, q⟩)
theorem zj_bm {n : Int} (h1 : -9223372036854775808 ≤ n) (h2 : n ≤ 9223372036854775807) : n.bmod (2 ^ 64) = n := by
  rw [Int.bmod_def]
  omega
theorem zj_add {x y : Int64} (h1 : -9223372036854775808 ≤ x.toInt + y.toInt) (h2 : x.toInt + y.toInt ≤ 9223372036854775807) : (x + y).toInt = x.toInt + y.toInt := by
  rw [Int64.toInt_add, zj_bm h1 h2]
theorem zg_c9 {r : Nat} (h : zg_cl r = 5) : zg_cl (r + 1) = 9 := zg_c90 r (zg_lt h rfl) h
theorem zl_m20 : (-20 : Int32).toInt = -20 := by decide
theorem zl_m14 : (-14 : Int32).toInt = -14 := by decide
theorem zl_m12 : (-12 : Int32).toInt = -12 := by decide
theorem zl_m11 : (-11 : Int32).toInt = -11 := by decide
theorem zl_m10 : (-10 : Int32).toInt = -10 := by decide
theorem zl_m4 : (-4 : Int32).toInt = -4 := by decide
theorem zl_m3 : (-3 : Int32).toInt = -3 := by decide
theorem zl_m2 : (-2 : Int32).toInt = -2 := by decide
theorem zl_m1 : (-1 : Int32).toInt = -1 := by decide
theorem zl_0 : (0 : Int32).toInt = 0 := by decide
theorem zl_1 : (1 : Int32).toInt = 1 := by decide
theorem zl_2 : (2 : Int32).toInt = 2 := by decide
theorem zl_3 : (3 : Int32).toInt = 3 := by decide
theorem zl_4 : (4 : Int32).toInt = 4 := by decide
theorem zl_5 : (5 : Int32).toInt = 5 := by decide
theorem zl_6 : (6 : Int32).toInt = 6 := by decide
theorem zl_7 : (7 : Int32).toInt = 7 := by decide
theorem zl_8 : (8 : Int32).toInt = 8 := by decide
theorem zl_9 : (9 : Int32).toInt = 9 := by decide
theorem zl_10 : (10 : Int32).toInt = 10 := by decide
theorem zl_11 : (11 : Int32).toInt = 11 := by decide
theorem zl_12 : (12 : Int32).toInt = 12 := by decide
theorem zl_13 : (13 : Int32).toInt = 13 := by decide
theorem zl_14 : (14 : Int32).toInt = 14 := by decide
theorem zl_15 : (15 : Int32).toInt = 15 := by decide
theorem zl_16 : (16 : Int32).toInt = 16 := by decide
theorem zl_17 : (17 : Int32).toInt = 17 := by decide
theorem zl_18 : (18 : Int32).toInt = 18 := by decide
theorem zl_19 : (19 : Int32).toInt = 19 := by decide
theorem zl_20 : (20 : Int32).toInt = 20 := by decide
theorem zl_21 : (21 : Int32).toInt = 21 := by decide
theorem zl_22 : (22 : Int32).toInt = 22 := by decide
theorem zl_23 : (23 : Int32).toInt = 23 := by decide
theorem zl_24 : (24 : Int32).toInt = 24 := by decide
theorem zl_25 : (25 : Int32).toInt = 25 := by decide
theorem zl_26 : (26 : Int32).toInt = 26 := by decide
theorem zl_27 : (27 : Int32).toInt = 27 := by decide
theorem zl_28 : (28 : Int32).toInt = 28 := by decide
theorem zl_29 : (29 : Int32).toInt = 29 := by decide
theorem zl_30 : (30 : Int32).toInt = 30 := by decide
theorem zl_31 : (31 : Int32).toInt = 31 := by decide
theorem zl_32 : (32 : Int32).toInt = 32 := by decide
theorem zl_33 : (33 : Int32).toInt = 33 := by decide
theorem zl_34 : (34 : Int32).toInt = 34 := by decide
theorem zl_35 : (35 : Int32).toInt = 35 := by decide
theorem zl_40 : (40 : Int32).toInt = 40 := by decide
theorem zl_48 : (48 : Int32).toInt = 48 := by decide
theorem zl_57 : (57 : Int32).toInt = 57 := by decide
theorem zl_59 : (59 : Int32).toInt = 59 := by decide
theorem zl_60 : (60 : Int32).toInt = 60 := by decide
theorem zl_63 : (63 : Int32).toInt = 63 := by decide
theorem zl_65 : (65 : Int32).toInt = 65 := by decide
theorem zl_66 : (66 : Int32).toInt = 66 := by decide
theorem zl_97 : (97 : Int32).toInt = 97 := by decide
theorem zl_98 : (98 : Int32).toInt = 98 := by decide
theorem zl_99 : (99 : Int32).toInt = 99 := by decide
theorem zl_100 : (100 : Int32).toInt = 100 := by decide
theorem zl_101 : (101 : Int32).toInt = 101 := by decide
theorem zl_102 : (102 : Int32).toInt = 102 := by decide
theorem zl_104 : (104 : Int32).toInt = 104 := by decide
theorem zl_107 : (107 : Int32).toInt = 107 := by decide
theorem zl_109 : (109 : Int32).toInt = 109 := by decide
theorem zl_110 : (110 : Int32).toInt = 110 := by decide
theorem zl_111 : (111 : Int32).toInt = 111 := by decide
theorem zl_114 : (114 : Int32).toInt = 114 := by decide
theorem zl_115 : (115 : Int32).toInt = 115 := by decide
theorem zl_116 : (116 : Int32).toInt = 116 := by decide
theorem zl_117 : (117 : Int32).toInt = 117 := by decide
theorem zl_118 : (118 : Int32).toInt = 118 := by decide
theorem zl_122 : (122 : Int32).toInt = 122 := by decide
theorem zl_127 : (127 : Int32).toInt = 127 := by decide
theorem zl_160 : (160 : Int32).toInt = 160 := by decide
theorem zl_12345 : (12345 : Int32).toInt = 12345 := by decide
theorem zl_32767 : (32767 : Int32).toInt = 32767 := by decide
theorem zl_1103515245 : (1103515245 : Int32).toInt = 1103515245 := by decide
