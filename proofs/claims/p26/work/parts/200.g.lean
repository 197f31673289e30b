/-! memory as a function: behind the constructors the heap has one shape (printed by wip/tools/ga.py) -/
abbrev G : Type := Nat → Nat → Int32
def zg_u1 (f : Nat → Int32) (k : Nat) (v : Int32) : Nat → Int32 := fun q => bif Nat.beq q k then v else f q
def zg_up (g : G) (r k : Nat) (v : Int32) : G := fun q => bif Nat.beq q r then zg_u1 (g r) k v else g q
/-- by cell: the class of its object; 9: numbers, 10: references -/
def zg_T : List Nat := [7, 2, 10, 10, 10, 3, 3, 3, 3, 1, 1, 1, 1, 1, 1, 1, 1, 6, 6, 6, 6, 6, 6, 6, 6, 0, 9, 9, 4, 9, 2, 10, 10, 10, 3, 3, 3, 3, 1, 1, 1, 1, 1, 1, 1, 1, 6, 6, 6, 6, 6, 6, 6, 6, 10, 9, 2, 10, 10, 10, 3, 3, 3, 3, 1, 1, 1, 1, 1, 1, 1, 1, 6, 6, 6, 6, 6, 6, 6, 6, 2, 10, 10, 10, 3, 3, 3, 3, 1, 1, 1, 1, 1, 1, 1, 1, 6, 6, 6, 6, 6, 6, 6, 6, 10, 5, 9, 5, 9, 5, 9, 5, 9, 8, 9, 9, 9, 9, 9, 9, 9, 9, 9]
def zg_IL : List (Option (Nat × Nat)) := [none, none, none, none, none, none, none, none, none, none, none, none, none, none, none, none, none, none, none, none, none, none, none, none, none, none, some (0, 8), some (0, 48), none, some (1, 160), none, none, none, none, none, none, none, none, none, none, none, none, none, none, none, none, none, none, none, none, none, none, none, none, none, some (2, 2), none, none, none, none, none, none, none, none, none, none, none, none, none, none, none, none, none, none, none, none, none, none, none, none, none, none, none, none, none, none, none, none, none, none, none, none, none, none, none, none, none, none, none, none, none, none, none, none, none, none, some (0, 40), none, some (0, 40), none, some (0, 40), none, some (0, 40), none, some (0, 294), some (2, 2), some (0, 98), some (0, 160), some (0, 4), some (0, 4), some (0, 4), some (0, 160), some (0, 8)]
def zg_RL : List (Option (Nat × Nat × Nat × Nat)) := [none, none, some (5, 4, 3, 1), some (3, 8, 6, 1), some (7, 8, 13, 1), none, none, none, none, none, none, none, none, none, none, none, none, none, none, none, none, none, none, none, none, none, none, none, none, none, none, some (5, 4, 3, 1), some (3, 8, 6, 1), some (7, 8, 13, 1), none, none, none, none, none, none, none, none, none, none, none, none, none, none, none, none, none, none, none, none, some (4, 2, 2, 24), none, none, some (5, 4, 3, 1), some (3, 8, 6, 1), some (7, 8, 13, 1), none, none, none, none, none, none, none, none, none, none, none, none, none, none, none, none, none, none, none, none, none, some (5, 4, 3, 1), some (3, 8, 6, 1), some (7, 8, 13, 1), none, none, none, none, none, none, none, none, none, none, none, none, none, none, none, none, none, none, none, none, some (6, 4, 1, 2), none, none, none, none, none, none, none, none, none, none, none, none, none, none, none, none, none, none]
def zg_cl (r : Nat) : Nat := zg_T.getD r 99
def zg_ia (r : Nat) : Option (Nat × Nat) := zg_IL.getD r none
def zg_ra (r : Nat) : Option (Nat × Nat × Nat × Nat) := zg_RL.getD r none
def zg_fs (f : Nat → Int32) (r ci : Nat) : List Value := match ci with
  | 0 => [.int (f 0), .int (f 1), .int (f 2), .int (f 3), .ref 26, .ref 27]
  | 1 => [.int (f 0), .int (f 1), .int (f 2), .int (f 3), .int (f 4), .int (f 5), .int (f 6)]
  | 2 => [.int (f 0), .int (f 1), .int (f 2), .int (f 3), .ref (r + 1), .ref (r + 2), .ref (r + 3)]
  | 3 => [.int (f 0), .int (f 1)]
  | 4 => [.ref 29, .int (f 1), .int (f 2), .int (f 3), .ref 30, .int (f 5), .int (f 6), .int (f 7), .int (f 8), .int (f 9), .int (f 10), .int (f 11)]
  | 5 => [.int (f 0), .ref (r + 1), .int (f 2)]
  | 6 => [.int (f 0), .int (f 1), .int (f 2), .int (f 3)]
  | 7 => [.ref 1, .ref 30, .ref 25, .ref 28, .ref 54, .ref 55, .ref 104, .int (f 7)]
  | 8 => [.ref 114, .ref 115, .int (f 2), .int (f 3), .ref 116, .int (f 5), .int (f 6), .int (f 7), .int (f 8), .int (f 9), .int (f 10), .int (f 11), .int (f 12), .ref 117, .int (f 14), .int (f 15), .int (f 16), .int (f 17), .int (f 18), .int (f 19), .int (f 20), .int (f 21), .ref 118, .ref 119, .ref 120, .ref 121, .int (f 26), .ref 122]
  | _ => []
def zg_cell (f : Nat → Int32) (r : Nat) : AC := match zg_ia r with
  | some (t, n) => .inl (t, (List.range n).map f)
  | none => match zg_ra r with
    | some (t, n, o, s) => .inr (.inl (t, (List.range n).map fun i => some (r + o + s * i)))
    | none => .inr (.inr (zg_cl r, zg_fs f r (zg_cl r)))
def mk (g : G) : HP := (List.range 123).map fun r => zg_cell (g r) r
theorem mk_at {g : G} {r : Nat} (hr : r < 123) : (mk g)[r]? = some (zg_cell (g r) r) := by
  simp [mk, List.getElem?_map, List.getElem?_range, hr]
theorem mk_len (g : G) : (mk g).length = 123 := by simp [mk]
theorem mk_up {g : G} {r k : Nat} {v : Int32} {c : AC} (hr : r < 123) (hc : zg_cell (zg_u1 (g r) k v) r = c) : (mk g).set r c = mk (zg_up g r k v) := by
  apply List.ext_getElem?
  intro i
  rw [List.getElem?_set]
  by_cases hi : i < 123
  · rw [mk_at hi, mk_at hi]
    by_cases q : r = i
    · subst q
      rw [if_pos rfl, if_pos (by rw [mk_len]; exact hr), ← hc]
      simp [zg_up, Nat.beq_refl]
    · rw [if_neg q]
      have : Nat.beq i r = false := by
        cases hb : Nat.beq i r with
        | false => rfl
        | true => exact absurd (Nat.eq_of_beq_eq_true hb).symm q
      simp [zg_up, this]
  · have e1 : (mk g)[i]? = none := List.getElem?_eq_none (by rw [mk_len]; omega)
    have e2 : (mk (zg_up g r k v))[i]? = none := List.getElem?_eq_none (by rw [mk_len]; omega)
    rw [e1, e2]
    by_cases q : r = i
    · omega
    · rw [if_neg q]
theorem zg_getD {α : Type} {l : List α} {r : Nat} {d x : α} (h : l.getD r d = x) (hd : d ≠ x) : r < l.length := by
  rcases Nat.lt_or_ge r l.length with q | q
  · exact q
  · rw [List.getD_eq_getElem?_getD, List.getElem?_eq_none q] at h
    exact absurd h hd
theorem zg_TL : zg_T.length = 123 ∧ zg_IL.length = 123 ∧ zg_RL.length = 123 := by decide +kernel
theorem zg_lt {r ci : Nat} (h : zg_cl r = ci) (hc : Nat.ble ci 8 = true) : r < 123 := by
  have := zg_getD h (fun q => by subst q; cases hc)
  rw [zg_TL.1] at this
  exact this
theorem zg_ialt {r : Nat} {q : Nat × Nat} (h : zg_ia r = some q) : r < 123 := by
  have := zg_getD h (by simp)
  rw [zg_TL.2.1] at this
  exact this
theorem zg_ralt {r : Nat} {q : Nat × Nat × Nat × Nat} (h : zg_ra r = some q) : r < 123 := by
  have := zg_getD h (by simp)
  rw [zg_TL.2.2] at this
  exact this
set_option maxRecDepth 100000 in
theorem zg_ex : ∀ r, r < 123 → (Nat.ble (zg_cl r) 8 = true → zg_ia r = none ∧ zg_ra r = none) ∧ (zg_ra r ≠ none → zg_ia r = none) := by decide +kernel
theorem zg_obj {f : Nat → Int32} {r ci : Nat} (h : zg_cl r = ci) (hc : Nat.ble ci 8 = true) : zg_cell f r = .inr (.inr (ci, zg_fs f r ci)) := by
  obtain ⟨a, b⟩ := (zg_ex r (zg_lt h hc)).1 (by rw [h]; exact hc)
  simp only [zg_cell, a, b, h]
theorem zg_iar {f : Nat → Int32} {r t n : Nat} (h : zg_ia r = some (t, n)) : zg_cell f r = .inl (t, (List.range n).map f) := by
  simp only [zg_cell, h]
theorem zg_rar {f : Nat → Int32} {r t n o s : Nat} (h : zg_ra r = some (t, n, o, s)) : zg_cell f r = .inr (.inl (t, (List.range n).map fun i => some (r + o + s * i))) := by
  have := (zg_ex r (zg_ralt h)).2 (by rw [h]; simp)
  simp only [zg_cell, h, this]
theorem zm_ix_lt {i : Int32} {n k : Nat} (h : zm_ix i n = some k) : k < n := by
  unfold zm_ix at h
  cases hq : decide (i < 0) with
  | true => rw [hq] at h; cases h
  | false =>
    rw [hq, cond_false] at h
    obtain ⟨a, b⟩ := zm_if h
    cases b
    exact Nat.le_of_ble_eq_true a
def zg_Fm (b : Nat) : Prop := ((∀ k, k < 4 → zg_cl (b + 4 + k) = 3) ∧ (∀ k, k < 8 → zg_cl (b + 8 + k) = 1) ∧ (∀ k, k < 8 → zg_cl (b + 16 + k) = 6)) ∧ zg_ra (b + 1) = some (5, 4, 3, 1) ∧ zg_ra (b + 2) = some (3, 8, 6, 1) ∧ zg_ra (b + 3) = some (7, 8, 13, 1)
set_option maxRecDepth 100000 in
theorem zg_four0 : ∀ b, b < 123 → zg_cl b = 2 → b = 1 ∨ b = 30 ∨ b = 56 ∨ b = 80 := by decide +kernel
theorem zg_four {b : Nat} (h : zg_cl b = 2) : b = 1 ∨ b = 30 ∨ b = 56 ∨ b = 80 := zg_four0 b (zg_lt h rfl) h
theorem zg_fam0 (b : Nat) (_ : b < 123) (h : zg_cl b = 2) : zg_Fm b := by
  rcases zg_four h with rfl | rfl | rfl | rfl
  · exact ⟨⟨by decide +kernel, by decide +kernel, by decide +kernel⟩, by decide +kernel, by decide +kernel, by decide +kernel⟩
  · exact ⟨⟨by decide +kernel, by decide +kernel, by decide +kernel⟩, by decide +kernel, by decide +kernel, by decide +kernel⟩
  · exact ⟨⟨by decide +kernel, by decide +kernel, by decide +kernel⟩, by decide +kernel, by decide +kernel, by decide +kernel⟩
  · exact ⟨⟨by decide +kernel, by decide +kernel, by decide +kernel⟩, by decide +kernel, by decide +kernel, by decide +kernel⟩
set_option maxRecDepth 100000 in
theorem zg_sht0 : (∀ k, k < 4 → zg_cl (105 + 2 * k) = 5) ∧ (∀ k, k < 2 → zg_cl (56 + 24 * k) = 2) ∧ (∀ s, s < 123 → zg_cl s = 5 → zg_ia (s + 1) = some (0, 40)) := by decide +kernel
theorem zg_one {b k : Nat} {i : Int32} (h : zg_cl b = 2) (hk : zm_ix i 4 = some k) : zg_cl (b + 4 + k) = 3 := (zg_fam0 b (zg_lt h rfl) h).1.1 k (zm_ix_lt hk)
theorem zg_deed {b k : Nat} {i : Int32} (h : zg_cl b = 2) (hk : zm_ix i 8 = some k) : zg_cl (b + 8 + k) = 1 := (zg_fam0 b (zg_lt h rfl) h).1.2.1 k (zm_ix_lt hk)
theorem zg_seen {b k : Nat} {i : Int32} (h : zg_cl b = 2) (hk : zm_ix i 8 = some k) : zg_cl (b + 16 + k) = 6 := (zg_fam0 b (zg_lt h rfl) h).1.2.2 k (zm_ix_lt hk)
theorem zg_sheet {k : Nat} {i : Int32} (hk : zm_ix i 4 = some k) : zg_cl (105 + 2 * k) = 5 := zg_sht0.1 k (zm_ix_lt hk)
theorem zg_image {k : Nat} {i : Int32} (hk : zm_ix i 2 = some k) : zg_cl (56 + 24 * k) = 2 := zg_sht0.2.1 k (zm_ix_lt hk)
theorem zg_cells {s : Nat} (h : zg_cl s = 5) : zg_ia (s + 1) = some (0, 40) := zg_sht0.2.2 s (zg_lt h rfl) h
theorem zg_rones {b : Nat} (h : zg_cl b = 2) : zg_ra (b + 1) = some (5, 4, 3, 1) := (zg_fam0 b (zg_lt h rfl) h).2.1
theorem zg_rdeeds {b : Nat} (h : zg_cl b = 2) : zg_ra (b + 2) = some (3, 8, 6, 1) := (zg_fam0 b (zg_lt h rfl) h).2.2.1
theorem zg_rseen {b : Nat} (h : zg_cl b = 2) : zg_ra (b + 3) = some (7, 8, 13, 1) := (zg_fam0 b (zg_lt h rfl) h).2.2.2
/-! what a machine's access is there -/
theorem mk_get {g : G} {r ci k : Nat} {v : Value} (h : zg_cl r = ci) (hc : Nat.ble ci 8 = true) (hv : (zg_fs (g r) r ci)[k]? = some v) : zm_get (mk g) r ci k = some v := by
  unfold zm_get
  rw [mk_at (zg_lt h hc), zg_obj h hc]
  show (bif Nat.beq ci ci then (zg_fs (g r) r ci)[k]? else none) = _
  rw [Nat.beq_refl, cond_true, hv]
theorem mk_set {g : G} {r ci k : Nat} {v : Int32} (h : zg_cl r = ci) (hc : Nat.ble ci 8 = true) (hl : Nat.blt k (zg_fs (g r) r ci).length = true) (hv : (zg_fs (g r) r ci).set k (.int v) = zg_fs (zg_u1 (g r) k v) r ci) : zm_set (mk g) r ci k (.int v) = some (mk (zg_up g r k v)) := by
  unfold zm_set
  rw [mk_at (zg_lt h hc), zg_obj h hc]
  show (bif Nat.beq ci ci && Nat.blt k (zg_fs (g r) r ci).length then some ((mk g).set r (.inr (.inr (ci, (zg_fs (g r) r ci).set k (.int v))))) else none) = _
  rw [Nat.beq_refl, hl, hv, mk_up (zg_lt h hc) (zg_obj h hc)]
  rfl
theorem mk_cls {g : G} {r ci : Nat} (h : zg_cl r = ci) (hc : Nat.ble ci 8 = true) : zm_cls (mk g) r = some ci := by
  unfold zm_cls
  rw [mk_at (zg_lt h hc), zg_obj h hc]
theorem mk_ald {g : G} {r t t1 t2 n k : Nat} {i : Int32} (h : zg_ia r = some (t, n)) (ht : (Nat.beq t t1 || Nat.beq t t2) = true) (hk : zm_ix i n = some k) : zm_ald (mk g) r t1 t2 i = some (g r k) := by
  unfold zm_ald
  rw [mk_at (zg_ialt h), zg_iar h]
  show (bif Nat.beq t t1 || Nat.beq t t2 then (match zm_ix i ((List.range n).map (g r)).length with
    | some k => ((List.range n).map (g r))[k]?
    | none => none) else none) = _
  rw [ht, cond_true, List.length_map, List.length_range, hk]
  show ((List.range n).map (g r))[k]? = _
  simp [zm_ix_lt hk]
theorem mk_ast {g : G} {r t t1 t2 n k : Nat} {i x : Int32} (h : zg_ia r = some (t, n)) (ht : (Nat.beq t t1 || Nat.beq t t2) = true) (hk : zm_ix i n = some k) : zm_ast (mk g) r t1 t2 i x = some (mk (zg_up g r k (zm_nar t x))) := by
  unfold zm_ast
  rw [mk_at (zg_ialt h), zg_iar h]
  show (bif Nat.beq t t1 || Nat.beq t t2 then (match zm_ix i ((List.range n).map (g r)).length with
    | some k => some ((mk g).set r (.inl (t, ((List.range n).map (g r)).set k (zm_nar t x))))
    | none => none) else none) = _
  rw [ht, cond_true, List.length_map, List.length_range, hk]
  show some ((mk g).set r (.inl (t, ((List.range n).map (g r)).set k (zm_nar t x)))) = _
  rw [mk_up (zg_ialt h)]
  rw [zg_iar h]
  congr 2
  apply List.ext_getElem?
  intro q
  rw [List.getElem?_set, List.getElem?_map, List.getElem?_map]
  by_cases e : k = q
  · subst e
    rw [if_pos rfl, if_pos (by simpa using zm_ix_lt hk), List.getElem?_range (zm_ix_lt hk)]
    simp [zg_u1, Nat.beq_refl]
  · rw [if_neg e]
    by_cases hq : q < n
    · rw [List.getElem?_range hq]
      have hb : Nat.beq q k = false := by
        cases hb : Nat.beq q k with
        | false => rfl
        | true => exact absurd (Nat.eq_of_beq_eq_true hb).symm e
      simp [zg_u1, hb]
    · rw [List.getElem?_eq_none (by simpa using hq)]
      rfl
theorem mk_aald {g : G} {r t n o s k : Nat} {i : Int32} (h : zg_ra r = some (t, n, o, s)) (ht : zm_rt t = true) (hk : zm_ix i n = some k) : zm_aald (mk g) r i = some (.ref (r + o + s * k)) := by
  unfold zm_aald
  rw [mk_at (zg_ralt h), zg_rar h]
  show (match zm_ix i ((List.range n).map fun i => some (r + o + s * i)).length with
    | some k => bif zm_rt t then (match ((List.range n).map fun i => some (r + o + s * i))[k]? with
      | some (some a) => some (Value.ref a)
      | some none => some Value.null
      | none => none) else none
    | none => none) = some (Value.ref (r + o + s * k))
  rw [List.length_map, List.length_range, hk]
  show (bif zm_rt t then (match ((List.range n).map fun i => some (r + o + s * i))[k]? with
      | some (some a) => some (Value.ref a)
      | some none => some Value.null
      | none => none) else none) = _
  rw [ht, cond_true, List.getElem?_map, List.getElem?_range (zm_ix_lt hk)]
  rfl
/-! the instructions' rules -/
def zB (sc : Option (List Int32)) (d j pc : Nat) (lo : LO) (st : List Value) (h : HP) (res : List Value) (h1 : HP) : Prop := ∀ Q : Nat × List Value × HP → Prop, (∀ p, Q (p, res, h1)) → Wp sc d j pc lo st h Q
def zb_l {α β : Type} (a : α) (f : α → β) : β := f a
def zb_i (b : Bool) : Int32 := bif b then 1 else 0
theorem zb_let {α β : Type} {a : α} {f : α → β} {r : β} (h : zb_l a f = r) : ∃ x, a = x ∧ f x = r := ⟨a, rfl, h⟩
theorem zb_bind {α β : Type} {a : Option α} {f : α → Option β} {r : β} (h : a.bind f = some r) : ∃ x, a = some x ∧ f x = some r := by
  cases a with
  | none => cases h
  | some x => exact ⟨x, rfl, h⟩
def zb_p {α β γ : Type} (a : α × β) (f : α → β → γ) : γ := f a.1 a.2
def zb_bp {α β γ : Type} (a : Option (α × β)) (f : α → β → Option γ) : Option γ := a.bind fun q => f q.1 q.2
theorem zb_pair {α β γ : Type} {a : α × β} {f : α → β → γ} {r : γ} (h : zb_p a f = r) : ∃ x y, a = (x, y) ∧ f x y = r := ⟨a.1, a.2, rfl, h⟩
theorem zb_bpair {α β γ : Type} {a : Option (α × β)} {f : α → β → Option γ} {r : γ} (h : zb_bp a f = some r) : ∃ x y, a = some (x, y) ∧ f x y = some r := by
  cases a with
  | none => cases h
  | some x => exact ⟨x.1, x.2, rfl, h⟩
theorem zb_if {α : Type} {c : Bool} {a b r : α} (h : (bif c then a else b) = r) : (c = true ∧ a = r) ∨ (c = false ∧ b = r) := by
  cases c with
  | false => exact Or.inr ⟨rfl, h⟩
  | true => exact Or.inl ⟨rfl, h⟩
theorem zb_r1 {α : Type} {a x : α} (h : some a = some x) : a = x := Option.some.inj h
theorem zb_r2 {α β : Type} {a x : α} {b y : β} (h : some (a, b) = some (x, y)) : a = x ∧ b = y := Prod.mk.inj (Option.some.inj h)
theorem zb_q2 {α β : Type} {a x : α} {b y : β} (h : (a, b) = (x, y)) : a = x ∧ b = y := Prod.mk.inj h
theorem zb_ok (b : Bool) : (zb_i b == 0 || zb_i b == 1) = true := by cases b <;> rfl
theorem zb_eqT {b : Bool} (h : b = false) : zm_cmp .eq (zb_i b) 0 = true := by subst h; rfl
theorem zb_eqF {b : Bool} (h : b = true) : zm_cmp .eq (zb_i b) 0 = false := by subst h; rfl
theorem zb_neT {b : Bool} (h : b = true) : zm_cmp .ne (zb_i b) 0 = true := by subst h; rfl
theorem zb_neF {b : Bool} (h : b = false) : zm_cmp .ne (zb_i b) 0 = false := by subst h; rfl
theorem mk_rok {g : G} {n m a r ci : Nat} {as : List Value} {k : Nat} (h : zg_cl r = ci) (hc : Nat.ble ci 8 = true) (h1 : Nat.beq (z_O m) 11 = false) (h2 : Nat.beq ci (z_O m) = true) : zm_rok (mk g) (.invokevirtual k, n, m, a) (.ref r :: as) = true := by
  show (bif Nat.beq (z_O m) 11 then zm_isS r else (match zm_cls (mk g) r with
    | some c => Nat.beq c (z_O m)
    | none => false)) = true
  rw [h1, cond_false, mk_cls h hc]
  exact h2
section RULES
variable {sc : Option (List Int32)} {d j pc pc1 n a b : Nat} {lo : LO} {st : List Value} {h : HP} {Q : Nat × List Value × HP → Prop} {g g1 : G}
theorem Wp.gf {i ci k r : Nat} {v : Value} (hat : zm_at j pc = some (.getfield i, n, ci, k)) (hr : zg_cl r = ci) (hc : Nat.ble ci 8 = true) (hv : (zg_fs (g r) r ci)[k]? = some v) (hp : pc + 3 = pc1) (K : Wp sc d j pc1 lo (v :: st) (mk g) Q) : Wp sc d j pc lo (.ref r :: st) (mk g) Q := by
  subst hp
  refine Wp.steps 1 (pc1 := pc + 3) (lo1 := lo) (st1 := v :: st) (h1 := mk g) ?_ K
  have h9 : Nat.beq ci 90 = false := by
    cases hb : Nat.beq ci 90 with
    | false => rfl
    | true => have := Nat.eq_of_beq_eq_true hb; subst this; cases hc
  unfold zm_steps
  rw [hat]
  show (match ((match (bif Nat.beq ci 90 then zm_sget r k else zm_get (mk g) r ci k) with
      | some v => some (pc + 3, lo, v :: st, mk g)
      | none => none) : Option ZS) with
      | none => none
      | some (pc1, lo1, st1, h1) => zm_steps sc 0 j pc1 lo1 st1 h1) = _
  rw [h9, cond_false, mk_get hr hc hv]
  rfl
theorem Wp.pf {i ci k r : Nat} {v : Int32} (hat : zm_at j pc = some (.putfield i, n, ci, k)) (hr : zg_cl r = ci) (hc : Nat.ble ci 8 = true) (hl : Nat.blt k (zg_fs (g r) r ci).length = true) (hv : (zg_fs (g r) r ci).set k (.int v) = zg_fs (zg_u1 (g r) k v) r ci) (hok : zm_ok (z_ty ci k) (.int v) = true) (hg : zg_up g r k v = g1) (hp : pc + 3 = pc1) (K : Wp sc d j pc1 lo st (mk g1) Q) : Wp sc d j pc lo (.int v :: .ref r :: st) (mk g) Q := by
  subst hp
  subst hg
  refine Wp.steps 1 (pc1 := pc + 3) (lo1 := lo) (st1 := st) (h1 := mk (zg_up g r k v)) ?_ K
  unfold zm_steps
  rw [hat]
  show (match ((bif zm_ok (z_ty ci k) (.int v) then (match zm_set (mk g) r ci k (.int v) with
      | some h1 => some (pc + 3, lo, st, h1)
      | none => none) else none) : Option ZS) with
      | none => none
      | some (pc1, lo1, st1, h1) => zm_steps sc 0 j pc1 lo1 st1 h1) = _
  rw [hok, cond_true, mk_set hr hc hl hv]
  rfl
theorem zg_nsp {r : Nat} (h : r < 123) : Nat.beq r zm_SP = false ∧ zm_isB r = false := by
  refine ⟨?_, ?_⟩
  · cases hb : Nat.beq r zm_SP with
    | false => rfl
    | true => have := Nat.eq_of_beq_eq_true hb; have e : zm_SP = 1000000 := rfl; omega
  · have : Nat.blt (zm_SP + 100) r = false := by
      cases hb : Nat.blt (zm_SP + 100) r with
      | false => rfl
      | true => have := Nat.le_of_ble_eq_true hb; have e : zm_SP = 1000000 := rfl; omega
    simp [zm_isB, this]
theorem Wp.ia {r t k N : Nat} {i : Int32} (hat : zm_at j pc = some (.iaload, n, a, b)) (hr : zg_ia r = some (t, N)) (ht : (Nat.beq t 0 || Nat.beq t 0) = true) (hk : zm_ix i N = some k) (hp : pc + 1 = pc1) (K : Wp sc d j pc1 lo (.int (g r k) :: st) (mk g) Q) : Wp sc d j pc lo (.int i :: .ref r :: st) (mk g) Q := by
  subst hp
  refine Wp.steps 1 (pc1 := pc + 1) (lo1 := lo) (st1 := .int (g r k) :: st) (h1 := mk g) ?_ K
  unfold zm_steps
  rw [hat]
  show (match ((bif Nat.beq r zm_SP then (match zm_sld sc i with
        | some v => some (pc + 1, lo, .int v :: st, mk g)
        | none => none) else (match zm_ald (mk g) r 0 0 i with
        | some v => some (pc + 1, lo, .int v :: st, mk g)
        | none => none)) : Option ZS) with
      | none => none
      | some (pc1, lo1, st1, h1) => zm_steps sc 0 j pc1 lo1 st1 h1) = _
  rw [(zg_nsp (zg_ialt hr)).1, cond_false, mk_ald hr ht hk]
  rfl
theorem Wp.ba {r t k N : Nat} {i : Int32} (hat : zm_at j pc = some (.baload, n, a, b)) (hr : zg_ia r = some (t, N)) (ht : (Nat.beq t 1 || Nat.beq t 2) = true) (hk : zm_ix i N = some k) (hp : pc + 1 = pc1) (K : Wp sc d j pc1 lo (.int (g r k) :: st) (mk g) Q) : Wp sc d j pc lo (.int i :: .ref r :: st) (mk g) Q := by
  subst hp
  refine Wp.steps 1 (pc1 := pc + 1) (lo1 := lo) (st1 := .int (g r k) :: st) (h1 := mk g) ?_ K
  unfold zm_steps
  rw [hat]
  show (match ((match (bif zm_isB r then (match zm_ix i (zm_sby r).length with | some k => some ((zm_sby r).getD k 0) | none => none) else zm_ald (mk g) r 1 2 i) with
        | some v => some (pc + 1, lo, .int v :: st, mk g)
        | none => none) : Option ZS) with
      | none => none
      | some (pc1, lo1, st1, h1) => zm_steps sc 0 j pc1 lo1 st1 h1) = _
  rw [(zg_nsp (zg_ialt hr)).2, cond_false, mk_ald hr ht hk]
  rfl
theorem Wp.ias {r t k N : Nat} {i v : Int32} (hat : zm_at j pc = some (.iastore, n, a, b)) (hr : zg_ia r = some (t, N)) (ht : (Nat.beq t 0 || Nat.beq t 0) = true) (hk : zm_ix i N = some k) (hg : zg_up g r k (zm_nar t v) = g1) (hp : pc + 1 = pc1) (K : Wp sc d j pc1 lo st (mk g1) Q) : Wp sc d j pc lo (.int v :: .int i :: .ref r :: st) (mk g) Q := by
  subst hp
  subst hg
  refine Wp.steps 1 (pc1 := pc + 1) (lo1 := lo) (st1 := st) (h1 := mk (zg_up g r k (zm_nar t v))) ?_ K
  unfold zm_steps
  rw [hat]
  show (match ((match zm_ast (mk g) r 0 0 i v with
        | some h1 => some (pc + 1, lo, st, h1)
        | none => none) : Option ZS) with
      | none => none
      | some (pc1, lo1, st1, h1) => zm_steps sc 0 j pc1 lo1 st1 h1) = _
  rw [mk_ast hr ht hk]
  rfl
theorem Wp.bas {r t k N : Nat} {i v : Int32} (hat : zm_at j pc = some (.bastore, n, a, b)) (hr : zg_ia r = some (t, N)) (ht : (Nat.beq t 1 || Nat.beq t 2) = true) (hk : zm_ix i N = some k) (hg : zg_up g r k (zm_nar t v) = g1) (hp : pc + 1 = pc1) (K : Wp sc d j pc1 lo st (mk g1) Q) : Wp sc d j pc lo (.int v :: .int i :: .ref r :: st) (mk g) Q := by
  subst hp
  subst hg
  refine Wp.steps 1 (pc1 := pc + 1) (lo1 := lo) (st1 := st) (h1 := mk (zg_up g r k (zm_nar t v))) ?_ K
  unfold zm_steps
  rw [hat]
  show (match ((match zm_ast (mk g) r 1 2 i v with
        | some h1 => some (pc + 1, lo, st, h1)
        | none => none) : Option ZS) with
      | none => none
      | some (pc1, lo1, st1, h1) => zm_steps sc 0 j pc1 lo1 st1 h1) = _
  rw [mk_ast hr ht hk]
  rfl
theorem Wp.aa {r t k N o s v : Nat} {i : Int32} (hat : zm_at j pc = some (.aaload, n, a, b)) (hr : zg_ra r = some (t, N, o, s)) (ht : zm_rt t = true) (hk : zm_ix i N = some k) (hv : r + o + s * k = v) (hp : pc + 1 = pc1) (K : Wp sc d j pc1 lo (.ref v :: st) (mk g) Q) : Wp sc d j pc lo (.int i :: .ref r :: st) (mk g) Q := by
  subst hp
  subst hv
  refine Wp.steps 1 (pc1 := pc + 1) (lo1 := lo) (st1 := .ref (r + o + s * k) :: st) (h1 := mk g) ?_ K
  unfold zm_steps
  rw [hat]
  show (match ((match zm_aald (mk g) r i with
        | some v => some (pc + 1, lo, v :: st, mk g)
        | none => none) : Option ZS) with
      | none => none
      | some (pc1, lo1, st1, h1) => zm_steps sc 0 j pc1 lo1 st1 h1) = _
  rw [mk_aald hr ht hk]
  rfl
theorem Wp.sl {i v : Int32} (hat : zm_at j pc = some (.iaload, n, a, b)) (hv : zm_sld sc i = some v) (hp : pc + 1 = pc1) (K : Wp sc d j pc1 lo (.int v :: st) h Q) : Wp sc d j pc lo (.int i :: .ref zm_SP :: st) h Q := by
  subst hp
  refine Wp.steps 1 (pc1 := pc + 1) (lo1 := lo) (st1 := .int v :: st) (h1 := h) ?_ K
  unfold zm_steps
  rw [hat]
  show (match ((match zm_sld sc i with
        | some v => some (pc + 1, lo, .int v :: st, h)
        | none => none) : Option ZS) with
      | none => none
      | some (pc1, lo1, st1, h1) => zm_steps sc 0 j pc1 lo1 st1 h1) = _
  rw [hv]
  rfl
theorem Wp.idiv {x y : Int32} (hat : zm_at j pc = some (.idiv, n, a, b)) (hy : (y == 0) = false) (hp : pc + 1 = pc1) (K : Wp sc d j pc1 lo (.int (x / y) :: st) h Q) : Wp sc d j pc lo (.int y :: .int x :: st) h Q := by
  subst hp
  refine Wp.steps 1 (pc1 := pc + 1) (lo1 := lo) (st1 := .int (x / y) :: st) (h1 := h) ?_ K
  unfold zm_steps
  rw [hat]
  show (match ((bif y == 0 then none else some (pc + 1, lo, .int (x / y) :: st, h)) : Option ZS) with
      | none => none
      | some (pc1, lo1, st1, h1) => zm_steps sc 0 j pc1 lo1 st1 h1) = _
  rw [hy]
  rfl
theorem Wp.irem {x y : Int32} (hat : zm_at j pc = some (.irem, n, a, b)) (hy : (y == 0) = false) (hp : pc + 1 = pc1) (K : Wp sc d j pc1 lo (.int (x - x / y * y) :: st) h Q) : Wp sc d j pc lo (.int y :: .int x :: st) h Q := by
  subst hp
  refine Wp.steps 1 (pc1 := pc + 1) (lo1 := lo) (st1 := .int (x - x / y * y) :: st) (h1 := h) ?_ K
  unfold zm_steps
  rw [hat]
  show (match ((bif y == 0 then none else some (pc + 1, lo, .int (x - x / y * y) :: st, h)) : Option ZS) with
      | none => none
      | some (pc1, lo1, st1, h1) => zm_steps sc 0 j pc1 lo1 st1 h1) = _
  rw [hy]
  rfl
theorem Wp.ldiv {x y : Int64} (hat : zm_at j pc = some (.ldiv, n, a, b)) (hy : (y == 0) = false) (hp : pc + 1 = pc1) (K : Wp sc d j pc1 lo (.long (x / y) :: st) h Q) : Wp sc d j pc lo (.long y :: .long x :: st) h Q := by
  subst hp
  refine Wp.steps 1 (pc1 := pc + 1) (lo1 := lo) (st1 := .long (x / y) :: st) (h1 := h) ?_ K
  unfold zm_steps
  rw [hat]
  show (match ((bif y == 0 then none else some (pc + 1, lo, .long (x / y) :: st, h)) : Option ZS) with
      | none => none
      | some (pc1, lo1, st1, h1) => zm_steps sc 0 j pc1 lo1 st1 h1) = _
  rw [hy]
  rfl
theorem Wp.lrem {x y : Int64} (hat : zm_at j pc = some (.lrem, n, a, b)) (hy : (y == 0) = false) (hp : pc + 1 = pc1) (K : Wp sc d j pc1 lo (.long (x - x / y * y) :: st) h Q) : Wp sc d j pc lo (.long y :: .long x :: st) h Q := by
  subst hp
  refine Wp.steps 1 (pc1 := pc + 1) (lo1 := lo) (st1 := .long (x - x / y * y) :: st) (h1 := h) ?_ K
  unfold zm_steps
  rw [hat]
  show (match ((bif y == 0 then none else some (pc + 1, lo, .long (x - x / y * y) :: st, h)) : Option ZS) with
      | none => none
      | some (pc1, lo1, st1, h1) => zm_steps sc 0 j pc1 lo1 st1 h1) = _
  rw [hy]
  rfl
theorem Wp.iT {c : ClassFile.Cond} {off : Int} {v : Int32} (hat : zm_at j pc = some (.ifCond c off, n, a, b)) (hc : zm_cmp c v 0 = true) (hp : zm_tg pc off = pc1) (K : Wp sc d j pc1 lo st h Q) : Wp sc d j pc lo (.int v :: st) h Q := by
  subst hp
  exact Wp.ifT (i := .nop) hat hc K
theorem Wp.iF {c : ClassFile.Cond} {off : Int} {v : Int32} (hat : zm_at j pc = some (.ifCond c off, n, a, b)) (hc : zm_cmp c v 0 = false) (hp : pc + 3 = pc1) (K : Wp sc d j pc1 lo st h Q) : Wp sc d j pc lo (.int v :: st) h Q := by
  subst hp
  exact Wp.ifF (i := .nop) hat hc K
theorem Wp.cT {c : ClassFile.Cond} {off : Int} {v w : Int32} (hat : zm_at j pc = some (.if_icmp c off, n, a, b)) (hc : zm_cmp c v w = true) (hp : zm_tg pc off = pc1) (K : Wp sc d j pc1 lo st h Q) : Wp sc d j pc lo (.int w :: .int v :: st) h Q := by
  subst hp
  exact Wp.icT (i := .nop) hat hc K
theorem Wp.cF {c : ClassFile.Cond} {off : Int} {v w : Int32} (hat : zm_at j pc = some (.if_icmp c off, n, a, b)) (hc : zm_cmp c v w = false) (hp : pc + 3 = pc1) (K : Wp sc d j pc1 lo st h Q) : Wp sc d j pc lo (.int w :: .int v :: st) h Q := by
  subst hp
  exact Wp.icF (i := .nop) hat hc K
theorem Wp.sn {l : List Int32} (hat : zm_at j pc = some (.arraylength, n, a, b)) (hp : pc + 1 = pc1) (K : Wp (some l) d j pc1 lo (.int (Int32.ofNat l.length) :: st) h Q) : Wp (some l) d j pc lo (.ref zm_SP :: st) h Q := by
  subst hp
  refine Wp.steps 1 (pc1 := pc + 1) (lo1 := lo) (st1 := .int (Int32.ofNat l.length) :: st) (h1 := h) ?_ K
  unfold zm_steps
  rw [hat]
  rfl
/-- a call whose run is known -/
theorem Wp.ca {x : XI} {m d1 : Nat} {as rest st1 res : List Value} {h1 : HP} (hat : zm_at j pc = some x) (hk : zm_kd x.1 = 1) (hm : x.2.2.1 = m) (h0 : Nat.beq m 0 = false) (hna : Nat.ble x.2.2.2 st.length = true) (has : (st.take x.2.2.2).reverse = as) (hre : st.drop x.2.2.2 = rest) (hcat : Nat.ble (zm_cat rest) 8 = true) (hro : zm_rok h x as = true) (hfit : Nat.ble (zm_sl2 as).length (z_L m) = true) (hp : pc + 3 = pc1) (hst : res ++ rest = st1)
    (W : zB sc d1 m 0 (zm_ent (z_L m) as) [] h res h1) (K : Wp sc (d1 + 1) j pc1 lo st1 h1 Q) : Wp sc (d1 + 1) j pc lo st h Q := by
  subst hm
  subst hp
  subst hst
  exact Wp.call hat hk h0 hna has hre hcat hro hfit (W _ (fun _ => K))
theorem Wp.swT {dflt l u : Int} {os : Array Int} {v w : Int32} (hat : zm_at j pc = some (.tableswitch dflt l u os, n, a, b)) (hv : (v == w) = true) (ht : zm_tab pc dflt l u os w = some pc1) (K : Wp sc d j pc1 lo st h Q) : Wp sc d j pc lo (.int v :: st) h Q := by
  have hv : v = w := by simpa using hv
  subst hv
  refine Wp.steps 1 (pc1 := pc1) (lo1 := lo) (st1 := st) (h1 := h) ?_ K
  unfold zm_steps
  rw [hat]
  show (match ((match zm_tab pc dflt l u os v with
      | some t => some (t, lo, st, h)
      | none => none) : Option ZS) with
      | none => none
      | some (pc1, lo1, st1, h1) => zm_steps sc 0 j pc1 lo1 st1 h1) = _
  rw [ht]
  rfl
theorem Wp.swD {dflt l u : Int} {os : Array Int} {v : Int32} (ls : List Int32) (hat : zm_at j pc = some (.tableswitch dflt l u os, n, a, b)) (hn : ls.all (fun w => !(v == w)) = true) (hl : (List.range (u - l + 1).toNat).all (fun i => ls.any (fun w => decide (w.toInt = l + i))) = true) (hp : zm_tg pc dflt = pc1) (K : Wp sc d j pc1 lo st h Q) : Wp sc d j pc lo (.int v :: st) h Q := by
  subst hp
  refine Wp.tabOut hat ?_ K
  by_cases q : v.toInt < l
  · exact Or.inl q
  · right
    by_cases q2 : u < v.toInt
    · exact q2
    · exfalso
      have h1 := List.all_eq_true.mp hl (v.toInt - l).toNat (List.mem_range.mpr (by omega))
      obtain ⟨w, hw, hw2⟩ := List.any_eq_true.mp h1
      have hw2 := of_decide_eq_true hw2
      have : v = w := Int32.toInt_inj.mp (by omega)
      have h3 := List.all_eq_true.mp hn w hw
      rw [this] at h3
      simp at h3
theorem Wp.lsT {dflt : Int} {ps : Array (Int × Int)} {v w : Int32} (hat : zm_at j pc = some (.lookupswitch dflt ps, n, a, b)) (hv : (v == w) = true) (ht : zm_tg pc (Op.lookupswitch.offset ps.toList dflt w.toInt) = pc1) (K : Wp sc d j pc1 lo st h Q) : Wp sc d j pc lo (.int v :: st) h Q := by
  have hv : v = w := by simpa using hv
  subst hv
  subst ht
  refine Wp.steps 1 (pc1 := zm_tg pc (Op.lookupswitch.offset ps.toList dflt v.toInt)) (lo1 := lo) (st1 := st) (h1 := h) ?_ K
  unfold zm_steps
  rw [hat]
  rfl
theorem Wp.lsD {dflt : Int} {ps : Array (Int × Int)} {v : Int32} (hat : zm_at j pc = some (.lookupswitch dflt ps, n, a, b)) (ht : Op.lookupswitch.offset ps.toList dflt v.toInt = dflt) (hp : zm_tg pc dflt = pc1) (K : Wp sc d j pc1 lo st h Q) : Wp sc d j pc lo (.int v :: st) h Q := by
  subst hp
  refine Wp.steps 1 (pc1 := zm_tg pc dflt) (lo1 := lo) (st1 := st) (h1 := h) ?_ K
  unfold zm_steps
  rw [hat]
  show (match (some (zm_tg pc (Op.lookupswitch.offset ps.toList dflt v.toInt), lo, st, h) : Option ZS) with
      | none => none
      | some (pc1, lo1, st1, h1) => zm_steps sc 0 j pc1 lo1 st1 h1) = _
  rw [ht]
  rfl
end RULES
