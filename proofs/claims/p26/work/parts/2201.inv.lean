/-! what holds of the memory between two steps: bounds, cell by cell -/
def stP (k : Nat) (v : Int) : Prop :=
  if k = 8 ∨ k = 65 then 0 ≤ v ∧ v ≤ 8
  else if 9 ≤ k ∧ k < 65 then (match (k - 9) % 7 with | 0 => 0 ≤ v ∧ v ≤ 7 | 1 => 0 ≤ v ∧ v ≤ 3 | _ => True)
  else if 66 ≤ k then (match (k - 66) % 4 with | 0 => 0 ≤ v ∧ v ≤ 3 | 2 => 0 ≤ v ∧ v ≤ 7 | _ => True)
  else True
def bdP (c r k : Nat) (v : Int) : Prop := match c with
  | 0 => (match k with | 0 => 0 ≤ v ∧ v ≤ 255 | 3 => 0 ≤ v ∧ v ≤ 8 | _ => True)
  | 1 => (match k with | 1 => 0 ≤ v ∧ v ≤ 3 | 3 => 0 ≤ v ∧ v ≤ 5 | _ => True)
  | 2 => (match k with | 0 => 0 ≤ v ∧ v ≤ 8 | 1 => 0 ≤ v ∧ v ≤ 4 | 2 => 0 ≤ v ∧ v ≤ 8 | 3 => 0 ≤ v ∧ v ≤ 8 | _ => True)
  | 4 => (match k with | 1 => 0 ≤ v ∧ v ≤ 160 | 9 => 0 ≤ v ∧ v ≤ 160 | 10 => 0 ≤ v ∧ v ≤ 160 | _ => True)
  | 5 => (match k with | 0 => -1 ≤ v ∧ v ≤ 40 | _ => True)
  | 6 => (match k with | 0 => 0 ≤ v ∧ v ≤ 3 | 3 => 0 ≤ v ∧ v ≤ 1 | _ => True)
  | 8 => (match k with | 2 => 0 ≤ v ∧ v ≤ 8 | 3 => 0 ≤ v ∧ v ≤ 4 | 5 => 0 ≤ v ∧ v ≤ 8 | 6 => 0 ≤ v ∧ v ≤ 4 | 14 => 0 ≤ v ∧ v ≤ 160 | 15 => 0 ≤ v ∧ v ≤ 160 | 16 => 0 ≤ v ∧ v ≤ 160 | 19 => 0 ≤ v ∧ v ≤ 6 | _ => True)
  | 9 => (match r with | 114 => stP (k % 98) v | 116 => stP (k % 98) v | 120 => 0 ≤ v ∧ v ≤ 40 | _ => True)
  | _ => True
def Inv (g : G) : Prop := ∀ r k, bdP (zg_cl r) r k (g r k).toInt
theorem Inv.rd {g : G} (h : Inv g) {r c : Nat} (k : Nat) (hr : zg_cl r = c) : bdP c r k (g r k).toInt := by
  have := h r k
  rw [hr] at this
  exact this
theorem Inv.up {g g1 : G} (h : Inv g) {r c k : Nat} {v : Int32} (hg : zg_up g r k v = g1) (hr : zg_cl r = c) (hb : bdP c r k v.toInt) : Inv g1 := by
  subst hg
  intro q j
  cases h1 : Nat.beq q r with
  | false => simpa [zg_up, h1] using h q j
  | true =>
    have := Nat.eq_of_beq_eq_true h1
    subst this
    cases h2 : Nat.beq j k with
    | false => simpa [zg_up, zg_u1, Nat.beq_refl, h2] using h q j
    | true =>
      have := Nat.eq_of_beq_eq_true h2
      subst this
      rw [hr]
      simpa [zg_up, zg_u1, Nat.beq_refl] using hb
theorem stP_lo {k : Nat} {v : Int} (h : k < 8) : stP k v := by
  unfold stP
  rw [if_neg (by omega), if_neg (by omega), if_neg (by omega)]
  trivial
theorem stP_m {k : Nat} {v : Int} (h : k = 8 ∨ k = 65) : stP k v ↔ (0 ≤ v ∧ v ≤ 8) := by
  unfold stP
  rw [if_pos h]
theorem stP_d {k : Nat} {d o v : Int} (hk : (k : Int) = 9 + 7 * d + o) (hd : 0 ≤ d ∧ d ≤ 7) (ho : 0 ≤ o ∧ o ≤ 6) : stP k v ↔ ((o = 0 → 0 ≤ v ∧ v ≤ 7) ∧ (o = 1 → 0 ≤ v ∧ v ≤ 3)) := by
  unfold stP
  rw [if_neg (by omega), if_pos (by omega)]
  have e : (k - 9) % 7 = o.toNat := by omega
  rw [e]
  obtain ⟨n, rfl⟩ : ∃ n : Nat, o = n := ⟨o.toNat, by omega⟩
  rw [Int.toNat_natCast]
  clear e hk
  match n, ho with
  | 0, _ => exact ⟨fun q => ⟨fun _ => q, fun w => by omega⟩, fun q => q.1 rfl⟩
  | 1, _ => exact ⟨fun q => ⟨fun w => by omega, fun _ => q⟩, fun q => q.2 rfl⟩
  | n + 2, _ => exact ⟨fun _ => ⟨fun w => by omega, fun w => by omega⟩, fun _ => trivial⟩
theorem stP_s {k : Nat} {d o v : Int} (hk : (k : Int) = 66 + 4 * d + o) (hd : 0 ≤ d ∧ d ≤ 7) (ho : 0 ≤ o ∧ o ≤ 3) : stP k v ↔ ((o = 0 → 0 ≤ v ∧ v ≤ 3) ∧ (o = 2 → 0 ≤ v ∧ v ≤ 7)) := by
  unfold stP
  rw [if_neg (by omega), if_neg (by omega), if_pos (by omega)]
  have e : (k - 66) % 4 = o.toNat := by omega
  rw [e]
  obtain ⟨n, rfl⟩ : ∃ n : Nat, o = n := ⟨o.toNat, by omega⟩
  rw [Int.toNat_natCast]
  clear e hk
  match n, ho with
  | 0, _ => exact ⟨fun q => ⟨fun _ => q, fun w => by omega⟩, fun q => q.1 rfl⟩
  | 1, _ => exact ⟨fun _ => ⟨fun w => by omega, fun w => by omega⟩, fun _ => trivial⟩
  | 2, _ => exact ⟨fun q => ⟨fun w => by omega, fun _ => q⟩, fun q => q.2 rfl⟩
  | n + 3, ho => exact ⟨fun _ => ⟨fun w => by omega, fun w => by omega⟩, fun _ => trivial⟩
theorem zg_c114 : zg_cl 114 = 9 ∧ zg_cl 116 = 9 := by decide +kernel
theorem Inv.st {g : G} (h : Inv g) {k : Nat} (hk : k < 98) : stP k (g 114 k).toInt := by
  have : stP (k % 98) (g 114 k).toInt := h.rd (r := 114) k zg_c114.1
  rw [Nat.mod_eq_of_lt hk] at this
  exact this
theorem Inv.dr {g : G} (h : Inv g) {k : Nat} (hk : k < 98) : stP k (g 116 k).toInt := by
  have : stP (k % 98) (g 116 k).toInt := h.rd (r := 116) k zg_c114.2
  rw [Nat.mod_eq_of_lt hk] at this
  exact this
theorem Inv.m8 {g : G} (h : Inv g) : 0 ≤ (g 114 8).toInt ∧ (g 114 8).toInt ≤ 8 := (stP_m (Or.inl rfl)).mp (h.st (by omega))
theorem Inv.m65 {g : G} (h : Inv g) : 0 ≤ (g 114 65).toInt ∧ (g 114 65).toInt ≤ 8 := (stP_m (Or.inr rfl)).mp (h.st (by omega))
theorem Inv.d8 {g : G} (h : Inv g) : 0 ≤ (g 116 8).toInt ∧ (g 116 8).toInt ≤ 8 := (stP_m (Or.inl rfl)).mp (h.dr (by omega))
theorem bdP_st {k : Nat} {v : Int} (hk : k < 98) (h : stP k v) : bdP 9 114 k v := by
  show stP (k % 98) v
  rw [Nat.mod_eq_of_lt hk]
  exact h
theorem bdP_dr {k : Nat} {v : Int} (hk : k < 98) (h : stP k v) : bdP 9 116 k v := by
  show stP (k % 98) v
  rw [Nat.mod_eq_of_lt hk]
  exact h
