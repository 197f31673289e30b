/-! the places of HOURS, on both sides -/
def gh (n : Int32) : G := fun _ _ => n
theorem d_137_46_cg {g g' : G} (h : g 113 2 = g' 113 2) : ∀ (f : Nat) (x y : Int32), d_137_46 g f x y = d_137_46 g' f x y := by
  intro f
  induction f with
  | zero =>
    intro x y
    rfl
  | succ f ih =>
    intro x y
    rw [d_137_46.eq_2, d_137_46.eq_2, h, ih]
theorem d_137_cg {g g' : G} {x1 x2 : Int32} (h : g 113 2 = g' 113 2) : d_137 x1 x2 g = d_137 x1 x2 g' := by
  unfold d_137
  rw [h, d_137_46_cg h]
theorem d_138_5_cg {g g' : G} {x1 x2 : Int32} (h : g 113 2 = g' 113 2) : ∀ (f : Nat) (x y : Int32), d_138_5 x1 x2 g f x y = d_138_5 x1 x2 g' f x y := by
  intro f
  induction f with
  | zero =>
    intro x y
    rfl
  | succ f ih =>
    intro x y
    rw [d_138_5.eq_2, d_138_5.eq_2, h, d_137_cg h]
    congr 1
    · congr 1
      funext v2
      rw [ih, ih]
set_option maxRecDepth 100000 in
theorem pl_all_k : ((List.range 3).all fun w => (List.range 9).all fun n => Nat.blt n 2 || (List.range 8).all fun h => Nat.ble n h || decide (d_137 (Int32.ofNat w) (Int32.ofNat h) (gh (Int32.ofNat n)) = some (d_98 (Int32.ofNat w) (Int32.ofNat h) (Int32.ofNat n)))) = true := by decide +kernel
theorem pl_all (w : Nat) (hw : w < 3) (n : Nat) (hn : n < 9) (h2 : 2 ≤ n) (h : Nat) (h8 : h < 8) (hh : h < n) : d_137 (Int32.ofNat w) (Int32.ofNat h) (gh (Int32.ofNat n)) = some (d_98 (Int32.ofNat w) (Int32.ofNat h) (Int32.ofNat n)) := by
  have k := List.all_eq_true.mp pl_all_k w (List.mem_range.mpr hw)
  have k := List.all_eq_true.mp k n (List.mem_range.mpr hn)
  rcases (Bool.or_eq_true _ _).mp k with k | k
  · have := Nat.blt_eq.mp k
    omega
  · have k := List.all_eq_true.mp k h (List.mem_range.mpr h8)
    rcases (Bool.or_eq_true _ _).mp k with k | k
    · have := Nat.ble_eq.mp k
      omega
    · exact of_decide_eq_true k
set_option maxRecDepth 100000 in
theorem ha_all_k : ((List.range 3).all fun w => (List.range 9).all fun n => Nat.blt n 2 || (List.range 8).all fun h => Nat.ble n h || decide (d_138 (Int32.ofNat w) (Int32.ofNat h) (gh (Int32.ofNat n)) = some (d_97 (Int32.ofNat w) (Int32.ofNat h) (Int32.ofNat n)))) = true := by decide +kernel
theorem ha_all (w : Nat) (hw : w < 3) (n : Nat) (hn : n < 9) (h2 : 2 ≤ n) (h : Nat) (h8 : h < 8) (hh : h < n) : d_138 (Int32.ofNat w) (Int32.ofNat h) (gh (Int32.ofNat n)) = some (d_97 (Int32.ofNat w) (Int32.ofNat h) (Int32.ofNat n)) := by
  have k := List.all_eq_true.mp ha_all_k w (List.mem_range.mpr hw)
  have k := List.all_eq_true.mp k n (List.mem_range.mpr hn)
  rcases (Bool.or_eq_true _ _).mp k with k | k
  · have := Nat.blt_eq.mp k
    omega
  · have k := List.all_eq_true.mp k h (List.mem_range.mpr h8)
    rcases (Bool.or_eq_true _ _).mp k with k | k
    · have := Nat.ble_eq.mp k
      omega
    · exact of_decide_eq_true k
theorem t_137 {w h : Int32} {m : G} (hw : 0 ≤ w.toInt ∧ w.toInt ≤ 2) (hn : 2 ≤ (m 113 2).toInt ∧ (m 113 2).toInt ≤ 8) (hh : 0 ≤ h.toInt ∧ h.toInt < (m 113 2).toInt) : d_137 w h m = some (d_98 w h (m 113 2)) := by
  have c : d_137 w h m = d_137 w h (gh (m 113 2)) := d_137_cg (show m 113 2 = gh (m 113 2) 113 2 from rfl)
  rw [c]
  have e1 := zi_nat (x := w) (n := w.toInt.toNat) (by omega)
  have e2 := zi_nat (x := h) (n := h.toInt.toNat) (by omega)
  have e3 := zi_nat (x := m 113 2) (n := (m 113 2).toInt.toNat) (by omega)
  have := pl_all w.toInt.toNat (by omega) (m 113 2).toInt.toNat (by omega) (by omega) h.toInt.toNat (by omega) (by omega)
  rw [← e1, ← e2, ← e3] at this
  exact this
theorem t_138 {w h : Int32} {m : G} (hw : 0 ≤ w.toInt ∧ w.toInt ≤ 2) (hn : 2 ≤ (m 113 2).toInt ∧ (m 113 2).toInt ≤ 8) (hh : 0 ≤ h.toInt ∧ h.toInt < (m 113 2).toInt) : d_138 w h m = some (d_97 w h (m 113 2)) := by
  have c : d_138 w h m = d_138 w h (gh (m 113 2)) := by
    unfold d_138
    exact d_138_5_cg (show m 113 2 = gh (m 113 2) 113 2 from rfl) _ _ _
  rw [c]
  have e1 := zi_nat (x := w) (n := w.toInt.toNat) (by omega)
  have e2 := zi_nat (x := h) (n := h.toInt.toNat) (by omega)
  have e3 := zi_nat (x := m 113 2) (n := (m 113 2).toInt.toNat) (by omega)
  have := ha_all w.toInt.toNat (by omega) (m 113 2).toInt.toNat (by omega) (by omega) h.toInt.toNat (by omega) (by omega)
  rw [← e1, ← e2, ← e3] at this
  exact this
theorem zi_s10 (x : Int32) : (x - 10).toInt = x.toInt - 10 ∨ (x.toInt < 0 ∧ 2147483638 ≤ (x - 10).toInt) := by
  have L10 := zl_10
  have h1 := zi_rng x
  by_cases h : -2147483638 ≤ x.toInt
  · exact Or.inl (by rw [zi_sub (by omega) (by omega), L10])
  · refine Or.inr ⟨by omega, ?_⟩
    rw [Int32.toInt_sub, L10, Int.bmod_def]
    omega
/-! who has what, on both sides -/
/-- a family of the class at b is the one that stands in the reference -/
def RCb (b : Nat) (c m : G) : Prop := c b 0 = m 113 2 ∧ c b 1 = m 113 3 ∧ Wfam b c ∧ Rfam b 0 c m
theorem Rel.rcb {c m : G} (h : Rel c m) : RCb 1 c m := h.2.2.1
section RCB
variable {b : Nat} {c m : G} {p d i j : Nat}
theorem RCb.nums (h : RCb b c m) : ((c b 0).toInt = (m 113 2).toInt ∧ (c b 1).toInt = (m 113 3).toInt ∧ (c b 2).toInt = (m 114 8).toInt ∧ (c b 3).toInt = (m 114 65).toInt) ∧ (2 ≤ (c b 0).toInt ∧ (c b 0).toInt ≤ 8 ∧ 0 ≤ (c b 1).toInt ∧ (c b 1).toInt ≤ 4 ∧ 0 ≤ (c b 2).toInt ∧ (c b 2).toInt ≤ 8 ∧ 0 ≤ (c b 3).toInt ∧ (c b 3).toInt ≤ 8) := by
  obtain ⟨h1, h2, w, r⟩ := h
  exact ⟨⟨congrArg Int32.toInt h1, congrArg Int32.toInt h2, congrArg Int32.toInt r.1, congrArg Int32.toInt r.2.1⟩, w.1⟩
theorem RCb.ones (h : RCb b c m) (hp : (p : Int) < (c b 1).toInt) : c (b + 4 + p) 0 = m 114 p ∧ c (b + 4 + p) 1 = m 114 (4 + p) := by
  have q := h.2.2.2.2.2.1 p hp
  rw [show 0 + p = p by omega, show 0 + 4 + p = 4 + p by omega] at q
  exact q
theorem RCb.deeds (h : RCb b c m) (hp : (d : Int) < (c b 2).toInt) (hj : j < 7) : c (b + 8 + d) j = m 114 (9 + 7 * d + j) := by
  have q := h.2.2.2.2.2.2.1 d hp j hj
  rw [show 0 + 9 + 7 * d + j = 9 + 7 * d + j by omega] at q
  exact q
theorem RCb.seens (h : RCb b c m) (hp : (i : Int) < (c b 3).toInt) (hj : j < 4) : c (b + 16 + i) j = m 114 (66 + 4 * i + j) := by
  have q := h.2.2.2.2.2.2.2 i hp j hj
  rw [show 0 + 66 + 4 * i + j = 66 + 4 * i + j by omega] at q
  exact q
theorem RCb.wone (h : RCb b c m) (hp : (p : Int) < (c b 1).toInt) : Wone b p c := h.2.2.1.2.1 p hp
theorem RCb.wdeed (h : RCb b c m) (hp : (d : Int) < (c b 2).toInt) : Wdeed b d c := h.2.2.1.2.2.1 d hp
end RCB
/-- DEED e of the family at b gives p the THING t ahead of the HOUR h -/
def Gives (b : Nat) (c : G) (p : Nat) (h : Int32) (e t : Nat) : Prop := (c (b + 8 + e) 2).toInt = p ∧ (d_98 (c (b + 4 + p) 0) (c (b + 8 + e) 0) (c b 0)).toInt < (d_98 (c (b + 4 + p) 0) h (c b 0)).toInt ∧ (c (b + 8 + e) 3).toInt = t
theorem t_23 {b p : Nat} {x1 x2 x3 : Int32} {c : G} {r : Bool} (hp : x1.toInt = p) (e : d_23 b x1 x2 x3 c = some r) : r = true ↔ (d_98 (c (b + 4 + p) 0) x2 (c b 0)).toInt < (d_98 (c (b + 4 + p) 0) x3 (c b 0)).toInt := by
  unfold d_23 at e
  replace e := zb_bind e
  obtain ⟨k1, h1, e⟩ := e
  have b1 := zm_ix_ko h1
  obtain rfl : k1 = p := by omega
  replace e := zb_let e
  obtain ⟨v2, h2, e⟩ := e
  replace e := zb_let e
  obtain ⟨v3, h3, e⟩ := e
  rw [h2, h3]
  replace e := zb_if e
  rcases e with ⟨hc, e⟩ | ⟨hc, e⟩
  · have q := zc_geT hc
    have e1 := zb_r1 e
    subst e1
    exact zd_f (by omega)
  · have q := zc_geF hc
    have e1 := zb_r1 e
    subst e1
    exact zd_t (by omega)
theorem zbit_shl1 {x : Int32} {t : Nat} (ht : x.toInt = t) (h32 : t < 32) {i : Nat} (hi : i < 32) : zbit ((1 : Int32) <<< (x &&& 31)) i = decide (i = t) := by
  rw [zi_nat ht]
  exact zbit_shl t h32 i hi
theorem b_90n {x0 x1 : Int32} {n : Nat} (hn : x1.toInt = n) (h32 : n < 32) : d_90 x0 x1 = true ↔ zbit x0 n = true := by
  have h := b_90 (x0 := x0) (x1 := x1)
  rw [zi_nat hn, zbit_ti x0 h32] at h
  rw [zi_nat hn]
  refine h.trans ?_
  cases zbit x0 n <;> simp
/-- the class: what p has in an HOUR by a DAY, bit by bit -/
theorem l_24_14 {b p : Nat} {x1 x2 x3 : Int32} {c m : G} (hR : RCb b c m) (hp : x1.toInt = p) (hp4 : (p : Int) < (c b 1).toInt) : ∀ (f : Nat) (x4 x5 v : Int32) (n : Nat), x5.toInt = n → d_24_14 b x1 x2 x3 c f x4 x5 = some v → ∀ t, t < 32 → (zbit v t = true ↔ zbit x4 t = true ∨ ∃ e : Nat, n ≤ e ∧ (e : Int) < (c b 2).toInt ∧ zbit x3 e = true ∧ Gives b c p x2 e t) := by
  intro f
  induction f with
  | zero =>
    intro x4 x5 v n _ e
    rw [d_24_14.eq_1] at e
    cases e
  | succ f ih =>
    intro x4 x5 v n hx e t ht
    rw [d_24_14.eq_2] at e
    have L1 := zl_1
    have nn := hR.nums
    replace e := zb_if e
    rcases e with ⟨hc, e⟩ | ⟨hc, e⟩
    · have q := zc_geT hc
      have e1 := zb_r1 e
      subst e1
      exact ⟨Or.inl, fun h => h.elim id fun ⟨e, h1, h2, _⟩ => by omega⟩
    · have q := zc_geF hc
      have yi := zi_add (x := x5) (y := 1) (by omega) (by omega)
      replace e := zb_bind e
      obtain ⟨k3, h3, e⟩ := e
      have b3 := zm_ix_ko h3
      obtain rfl : k3 = n := by omega
      have wd := hR.wdeed (d := k3) (by omega)
      unfold Wdeed at wd
      replace e := zb_let e
      obtain ⟨v4, h4, e⟩ := e
      have b4 := b_90n (x0 := x3) hx (by omega)
      rw [h4] at b4
      -- the row k3 gives nothing new
      have skip : d_24_14 b x1 x2 x3 c f x4 (x5 + 1) = some v → ¬ (zbit x3 k3 = true ∧ (c (b + 8 + k3) 2).toInt = p ∧ (d_98 (c (b + 4 + p) 0) (c (b + 8 + k3) 0) (c b 0)).toInt < (d_98 (c (b + 4 + p) 0) x2 (c b 0)).toInt) → (zbit v t = true ↔ zbit x4 t = true ∨ ∃ e : Nat, k3 ≤ e ∧ (e : Int) < (c b 2).toInt ∧ zbit x3 e = true ∧ Gives b c p x2 e t) := by
        intro e hn
        refine (ih x4 (x5 + 1) v (k3 + 1) (by omega) e t ht).trans (or_congr Iff.rfl ⟨fun ⟨e, w1, w2⟩ => ⟨e, by omega, w2⟩, fun ⟨e, w1, w2, w3, w4⟩ => ⟨e, ?_, w2, w3, w4⟩⟩)
        rcases Nat.lt_or_ge k3 e with q | q
        · exact q
        · obtain rfl : e = k3 := by omega
          exact absurd ⟨w3, w4.1, w4.2.1⟩ hn
      replace e := zb_if e
      rcases e with ⟨hc, e⟩ | ⟨hc, e⟩
      · have r4 := b4.mp hc
        replace e := zb_if e
        rcases e with ⟨hc, e⟩ | ⟨hc, e⟩
        · have q2 := zc_neT hc
          exact skip e (fun w => by have := w.2.1; omega)
        · have q2 := zc_neF hc
          replace e := zb_bind e
          obtain ⟨v7, h7, e⟩ := e
          have b7 := t_23 hp h7
          replace e := zb_if e
          rcases e with ⟨hc, e⟩ | ⟨hc, e⟩
          · have r7 := b7.mp hc
            refine (ih _ (x5 + 1) v (k3 + 1) (by omega) e t ht).trans ?_
            obtain ⟨th, hth⟩ : ∃ th : Nat, (c (b + 8 + k3) 3).toInt = th := ⟨(c (b + 8 + k3) 3).toInt.toNat, by omega⟩
            rw [zbit_or, zbit_shl1 hth (by omega) ht, Bool.or_eq_true, decide_eq_true_eq]
            constructor
            · rintro ((w | w) | ⟨e, w1, w2⟩)
              · exact Or.inl w
              · exact Or.inr ⟨k3, by omega, by omega, r4, by omega, r7, by omega⟩
              · exact Or.inr ⟨e, by omega, w2⟩
            · rintro (w | ⟨e, w1, w2, w3, w4⟩)
              · exact Or.inl (Or.inl w)
              · rcases Nat.lt_or_ge k3 e with q' | q'
                · exact Or.inr ⟨e, q', w2, w3, w4⟩
                · obtain rfl : e = k3 := by omega
                  have := w4.2.2
                  exact Or.inl (Or.inr (by omega))
          · have r7 := zd_no b7 hc
            exact skip e (fun w => r7 w.2.2)
      · have r4 := zd_no b4 hc
        exact skip e (fun w => r4 w.1)
/-- what p has in the HOUR h by the DAY x3 -/
def Has (b : Nat) (c : G) (p : Nat) (h x3 : Int32) (t : Nat) : Prop := zbit (c (b + 4 + p) 1) t = true ∨ ∃ e : Nat, (e : Int) < (c b 2).toInt ∧ zbit x3 e = true ∧ Gives b c p h e t
theorem t_24 {b p : Nat} {x1 x2 x3 v : Int32} {c m : G} (hR : RCb b c m) (hp : x1.toInt = p) (hp4 : (p : Int) < (c b 1).toInt) (e : d_24 b x1 x2 x3 c = some v) : ∀ t, t < 32 → (zbit v t = true ↔ Has b c p x2 x3 t) := by
  unfold d_24 at e
  replace e := zb_bind e
  obtain ⟨k1, h1, e⟩ := e
  have b1 := zm_ix_ko h1
  obtain rfl : k1 = p := by omega
  intro t ht
  refine (l_24_14 hR hp hp4 300 _ 0 v 0 (by decide) e t ht).trans (or_congr Iff.rfl ⟨fun ⟨e, _, w⟩ => ⟨e, w⟩, fun ⟨e, w⟩ => ⟨e, by omega, w⟩⟩)
/-- the reference's -/
theorem l_150_28 {b p : Nat} {x1 x2 x3 x5 : Int32} {c m : G} (hR : RCb b c m) (hp : x1.toInt = p) (hp4 : (p : Int) < (c b 1).toInt) (h5 : x5 = d_98 (c (b + 4 + p) 0) x2 (c b 0)) : ∀ (f : Nat) (x4 x6 v : Int32) (n : Nat), x6.toInt = n → d_150_28 x1 x3 x5 m f x4 x6 = some v → ∀ t, t < 32 → (zbit v t = true ↔ zbit x4 t = true ∨ ∃ e : Nat, n ≤ e ∧ (e : Int) < (c b 2).toInt ∧ zbit x3 e = true ∧ Gives b c p x2 e t) := by
  intro f
  induction f with
  | zero =>
    intro x4 x6 v n _ e
    rw [d_150_28.eq_1] at e
    cases e
  | succ f ih =>
    intro x4 x6 v n hx e t ht
    rw [d_150_28.eq_2] at e
    have L0 := zl_0
    have L1 := zl_1
    have nn := hR.nums
    have wo := hR.wone hp4
    have o1 := hR.ones hp4
    unfold Wone at wo
    replace e := zb_if e
    rcases e with ⟨hc, e⟩ | ⟨hc, e⟩
    · have q := zc_geT hc
      have e1 := zb_r1 e
      subst e1
      exact ⟨Or.inl, fun h => h.elim id fun ⟨e, h1, h2, _⟩ => by omega⟩
    · have q := zc_geF hc
      have yi := zi_add (x := x6) (y := 1) (by omega) (by omega)
      have wd := hR.wdeed (d := n) (by omega)
      unfold Wdeed at wd
      have D0 := hR.deeds (d := n) (j := 0) (by omega) (by omega)
      have D2 := hR.deeds (d := n) (j := 2) (by omega) (by omega)
      have D3 := hR.deeds (d := n) (j := 3) (by omega) (by omega)
      have q0 := t_136 (g := m) hx (show n < 8 by omega) (show (0 : Int32).toInt = (0 : Nat) from by decide) (by omega)
      have q2 := t_136 (g := m) hx (show n < 8 by omega) (show (2 : Int32).toInt = (2 : Nat) from by decide) (by omega)
      have q3 := t_136 (g := m) hx (show n < 8 by omega) (show (3 : Int32).toInt = (3 : Nat) from by decide) (by omega)
      rw [← D0] at q0
      rw [← D2] at q2
      rw [← D3] at q3
      obtain ⟨th, hth⟩ : ∃ th : Nat, (c (b + 8 + n) 3).toInt = th := ⟨(c (b + 8 + n) 3).toInt.toNat, by omega⟩
      have z0 : ∀ y : Int32, y ||| ((0 : Int32) <<< (c (b + 8 + n) 3 &&& 31)) = y := by
        intro y
        rw [zi_nat hth, zbit_shl0 th (by omega)]
        apply zbit_ext
        intro i _
        rw [zbit_or, zbit_0, Bool.or_false]
      have bt := zbit_ti x3 (n := n) (by omega)
      rw [← zi_nat hx] at bt
      have skip : d_150_28 x1 x3 x5 m f x4 (x6 + 1) = some v → ¬ (zbit x3 n = true ∧ (c (b + 8 + n) 2).toInt = p ∧ (d_98 (c (b + 4 + p) 0) (c (b + 8 + n) 0) (c b 0)).toInt < (d_98 (c (b + 4 + p) 0) x2 (c b 0)).toInt) → (zbit v t = true ↔ zbit x4 t = true ∨ ∃ e : Nat, n ≤ e ∧ (e : Int) < (c b 2).toInt ∧ zbit x3 e = true ∧ Gives b c p x2 e t) := by
        intro e hn
        refine (ih x4 (x6 + 1) v (n + 1) (by omega) e t ht).trans (or_congr Iff.rfl ⟨fun ⟨e, w1, w2⟩ => ⟨e, by omega, w2⟩, fun ⟨e, w1, w2, w3, w4⟩ => ⟨e, ?_, w2, w3, w4⟩⟩)
        rcases Nat.lt_or_ge n e with q | q
        · exact q
        · obtain rfl : e = n := by omega
          exact absurd ⟨w3, w4.1, w4.2.1⟩ hn
      replace e := zb_if e
      rcases e with ⟨hc, e⟩ | ⟨hc, e⟩
      · have r := zc_neT hc
        replace e := zb_let e
        obtain ⟨v6, h6, e⟩ := e
        subst h6
        rw [q3] at e
        rw [d_108_0] at e
        have e : d_150_28 x1 x3 x5 m f (x4 ||| ((0 : Int32) <<< (c (b + 8 + n) 3 &&& 31))) (x6 + 1) = some v := e
        rw [z0] at e
        refine skip e (fun w => ?_)
        rw [bt, w.1] at r
        exact r rfl
      · have r := zc_neF hc
        have r4 : zbit x3 n = true := by
          rw [bt] at r
          cases hz : zbit x3 n with
          | true => rfl
          | false =>
            rw [hz] at r
            exact absurd r (by decide)
        rw [q2] at e
        have e : (bif zm_cmp .ne (c (b + 8 + n) 2) x1 then _ else _) = some v := e
        replace e := zb_if e
        rcases e with ⟨hc, e⟩ | ⟨hc, e⟩
        · have r2 := zc_neT hc
          replace e := zb_let e
          obtain ⟨v10, h10, e⟩ := e
          subst h10
          rw [q3, d_108_0] at e
          have e : d_150_28 x1 x3 x5 m f (x4 ||| ((0 : Int32) <<< (c (b + 8 + n) 3 &&& 31))) (x6 + 1) = some v := e
          rw [z0] at e
          exact skip e (fun w => by have := w.2.1; omega)
        · have r2 := zc_neF hc
          replace e := zb_bind e
          obtain ⟨k12, h12, e⟩ := e
          have b12 := zm_ix_ko h12
          have y0 := zi_add (x := 0) (y := x1) (by omega) (by omega)
          obtain rfl : k12 = p := by omega
          rw [q0] at e
          have e : (Option.bind (d_137 (m 114 k12) (c (b + 8 + n) 0) m) _) = some v := e
          rw [← o1.1, t_137 (by omega) (by omega) (by omega), ← hR.1] at e
          have e : (bif zm_cmp .ge (d_98 (c (b + 4 + k12) 0) (c (b + 8 + n) 0) (c b 0)) x5 then _ else _) = some v := e
          replace e := zb_if e
          rcases e with ⟨hc, e⟩ | ⟨hc, e⟩
          · have r7 := zc_geT hc
            replace e := zb_let e
            obtain ⟨v16, h16, e⟩ := e
            subst h16
            rw [q3, d_108_0] at e
            have e : d_150_28 x1 x3 x5 m f (x4 ||| ((0 : Int32) <<< (c (b + 8 + n) 3 &&& 31))) (x6 + 1) = some v := e
            rw [z0] at e
            exact skip e (fun w => by have := w.2.2; rw [h5] at r7; omega)
          · have r7 := zc_geF hc
            rw [h5] at r7
            replace e := zb_let e
            obtain ⟨v18, h18, e⟩ := e
            subst h18
            rw [q3, d_108_1] at e
            have e : d_150_28 x1 x3 x5 m f (x4 ||| ((1 : Int32) <<< (c (b + 8 + n) 3 &&& 31))) (x6 + 1) = some v := e
            refine (ih _ (x6 + 1) v (n + 1) (by omega) e t ht).trans ?_
            rw [zbit_or, zbit_shl1 hth (by omega) ht, Bool.or_eq_true, decide_eq_true_eq]
            constructor
            · rintro ((w | w) | ⟨e, w1, w2⟩)
              · exact Or.inl w
              · exact Or.inr ⟨n, by omega, by omega, r4, by omega, r7, by omega⟩
              · exact Or.inr ⟨e, by omega, w2⟩
            · rintro (w | ⟨e, w1, w2, w3, w4⟩)
              · exact Or.inl (Or.inl w)
              · rcases Nat.lt_or_ge n e with q' | q'
                · exact Or.inr ⟨e, q', w2, w3, w4⟩
                · obtain rfl : e = n := by omega
                  have := w4.2.2
                  exact Or.inl (Or.inr (by omega))
theorem t_150 {b p : Nat} {x1 x2 x3 v : Int32} {c m : G} (hR : RCb b c m) (hp : x1.toInt = p) (hp4 : (p : Int) < (c b 1).toInt) (hh : 0 ≤ x2.toInt ∧ x2.toInt < (c b 0).toInt) (e : d_150 x1 x2 x3 m = some v) : ∀ t, t < 32 → (zbit v t = true ↔ Has b c p x2 x3 t) := by
  unfold d_150 at e
  have L0 := zl_0
  have L4 := zl_4
  have nn := hR.nums
  have wo := hR.wone hp4
  have o1 := hR.ones hp4
  unfold Wone at wo
  have y0 := zi_add (x := 0) (y := x1) (by omega) (by omega)
  have y4 := zi_add (x := 4) (y := x1) (by omega) (by omega)
  replace e := zb_bind e
  obtain ⟨k1, h1, e⟩ := e
  have b1 := zm_ix_ko h1
  obtain rfl : k1 = 4 + p := by omega
  replace e := zb_bind e
  obtain ⟨k2, h2, e⟩ := e
  have b2 := zm_ix_ko h2
  obtain rfl : k2 = p := by omega
  rw [← o1.1, ← o1.2, t_137 (by omega) (by omega) (by omega), ← hR.1] at e
  intro t ht
  refine (l_150_28 hR hp hp4 rfl 300 _ 0 v 0 (by decide) e t ht).trans (or_congr Iff.rfl ⟨fun ⟨e, _, w⟩ => ⟨e, w⟩, fun ⟨e, w⟩ => ⟨e, by omega, w⟩⟩)
/-- both sides have the same -/
theorem has_eq {b p : Nat} {x1 x2 x3 v v' : Int32} {c m : G} (hR : RCb b c m) (hp : x1.toInt = p) (hp4 : (p : Int) < (c b 1).toInt) (hh : 0 ≤ x2.toInt ∧ x2.toInt < (c b 0).toInt) (e : d_24 b x1 x2 x3 c = some v) (f : d_150 x1 x2 x3 m = some v') : v = v' := by
  apply zbit_ext
  intro t ht
  have a := t_24 hR hp hp4 e t ht
  have b := t_150 hR hp hp4 hh f t ht
  cases h1 : zbit v t <;> cases h2 : zbit v' t
  · rfl
  · exact absurd (a.mpr (b.mp h2)) (by rw [h1]; decide)
  · exact absurd (b.mpr (a.mp h1)) (by rw [h2]; decide)
  · rfl
