/-! greatest() and made() answer alike -/
def Sub (x y : Int32) : Prop := ∀ i : Nat, zbit x i = true → zbit y i = true
theorem Sub.eq {x y : Int32} (h : Sub x y) (h' : Sub y x) : x = y := zbit_eq fun i _ => ⟨h i, h' i⟩
theorem Has.mono {b p t : Nat} {c : G} {h x y : Int32} (hs : Sub x y) (q : Has b c p h x t) : Has b c p h y t := by
  rcases q with q | ⟨e, h1, h2, h3⟩
  · exact Or.inl q
  · exact Or.inr ⟨e, h1, hs e h2, h3⟩
theorem Ok.mono {b d : Nat} {c : G} {x y : Int32} (hs : Sub x y) (q : Ok b c d x) : Ok b c d y := fun t ht l => q t ht ⟨l.1, fun h => l.2 (h.mono hs)⟩
/-- the greatest part of S that hangs together -/
def Cand (b : Nat) (c : G) (S R : Int32) : Prop := Sub R S ∧ ∀ T, Sub T S → Hangs b c T → Sub T R
def Great (b : Nat) (c : G) (S R : Int32) : Prop := Cand b c S R ∧ Hangs b c R
theorem Great.uniq {b : Nat} {c : G} {S R R' : Int32} (h : Great b c S R) (h' : Great b c S R') : R = R' := Sub.eq (h'.1.2 R h.1.1 h.2) (h.1.2 R' h'.1.1 h'.2)
/-- how many DEEDS -/
def pc (x : Int32) : Nat := (zbit x 0).toNat + (zbit x 1).toNat + (zbit x 2).toNat + (zbit x 3).toNat + (zbit x 4).toNat + (zbit x 5).toNat + (zbit x 6).toNat + (zbit x 7).toNat
theorem pc_le {x : Int32} : pc x ≤ 8 := by
  unfold pc
  have a : ∀ b : Bool, b.toNat ≤ 1 := by decide
  have := a (zbit x 0)
  have := a (zbit x 1)
  have := a (zbit x 2)
  have := a (zbit x 3)
  have := a (zbit x 4)
  have := a (zbit x 5)
  have := a (zbit x 6)
  have := a (zbit x 7)
  omega
theorem bn_le {a b : Bool} (h : a = true → b = true) : a.toNat ≤ b.toNat := by
  cases a <;> cases b <;> simp_all
theorem bn_lt {a b : Bool} (h : ¬ a = true) (h' : b = true) : a.toNat < b.toNat := by
  cases a <;> cases b <;> simp_all
theorem pc_lt {x y : Int32} (hs : Sub x y) (hn : x ≠ y) (h8 : ∀ i, zbit y i = true → i < 8) : pc x < pc y := by
  have : ∃ i, i < 8 ∧ zbit y i = true ∧ ¬ zbit x i = true := by
    apply Classical.byContradiction
    intro q
    apply hn
    refine Sub.eq hs fun i hi => ?_
    apply Classical.byContradiction
    intro q2
    exact q ⟨i, h8 i hi, hi, q2⟩
  obtain ⟨i, hi, h1, h2⟩ := this
  have l := bn_lt h2 h1
  have a0 := bn_le (hs 0)
  have a1 := bn_le (hs 1)
  have a2 := bn_le (hs 2)
  have a3 := bn_le (hs 3)
  have a4 := bn_le (hs 4)
  have a5 := bn_le (hs 5)
  have a6 := bn_le (hs 6)
  have a7 := bn_le (hs 7)
  unfold pc
  have : i = 0 ∨ i = 1 ∨ i = 2 ∨ i = 3 ∨ i = 4 ∨ i = 5 ∨ i = 6 ∨ i = 7 := by omega
  rcases this with rfl | rfl | rfl | rfl | rfl | rfl | rfl | rfl <;> omega
theorem pc_0 {x : Int32} (h : pc x = 0) : ∀ i, i < 8 → ¬ zbit x i = true := by
  unfold pc at h
  have a : ∀ b : Bool, b.toNat = 0 → ¬ b = true := by decide
  intro i hi
  have : i = 0 ∨ i = 1 ∨ i = 2 ∨ i = 3 ∨ i = 4 ∨ i = 5 ∨ i = 6 ∨ i = 7 := by omega
  rcases this with rfl | rfl | rfl | rfl | rfl | rfl | rfl | rfl <;> exact a _ (by omega)
theorem pc_8 {x : Int32} (h : 8 ≤ pc x) : ∀ i, i < 8 → zbit x i = true := by
  unfold pc at h
  have a : ∀ b : Bool, b.toNat ≤ 1 := by decide
  have a' : ∀ b : Bool, b.toNat = 1 → b = true := by decide
  have := a (zbit x 0)
  have := a (zbit x 1)
  have := a (zbit x 2)
  have := a (zbit x 3)
  have := a (zbit x 4)
  have := a (zbit x 5)
  have := a (zbit x 6)
  have := a (zbit x 7)
  intro i hi
  have : i = 0 ∨ i = 1 ∨ i = 2 ∨ i = 3 ∨ i = 4 ∨ i = 5 ∨ i = 6 ∨ i = 7 := by omega
  rcases this with rfl | rfl | rfl | rfl | rfl | rfl | rfl | rfl <;> exact a' _ (by omega)
/-- the class: all that can't be done is taken away, 8 times -/
theorem l_8_11 {b : Nat} {c g : G} {S : Int32} (W : Wfam b c) (hL : Looked b c g) (hS : ∀ i : Nat, zbit S i = true → (i : Int) < (c b 2).toInt) : ∀ (f : Nat) (x2 x3 v : Int32) (k : Nat), x3.toInt = k → Cand b c S x2 → pc x2 + k ≤ 8 → d_8_11 g f x2 x3 = some v → Great b c S v := by
  have wn := W.1
  unfold Wn at wn
  intro f
  induction f with
  | zero =>
    intro x2 x3 v k _ _ _ e
    rw [d_8_11.eq_1] at e
    cases e
  | succ f ih =>
    intro x2 x3 v k hx hC hp e
    rw [d_8_11.eq_2] at e
    have L1 := zl_1
    have L8 := zl_8
    replace e := zb_if e
    rcases e with ⟨hc, e⟩ | ⟨hc, e⟩
    · have q := zc_geT hc
      have e1 := zb_r1 e
      subst e1
      exact ⟨hC, fun i hi w => absurd w (pc_0 (by omega) i (by omega))⟩
    · have q := zc_geF hc
      have yi := zi_add (x := x3) (y := 1) (by omega) (by omega)
      replace e := zb_bind e
      obtain ⟨v2, h2, e⟩ := e
      have t := t_5 W hL h2
      have s : Sub v2 x2 := fun i w => by
        rcases Nat.lt_or_ge i 32 with r | r
        · exact ((t i r).mp w).2.1
        · rw [zbit_ge _ r] at w
          cases w
      replace e := zb_if e
      rcases e with ⟨hc, e⟩ | ⟨hc, e⟩
      · have n := zc_neT hc
        have l := pc_lt s (fun w => n (by rw [w])) (fun i w => by have := hS i (hC.1 i w); omega)
        refine ih v2 (x3 + 1) v (k + 1) (by omega) ⟨fun i w => hC.1 i (s i w), fun T hT hH i w => ?_⟩ (by omega) e
        have hi := hS i (hT i w)
        exact (t i (by omega)).mpr ⟨hi, hC.2 T hT hH i w, Ok.mono (hC.2 T hT hH) (hH i hi w)⟩
      · have n := Int32.toInt_inj.mp (zc_neF hc)
        have e1 := zb_r1 e
        subst e1
        rw [n] at t
        exact ⟨hC, fun i hi w => ((t i (by omega)).mp w).2.2⟩
theorem t_8 {b : Nat} {c g m : G} {x1 v : Int32} (hR : RCb b c m) (hL : Looked b c g) (e : d_8 x1 g = some v) : Great b c ((g 25 0) &&& (x1 ^^^ (-1))) v := by
  unfold d_8 at e
  have ai := all_int hR hL
  refine l_8_11 hR.2.2.1 hL (fun i w => ?_) 300 _ 0 v 0 (by decide) ⟨fun i w => w, fun T hT _ => hT⟩ pc_le e
  rw [zbit_and, Bool.and_eq_true] at w
  exact day_le hR hL ai.2.1 (Int.le_refl _) i w.1
/-- the reference: one after the other -/
theorem l_161_23 {b : Nat} {c m : G} {S : Int32} (hR : RCb b c m) {k15 : Int32 → Bool → Option Int32} (hk : ∀ y1 y2 v, Cand b c S y1 → (y2 = false → Hangs b c y1) → k15 y1 y2 = some v → Great b c S v) : ∀ (f : Nat) (x1 : Int32) (x2 : Bool) (x3 v : Int32) (k : Nat), x3.toInt = k → Cand b c S x1 → (x2 = false → ∀ i : Nat, i < k → (i : Int) < (c b 2).toInt → zbit x1 i = true → Ok b c i x1) → d_161_23 m k15 f x1 x2 x3 = some v → Great b c S v := by
  intro f
  induction f with
  | zero =>
    intro x1 x2 x3 v k _ _ _ e
    rw [d_161_23.eq_1] at e
    cases e
  | succ f ih =>
    intro x1 x2 x3 v k hx hC hG e
    rw [d_161_23.eq_2] at e
    have L0 := zl_0
    have L1 := zl_1
    have nn := hR.nums
    replace e := zb_if e
    rcases e with ⟨hc, e⟩ | ⟨hc, e⟩
    · have q := zc_geT hc
      exact hk x1 x2 v hC (fun w i hi z => hG w i (by omega) hi z) e
    · have q := zc_geF hc
      have yi := zi_add (x := x3) (y := 1) (by omega) (by omega)
      have skip : (zbit x1 k = true → Ok b c k x1) → d_161_23 m k15 f x1 x2 (x3 + 1) = some v → Great b c S v := by
        intro ho e
        refine ih x1 x2 (x3 + 1) v (k + 1) (by omega) hC (fun w i h1 h2 z => ?_) e
        rcases Nat.lt_or_ge i k with q' | q'
        · exact hG w i q' h2 z
        · obtain rfl : i = k := by omega
          exact ho z
      replace e := zb_if e
      rcases zbt (x := x1) hx (by omega) with z | z
      · rcases e with ⟨hc, e⟩ | ⟨hc, e⟩
        · have := zc_neT hc
          exfalso
          omega
        · replace e := zb_bind e
          obtain ⟨v6, h6, e⟩ := e
          have o := ok_iff (t_151 hR hx (by omega) h6)
          replace e := zb_if e
          rcases e with ⟨hc, e⟩ | ⟨hc, e⟩
          · have q6 := zc_eqT hc
            rw [L0, o] at q6
            exact skip (fun _ => q6) e
          · have q6 := zc_eqF hc
            rw [L0] at q6
            have s : ∀ i, zbit (x1 &&& (((1 : Int32) <<< (x3 &&& 31)) ^^^ (-1))) i = true ↔ zbit x1 i = true ∧ i ≠ k := by
              intro i
              rcases Nat.lt_or_ge i 32 with r | r
              · rw [zbit_and, zi_nat hx, zbit_msk k (by omega) i r, Bool.and_eq_true, decide_eq_true_eq]
              · rw [zbit_ge _ r, zbit_ge _ r]
                exact ⟨fun w => (by cases w), fun w => (by cases w.1)⟩
            refine ih _ true (x3 + 1) v (k + 1) (by omega) ⟨fun i w => hC.1 i ((s i).mp w).1, fun T hT hH i w => (s i).mpr ⟨hC.2 T hT hH i w, fun ik => ?_⟩⟩ (fun w => by cases w) e
            subst ik
            exact q6 (o.mpr (Ok.mono (hC.2 T hT hH) (hH i (by omega) w)))
      · rcases e with ⟨hc, e⟩ | ⟨hc, e⟩
        · exact skip (fun w => absurd w z.1) e
        · have := zc_neF hc
          exfalso
          omega
theorem l_161_15 {b : Nat} {c m : G} {S : Int32} (hR : RCb b c m) : ∀ (f : Nat) (x1 : Int32) (x2 : Bool) (v : Int32), Cand b c S x1 → (x2 = false → Hangs b c x1) → d_161_15 m f x1 x2 = some v → Great b c S v := by
  intro f
  induction f with
  | zero =>
    intro x1 x2 v _ _ e
    rw [d_161_15.eq_1] at e
    cases e
  | succ f ih =>
    intro x1 x2 v hC hH e
    rw [d_161_15.eq_2] at e
    replace e := zb_if e
    rcases e with ⟨hc, e⟩ | ⟨hc, e⟩
    · exact l_161_23 hR ih 300 x1 false 0 v 0 (by decide) hC (fun _ i h => by omega) e
    · have e1 := zb_r1 e
      subst e1
      exact ⟨hC, hH hc⟩
theorem t_161 {b : Nat} {c m : G} {v : Int32} (hR : RCb b c m) (e : d_161 m = some v) : ∃ w, d_157 2 m = some w ∧ Great b c (d_158 m &&& (w ^^^ (-1))) v := by
  unfold d_161 at e
  replace e := zb_let e
  obtain ⟨v1, h1, e⟩ := e
  replace e := zb_bind e
  obtain ⟨v2, h2, e⟩ := e
  subst h1
  exact ⟨v2, h2, l_161_15 hR 300 _ true v ⟨fun i w => w, fun T hT _ => hT⟩ (fun w => by cases w) e⟩
theorem great_eq {b : Nat} {c g m : G} {v v' : Int32} (hR : RCb b c m) (hL : Looked b c g) (e : d_8 (g 25 2) g = some v) (f : d_161 m = some v') : v = v' := by
  obtain ⟨w, hw, h2⟩ := t_161 hR f
  have h1 := t_8 hR hL e
  rw [all_eq hR hL, mark2_eq hR hL hw] at h1
  exact h1.uniq h2
theorem a_71 {v v' : Int32} {g g1 m : G} (_ : Inv g) (_ : Inv m) (hR : Rel g m) (e : d_71 g = some (v, g1)) (f : d_162 m = some v') : v = v' := by
  unfold d_71 at e
  unfold d_162 at f
  replace e := zb_bind e
  obtain ⟨g3, h3, e⟩ := e
  obtain ⟨hL, _⟩ := t_2 (Or.inl rfl) hR.rcb.2.2.1 h3
  replace e := zb_bind e
  obtain ⟨v4, h4, e⟩ := e
  replace f := zb_bind f
  obtain ⟨w4, k4, f⟩ := f
  exact (zb_r2 e).1.symm.trans ((great_eq hR.rcb hL h4 k4).trans (zb_r1 f))
/-! what is made, step by step -/
def Step (b : Nat) (c : G) (R x y : Int32) : Prop := ∀ i, i < 32 → (zbit y i = true ↔ (i : Int) < (c b 2).toInt ∧ zbit R i = true ∧ Ok b c i x)
theorem Step.uniq {b : Nat} {c : G} {R x y y' : Int32} (h : Step b c R x y) (h' : Step b c R x y') : y = y' := zbit_eq fun i hi => (h i hi).trans (h' i hi).symm
theorem Step.mono {b : Nat} {c : G} {R x y x' y' : Int32} (h : Step b c R x y) (h' : Step b c R x' y') (hs : Sub x x') : Sub y y' := fun i w => by
  rcases Nat.lt_or_ge i 32 with r | r
  · have q := (h i r).mp w
    exact (h' i r).mpr ⟨q.1, q.2.1, q.2.2.mono hs⟩
  · rw [zbit_ge _ r] at w
    cases w
/-- the j-th of the chain -/
def Ch (b : Nat) (c : G) (R : Int32) : Nat → Int32 → Prop
  | 0, x => x = 0
  | j + 1, y => ∃ x, Ch b c R j x ∧ Step b c R x y
theorem Ch.z {b : Nat} {c : G} {R : Int32} : Ch b c R 0 0 := rfl
theorem Ch.s {b : Nat} {c : G} {R x y : Int32} {j : Nat} (h : Ch b c R j x) (hs : Step b c R x y) : Ch b c R (j + 1) y := ⟨x, h, hs⟩
theorem Ch.uniq {b : Nat} {c : G} {R : Int32} {j : Nat} : ∀ {x x' : Int32}, Ch b c R j x → Ch b c R j x' → x = x' := by
  induction j with
  | zero => exact fun h h' => Eq.trans h (Eq.symm h')
  | succ j ih =>
    rintro x x' ⟨y, h1, h2⟩ ⟨y', h3, h4⟩
    have := ih h1 h3
    subst this
    exact h2.uniq h4
theorem Ch.sub {b : Nat} {c : G} {R : Int32} {j : Nat} : ∀ {x y : Int32}, Ch b c R j x → Step b c R x y → Sub x y := by
  induction j with
  | zero =>
    intro x y h _ i w
    rw [show x = 0 from h, zbit_0] at w
    cases w
  | succ j ih =>
    rintro x y ⟨y', h1, h2⟩ hy
    exact h2.mono hy (ih h1 h2)
/-- the same, each step one more -/
def St (b : Nat) (c : G) (R : Int32) : Nat → Int32 → Prop
  | 0, x => x = 0
  | j + 1, y => ∃ x, St b c R j x ∧ Step b c R x y ∧ y ≠ x
theorem St.z {b : Nat} {c : G} {R : Int32} : St b c R 0 0 := rfl
theorem St.s {b : Nat} {c : G} {R x y : Int32} {j : Nat} (h : St b c R j x) (hs : Step b c R x y) (hn : y ≠ x) : St b c R (j + 1) y := ⟨x, h, hs, hn⟩
theorem St.ch {b : Nat} {c : G} {R : Int32} {j : Nat} : ∀ {x : Int32}, St b c R j x → Ch b c R j x := by
  induction j with
  | zero => exact fun h => h
  | succ j ih =>
    rintro x ⟨y, h1, h2, _⟩
    exact ⟨y, ih h1, h2⟩
theorem Step.b8 {b : Nat} {c : G} {R x y : Int32} (W : Wfam b c) (h : Step b c R x y) : ∀ i, zbit y i = true → i < 8 := fun i w => by
  have wn := W.1
  unfold Wn at wn
  rcases Nat.lt_or_ge i 32 with r | r
  · have := (h i r).mp w
    omega
  · rw [zbit_ge _ r] at w
    cases w
theorem St.pc {b : Nat} {c : G} {R : Int32} {j : Nat} (W : Wfam b c) : ∀ {x : Int32}, St b c R j x → j ≤ pc x := by
  induction j with
  | zero => exact fun _ => Nat.zero_le _
  | succ j ih =>
    rintro x ⟨y, h1, h2, h3⟩
    have := pc_lt (h1.ch.sub h2) (fun w => h3 w.symm) (h2.b8 W)
    have := ih h1
    omega
theorem St.at {b : Nat} {c : G} {R : Int32} {j : Nat} : ∀ {x : Int32}, St b c R j x → ∀ i, i < j → ∃ x' y', Ch b c R i x' ∧ Step b c R x' y' ∧ y' ≠ x' := by
  induction j with
  | zero =>
    intro x _ i hi
    omega
  | succ j ih =>
    rintro y ⟨x, h1, h2, h3⟩ i hi
    rcases Nat.lt_or_ge i j with q | q
    · exact ih h1 i q
    · obtain rfl : i = j := by omega
      exact ⟨x, y, h1.ch, h2, h3⟩
theorem St.uniq {b : Nat} {c : G} {R x x' : Int32} {j j' : Nat} (h : St b c R j x) (hx : Step b c R x x) (h' : St b c R j' x') (hx' : Step b c R x' x') : j = j' ∧ x = x' := by
  have : j = j' := by
    rcases Nat.lt_trichotomy j j' with q | q | q
    · obtain ⟨y, y', a1, a2, a3⟩ := h'.at j q
      have := a1.uniq h.ch
      subst this
      exact absurd (a2.uniq hx) a3
    · exact q
    · obtain ⟨y, y', a1, a2, a3⟩ := h.at j' q
      have := a1.uniq h'.ch
      subst this
      exact absurd (a2.uniq hx') a3
  subst this
  exact ⟨rfl, h.ch.uniq h'.ch⟩
theorem Ch.stay {b : Nat} {c : G} {R x : Int32} {j : Nat} (h : Ch b c R j x) (hx : Step b c R x x) : ∀ k, Ch b c R (j + k) x := by
  intro k
  induction k with
  | zero => exact h
  | succ k ih => exact Ch.s ih hx
theorem St.keep {b i : Nat} {c : G} {R x : Int32} {j : Nat} (h : St b c R j x) (hi : i < 32) (w : zbit x i = true) : (i : Int) < (c b 2).toInt ∧ zbit R i = true ∧ Ok b c i x := by
  cases j with
  | zero =>
    rw [show x = 0 from h, zbit_0] at w
    cases w
  | succ j =>
    obtain ⟨y, a1, a2, a3⟩ := h
    have q := (a2 i hi).mp w
    exact ⟨q.1, q.2.1, q.2.2.mono (a1.ch.sub a2)⟩
/-- eight are all -/
theorem St.full {b : Nat} {c : G} {R x : Int32} (W : Wfam b c) (h : St b c R 8 x) : Step b c R x x := by
  have wn := W.1
  unfold Wn at wn
  have p := pc_8 (h.pc W)
  obtain ⟨y, h1, h2, h3⟩ := h
  intro i hi
  refine ⟨fun w => ?_, fun w => p i (by omega)⟩
  have q := (h2 i hi).mp w
  exact ⟨q.1, q.2.1, q.2.2.mono (h1.ch.sub h2)⟩
theorem l_9_4 {b : Nat} {c g : G} {x1 : Int32} (W : Wfam b c) (hL : Looked b c g) : ∀ (f : Nat) (x2 x3 v : Int32) (k : Nat), x3.toInt = k → k ≤ 8 → Ch b c x1 k x2 → d_9_4 x1 g f x2 x3 = some v → Ch b c x1 8 v := by
  intro f
  induction f with
  | zero =>
    intro x2 x3 v k _ _ _ e
    rw [d_9_4.eq_1] at e
    cases e
  | succ f ih =>
    intro x2 x3 v k hx hk hC e
    rw [d_9_4.eq_2] at e
    have L1 := zl_1
    have L8 := zl_8
    replace e := zb_if e
    rcases e with ⟨hc, e⟩ | ⟨hc, e⟩
    · have q := zc_geT hc
      have e1 := zb_r1 e
      subst e1
      obtain rfl : k = 8 := by omega
      exact hC
    · have q := zc_geF hc
      have yi := zi_add (x := x3) (y := 1) (by omega) (by omega)
      replace e := zb_bind e
      obtain ⟨v2, h2, e⟩ := e
      exact ih v2 (x3 + 1) v (k + 1) (by omega) (by omega) (Ch.s hC (t_5 W hL h2)) e
theorem l_10_4 {b : Nat} {c g : G} {x1 : Int32} (W : Wfam b c) (hL : Looked b c g) : ∀ (f : Nat) (x2 x3 v : Int32) (k : Nat), x3.toInt = k → k ≤ 8 → St b c x1 k x2 → d_10_4 x1 g f x2 x3 = some v → ∃ j x, v.toInt = (j : Nat) ∧ j ≤ 8 ∧ St b c x1 j x ∧ Step b c x1 x x := by
  intro f
  induction f with
  | zero =>
    intro x2 x3 v k _ _ _ e
    rw [d_10_4.eq_1] at e
    cases e
  | succ f ih =>
    intro x2 x3 v k hx hk hC e
    rw [d_10_4.eq_2] at e
    have L1 := zl_1
    have L8 := zl_8
    replace e := zb_if e
    rcases e with ⟨hc, e⟩ | ⟨hc, e⟩
    · have q := zc_geT hc
      have e1 := zb_r1 e
      subst e1
      obtain rfl : k = 8 := by omega
      exact ⟨8, x2, L8, by omega, hC, hC.full W⟩
    · have q := zc_geF hc
      have yi := zi_add (x := x3) (y := 1) (by omega) (by omega)
      replace e := zb_bind e
      obtain ⟨v2, h2, e⟩ := e
      have s : Step b c x1 x2 v2 := t_5 W hL h2
      replace e := zb_if e
      rcases e with ⟨hc, e⟩ | ⟨hc, e⟩
      · have n := zc_neT hc
        exact ih v2 (x3 + 1) v (k + 1) (by omega) (by omega) (St.s hC s (fun w => n (by rw [w]))) e
      · have n := Int32.toInt_inj.mp (zc_neF hc)
        have e1 := zb_r1 e
        subst e1
        rw [n] at s
        exact ⟨k, x2, hx, hk, hC, s⟩
theorem RCb.mo {b : Nat} {c m m' : G} (h : RCb b c m) (hm : ∀ r k, (r = 113 ∧ (k = 2 ∨ k = 3)) ∨ r = 114 → m' r k = m r k) : RCb b c m' := by
  obtain ⟨h1, h2, h3, h4⟩ := h
  exact ⟨h1.trans (hm 113 2 (by omega)).symm, h2.trans (hm 113 3 (by omega)).symm, h3, h4.congr (fun _ _ _ => rfl) (fun k _ _ => hm 114 k (by omega))⟩
/-- the reference's way -/
def Made (b : Nat) (c : G) (R v : Int32) (g' : G) : Prop := ∃ j : Nat, (g' 113 21).toInt = j ∧ j ≤ 8 ∧ St b c R j v ∧ Step b c R v v
theorem l_163_19 {b j : Nat} {c m g : G} {x1 x2 : Int32} {k9 : Int32 → Bool → G → Option (Int32 × G)} (hR : RCb b c m) (hg : ∀ r k, ¬ (r = 113 ∧ k = 21) → g r k = m r k) (hj : (g 113 21).toInt = j) (hS : St b c x1 j x2) (hk : ∀ (y2 : Int32) (y3 : Bool) (h : G) (v : Int32) (g' : G) (i : Nat), (∀ r k, ¬ (r = 113 ∧ k = 21) → h r k = m r k) → (h 113 21).toInt = i → St b c x1 i y2 → (y3 = false → Step b c x1 y2 y2) → k9 y2 y3 h = some (v, g') → Made b c x1 v g') : ∀ (f : Nat) (x4 x5 v : Int32) (k : Nat) (g' : G), x5.toInt = k → (∀ i, i < 32 → (zbit x4 i = true ↔ i < k ∧ (i : Int) < (c b 2).toInt ∧ zbit x1 i = true ∧ ¬ zbit x2 i = true ∧ Ok b c i x2)) → d_163_19 x1 x2 g k9 f x4 x5 = some (v, g') → Made b c x1 v g' := by
  have hG : RCb b c g := hR.mo (fun r k h => hg r k (by omega))
  have W := hR.2.2.1
  have nn := hR.nums
  have g8 : g 114 8 = m 114 8 := hg 114 8 (by omega)
  intro f
  induction f with
  | zero =>
    intro x4 x5 v k g' _ _ e
    rw [d_163_19.eq_1] at e
    cases e
  | succ f ih =>
    intro x4 x5 v k g' hx h4 e
    rw [d_163_19.eq_2] at e
    have L0 := zl_0
    have L1 := zl_1
    rw [g8] at e
    replace e := zb_if e
    rcases e with ⟨hc, e⟩ | ⟨hc, e⟩
    · have q := zc_geT hc
      have s : Step b c x1 x2 (x2 ||| x4) := by
        intro i hi
        rw [zbit_or, Bool.or_eq_true, h4 i hi]
        constructor
        · rintro (w | w)
          · exact hS.keep hi w
          · exact ⟨w.2.1, w.2.2.1, w.2.2.2.2⟩
        · intro w
          by_cases hh : zbit x2 i = true
          · exact Or.inl hh
          · exact Or.inr ⟨by omega, w.1, w.2.1, hh, w.2.2⟩
      replace e := zb_if e
      rcases e with ⟨hc, e⟩ | ⟨hc, e⟩
      · have q4 := zc_eqT hc
        have z4 : x4 = 0 := Int32.toInt_inj.mp q4
        have or0 : x2 ||| x4 = x2 := by
          apply zbit_ext
          intro i _
          rw [z4, zbit_or, zbit_0, Bool.or_false]
        rw [or0] at s
        have e : (zb_l (zg_up g 113 21 ((g 113 21) + 0)) fun g6 => k9 (x2 ||| x4) false g6) = some (v, g') := e
        rw [or0] at e
        replace e := zb_let e
        obtain ⟨g6, h6, e⟩ := e
        have pj := hS.pc W
        have p8 := pc_le (x := x2)
        have ya := zi_add (x := g 113 21) (y := 0) (by omega) (by omega)
        refine hk x2 false g6 v g' j (fun r k hn => (zg_fr h6 r k hn).trans (hg r k hn)) ?_ hS (fun _ => s) e
        rw [← h6, zg_ue]
        omega
      · have q4 := zc_eqF hc
        have e : (zb_l (zg_up g 113 21 ((g 113 21) + 1)) fun g6 => k9 (x2 ||| x4) true g6) = some (v, g') := e
        replace e := zb_let e
        obtain ⟨g6, h6, e⟩ := e
        have hn : x2 ||| x4 ≠ x2 := by
          intro w
          rw [L0] at q4
          obtain ⟨i, hi, hz⟩ := zb_nz q4
          have := (h4 i hi).mp hz
          apply this.2.2.2.1
          rw [← w, zbit_or, hz, Bool.or_true]
        have hS' := St.s hS s hn
        have pj := hS'.pc W
        have p8 := pc_le (x := x2 ||| x4)
        have ya := zi_add (x := g 113 21) (y := 1) (by omega) (by omega)
        refine hk _ true g6 v g' (j + 1) (fun r k hn => (zg_fr h6 r k hn).trans (hg r k hn)) ?_ hS' (fun w => by cases w) e
        rw [← h6, zg_ue]
        omega
    · have q := zc_geF hc
      have yi := zi_add (x := x5) (y := 1) (by omega) (by omega)
      have or0 : ∀ y : Int32, y ||| ((0 : Int32) <<< (x5 &&& 31)) = y := by
        intro y
        rw [zi_nat hx, zbit_shl0 k (by omega)]
        apply zbit_ext
        intro i _
        rw [zbit_or, zbit_0, Bool.or_false]
      have skip : ¬ (zbit x1 k = true ∧ ¬ zbit x2 k = true ∧ Ok b c k x2) → d_163_19 x1 x2 g k9 f (x4 ||| ((0 : Int32) <<< (x5 &&& 31))) (x5 + 1) = some (v, g') → Made b c x1 v g' := by
        intro hn e
        rw [or0] at e
        refine ih x4 (x5 + 1) v (k + 1) g' (by omega) (fun i hi => (h4 i hi).trans ⟨fun w => ⟨by omega, w.2⟩, fun w => ⟨?_, w.2⟩⟩) e
        rcases Nat.lt_or_ge i k with q' | q'
        · exact q'
        · obtain rfl : i = k := by omega
          exact absurd w.2.2 hn
      replace e := zb_if e
      rcases zbt (x := x1) hx (by omega) with z | z
      · rcases e with ⟨hc, e⟩ | ⟨hc, e⟩
        · have := zc_neT hc
          exfalso
          omega
        · replace e := zb_if e
          rcases zbt (x := x2) hx (by omega) with z2 | z2
          · rcases e with ⟨hc, e⟩ | ⟨hc, e⟩
            · exact skip (fun w => w.2.1 z2.1) e
            · have := zc_neF hc
              exfalso
              omega
          · rcases e with ⟨hc, e⟩ | ⟨hc, e⟩
            · have := zc_neT hc
              exfalso
              omega
            · replace e := zb_bind e
              obtain ⟨v13, h13, e⟩ := e
              have o := ok_iff (t_151 hG hx (by omega) h13)
              replace e := zb_if e
              rcases e with ⟨hc, e⟩ | ⟨hc, e⟩
              · have q3 := zc_neT hc
                exact skip (fun w => q3 (o.mpr w.2.2)) e
              · have q3 := zc_neF hc
                rw [L0, o] at q3
                refine ih (x4 ||| ((1 : Int32) <<< (x5 &&& 31))) (x5 + 1) v (k + 1) g' (by omega) (fun i hi => ?_) e
                rw [zbit_or, zbit_shl1 hx (by omega) hi, Bool.or_eq_true, decide_eq_true_eq, h4 i hi]
                constructor
                · rintro (w | w)
                  · exact ⟨by omega, w.2⟩
                  · subst w
                    exact ⟨by omega, by omega, z.1, z2.1, q3⟩
                · intro w
                  rcases Nat.lt_or_ge i k with q' | q'
                  · exact Or.inl ⟨q', w.2⟩
                  · exact Or.inr (by omega)
      · rcases e with ⟨hc, e⟩ | ⟨hc, e⟩
        · exact skip (fun w => z.1 w.1) e
        · have := zc_neF hc
          exfalso
          omega
theorem l_163_9 {b : Nat} {c m : G} {x1 : Int32} (hR : RCb b c m) : ∀ (f : Nat) (x2 : Int32) (x3 : Bool) (g : G) (v : Int32) (g' : G) (j : Nat), (∀ r k, ¬ (r = 113 ∧ k = 21) → g r k = m r k) → (g 113 21).toInt = j → St b c x1 j x2 → (x3 = false → Step b c x1 x2 x2) → d_163_9 x1 f x2 x3 g = some (v, g') → Made b c x1 v g' := by
  intro f
  induction f with
  | zero =>
    intro x2 x3 g v g' j _ _ _ _ e
    rw [d_163_9.eq_1] at e
    cases e
  | succ f ih =>
    intro x2 x3 g v g' j hg hj hS hx e
    rw [d_163_9.eq_2] at e
    replace e := zb_if e
    rcases e with ⟨hc, e⟩ | ⟨hc, e⟩
    · refine l_163_19 hR hg hj hS ih 300 0 0 v 0 g' (by decide) (fun i hi => ?_) e
      rw [zbit_0]
      exact ⟨fun w => (by cases w), fun w => (by omega)⟩
    · obtain ⟨e1, e2⟩ := zb_r2 e
      subst e1
      subst e2
      have p := hS.pc hR.2.2.1
      have p8 := pc_le (x := x2)
      exact ⟨j, hj, by omega, hS, hx hc⟩
theorem t_163 {b : Nat} {c m g' : G} {x1 v : Int32} (hR : RCb b c m) (e : d_163 x1 m = some (v, g')) : Made b c x1 v g' := by
  unfold d_163 at e
  replace e := zb_let e
  obtain ⟨g1, h1, e⟩ := e
  exact l_163_9 hR 300 0 true g1 v g' 0 (fun r k hn => zg_fr h1 r k hn) (by rw [← h1, zg_ue]; decide) St.z (fun w => by cases w) e
theorem made_eq {b : Nat} {c g m g' : G} {x1 v v' : Int32} (hR : RCb b c m) (hL : Looked b c g) (e : d_9 x1 g = some v) (f : d_163 x1 m = some (v', g')) : v = v' := by
  obtain ⟨j, h1, h2, h3, h4⟩ := t_163 hR f
  unfold d_9 at e
  have h5 := l_9_4 hR.2.2.1 hL 300 0 0 v 0 (by decide) (by omega) Ch.z e
  have h6 := h3.ch.stay h4 (8 - j)
  rw [show j + (8 - j) = 8 by omega] at h6
  exact h5.uniq h6
theorem steps_eq {b : Nat} {c g m g' : G} {x1 v v' : Int32} (hR : RCb b c m) (hL : Looked b c g) (e : d_10 x1 g = some v) (f : d_163 x1 m = some (v', g')) : v = g' 113 21 := by
  obtain ⟨j, h1, h2, h3, h4⟩ := t_163 hR f
  unfold d_10 at e
  obtain ⟨i, x, a1, a2, a3, a4⟩ := l_10_4 hR.2.2.1 hL 300 0 0 v 0 (by decide) (by omega) St.z e
  have := (a3.uniq a4 h3 h4).1
  apply Int32.toInt_inj.mp
  omega
theorem a_72 {x1 v v' : Int32} {g g1 m g2 : G} (_ : Inv g) (_ : Inv m) (hR : Rel g m) (e : d_72 x1 g = some (v, g1)) (f : d_165 x1 m = some (v', g2)) : v = v' := by
  unfold d_72 at e
  unfold d_165 at f
  have L0 := zl_0
  have L2 := zl_2
  have J0 : (0 : Int64).toInt = 0 := by decide
  have J2 : (2 : Int64).toInt = 2 := by decide
  have i := zin_a (x1 := x1) J0 J2
  replace f := zb_let f
  obtain ⟨w1, k1, f⟩ := f
  rw [k1] at i
  replace e := zb_if e
  replace f := zb_if f
  rcases e with ⟨hc, e⟩ | ⟨hc, e⟩
  · have q := zc_ltT hc
    rcases f with ⟨kc, f⟩ | ⟨kc, f⟩
    · have := i.mp kc
      exfalso
      omega
    · exact (zb_r2 e).1.symm.trans (zb_r2 f).1
  · have q := zc_ltF hc
    replace e := zb_if e
    rcases e with ⟨hc, e⟩ | ⟨hc, e⟩
    · have q1 := zc_leT hc
      rcases f with ⟨kc, f⟩ | ⟨kc, f⟩
      · replace e := zb_bind e
        obtain ⟨g3, h3, e⟩ := e
        obtain ⟨hL, _⟩ := t_2 (Or.inl rfl) hR.rcb.2.2.1 h3
        replace e := zb_bind e
        obtain ⟨v4, h4, e⟩ := e
        replace f := zb_bind f
        obtain ⟨w4, k4, f⟩ := f
        have ge := great_eq hR.rcb hL h4 k4
        subst ge
        replace f := zb_bpair f
        obtain ⟨w5, g5, k5, f⟩ := f
        have hx1 : x1 = 0 ∨ x1 = 1 ∨ x1 = 2 := by
          have : x1.toInt = 0 ∨ x1.toInt = 1 ∨ x1.toInt = 2 := by omega
          rcases this with h | h | h
          · exact Or.inl (zi_is 0 h)
          · exact Or.inr (Or.inl (zi_is 1 h))
          · exact Or.inr (Or.inr (zi_is 2 h))
        rcases hx1 with rfl | rfl | rfl
        · have e : (Option.bind (d_9 v4 g3) fun v6 => some (v6, g3)) = some (v, g1) := e
          replace e := zb_bind e
          obtain ⟨v6, h6, e⟩ := e
          have := made_eq hR.rcb hL h6 k5
          exact (zb_r2 e).1.symm.trans (this.trans (zb_r2 f).1)
        · have e : (Option.bind (d_9 v4 g3) fun v8 => some ((v4 &&& (v8 ^^^ (-1))), g3)) = some (v, g1) := e
          replace e := zb_bind e
          obtain ⟨v6, h6, e⟩ := e
          have := made_eq hR.rcb hL h6 k5
          subst this
          exact (zb_r2 e).1.symm.trans (zb_r2 f).1
        · have e : (Option.bind (d_10 v4 g3) fun v9 => some (v9, g3)) = some (v, g1) := e
          replace e := zb_bind e
          obtain ⟨v6, h6, e⟩ := e
          have := steps_eq hR.rcb hL h6 k5
          exact (zb_r2 e).1.symm.trans (this.trans (zb_r2 f).1)
      · have := zd_no i kc
        exfalso
        omega
    · have q1 := zc_leF hc
      rcases f with ⟨kc, f⟩ | ⟨kc, f⟩
      · have := i.mp kc
        exfalso
        omega
      · exact (zb_r2 e).1.symm.trans (zb_r2 f).1
