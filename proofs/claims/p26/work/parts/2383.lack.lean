/-! what is lacking, who is able, what hangs: on both sides -/
theorem zbit_m1 : ∀ i, i < 32 → zbit (-1) i = true := by decide +kernel
theorem zbit_not (x : Int32) {i : Nat} (hi : i < 32) : zbit (x ^^^ (-1)) i = !zbit x i := by
  have h := zbit_m1 i hi
  unfold zbit at *
  rw [Int32.toBitVec_xor, BitVec.getLsbD_xor, h, Bool.xor_true]
theorem zbit_z {x : Int32} (h : x.toInt = 0) (i : Nat) : zbit x i = false := by
  have : x = 0 := zi_nat (n := 0) h
  rw [this, zbit_0]
theorem zbit_eqz {x : Int32} : x.toInt = 0 ↔ ∀ i, i < 32 → ¬ zbit x i = true := by
  constructor
  · intro h i _ q
    rw [zbit_z h] at q
    cases q
  · intro h
    apply Classical.byContradiction
    intro q
    obtain ⟨i, hi, hz⟩ := zb_nz q
    exact h i hi hz
theorem zbit_eq {x y : Int32} (h : ∀ i, i < 32 → (zbit x i = true ↔ zbit y i = true)) : x = y := by
  apply zbit_ext
  intro i hi
  have q := h i hi
  cases h1 : zbit x i with
  | true => exact (q.mp h1).symm
  | false =>
    cases h2 : zbit y i with
    | false => rfl
    | true =>
      rw [q.mpr h2] at h1
      cases h1
/-- a bit of an int, as it is asked for -/
theorem zbt {x y : Int32} {k : Nat} (hy : y.toInt = k) (hk : k < 32) : (zbit x k = true ∧ ((x >>> (y &&& 31)) &&& 1).toInt = 1) ∨ (¬ zbit x k = true ∧ ((x >>> (y &&& 31)) &&& 1).toInt = 0) := by
  have h := zbit_ti x hk
  rw [← zi_nat hy] at h
  cases hz : zbit x k with
  | true =>
    rw [hz] at h
    exact Or.inl ⟨rfl, h⟩
  | false =>
    rw [hz] at h
    exact Or.inr ⟨by decide, h⟩
/-- the THING t is lacking to DEED d by the DAY D -/
def Lack (b : Nat) (c : G) (d : Nat) (D : Int32) (t : Nat) : Prop := zbit (c (b + 8 + d) 4) t = true ∧ ¬ Has b c (c (b + 8 + d) 1).toInt.toNat (c (b + 8 + d) 0) D t
/-- nothing is -/
def Ok (b : Nat) (c : G) (d : Nat) (D : Int32) : Prop := ∀ t, t < 32 → ¬ Lack b c d D t
theorem ok_iff {b d : Nat} {c : G} {D v : Int32} (h : ∀ t, t < 32 → (zbit v t = true ↔ Lack b c d D t)) : v.toInt = 0 ↔ Ok b c d D := zbit_eqz.trans ⟨fun w t ht q => w t ht ((h t ht).mpr q), fun w t ht q => w t ht ((h t ht).mp q)⟩
theorem t_151 {b d : Nat} {c m : G} {x1 x2 v : Int32} (hR : RCb b c m) (hx : x1.toInt = d) (hd : (d : Int) < (c b 2).toInt) (e : d_151 x1 x2 m = some v) : ∀ t, t < 32 → (zbit v t = true ↔ Lack b c d x2 t) := by
  have nn := hR.nums
  have wd := hR.wdeed hd
  unfold Wdeed at wd
  unfold d_151 at e
  rw [t_136 hx (by omega) (show (4 : Int32).toInt = (4 : Nat) from by decide) (by omega), t_136 hx (by omega) (show (1 : Int32).toInt = (1 : Nat) from by decide) (by omega), t_136 hx (by omega) (show (0 : Int32).toInt = (0 : Nat) from by decide) (by omega), ← hR.deeds hd (show 4 < 7 by omega), ← hR.deeds hd (show 1 < 7 by omega), ← hR.deeds hd (show 0 < 7 by omega)] at e
  have e : (Option.bind (d_150 (c (b + 8 + d) 1) (c (b + 8 + d) 0) x2 m) fun v4 => some ((c (b + 8 + d) 4) &&& (v4 ^^^ (-1)))) = some v := e
  replace e := zb_bind e
  obtain ⟨v4, h4, e⟩ := e
  have e1 := zb_r1 e
  subst e1
  intro t ht
  have q := t_150 (p := (c (b + 8 + d) 1).toInt.toNat) hR (by omega) (by omega) (by omega) h4 t ht
  rw [zbit_and, zbit_not _ ht, Bool.and_eq_true, Bool.not_eq_true']
  unfold Lack
  rw [← q]
  cases zbit v4 t <;> simp
theorem l_4_22 {d : Nat} {x2 x4 : Int32} {g : G} (h4 : x4.toInt = 6 * d) (hd : d < 8) : ∀ (f : Nat) (x3 x5 v : Int32) (k : Nat), x5.toInt = k → d_4_22 x2 x4 g f x3 x5 = some v → ∀ t, t < 32 → (zbit v t = true ↔ zbit x3 t = true ∧ (k ≤ t → t < 6 → ¬ ∃ i, i < 32 ∧ zbit (g 27 (6 * d + t)) i = true ∧ zbit x2 i = true)) := by
  intro f
  induction f with
  | zero =>
    intro x3 x5 v k _ e
    rw [d_4_22.eq_1] at e
    cases e
  | succ f ih =>
    intro x3 x5 v k hx e t ht
    rw [d_4_22.eq_2] at e
    have L0 := zl_0
    have L1 := zl_1
    have L6 := zl_6
    replace e := zb_if e
    rcases e with ⟨hc, e⟩ | ⟨hc, e⟩
    · have q := zc_geT hc
      have e1 := zb_r1 e
      subst e1
      exact ⟨fun w => ⟨w, fun h1 h2 => by omega⟩, fun w => w.1⟩
    · have q := zc_geF hc
      have yi := zi_add (x := x5) (y := 1) (by omega) (by omega)
      have ya := zi_add (x := x4) (y := x5) (by omega) (by omega)
      replace e := zb_bind e
      obtain ⟨k4, b4, e⟩ := e
      have b4 := zm_ix_ko b4
      obtain rfl : k4 = 6 * d + k := by omega
      replace e := zb_if e
      rcases e with ⟨hc, e⟩ | ⟨hc, e⟩
      · have q2 := zc_eqT hc
        rw [L0, zbit_eqz] at q2
        refine (ih x3 (x5 + 1) v (k + 1) (by omega) e t ht).trans (and_congr_right fun _ => ⟨fun w h1 h2 => ?_, fun w h1 h2 => w (by omega) h2⟩)
        rcases Nat.lt_or_ge k t with q' | q'
        · exact w q' h2
        · obtain rfl : k = t := by omega
          rintro ⟨i, hi, w1, w2⟩
          refine q2 i hi ?_
          rw [zbit_and, w1, w2]
          rfl
      · have q2 := zc_eqF hc
        rw [L0] at q2
        obtain ⟨i, hi, hz⟩ := zb_nz q2
        rw [zbit_and, Bool.and_eq_true] at hz
        refine (ih _ (x5 + 1) v (k + 1) (by omega) e t ht).trans ?_
        rw [zbit_and, zi_nat hx, zbit_msk k (by omega) t ht, Bool.and_eq_true, decide_eq_true_eq]
        constructor
        · rintro ⟨⟨w1, w2⟩, w3⟩
          exact ⟨w1, fun h1 h2 => w3 (by omega) h2⟩
        · rintro ⟨w1, w2⟩
          refine ⟨⟨w1, fun w => ?_⟩, fun h1 h2 => w2 (by omega) h2⟩
          subst w
          exact w2 (by omega) (by omega) ⟨i, hi, hz.1, hz.2⟩
theorem t_4 {b d : Nat} {c g : G} {x1 x2 v : Int32} (W : Wfam b c) (hL : Looked b c g) (hx : x1.toInt = d) (hd : (d : Int) < (c b 2).toInt) (e : d_4 x1 x2 g = some v) : ∀ t, t < 32 → (zbit v t = true ↔ Lack b c d x2 t) := by
  have wn := W.1
  unfold Wn at wn
  have wd := W.2.2.1 d hd
  unfold Wdeed at wd
  obtain ⟨_, _, _, _, p3, p4⟩ := hL
  have m := p3 d (by omega)
  have mb : ∀ t, t < 32 → (zbit (g 26 d) t = true ↔ zbit (c (b + 8 + d) 4) t = true ∧ ¬ zbit (c (b + 4 + (c (b + 8 + d) 1).toInt.toNat) 1) t = true) := by
    intro t ht
    rw [m, zbit_and, zbit_not _ ht, Bool.and_eq_true, Bool.not_eq_true', Bool.not_eq_true]
  unfold d_4 at e
  have L0 := zl_0
  replace e := zb_bind e
  obtain ⟨k1, h1, e⟩ := e
  have b1 := zm_ix_ko h1
  obtain rfl : k1 = d := by omega
  intro t ht
  unfold Lack Has
  replace e := zb_if e
  rcases e with ⟨hc, e⟩ | ⟨hc, e⟩
  · rw [Int32.mul_comm x1 6] at e
    have L6 := zl_6
    have ym := zi_mul (x := 6) (y := x1) (n := 6) (by decide) (by omega) (by omega)
    refine (l_4_22 (d := k1) (by omega) (by omega) 300 _ 0 v 0 (by decide) e t ht).trans ?_
    rw [mb t ht]
    constructor
    · rintro ⟨⟨w1, w2⟩, w3⟩
      have t6 := zbit_day (n := 6) wd.2.2.2.2.2.2.2.2.1 (by show _ < (64 : Int); omega) w1
      refine ⟨w1, ?_⟩
      rintro (w | ⟨i, a1, a2, a3⟩)
      · exact w2 w
      · exact w3 (by omega) t6 ⟨i, by omega, (p4 k1 (by omega) t t6 i (by omega)).mpr ⟨a1, a3⟩, a2⟩
    · rintro ⟨w1, w2⟩
      refine ⟨⟨w1, fun w => w2 (Or.inl w)⟩, fun _ t6 => ?_⟩
      rintro ⟨i, hi, a1, a2⟩
      have a3 := (p4 k1 (by omega) t t6 i hi).mp a1
      exact w2 (Or.inr ⟨i, a3.1, a2, a3.2⟩)
  · have q := zc_neF hc
    rw [L0, zbit_eqz] at q
    have e1 := zb_r1 e
    subst e1
    rw [zbit_0]
    exact ⟨fun w => (by cases w), fun w => absurd ((mb t ht).mpr ⟨w.1, fun w2 => w.2 (Or.inl w2)⟩) (q t ht)⟩
/-- both sides lack the same -/
theorem lack_eq {b d : Nat} {c m g : G} {x1 x2 v v' : Int32} (hR : RCb b c m) (hL : Looked b c g) (hx : x1.toInt = d) (hd : (d : Int) < (c b 2).toInt) (e : d_4 x1 x2 g = some v) (f : d_151 x1 x2 m = some v') : v = v' := zbit_eq fun t ht => (t_4 hR.2.2.1 hL hx hd e t ht).trans (t_151 hR hx hd f t ht).symm
theorem l_5_5 {b : Nat} {c g : G} {x1 x2 : Int32} (W : Wfam b c) (hL : Looked b c g) : ∀ (f : Nat) (x3 x4 v : Int32) (k : Nat), x4.toInt = k → d_5_5 x1 x2 g f x3 x4 = some v → ∀ i, i < 32 → (zbit v i = true ↔ zbit x3 i = true ∨ (k ≤ i ∧ (i : Int) < (c b 2).toInt ∧ zbit x2 i = true ∧ Ok b c i x1)) := by
  intro f
  induction f with
  | zero =>
    intro x3 x4 v k _ e
    rw [d_5_5.eq_1] at e
    cases e
  | succ f ih =>
    intro x3 x4 v k hx e i hi
    rw [d_5_5.eq_2] at e
    have L0 := zl_0
    have L1 := zl_1
    have wn := W.1
    unfold Wn at wn
    have n3 := hL.1
    replace e := zb_if e
    rcases e with ⟨hc, e⟩ | ⟨hc, e⟩
    · have q := zc_geT hc
      rw [n3] at q
      have e1 := zb_r1 e
      subst e1
      exact ⟨Or.inl, fun w => w.elim id fun w => by omega⟩
    · have q := zc_geF hc
      rw [n3] at q
      have yi := zi_add (x := x4) (y := 1) (by omega) (by omega)
      have skip : ∀ v, d_5_5 x1 x2 g f x3 (x4 + 1) = some v → ¬ (zbit x2 k = true ∧ Ok b c k x1) → (zbit v i = true ↔ zbit x3 i = true ∨ (k ≤ i ∧ (i : Int) < (c b 2).toInt ∧ zbit x2 i = true ∧ Ok b c i x1)) := by
        intro v e hn
        refine (ih x3 (x4 + 1) v (k + 1) (by omega) e i hi).trans (or_congr Iff.rfl ⟨fun w => ⟨by omega, w.2⟩, fun w => ⟨?_, w.2⟩⟩)
        rcases Nat.lt_or_ge k i with q' | q'
        · exact q'
        · obtain rfl : i = k := by omega
          exact absurd w.2.2 hn
      replace e := zb_let e
      obtain ⟨v2, h2, e⟩ := e
      have b2 := b_90n (x0 := x2) hx (by omega)
      rw [h2] at b2
      replace e := zb_if e
      rcases e with ⟨hc, e⟩ | ⟨hc, e⟩
      · have r2 := b2.mp hc
        replace e := zb_bind e
        obtain ⟨v4, h4, e⟩ := e
        have o := ok_iff (t_4 W hL hx (by omega) h4)
        replace e := zb_if e
        rcases e with ⟨hc, e⟩ | ⟨hc, e⟩
        · have q4 := zc_neT hc
          exact skip v e (fun w => q4 (o.mpr w.2))
        · have q4 := zc_neF hc
          rw [L0, o] at q4
          refine (ih _ (x4 + 1) v (k + 1) (by omega) e i hi).trans ?_
          rw [zbit_or, zbit_shl1 hx (by omega) hi, Bool.or_eq_true, decide_eq_true_eq]
          constructor
          · rintro ((w | w) | w)
            · exact Or.inl w
            · subst w
              exact Or.inr ⟨by omega, by omega, r2, q4⟩
            · exact Or.inr ⟨by omega, w.2⟩
          · rintro (w | w)
            · exact Or.inl (Or.inl w)
            · rcases Nat.lt_or_ge k i with q' | q'
              · exact Or.inr ⟨q', w.2⟩
              · exact Or.inl (Or.inr (by omega))
      · have r2 := zd_no b2 hc
        exact skip v e (fun w => r2 w.1)
theorem t_5 {b : Nat} {c g : G} {x1 x2 v : Int32} (W : Wfam b c) (hL : Looked b c g) (e : d_5 x1 x2 g = some v) : ∀ i, i < 32 → (zbit v i = true ↔ (i : Int) < (c b 2).toInt ∧ zbit x2 i = true ∧ Ok b c i x1) := by
  intro i hi
  refine (l_5_5 W hL 300 0 0 v 0 (by decide) e i hi).trans ?_
  rw [zbit_0]
  exact ⟨fun w => w.elim (fun w => by cases w) fun w => w.2, fun w => Or.inr ⟨by omega, w⟩⟩
/-- the DAY D hangs together -/
def Hangs (b : Nat) (c : G) (D : Int32) : Prop := ∀ i : Nat, (i : Int) < (c b 2).toInt → zbit D i = true → Ok b c i D
theorem t_6 {b : Nat} {c g : G} {x1 : Int32} {r : Bool} (W : Wfam b c) (hL : Looked b c g) (hD : ∀ i : Nat, zbit x1 i = true → (i : Int) < (c b 2).toInt) (e : d_6 x1 g = some r) : r = true ↔ Hangs b c x1 := by
  unfold d_6 at e
  replace e := zb_bind e
  obtain ⟨v1, h1, e⟩ := e
  have q := t_5 W hL h1
  have wn := W.1
  unfold Wn at wn
  replace e := zb_if e
  rcases e with ⟨hc, e⟩ | ⟨hc, e⟩
  · have n := zc_neT hc
    have e1 := zb_r1 e
    subst e1
    refine zd_f fun h => n ?_
    rw [zbit_eq (x := v1) (y := x1) fun i hi => (q i hi).trans ⟨fun w => w.2.1, fun w => ⟨hD i w, w, h i (hD i w) w⟩⟩]
  · have n := zc_neF hc
    have n := Int32.toInt_inj.mp n
    have e1 := zb_r1 e
    subst e1
    rw [n] at q
    exact zd_t fun i hi w => ((q i (by omega)).mp w).2.2
theorem l_152_4 {b : Nat} {c m : G} {x1 : Int32} (hR : RCb b c m) : ∀ (f : Nat) (x2 : Bool) (x3 : Int32) (r : Bool) (k : Nat), x3.toInt = k → d_152_4 x1 m f x2 x3 = some r → (r = true ↔ x2 = true ∧ ∀ i : Nat, k ≤ i → (i : Int) < (c b 2).toInt → zbit x1 i = true → Ok b c i x1) := by
  intro f
  induction f with
  | zero =>
    intro x2 x3 r k _ e
    rw [d_152_4.eq_1] at e
    cases e
  | succ f ih =>
    intro x2 x3 r k hx e
    rw [d_152_4.eq_2] at e
    have L0 := zl_0
    have L1 := zl_1
    have nn := hR.nums
    replace e := zb_if e
    rcases e with ⟨hc, e⟩ | ⟨hc, e⟩
    · have q := zc_geT hc
      have e1 := zb_r1 e
      subst e1
      exact ⟨fun w => ⟨w, fun i h1 h2 => by omega⟩, fun w => w.1⟩
    · have q := zc_geF hc
      have yi := zi_add (x := x3) (y := 1) (by omega) (by omega)
      have skip : d_152_4 x1 m f true (x3 + 1) = some r → (zbit x1 k = true → Ok b c k x1) → (r = true ↔ true = true ∧ ∀ i : Nat, k ≤ i → (i : Int) < (c b 2).toInt → zbit x1 i = true → Ok b c i x1) := by
        intro e ho
        refine (ih true (x3 + 1) r (k + 1) (by omega) e).trans (and_congr_right fun _ => ⟨fun w i h1 h2 h3 => ?_, fun w i h1 h2 h3 => w i (by omega) h2 h3⟩)
        rcases Nat.lt_or_ge k i with q' | q'
        · exact w i q' h2 h3
        · obtain rfl : i = k := by omega
          exact ho h3
      replace e := zb_if e
      rcases e with ⟨h2, e⟩ | ⟨h2, e⟩
      · subst h2
        replace e := zb_if e
        rcases e with ⟨hc, e⟩ | ⟨hc, e⟩
        · have q2 := zc_eqT hc
          rcases zbt (x := x1) hx (by omega) with z | z
          · exfalso
            omega
          · exact skip e (fun w => absurd w z.1)
        · have q2 := zc_eqF hc
          rcases zbt (x := x1) hx (by omega) with z | z
          · replace e := zb_bind e
            obtain ⟨v4, h4, e⟩ := e
            have o := ok_iff (t_151 hR hx (by omega) h4)
            replace e := zb_if e
            rcases e with ⟨hc, e⟩ | ⟨hc, e⟩
            · have q3 := zc_neT hc
              have i0 := ih false (x3 + 1) r (k + 1) (by omega) e
              refine i0.trans ⟨fun w => (by cases w.1), fun w => absurd (o.mpr (w.2 k (by omega) (by omega) z.1)) q3⟩
            · have q3 := zc_neF hc
              rw [L0, o] at q3
              exact skip e (fun _ => q3)
          · exfalso
            omega
      · subst h2
        have i0 := ih false (x3 + 1) r (k + 1) (by omega) e
        exact i0.trans ⟨fun w => (by cases w.1), fun w => (by cases w.1)⟩
theorem t_152 {b : Nat} {c m : G} {x1 : Int32} {r : Bool} (hR : RCb b c m) (e : d_152 x1 m = some r) : r = true ↔ Hangs b c x1 :=
  (l_152_4 hR 300 true 0 r 0 (by decide) e).trans ⟨fun w i h1 h2 => w.2 i (by omega) h1 h2, fun w => ⟨rfl, fun i _ h1 h2 => w i h1 h2⟩⟩
theorem day_bits {b : Nat} {c : G} {x : Int32} (W : Wfam b c) (h : d_21 b x c = true) : ∀ i : Nat, zbit x i = true → (i : Int) < (c b 2).toInt := by
  have wn := W.1
  unfold Wn at wn
  have h1 : (c b 2).toInt = ((c b 2).toInt.toNat : Nat) := by omega
  have q := (b_21 h1 (by omega)).mp h
  intro i hz
  have := zbit_day q.1 q.2 hz
  omega
theorem a_68 {x1 v v' : Int32} {g g1 m : G} (_ : Inv g) (_ : Inv m) (hR : Rel g m) (e : d_68 x1 g = some (v, g1)) (f : d_154 x1 m = some v') : v = v' := by
  unfold d_68 at e
  unfold d_154 at f
  rcases zb_if2 (day_eq hR.rcb) e f with ⟨h1, _, e, f⟩ | ⟨_, _, e, f⟩
  · replace e := zb_bind e
    obtain ⟨g3, h3, e⟩ := e
    obtain ⟨hL, _⟩ := t_2 (Or.inl rfl) hR.rcb.2.2.1 h3
    replace e := zb_bind e
    obtain ⟨v4, h4, e⟩ := e
    have c4 := t_6 hR.rcb.2.2.1 hL (day_bits hR.rcb.2.2.1 h1) h4
    replace f := zb_bind f
    obtain ⟨w3, k3, f⟩ := f
    have m3 := t_152 hR.rcb k3
    have vw : v4 = w3 := by
      have := c4.trans m3.symm
      cases v4 <;> cases w3 <;> simp_all
    subst vw
    have f1 := zb_r1 f
    subst f1
    cases v4 with
    | true => exact (zb_r2 e).1.symm
    | false => exact (zb_r2 e).1.symm
  · exact (zb_r2 e).1.symm.trans (zb_r1 f)
