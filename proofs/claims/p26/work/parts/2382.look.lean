/-! what Bonds.look() lays down -/
theorem l_3_42 {b d : Nat} {c : G} {x3 : Int32} (hb : b = 1 ∨ b = 30) (W : Wfam b c) (hd : (d : Int) < (c b 2).toInt) (hx3 : x3.toInt = 6 * d) : ∀ (f : Nat) (x5 : Int32) (k : Nat) (g g' : G), x5.toInt = k → (∀ r j, r ≠ 25 → r ≠ 26 → r ≠ 27 → g r j = c r j) → g 25 3 = c b 2 → d_3_42 b x3 (b + 8 + d) f x5 g = some g' → (∀ r j, ¬ (r = 27 ∧ 6 * d ≤ j ∧ j < 6 * d + 6) → g' r j = g r j) ∧ ∀ t, t < 6 → ∀ i, i < 32 → (zbit (g' 27 (6 * d + t)) i = true ↔ zbit (g 27 (6 * d + t)) i = true ∨ (k ≤ i ∧ (i : Int) < (c b 2).toInt ∧ Gives b c (c (b + 8 + d) 1).toInt.toNat (c (b + 8 + d) 0) i t)) := by
  intro f
  induction f with
  | zero =>
    intro x5 k g g' _ _ _ e
    rw [d_3_42.eq_1] at e
    cases e
  | succ f ih =>
    intro x5 k g g' hx hF h3 e
    rw [d_3_42.eq_2] at e
    have L1 := zl_1
    have wn := W.1
    unfold Wn at wn
    have wd := W.2.2.1 d hd
    unfold Wdeed at wd
    replace e := zb_if e
    rcases e with ⟨hc, e⟩ | ⟨hc, e⟩
    · have q := zc_geT hc
      rw [h3] at q
      have e1 := zb_r1 e
      subst e1
      exact ⟨fun _ _ _ => rfl, fun t ht i hi => ⟨Or.inl, fun w => w.elim id fun w => by omega⟩⟩
    · have q := zc_geF hc
      rw [h3] at q
      have yi := zi_add (x := x5) (y := 1) (by omega) (by omega)
      replace e := zb_bind e
      obtain ⟨k4, h4, e⟩ := e
      have b4 := zm_ix_ko h4
      obtain rfl : k4 = k := by omega
      have wk := W.2.2.1 k4 (by omega)
      unfold Wdeed at wk
      have F2 := hF (b + 8 + k4) 2 (by omega) (by omega) (by omega)
      have F0 := hF (b + 8 + k4) 0 (by omega) (by omega) (by omega)
      have F3 := hF (b + 8 + k4) 3 (by omega) (by omega) (by omega)
      have D1 := hF (b + 8 + d) 1 (by omega) (by omega) (by omega)
      have D0 := hF (b + 8 + d) 0 (by omega) (by omega) (by omega)
      rw [F2, F0, F3, D1, D0] at e
      obtain ⟨p, hp⟩ : ∃ p : Nat, (c (b + 8 + d) 1).toInt = p := ⟨(c (b + 8 + d) 1).toInt.toNat, by omega⟩
      have hp' : (c (b + 8 + d) 1).toInt.toNat = p := by omega
      rw [hp']
      have skip : d_3_42 b x3 (b + 8 + d) f (x5 + 1) g = some g' → ¬ ((c (b + 8 + k4) 2).toInt = p ∧ (d_98 (c (b + 4 + p) 0) (c (b + 8 + k4) 0) (c b 0)).toInt < (d_98 (c (b + 4 + p) 0) (c (b + 8 + d) 0) (c b 0)).toInt) → (∀ r j, ¬ (r = 27 ∧ 6 * d ≤ j ∧ j < 6 * d + 6) → g' r j = g r j) ∧ ∀ t, t < 6 → ∀ i, i < 32 → (zbit (g' 27 (6 * d + t)) i = true ↔ zbit (g 27 (6 * d + t)) i = true ∨ (k4 ≤ i ∧ (i : Int) < (c b 2).toInt ∧ Gives b c p (c (b + 8 + d) 0) i t)) := by
        intro e hn
        have i0 := ih (x5 + 1) (k4 + 1) g g' (by omega) hF h3 e
        rw [hp'] at i0
        refine ⟨i0.1, fun t ht i hi => (i0.2 t ht i hi).trans (or_congr Iff.rfl ⟨fun w => ⟨by omega, w.2⟩, fun w => ⟨?_, w.2⟩⟩)⟩
        rcases Nat.lt_or_ge k4 i with q | q
        · exact q
        · obtain rfl : i = k4 := by omega
          exact absurd ⟨w.2.2.1, w.2.2.2.1⟩ hn
      replace e := zb_if e
      rcases e with ⟨hc, e⟩ | ⟨hc, e⟩
      · have q2 := zc_neT hc
        exact skip e (fun w => by have := w.1; omega)
      · have q2 := zc_neF hc
        replace e := zb_bind e
        obtain ⟨v6, h6, e⟩ := e
        have b6 := t_23 hp h6
        rw [hF (b + 4 + p) 0 (by omega) (by omega) (by omega), hF b 0 (by omega) (by omega) (by omega)] at b6
        replace e := zb_if e
        rcases e with ⟨hc, e⟩ | ⟨hc, e⟩
        · have r6 := b6.mp hc
          obtain ⟨t0, ht0⟩ : ∃ t0 : Nat, (c (b + 8 + k4) 3).toInt = t0 := ⟨(c (b + 8 + k4) 3).toInt.toNat, by omega⟩
          have ya := zi_add (x := x3) (y := c (b + 8 + k4) 3) (by omega) (by omega)
          replace e := zb_bind e
          obtain ⟨k8, h8, e⟩ := e
          have b8 := zm_ix_ko h8
          replace e := zb_bind e
          obtain ⟨k10, h10, e⟩ := e
          have b10 := zm_ix_ko h10
          obtain rfl : k8 = 6 * d + t0 := by omega
          obtain rfl : k10 = 6 * d + t0 := by omega
          replace e := zb_let e
          obtain ⟨g9, h9, e⟩ := e
          have i0 := ih (x5 + 1) (k4 + 1) g9 g' (by omega) (fun r j a1 a2 a3 => (zg_fr h9 r j (by omega)).trans (hF r j a1 a2 a3)) ((zg_fr h9 25 3 (by omega)).trans h3) e
          rw [hp'] at i0
          refine ⟨fun r j hn => (i0.1 r j hn).trans (zg_fr h9 r j (by omega)), fun t ht i hi => (i0.2 t ht i hi).trans ?_⟩
          by_cases hh : t = t0
          · subst hh
            rw [← h9, zg_ue, zbit_or, zbit_shl1 hx (by omega) hi, Bool.or_eq_true, decide_eq_true_eq]
            constructor
            · rintro ((w | w) | w)
              · exact Or.inl w
              · subst w
                exact Or.inr ⟨by omega, by omega, by omega, r6, ht0⟩
              · exact Or.inr ⟨by omega, w.2⟩
            · rintro (w | w)
              · exact Or.inl (Or.inl w)
              · rcases Nat.lt_or_ge k4 i with q' | q'
                · exact Or.inr ⟨q', w.2⟩
                · exact Or.inl (Or.inr (by omega))
          · rw [zg_fr h9 27 (6 * d + t) (by omega)]
            refine or_congr Iff.rfl ⟨fun w => ⟨by omega, w.2⟩, fun w => ⟨?_, w.2⟩⟩
            rcases Nat.lt_or_ge k4 i with q | q
            · exact q
            · obtain rfl : i = k4 := by omega
              have := w.2.2.2.2
              omega
        · exact skip e (fun w => zd_no b6 hc w.2)
theorem l_3_8 {b d : Nat} {c : G} {x2 x3 : Int32} (hb : b = 1 ∨ b = 30) (W : Wfam b c) (hd : (d : Int) < (c b 2).toInt) (hx2 : x2.toInt = d) (hx3 : x3.toInt = 6 * d) : ∀ (f : Nat) (x4 : Int32) (k : Nat) (g g' : G), x4.toInt = k → (∀ r j, r ≠ 25 → r ≠ 26 → r ≠ 27 → g r j = c r j) → g 25 3 = c b 2 → (∀ t, t < k → g 27 (6 * d + t) = 0) → d_3_8 b x2 x3 f x4 g = some g' → (∀ r j, ¬ (r = 27 ∧ 6 * d ≤ j ∧ j < 6 * d + 6) → g' r j = g r j) ∧ ∀ t, t < 6 → ∀ i, i < 32 → (zbit (g' 27 (6 * d + t)) i = true ↔ (i : Int) < (c b 2).toInt ∧ Gives b c (c (b + 8 + d) 1).toInt.toNat (c (b + 8 + d) 0) i t) := by
  intro f
  induction f with
  | zero =>
    intro x4 k g g' _ _ _ _ e
    rw [d_3_8.eq_1] at e
    cases e
  | succ f ih =>
    intro x4 k g g' hx hF h3 hz e
    rw [d_3_8.eq_2] at e
    have L1 := zl_1
    have L6 := zl_6
    have wn := W.1
    unfold Wn at wn
    replace e := zb_if e
    rcases e with ⟨hc, e⟩ | ⟨hc, e⟩
    · have q := zc_geT hc
      replace e := zb_bind e
      obtain ⟨k2, h2, e⟩ := e
      have b2 := zm_ix_ko h2
      obtain rfl : k2 = d := by omega
      obtain ⟨i1, i2⟩ := l_3_42 hb W hd hx3 300 0 0 g g' (by decide) hF h3 e
      refine ⟨i1, fun t ht i hi => (i2 t ht i hi).trans ?_⟩
      rw [hz t (by omega), zbit_0]
      exact ⟨fun w => w.elim (fun w => by cases w) fun w => w.2, fun w => Or.inr ⟨by omega, w⟩⟩
    · have q := zc_geF hc
      have yi := zi_add (x := x4) (y := 1) (by omega) (by omega)
      have ya := zi_add (x := x3) (y := x4) (by omega) (by omega)
      replace e := zb_bind e
      obtain ⟨k12, h12, e⟩ := e
      have b12 := zm_ix_ko h12
      obtain rfl : k12 = 6 * d + k := by omega
      replace e := zb_let e
      obtain ⟨g11, h11, e⟩ := e
      obtain ⟨i1, i2⟩ := ih (x4 + 1) (k + 1) g11 g' (by omega) (fun r j a1 a2 a3 => (zg_fr h11 r j (by omega)).trans (hF r j a1 a2 a3)) ((zg_fr h11 25 3 (by omega)).trans h3) (fun t ht => by
        by_cases hh : t = k
        · subst hh
          rw [← h11, zg_ue]
        · rw [zg_fr h11 27 (6 * d + t) (by omega)]
          exact hz t (by omega)) e
      exact ⟨fun r j hn => (i1 r j hn).trans (zg_fr h11 r j (by omega)), i2⟩
theorem t_3 {b d : Nat} {c g g' : G} {x2 : Int32} (hb : b = 1 ∨ b = 30) (W : Wfam b c) (hd : (d : Int) < (c b 2).toInt) (hx2 : x2.toInt = d) (hF : ∀ r j, r ≠ 25 → r ≠ 26 → r ≠ 27 → g r j = c r j) (h3 : g 25 3 = c b 2) (e : d_3 b x2 g = some g') : (∀ r j, ¬ (r = 27 ∧ 6 * d ≤ j ∧ j < 6 * d + 6) → g' r j = g r j) ∧ ∀ t, t < 6 → ∀ i, i < 32 → (zbit (g' 27 (6 * d + t)) i = true ↔ (i : Int) < (c b 2).toInt ∧ Gives b c (c (b + 8 + d) 1).toInt.toNat (c (b + 8 + d) 0) i t) := by
  unfold d_3 at e
  have wn := W.1
  unfold Wn at wn
  have L6 := zl_6
  rw [Int32.mul_comm x2 6] at e
  have ym := zi_mul (x := 6) (y := x2) (n := 6) (by decide) (by omega) (by omega)
  exact l_3_8 hb W hd hx2 (by omega) 300 0 0 g g' (by decide) hF h3 (fun t ht => by omega) e
/-- what stands in the Bonds of the family at b for the DEEDS below k -/
def PL (b : Nat) (c : G) (k : Nat) (g : G) : Prop :=
  (∀ i, i < 32 → (zbit (g 25 1) i = true ↔ i < k ∧ (c (b + 8 + i) 5).toInt = 1)) ∧
  (∀ i, i < 32 → (zbit (g 25 2) i = true ↔ i < k ∧ (c (b + 8 + i) 5).toInt = 2)) ∧
  (∀ d, d < k → g 26 d = (c (b + 8 + d) 4) &&& ((c (b + 4 + (c (b + 8 + d) 1).toInt.toNat) 1) ^^^ (-1))) ∧
  (∀ d, d < k → ∀ t, t < 6 → ∀ i, i < 32 → (zbit (g 27 (6 * d + t)) i = true ↔ (i : Int) < (c b 2).toInt ∧ Gives b c (c (b + 8 + d) 1).toInt.toNat (c (b + 8 + d) 0) i t))
theorem PL.step {b k : Nat} {c g g8 ga gb gc : G} {x2 B1 B2 : Int32} (hb : b = 1 ∨ b = 30) (W : Wfam b c) (hk : (k : Int) < (c b 2).toInt) (hx2 : x2.toInt = k) (hF : ∀ r j, ¬ (r = 25 ∧ (j = 1 ∨ j = 2)) → r ≠ 26 → r ≠ 27 → g r j = c r j) (hP : PL b c k g) (h3 : g 25 3 = c b 2) (h8 : zg_up g 26 k ((c (b + 8 + k) 4) &&& ((c (b + 4 + (c (b + 8 + k) 1).toInt.toNat) 1) ^^^ (-1))) = g8) (ha : zg_up g8 25 1 ((g8 25 1) ||| B1) = ga) (hbb : zg_up ga 25 2 ((ga 25 2) ||| B2) = gb) (hB1 : ∀ i, i < 32 → (zbit B1 i = true ↔ i = k ∧ (c (b + 8 + i) 5).toInt = 1)) (hB2 : ∀ i, i < 32 → (zbit B2 i = true ↔ i = k ∧ (c (b + 8 + i) 5).toInt = 2)) (e : d_3 b x2 gb = some gc) : (∀ r j, ¬ (r = 25 ∧ (j = 1 ∨ j = 2)) → r ≠ 26 → r ≠ 27 → gc r j = c r j) ∧ PL b c (k + 1) gc := by
  have wn := W.1
  unfold Wn at wn
  have fb : ∀ r j, ¬ (r = 25 ∧ (j = 1 ∨ j = 2)) → ¬ (r = 26 ∧ j = k) → gb r j = g r j := fun r j a1 a2 => (zg_fr hbb r j (by omega)).trans ((zg_fr ha r j (by omega)).trans (zg_fr h8 r j (by omega)))
  obtain ⟨t1, t2⟩ := t_3 (g := gb) hb W hk hx2 (fun r j a1 a2 a3 => (fb r j (by omega) (by omega)).trans (hF r j (by omega) a2 a3)) ((fb 25 3 (by omega) (by omega)).trans h3) e
  have fc : ∀ r j, ¬ (r = 25 ∧ (j = 1 ∨ j = 2)) → ¬ (r = 26 ∧ j = k) → ¬ (r = 27 ∧ 6 * k ≤ j ∧ j < 6 * k + 6) → gc r j = g r j := fun r j a1 a2 a3 => (t1 r j a3).trans (fb r j a1 a2)
  obtain ⟨p1, p2, p3, p4⟩ := hP
  have c1 : gc 25 1 = (g 25 1) ||| B1 := by
    rw [t1 25 1 (by omega), zg_fr hbb 25 1 (by omega), ← ha, zg_ue, zg_fr h8 25 1 (by omega)]
  have c2 : gc 25 2 = (g 25 2) ||| B2 := by
    rw [t1 25 2 (by omega), ← hbb, zg_ue, zg_fr ha 25 2 (by omega), zg_fr h8 25 2 (by omega)]
  refine ⟨fun r j a1 a2 a3 => (fc r j a1 (by omega) (by omega)).trans (hF r j a1 a2 a3), fun i hi => ?_, fun i hi => ?_, fun d hd => ?_, fun d hd t ht i hi => ?_⟩
  · rw [c1, zbit_or, Bool.or_eq_true, p1 i hi, hB1 i hi]
    omega
  · rw [c2, zbit_or, Bool.or_eq_true, p2 i hi, hB2 i hi]
    omega
  · by_cases hh : d = k
    · subst hh
      rw [t1 26 d (by omega), zg_fr hbb 26 d (by omega), zg_fr ha 26 d (by omega), ← h8, zg_ue]
    · rw [fc 26 d (by omega) (by omega) (by omega)]
      exact p3 d (by omega)
  · by_cases hh : d = k
    · subst hh
      exact t2 t ht i hi
    · rw [fc 27 (6 * d + t) (by omega) (by omega) (by omega)]
      exact p4 d (by omega) t ht i hi
theorem l_2_32 {b : Nat} {c : G} (hb : b = 1 ∨ b = 30) (W : Wfam b c) (h3 : c 25 3 = c b 2) : ∀ (f : Nat) (x2 : Int32) (k : Nat) (g g' : G), x2.toInt = k → (k : Int) ≤ (c b 2).toInt → (∀ r j, ¬ (r = 25 ∧ (j = 1 ∨ j = 2)) → r ≠ 26 → r ≠ 27 → g r j = c r j) → PL b c k g → d_2_32 b f x2 g = some g' → (∀ r j, ¬ (r = 25 ∧ (j = 1 ∨ j = 2)) → r ≠ 26 → r ≠ 27 → g' r j = c r j) ∧ PL b c (c b 2).toInt.toNat g' := by
  intro f
  induction f with
  | zero =>
    intro x2 k g g' _ _ _ _ e
    rw [d_2_32.eq_1] at e
    cases e
  | succ f ih =>
    intro x2 k g g' hx hk hF hP e
    rw [d_2_32.eq_2] at e
    have L1 := zl_1
    have L2 := zl_2
    have wn := W.1
    unfold Wn at wn
    have g3 : g 25 3 = c b 2 := (hF 25 3 (by omega) (by omega) (by omega)).trans h3
    replace e := zb_if e
    rcases e with ⟨hc, e⟩ | ⟨hc, e⟩
    · have q := zc_geT hc
      rw [g3] at q
      have e1 := zb_r1 e
      subst e1
      obtain rfl : k = (c b 2).toInt.toNat := by omega
      exact ⟨hF, hP⟩
    · have q := zc_geF hc
      rw [g3] at q
      have yi := zi_add (x := x2) (y := 1) (by omega) (by omega)
      have wk := W.2.2.1 k (by omega)
      unfold Wdeed at wk
      replace e := zb_bind e
      obtain ⟨k6, h6, e⟩ := e
      have b6 := zm_ix_ko h6
      obtain rfl : k6 = k := by omega
      replace e := zb_bind e
      obtain ⟨k7, h7, e⟩ := e
      have b7 := zm_ix_ko h7
      have D1 := hF (b + 8 + k6) 1 (by omega) (by omega) (by omega)
      rw [D1] at b7
      obtain rfl : k7 = (c (b + 8 + k6) 1).toInt.toNat := by omega
      replace e := zb_bind e
      obtain ⟨k9, h9, e⟩ := e
      have b9 := zm_ix_ko h9
      obtain rfl : k9 = k6 := by omega
      replace e := zb_let e
      obtain ⟨g8, h8, e⟩ := e
      rw [hF (b + 8 + k9) 4 (by omega) (by omega) (by omega), hF (b + 4 + (c (b + 8 + k9) 1).toInt.toNat) 1 (by omega) (by omega) (by omega)] at h8
      have m8 : g8 (b + 8 + k9) 5 = c (b + 8 + k9) 5 := (zg_fr h8 (b + 8 + k9) 5 (by omega)).trans (hF (b + 8 + k9) 5 (by omega) (by omega) (by omega))
      rw [m8] at e
      have go : ∀ {B1 B2 : Int32} {ga gb gc : G}, zg_up g8 25 1 ((g8 25 1) ||| B1) = ga → zg_up ga 25 2 ((ga 25 2) ||| B2) = gb → d_3 b x2 gb = some gc → (∀ i, i < 32 → (zbit B1 i = true ↔ i = k9 ∧ (c (b + 8 + i) 5).toInt = 1)) → (∀ i, i < 32 → (zbit B2 i = true ↔ i = k9 ∧ (c (b + 8 + i) 5).toInt = 2)) → d_2_32 b f (x2 + 1) gc = some g' → (∀ r j, ¬ (r = 25 ∧ (j = 1 ∨ j = 2)) → r ≠ 26 → r ≠ 27 → g' r j = c r j) ∧ PL b c (c b 2).toInt.toNat g' := by
        intro B1 B2 ga gb gc ha hbb hc3 hB1 hB2 e
        obtain ⟨s1, s2⟩ := PL.step hb W (by omega) hx hF hP g3 h8 ha hbb hB1 hB2 hc3
        exact ih (x2 + 1) (k9 + 1) gc g' (by omega) (by omega) s1 s2 e
      have n1 : ∀ v : Int32, (c (b + 8 + k9) 5).toInt ≠ v.toInt → ∀ i, i < 32 → (zbit (0 : Int32) i = true ↔ i = k9 ∧ (c (b + 8 + i) 5).toInt = v.toInt) := by
        intro v hv i hi
        rw [zbit_0]
        exact ⟨fun w => (by cases w), fun w => absurd (by have w2 := w.2; rw [w.1] at w2; exact w2) hv⟩
      have n2 : ∀ v : Int32, (c (b + 8 + k9) 5).toInt = v.toInt → ∀ i, i < 32 → (zbit ((1 : Int32) <<< (x2 &&& 31)) i = true ↔ i = k9 ∧ (c (b + 8 + i) 5).toInt = v.toInt) := by
        intro v hv i hi
        rw [zbit_shl1 hx (by omega) hi, decide_eq_true_eq]
        exact ⟨fun w => ⟨w, by rw [w]; exact hv⟩, fun w => w.1⟩
      have o1 := n1 1
      have o2 := n1 2
      have o3 := n2 1
      have o4 := n2 2
      rw [L1] at o1 o3
      rw [L2] at o2 o4
      replace e := zb_if e
      rcases e with ⟨hc, e⟩ | ⟨hc, e⟩
      · have q1 := zc_neT hc
        replace e := zb_let e
        obtain ⟨ga, ha, e⟩ := e
        rw [(zg_fr ha (b + 8 + k9) 5 (by omega)).trans m8] at e
        replace e := zb_if e
        rcases e with ⟨hc, e⟩ | ⟨hc, e⟩
        · have q2 := zc_neT hc
          replace e := zb_let e
          obtain ⟨gb, hbb, e⟩ := e
          replace e := zb_bind e
          obtain ⟨gc, hgc, e⟩ := e
          exact go ha hbb hgc (o1 (by omega)) (o2 (by omega)) e
        · have q2 := zc_neF hc
          replace e := zb_let e
          obtain ⟨gb, hbb, e⟩ := e
          replace e := zb_bind e
          obtain ⟨gc, hgc, e⟩ := e
          exact go ha hbb hgc (o1 (by omega)) (o4 (by omega)) e
      · have q1 := zc_neF hc
        replace e := zb_let e
        obtain ⟨ga, ha, e⟩ := e
        rw [(zg_fr ha (b + 8 + k9) 5 (by omega)).trans m8] at e
        replace e := zb_if e
        rcases e with ⟨hc, e⟩ | ⟨hc, e⟩
        · have q2 := zc_neT hc
          replace e := zb_let e
          obtain ⟨gb, hbb, e⟩ := e
          replace e := zb_bind e
          obtain ⟨gc, hgc, e⟩ := e
          exact go ha hbb hgc (o3 (by omega)) (o2 (by omega)) e
        · have q2 := zc_neF hc
          replace e := zb_let e
          obtain ⟨gb, hbb, e⟩ := e
          replace e := zb_bind e
          obtain ⟨gc, hgc, e⟩ := e
          exact go ha hbb hgc (o3 (by omega)) (o4 (by omega)) e
/-- what stands in the Bonds behind look() of the family at b -/
def Looked (b : Nat) (c g : G) : Prop := g 25 3 = c b 2 ∧ g 25 0 = ((1 : Int32) <<< ((c b 2) &&& 31)) - 1 ∧ PL b c (c b 2).toInt.toNat g
theorem Gives.congr {b p i t : Nat} {h : Int32} {c c' : G} (h2 : ∀ j, c' (b + 8 + i) j = c (b + 8 + i) j) (hp : c' (b + 4 + p) 0 = c (b + 4 + p) 0) (h0 : c' b 0 = c b 0) : Gives b c' p h i t ↔ Gives b c p h i t := by
  unfold Gives
  rw [h2, h2, h2, hp, h0]
theorem PL.congr {b k : Nat} {c c' g : G} (hb : b = 1 ∨ b = 30) (W : Wfam b c) (hk : (k : Int) ≤ (c b 2).toInt) (hF : ∀ r j, r ≠ 25 → r ≠ 26 → r ≠ 27 → c' r j = c r j) (h : PL b c' k g) : PL b c k g := by
  obtain ⟨p1, p2, p3, p4⟩ := h
  have wn := W.1
  unfold Wn at wn
  have n2 := hF b 2 (by omega) (by omega) (by omega)
  refine ⟨fun i hi => (p1 i hi).trans ?_, fun i hi => (p2 i hi).trans ?_, fun d hd => (p3 d hd).trans ?_, fun d hd t ht i hi => (p4 d hd t ht i hi).trans ?_⟩
  · refine ⟨fun w => ?_, fun w => ?_⟩
    · rw [hF (b + 8 + i) 5 (by omega) (by omega) (by omega)] at w
      exact w
    · rw [hF (b + 8 + i) 5 (by omega) (by omega) (by omega)]
      exact w
  · refine ⟨fun w => ?_, fun w => ?_⟩
    · rw [hF (b + 8 + i) 5 (by omega) (by omega) (by omega)] at w
      exact w
    · rw [hF (b + 8 + i) 5 (by omega) (by omega) (by omega)]
      exact w
  · have wd := W.2.2.1 d (by omega)
    unfold Wdeed at wd
    rw [hF (b + 8 + d) 4 (by omega) (by omega) (by omega), hF (b + 8 + d) 1 (by omega) (by omega) (by omega), hF (b + 4 + (c (b + 8 + d) 1).toInt.toNat) 1 (by omega) (by omega) (by omega)]
  · have wd := W.2.2.1 d (by omega)
    unfold Wdeed at wd
    rw [n2, hF (b + 8 + d) 0 (by omega) (by omega) (by omega), hF (b + 8 + d) 1 (by omega) (by omega) (by omega)]
    refine and_congr_right fun w => ?_
    exact Gives.congr (fun j => hF (b + 8 + i) j (by omega) (by omega) (by omega)) (hF _ 0 (by omega) (by omega) (by omega)) (hF b 0 (by omega) (by omega) (by omega))
theorem t_2 {b : Nat} {g g' : G} (hb : b = 1 ∨ b = 30) (W : Wfam b g) (e : d_2 b g = some g') : Looked b g g' ∧ ∀ r j, r ≠ 25 → r ≠ 26 → r ≠ 27 → g' r j = g r j := by
  unfold d_2 at e
  have wn := W.1
  unfold Wn at wn
  replace e := zb_let e
  obtain ⟨g1, h1, e⟩ := e
  replace e := zb_let e
  obtain ⟨g2, h2, e⟩ := e
  replace e := zb_let e
  obtain ⟨g3, h3, e⟩ := e
  replace e := zb_let e
  obtain ⟨g4, h4, e⟩ := e
  have F : ∀ r j, ¬ (r = 25 ∧ j < 4) → g4 r j = g r j := fun r j a => (zg_fr h4 r j (by omega)).trans ((zg_fr h3 r j (by omega)).trans ((zg_fr h2 r j (by omega)).trans (zg_fr h1 r j (by omega))))
  have c3 : g4 25 3 = g b 2 := by
    rw [zg_fr h4 25 3 (by omega), zg_fr h3 25 3 (by omega), zg_fr h2 25 3 (by omega), ← h1, zg_ue]
  have c0 : g4 25 0 = ((1 : Int32) <<< ((g b 2) &&& 31)) - 1 := by
    rw [zg_fr h4 25 0 (by omega), zg_fr h3 25 0 (by omega), ← h2, zg_ue, ← h1, zg_ue]
  have c1 : g4 25 1 = 0 := by
    rw [zg_fr h4 25 1 (by omega), ← h3, zg_ue]
  have c2 : g4 25 2 = 0 := by
    rw [← h4, zg_ue]
  have b2 : g4 b 2 = g b 2 := F b 2 (by omega)
  have W4 : Wfam b g4 := W.congr (fun r k hr => F r k (by omega))
  obtain ⟨i1, i2⟩ := l_2_32 hb W4 (c3.trans b2.symm) 300 0 0 g4 g' (by decide) (by rw [b2]; omega) (fun _ _ _ _ _ => rfl) ⟨fun i hi => by rw [c1, zbit_0]; exact ⟨fun w => (by cases w), fun w => (by omega)⟩, fun i hi => by rw [c2, zbit_0]; exact ⟨fun w => (by cases w), fun w => (by omega)⟩, fun d hd => by omega, fun d hd => by omega⟩ e
  rw [b2] at i2
  refine ⟨⟨(i1 25 3 (by omega) (by omega) (by omega)).trans c3, (i1 25 0 (by omega) (by omega) (by omega)).trans c0, PL.congr hb W (by omega) (fun r j a1 a2 a3 => F r j (by omega)) i2⟩, fun r j a1 a2 a3 => (i1 r j (by omega) a2 a3).trans (F r j (by omega))⟩
