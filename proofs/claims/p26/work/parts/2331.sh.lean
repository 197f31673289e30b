/-! images and sheets: what the calls do -/
section RSH
variable {c m c' m' g g' : G} {k n i : Nat} {v x x1 x2 x3 : Int32}
theorem t_47 {r0 : Nat} (e : d_47 r0 x1 x2 g = some g') : (∀ r k, ¬ (r = r0 ∧ (k = 0 ∨ k = 2)) → ¬ (r = r0 + 1 ∧ k < 40) → g' r k = g r k) ∧ g' r0 2 = x1 ∧ g' r0 0 = x2 ∧ ∀ i, i < 40 → g' (r0 + 1) i = 0 := by
  unfold d_47 at e
  replace e := zb_let e
  obtain ⟨g1, h1, e⟩ := e
  replace e := zb_let e
  obtain ⟨g2, h2, e⟩ := e
  have L0 := zl_0
  obtain ⟨i1, i2⟩ := l_47_12 300 0 0 g2 g' (by omega) e
  have a1 := zg_fr h1
  have a2 := zg_fr h2
  have s1 : g1 r0 2 = x1 := by rw [← h1]; exact zg_ue
  have s2 : g2 r0 0 = x2 := by rw [← h2]; exact zg_ue
  refine ⟨fun r k hr hr2 => ?_, ?_, ?_, fun i hi => i2 i (by omega) hi⟩
  · rw [i1 r k (by omega), a2 r k (by omega), a1 r k (by omega)]
  · rw [i1 _ _ (by omega), a2 _ _ (by omega), s1]
  · rw [i1 _ _ (by omega), s2]
theorem t_49 {r0 : Nat} (e : d_49 r0 x1 g = v) : ((g r0 0).toInt = -1 ∧ v.toInt = 1) ∨ ((g r0 0).toInt ≠ -1 ∧ (0 ≤ x1.toInt ∧ x1.toInt < (g r0 0).toInt) ∧ v.toInt = 0) ∨ ((g r0 0).toInt ≠ -1 ∧ ¬ (0 ≤ x1.toInt ∧ x1.toInt < (g r0 0).toInt) ∧ v.toInt = 2) := by
  unfold d_49 at e
  have L0 := zl_0
  have L1 := zl_1
  have L2 := zl_2
  replace e := zb_let e
  obtain ⟨v1, hv1, e⟩ := e
  have b1 := b_46 (r0 := r0) (g := g)
  rw [hv1] at b1
  replace e := zb_if e
  rcases e with ⟨hc, e⟩ | ⟨hc, e⟩
  · have := b1.mp hc
    subst e
    omega
  · have := zd_no b1 hc
    replace e := zb_if e
    rcases e with ⟨hc, e⟩ | ⟨hc, e⟩
    · have := zc_ltT hc
      subst e
      omega
    · have := zc_ltF hc
      replace e := zb_if e
      rcases e with ⟨hc, e⟩ | ⟨hc, e⟩
      · have := zc_geT hc
        subst e
        omega
      · have := zc_geF hc
        subst e
        omega
/-- as a lane keeps it -/
def lnv (l x : Int32) : Int32 := bif l == 0 then (Int32.toInt8 x).toInt32 else bif l == 1 then (Int32.toInt16 x).toInt32 else x
theorem t_51 {r0 : Nat} (e : d_51 r0 x1 x2 g = some g') (hi : x1.toInt = i) : g' = zg_up g (r0 + 1) i (lnv (g r0 2) x2) := by
  unfold d_51 at e
  unfold lnv
  replace e := zb_if e
  rcases e with ⟨hc, e⟩ | ⟨hc, e⟩
  · replace e := zb_bind e
    obtain ⟨k3, h3, e⟩ := e
    replace e := zb_let e
    obtain ⟨g2, h2, e⟩ := e
    have b := zm_ix_ko h3
    obtain rfl : k3 = i := by omega
    rw [hc, cond_true, h2]
    exact (zb_r1 e).symm
  · replace e := zb_if e
    rcases e with ⟨hc2, e⟩ | ⟨hc2, e⟩
    · replace e := zb_bind e
      obtain ⟨k3, h3, e⟩ := e
      replace e := zb_let e
      obtain ⟨g2, h2, e⟩ := e
      have b := zm_ix_ko h3
      obtain rfl : k3 = i := by omega
      rw [hc, hc2, cond_false, cond_true, h2]
      exact (zb_r1 e).symm
    · replace e := zb_bind e
      obtain ⟨k3, h3, e⟩ := e
      replace e := zb_let e
      obtain ⟨g2, h2, e⟩ := e
      have b := zm_ix_ko h3
      obtain rfl : k3 = i := by omega
      rw [hc, hc2, cond_false, cond_false, h2]
      exact (zb_r1 e).symm
theorem lnv_0 (h : v.toInt = 0) : lnv v x = (Int32.toInt8 x).toInt32 := by
  have : v = 0 := Int32.toInt_inj.mp (h.trans zl_0.symm)
  subst this
  rfl
theorem lnv_1 (h : v.toInt = 1) : lnv v x = (Int32.toInt16 x).toInt32 := by
  have : v = 1 := Int32.toInt_inj.mp (h.trans zl_1.symm)
  subst this
  rfl
theorem lnv_2 (h0 : v.toInt ≠ 0) (h1 : v.toInt ≠ 1) : lnv v x = x := by
  unfold lnv
  have e0 : (v == 0) = false := by
    cases hb : v == 0 with
    | false => rfl
    | true => exact absurd ((zc_bT hb).trans zl_0) h0
  have e1 : (v == 1) = false := by
    cases hb : v == 1 with
    | false => rfl
    | true => exact absurd ((zc_bT hb).trans zl_1) h1
  rw [e0, e1]
  rfl
/-- all but the sheets -/
theorem Rel.ofE (h : Rel c m) (hE : RE c' m') (uc : ∀ r k, ¬ (105 ≤ r ∧ r < 113) → c' r k = c r k) (um : ∀ r k, ¬ (119 ≤ r ∧ r ≤ 121) → m' r k = m r k) : Rel c' m' := by
  obtain ⟨hA, hB, hC, hD, _⟩ := h
  exact ⟨hA.congr (fun r k hr => uc r k (by omega)) (fun r k hr => um r k (by omega)), hB.congr (fun r k hr => uc r k (by omega)) (fun r k hr => um r k (by omega)), hC.congr (fun r k hr => uc r k (by omega)) (fun r k hr => um r k (by omega)), hD.congr (fun r k hr => uc r k (by omega)) (fun r k hr => um r k (by omega)), hE⟩
theorem Rel.lays (h : Rel c m) (hk : k < 4) (hi : i < 40) (hl : (c (105 + 2 * k) 0).toInt ≠ -1) : Rel (zg_up c (106 + 2 * k) i v) (zg_up m 121 (40 * k + i) v) := by
  refine h.ofE (fun q hq => ?_) (fun r j hr => zg_un (by omega)) (fun r j hr => zg_un (by omega))
  by_cases hh : q = k
  · subst hh
    have s := h.2.2.2.2 q hq
    unfold RE1 at *
    rw [zg_un (r := 105 + 2 * q) (k := 0) (by omega), zg_un (r := 105 + 2 * q) (k := 2) (by omega), zg_un (r := 119) (by omega), zg_un (r := 120) (by omega)]
    rcases s with s | ⟨s1, s2, s3, s4, s5, s6, s7⟩
    · exact absurd s.1 hl
    · refine Or.inr ⟨s1, s2, s3, s4, s5, s6, fun j hj => ?_⟩
      by_cases hj2 : j = i
      · subst hj2
        rw [zg_ue, zg_ue]
      · rw [zg_un (by omega), zg_un (by omega)]
        exact s7 j hj
  · exact (h.2.2.2.2 q hq).congr (fun r j hr => zg_un (by omega)) (fun r j hr => zg_un (by omega))
theorem Rel.sheets (h : Rel c m) (hk : k < 4) (uc : ∀ r j, ¬ (r = 105 + 2 * k) → ¬ (r = 106 + 2 * k) → c' r j = c r j) (um : ∀ r j, ¬ (r = 119 ∧ j = k) → ¬ (r = 120 ∧ j = k) → ¬ (r = 121 ∧ 40 * k ≤ j ∧ j < 40 * k + 40) → m' r j = m r j) (hE : RE1 k c' m') : Rel c' m' := by
  refine h.ofE (fun q hq => ?_) (fun r j hr => uc r j (by omega) (by omega)) (fun r j hr => um r j (by omega) (by omega) (by omega))
  by_cases hh : q = k
  · subst hh
    exact hE
  · exact (h.2.2.2.2 q hq).congr (fun r j hr => uc r j (by omega) (by omega)) (fun r j hr => um r j (by omega) (by omega) (by omega))
theorem zm_n2 : zm_nar 2 1 = 1 ∧ zm_nar 2 0 = 0 := by decide +kernel
theorem Rel.keeps {g6 : G} (h : Rel c m) (hk : k < 2) (e : d_17 (56 + 24 * k) 1 c = some g6) (hc : c' = zg_up g6 55 k 1) (u1 : m' 115 k = 1) (um : ∀ r j, ¬ (r = 115 ∧ j = k) → ¬ (r = 114 ∧ 98 * (k + 1) ≤ j ∧ j < 98 * (k + 1) + 98) → m' r j = m r j) (u2 : ∀ j, j < 98 → m' 114 (98 * (k + 1) + j) = m 114 (0 + j)) : Rel c' m' := by
  obtain ⟨t1, t2⟩ := t_17 (by omega) e
  have uc : ∀ r j, ¬ (r = 55 ∧ j = k) → c' r j = g6 r j := fun r j hr => by rw [hc]; exact zg_un hr
  have u0 : c' 55 k = 1 := by rw [hc]; exact zg_ue
  have uu : ∀ r j, ¬ (r = 55 ∧ j = k) → ¬ (r = 56 + 24 * k ∧ j < 4) → ¬ (60 + 24 * k ≤ r ∧ r < 80 + 24 * k) → c' r j = c r j := fun r j h1 h2 h3 => (uc r j h1).trans (t1 r j (by omega) (by omega))
  have cp : Cp (56 + 24 * k) 1 c c' := ⟨fun j hj => (uc _ _ (by omega)).trans (t2.1 j hj), fun i j h1 h2 => (uc _ _ (by omega)).trans (t2.2.1 i j h1 h2), fun i j h1 h2 => (uc _ _ (by omega)).trans (t2.2.2.1 i j h1 h2), fun i j h1 h2 => (uc _ _ (by omega)).trans (t2.2.2.2 i j h1 h2)⟩
  obtain ⟨hA, hB, hC, hD, hE⟩ := h
  refine ⟨hA.congr (fun r k hr => uu r k (by omega) (by omega) (by omega)) (fun r k hr => um r k (by omega) (by omega)), hB.congr (fun r k hr => uu r k (by omega) (by omega) (by omega)) (fun r k hr => um r k (by omega) (by omega)), hC.congr (fun r k hr => uu r k (by omega) (by omega) (by omega)) (fun r k hr => um r k (by omega) (by omega)), fun q hq => ?_, hE.congr (fun r k hr => uu r k (by omega) (by omega) (by omega)) (fun r k hr => um r k (by omega) (by omega))⟩
  by_cases hh : q = k
  · subst hh
    refine ⟨u0.trans u1.symm, Or.inr ⟨u0, ?_, ?_, hC.2.2.1.cp cp, Rfam.cp hC.2.2.1.1 hC.2.2.2 cp u2⟩⟩
    · rw [cp.1 0 (by omega), uu 1 0 (by omega) (by omega) (by omega)]
    · rw [cp.1 1 (by omega), uu 1 1 (by omega) (by omega) (by omega)]
  · exact (hD q hq).congr (fun r j hr => uu r j (by omega) (by omega) (by omega)) (fun r j hr => um r j (by omega) (by omega))
theorem Rel.backs (h : Rel c m) (hk : k < 2) (h1 : c 55 k ≠ 0) (e : d_17 1 (56 + 24 * k) c = some c') (um : ∀ r j, ¬ (r = 114 ∧ j < 98) → m' r j = m r j) (u2 : ∀ j, j < 98 → m' 114 (0 + j) = m 114 (98 * (k + 1) + j)) : Rel c' m' := by
  obtain ⟨t1, cp⟩ := t_17 (by omega) e
  obtain ⟨_, _, hC, hD, _⟩ := id h
  rcases (hD k hk).2 with q | ⟨q1, q2, q3, q4, q5⟩
  · exact absurd q h1
  · have e0 : c' 1 0 = c 1 0 := (cp.1 0 (by omega)).trans q2
    have e1 : c' 1 1 = c 1 1 := (cp.1 1 (by omega)).trans q3
    refine h.ofC ⟨?_, ?_, q4.cp cp, Rfam.cp q4.1 q5 cp u2⟩ e0 e1 (fun r j hr => t1 r j (by omega) (by omega)) (fun r j hr => um r j (by omega))
    · rw [e0, um 113 2 (by omega)]
      exact hC.1
    · rw [e1, um 113 3 (by omega)]
      exact hC.2.1
end RSH
