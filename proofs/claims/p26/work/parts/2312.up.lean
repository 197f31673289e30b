/-! changes of the rows, on both sides -/
section RUP
variable {c m c' m' : G} {b o p d i j n : Nat} {v : Int32}
theorem Rfam.up1 (h : Rfam b o c m) (w : Wn b c) (hj : j < 2) (hp : p < 4) (uc : ∀ r k, ¬ (r = b + 4 + p ∧ k = j) → c' r k = c r k) (um : ∀ k, k ≠ o + 4 * j + p → m' 114 k = m 114 k) (he : c' (b + 4 + p) j = m' 114 (o + 4 * j + p)) : Rfam b o c' m' := by
  obtain ⟨r1, r2, r3, r4, r5⟩ := h
  unfold Wn at w
  unfold Rfam
  rw [uc b 1 (by omega), uc b 2 (by omega), uc b 3 (by omega), um (o + 8) (by omega), um (o + 65) (by omega)]
  refine ⟨r1, r2, fun q hq => ?_, fun d hd i hi => ?_, fun s hs i hi => ?_⟩
  · have q3 := r3 q hq
    constructor
    · by_cases hh : q = p ∧ j = 0
      · obtain ⟨rfl, rfl⟩ := hh
        exact he
      · rw [uc _ _ (by omega), um _ (by omega)]
        exact q3.1
    · by_cases hh : q = p ∧ j = 1
      · obtain ⟨rfl, rfl⟩ := hh
        exact he
      · rw [uc _ _ (by omega), um _ (by omega)]
        exact q3.2
  · rw [uc _ _ (by omega), um _ (by omega)]
    exact r4 d hd i hi
  · rw [uc _ _ (by omega), um _ (by omega)]
    exact r5 s hs i hi
theorem Rfam.up2 (h : Rfam b o c m) (w : Wn b c) (hj : j < 7) (hd8 : d < 8) (uc : ∀ r k, ¬ (r = b + 8 + d ∧ k = j) → c' r k = c r k) (um : ∀ k, k ≠ o + 9 + 7 * d + j → m' 114 k = m 114 k) (he : c' (b + 8 + d) j = m' 114 (o + 9 + 7 * d + j)) : Rfam b o c' m' := by
  obtain ⟨r1, r2, r3, r4, r5⟩ := h
  unfold Wn at w
  unfold Rfam
  rw [uc b 1 (by omega), uc b 2 (by omega), uc b 3 (by omega), um (o + 8) (by omega), um (o + 65) (by omega)]
  refine ⟨r1, r2, fun q hq => ?_, fun q hq i hi => ?_, fun s hs i hi => ?_⟩
  · rw [uc _ _ (by omega), uc _ _ (by omega), um _ (by omega), um _ (by omega)]
    exact r3 q hq
  · by_cases hh : q = d ∧ i = j
    · obtain ⟨rfl, rfl⟩ := hh
      exact he
    · rw [uc _ _ (by omega), um _ (by omega)]
      exact r4 q hq i hi
  · rw [uc _ _ (by omega), um _ (by omega)]
    exact r5 s hs i hi
theorem Rfam.app2 (h : Rfam b o c m) (w : Wn b c) (hn : (c b 2).toInt = n) (h8 : n < 8) (uc : ∀ r k, r ≠ b + 8 + n → ¬ (r = b ∧ k = 2) → c' r k = c r k) (um : ∀ k, ¬ (o + 9 + 7 * n ≤ k ∧ k < o + 16 + 7 * n) → k ≠ o + 8 → m' 114 k = m 114 k) (he : ∀ j, j < 7 → c' (b + 8 + n) j = m' 114 (o + 9 + 7 * n + j)) (hc : (c' b 2).toInt = n + 1) (hc2 : c' b 2 = m' 114 (o + 8)) : Rfam b o c' m' := by
  obtain ⟨r1, r2, r3, r4, r5⟩ := h
  unfold Wn at w
  unfold Rfam
  rw [uc b 1 (by omega) (by omega), uc b 3 (by omega) (by omega), um (o + 65) (by omega) (by omega), hc]
  refine ⟨hc2, r2, fun q hq => ?_, fun q hq i hi => ?_, fun s hs i hi => ?_⟩
  · rw [uc _ _ (by omega) (by omega), uc _ _ (by omega) (by omega), um _ (by omega) (by omega), um _ (by omega) (by omega)]
    exact r3 q hq
  · by_cases hh : q = n
    · subst hh
      exact he i hi
    · rw [uc _ _ (by omega) (by omega), um _ (by omega) (by omega)]
      exact r4 q (by omega) i hi
  · rw [uc _ _ (by omega) (by omega), um _ (by omega) (by omega)]
    exact r5 s hs i hi
theorem Rfam.app3 (h : Rfam b o c m) (w : Wn b c) (hn : (c b 3).toInt = n) (h8 : n < 8) (uc : ∀ r k, r ≠ b + 16 + n → ¬ (r = b ∧ k = 3) → c' r k = c r k) (um : ∀ k, ¬ (o + 66 + 4 * n ≤ k ∧ k < o + 70 + 4 * n) → k ≠ o + 65 → m' 114 k = m 114 k) (he : ∀ j, j < 4 → c' (b + 16 + n) j = m' 114 (o + 66 + 4 * n + j)) (hc : (c' b 3).toInt = n + 1) (hc2 : c' b 3 = m' 114 (o + 65)) : Rfam b o c' m' := by
  obtain ⟨r1, r2, r3, r4, r5⟩ := h
  unfold Wn at w
  unfold Rfam
  rw [uc b 1 (by omega) (by omega), uc b 2 (by omega) (by omega), um (o + 8) (by omega) (by omega), hc]
  refine ⟨r1, hc2, fun q hq => ?_, fun q hq i hi => ?_, fun s hs i hi => ?_⟩
  · rw [uc _ _ (by omega) (by omega), uc _ _ (by omega) (by omega), um _ (by omega) (by omega), um _ (by omega) (by omega)]
    exact r3 q hq
  · rw [uc _ _ (by omega) (by omega), um _ (by omega) (by omega)]
    exact r4 q hq i hi
  · by_cases hh : s = n
    · subst hh
      exact he i hi
    · rw [uc _ _ (by omega) (by omega), um _ (by omega) (by omega)]
      exact r5 s (by omega) i hi
theorem Wfam.up1 (h : Wfam b c) (hp : p < 4) (uc : ∀ r k, r ≠ b + 4 + p → c' r k = c r k) (hW : Wone b p c') : Wfam b c' := by
  obtain ⟨w, w2, w3, w4⟩ := h
  have w1 := w
  unfold Wn at w1
  refine ⟨?_, fun q hq => ?_, fun d hd => ?_, fun i hi => ?_⟩
  · unfold Wn
    rw [uc b 0 (by omega), uc b 1 (by omega), uc b 2 (by omega), uc b 3 (by omega)]
    exact w
  · rw [uc b 1 (by omega)] at hq
    by_cases hh : q = p
    · subst hh
      exact hW
    · have := w2 q hq
      unfold Wone at *
      rw [uc _ _ (by omega), uc _ _ (by omega)]
      exact this
  · rw [uc b 2 (by omega)] at hd
    have := w3 d hd
    unfold Wdeed at *
    rw [uc b 0 (by omega), uc b 1 (by omega), uc (b + 8 + d) 0 (by omega), uc (b + 8 + d) 1 (by omega), uc (b + 8 + d) 2 (by omega), uc (b + 8 + d) 3 (by omega), uc (b + 8 + d) 4 (by omega), uc (b + 8 + d) 5 (by omega), uc (b + 8 + d) 6 (by omega)]
    exact this
  · rw [uc b 3 (by omega)] at hi
    have := w4 i hi
    unfold Wseen at *
    rw [uc b 0 (by omega), uc b 1 (by omega), uc (b + 16 + i) 0 (by omega), uc (b + 16 + i) 1 (by omega), uc (b + 16 + i) 2 (by omega), uc (b + 16 + i) 3 (by omega)]
    exact this
theorem Wfam.up2 (h : Wfam b c) (hd8 : d < 8) (uc : ∀ r k, r ≠ b + 8 + d → ¬ (r = b ∧ k = 2) → c' r k = c r k) (hn : 0 ≤ (c' b 2).toInt ∧ (c' b 2).toInt ≤ 8) (hle : ∀ q : Nat, (q : Int) < (c' b 2).toInt → q ≠ d → (q : Int) < (c b 2).toInt) (hW : Wdeed b d c') : Wfam b c' := by
  obtain ⟨w, w2, w3, w4⟩ := h
  have w1 := w
  unfold Wn at w1
  refine ⟨?_, fun q hq => ?_, fun q hq => ?_, fun i hi => ?_⟩
  · unfold Wn
    rw [uc b 0 (by omega) (by omega), uc b 1 (by omega) (by omega), uc b 3 (by omega) (by omega)]
    omega
  · rw [uc b 1 (by omega) (by omega)] at hq
    have := w2 q hq
    unfold Wone at *
    rw [uc _ _ (by omega) (by omega), uc _ _ (by omega) (by omega)]
    exact this
  · by_cases hh : q = d
    · subst hh
      exact hW
    · have := w3 q (hle q hq hh)
      unfold Wdeed at *
      rw [uc b 0 (by omega) (by omega), uc b 1 (by omega) (by omega), uc (b + 8 + q) 0 (by omega) (by omega), uc (b + 8 + q) 1 (by omega) (by omega), uc (b + 8 + q) 2 (by omega) (by omega), uc (b + 8 + q) 3 (by omega) (by omega), uc (b + 8 + q) 4 (by omega) (by omega), uc (b + 8 + q) 5 (by omega) (by omega), uc (b + 8 + q) 6 (by omega) (by omega)]
      exact this
  · rw [uc b 3 (by omega) (by omega)] at hi
    have := w4 i hi
    unfold Wseen at *
    rw [uc b 0 (by omega) (by omega), uc b 1 (by omega) (by omega), uc (b + 16 + i) 0 (by omega) (by omega), uc (b + 16 + i) 1 (by omega) (by omega), uc (b + 16 + i) 2 (by omega) (by omega), uc (b + 16 + i) 3 (by omega) (by omega)]
    exact this
theorem Wfam.up3 (h : Wfam b c) (hd8 : d < 8) (uc : ∀ r k, r ≠ b + 16 + d → ¬ (r = b ∧ k = 3) → c' r k = c r k) (hn : 0 ≤ (c' b 3).toInt ∧ (c' b 3).toInt ≤ 8) (hle : ∀ q : Nat, (q : Int) < (c' b 3).toInt → q ≠ d → (q : Int) < (c b 3).toInt) (hW : (d : Int) < (c' b 3).toInt → Wseen b d c') : Wfam b c' := by
  obtain ⟨w, w2, w3, w4⟩ := h
  have w1 := w
  unfold Wn at w1
  refine ⟨?_, fun q hq => ?_, fun q hq => ?_, fun i hi => ?_⟩
  · unfold Wn
    rw [uc b 0 (by omega) (by omega), uc b 1 (by omega) (by omega), uc b 2 (by omega) (by omega)]
    omega
  · rw [uc b 1 (by omega) (by omega)] at hq
    have := w2 q hq
    unfold Wone at *
    rw [uc _ _ (by omega) (by omega), uc _ _ (by omega) (by omega)]
    exact this
  · rw [uc b 2 (by omega) (by omega)] at hq
    have := w3 q hq
    unfold Wdeed at *
    rw [uc b 0 (by omega) (by omega), uc b 1 (by omega) (by omega), uc (b + 8 + q) 0 (by omega) (by omega), uc (b + 8 + q) 1 (by omega) (by omega), uc (b + 8 + q) 2 (by omega) (by omega), uc (b + 8 + q) 3 (by omega) (by omega), uc (b + 8 + q) 4 (by omega) (by omega), uc (b + 8 + q) 5 (by omega) (by omega), uc (b + 8 + q) 6 (by omega) (by omega)]
    exact this
  · by_cases hh : i = d
    · subst hh
      exact hW hi
    · have := w4 i (hle i hi hh)
      unfold Wseen at *
      rw [uc b 0 (by omega) (by omega), uc b 1 (by omega) (by omega), uc (b + 16 + i) 0 (by omega) (by omega), uc (b + 16 + i) 1 (by omega) (by omega), uc (b + 16 + i) 2 (by omega) (by omega), uc (b + 16 + i) 3 (by omega) (by omega)]
      exact this
/-- all but the rows that stand -/
theorem Rel.ofC (h : Rel c m) (hC : RC c' m') (h0 : c' 1 0 = c 1 0) (h1 : c' 1 1 = c 1 1) (uc : ∀ r k, ¬ (1 ≤ r ∧ r < 25) → c' r k = c r k) (um : ∀ r k, ¬ (r = 114 ∧ k < 98) → m' r k = m r k) : Rel c' m' := by
  obtain ⟨hA, hB, _, hD, hE⟩ := h
  refine ⟨hA.congr (fun r k hr => uc r k (by omega)) (fun r k hr => um r k (by omega)), hB.congr (fun r k hr => uc r k (by omega)) (fun r k hr => um r k (by omega)), hC, ?_, hE.congr (fun r k hr => uc r k (by omega)) (fun r k hr => um r k (by omega))⟩
  refine hD.congr (fun r k hr => ?_) (fun r k hr => um r k (by omega))
  rcases hr with ⟨rfl, rfl | rfl⟩ | hr
  · exact h0
  · exact h1
  · exact uc r k (by omega)
theorem Rel.up1 (h : Rel c m) (hj : j < 2) (hp : (p : Int) < (c 1 1).toInt) (hq : n = 4 * j + p) (hv : (j = 0 → 0 ≤ v.toInt ∧ v.toInt ≤ 2) ∧ (j = 1 → 0 ≤ v.toInt ∧ v.toInt ≤ 63)) : Rel (zg_up c (5 + p) j v) (zg_up m 114 n v) := by
  subst hq
  have h0 := h
  obtain ⟨hA, hB, ⟨h1, h2, w, r⟩, hD, hE⟩ := h
  have wn := w.1
  unfold Wn at wn
  have uc : ∀ r k, ¬ (r = 5 + p ∧ k = j) → zg_up c (5 + p) j v r k = c r k := fun r k hn => zg_un hn
  have um : ∀ r k, ¬ (r = 114 ∧ k = 4 * j + p) → zg_up m 114 (4 * j + p) v r k = m r k := fun r k hn => zg_un hn
  have ec : zg_up c (5 + p) j v (5 + p) j = v := zg_ue
  have em : zg_up m 114 (4 * j + p) v 114 (4 * j + p) = v := zg_ue
  generalize zg_up c (5 + p) j v = c' at *
  generalize zg_up m 114 (4 * j + p) v = m' at *
  refine h0.ofC ⟨?_, ?_, w.up1 (p := p) (by omega) (fun r k hr => uc r k (by omega)) ?_, r.up1 (p := p) w.1 hj (by omega) (fun r k hr => uc r k (by omega)) (fun k hk => um 114 k (by omega)) ?_⟩ (uc 1 0 (by omega)) (uc 1 1 (by omega)) (fun r k hr => uc r k (by omega)) (fun r k hr => um r k (by omega))
  · rw [uc 1 0 (by omega), um 113 2 (by omega)]
    exact h1
  · rw [uc 1 1 (by omega), um 113 3 (by omega)]
    exact h2
  · have := w.2.1 p hp
    unfold Wone at *
    by_cases hj0 : j = 0
    · subst hj0
      rw [show c' (1 + 4 + p) 0 = v from ec, uc (1 + 4 + p) 1 (by omega)]
      have := hv.1 rfl
      omega
    · obtain rfl : j = 1 := by omega
      rw [show c' (1 + 4 + p) 1 = v from ec, uc (1 + 4 + p) 0 (by omega)]
      have := hv.2 rfl
      omega
  · rw [show 0 + 4 * j + p = 4 * j + p by omega, em]
    exact ec
theorem Rel.up2 (h : Rel c m) (hj : j < 7) (hp : (d : Int) < (c 1 2).toInt) (hq : n = 9 + 7 * d + j) (hv : j = 0 ∧ 0 ≤ v.toInt ∧ v.toInt < (c 1 0).toInt ∨ j = 5 ∧ 0 ≤ v.toInt ∧ v.toInt ≤ 2 ∨ j = 6 ∧ 0 ≤ v.toInt ∧ v.toInt ≤ 10) : Rel (zg_up c (9 + d) j v) (zg_up m 114 n v) := by
  subst hq
  have h0 := h
  obtain ⟨hA, hB, ⟨h1, h2, w, r⟩, hD, hE⟩ := h
  have wn := w.1
  unfold Wn at wn
  have uc : ∀ r k, ¬ (r = 9 + d ∧ k = j) → zg_up c (9 + d) j v r k = c r k := fun r k hn => zg_un hn
  have um : ∀ r k, ¬ (r = 114 ∧ k = 9 + 7 * d + j) → zg_up m 114 (9 + 7 * d + j) v r k = m r k := fun r k hn => zg_un hn
  have ec : zg_up c (9 + d) j v (9 + d) j = v := zg_ue
  have em : zg_up m 114 (9 + 7 * d + j) v 114 (9 + 7 * d + j) = v := zg_ue
  generalize zg_up c (9 + d) j v = c' at *
  generalize zg_up m 114 (9 + 7 * d + j) v = m' at *
  have u2 : c' 1 2 = c 1 2 := uc 1 2 (by omega)
  refine h0.ofC ⟨?_, ?_, w.up2 (d := d) (by omega) (fun r k hr _ => uc r k (by omega)) (by rw [u2]; omega) (fun q hq _ => by rw [u2] at hq; exact hq) ?_, r.up2 (d := d) w.1 hj (by omega) (fun r k hr => uc r k (by omega)) (fun k hk => um 114 k (by omega)) ?_⟩ (uc 1 0 (by omega)) (uc 1 1 (by omega)) (fun r k hr => uc r k (by omega)) (fun r k hr => um r k (by omega))
  · rw [uc 1 0 (by omega), um 113 2 (by omega)]
    exact h1
  · rw [uc 1 1 (by omega), um 113 3 (by omega)]
    exact h2
  · have := w.2.2.1 d hp
    unfold Wdeed at *
    rw [uc 1 0 (by omega), uc 1 1 (by omega), uc (1 + 8 + d) 1 (by omega), uc (1 + 8 + d) 2 (by omega), uc (1 + 8 + d) 3 (by omega), uc (1 + 8 + d) 4 (by omega)]
    rcases hv with ⟨rfl, hv⟩ | ⟨rfl, hv⟩ | ⟨rfl, hv⟩
    · rw [show c' (1 + 8 + d) 0 = v from ec, uc (1 + 8 + d) 5 (by omega), uc (1 + 8 + d) 6 (by omega)]
      omega
    · rw [show c' (1 + 8 + d) 5 = v from ec, uc (1 + 8 + d) 0 (by omega), uc (1 + 8 + d) 6 (by omega)]
      omega
    · rw [show c' (1 + 8 + d) 6 = v from ec, uc (1 + 8 + d) 0 (by omega), uc (1 + 8 + d) 5 (by omega)]
      omega
  · rw [show 0 + 9 + 7 * d + j = 9 + 7 * d + j by omega, em]
    exact ec
end RUP
