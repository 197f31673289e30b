/-! the plain changes -/
section RWR
variable {c m c' m' : G} {p d i j k n : Nat} {v x y : Int32}
theorem Rel.nums (h : Rel c m) : ((c 1 0).toInt = (m 113 2).toInt ∧ (c 1 1).toInt = (m 113 3).toInt ∧ (c 1 2).toInt = (m 114 8).toInt ∧ (c 1 3).toInt = (m 114 65).toInt ∧ (c 28 1).toInt = (m 113 14).toInt) ∧ (2 ≤ (c 1 0).toInt ∧ (c 1 0).toInt ≤ 8 ∧ 0 ≤ (c 1 1).toInt ∧ (c 1 1).toInt ≤ 4 ∧ 0 ≤ (c 1 2).toInt ∧ (c 1 2).toInt ≤ 8 ∧ 0 ≤ (c 1 3).toInt ∧ (c 1 3).toInt ≤ 8) ∧ 0 ≤ (c 28 1).toInt ∧ (c 28 1).toInt ≤ 160 := by
  obtain ⟨hA, hB, ⟨h1, h2, w, r⟩, hD, hE⟩ := h
  exact ⟨⟨congrArg Int32.toInt h1, congrArg Int32.toInt h2, congrArg Int32.toInt r.1, congrArg Int32.toInt r.2.1, congrArg Int32.toInt hA.1⟩, w.1, hA.2.1, hA.2.2.1⟩
theorem Rel.ones (h : Rel c m) (hp : (p : Int) < (c 1 1).toInt) : c (5 + p) 0 = m 114 p ∧ c (5 + p) 1 = m 114 (4 + p) := by
  have q := h.2.2.1.2.2.2.2.2.1 p hp
  rw [show 0 + p = p by omega, show 0 + 4 + p = 4 + p by omega] at q
  exact q
theorem Rel.deeds (h : Rel c m) (hp : (d : Int) < (c 1 2).toInt) (hj : j < 7) : c (9 + d) j = m 114 (9 + 7 * d + j) := by
  have q := h.2.2.1.2.2.2.2.2.2.1 d hp j hj
  rw [show 0 + 9 + 7 * d + j = 9 + 7 * d + j by omega] at q
  exact q
theorem Rel.seens (h : Rel c m) (hp : (i : Int) < (c 1 3).toInt) (hj : j < 4) : c (17 + i) j = m 114 (66 + 4 * i + j) := by
  have q := h.2.2.1.2.2.2.2.2.2.2 i hp j hj
  rw [show 0 + 66 + 4 * i + j = 66 + 4 * i + j by omega] at q
  exact q
theorem Rel.wone (h : Rel c m) (hp : (p : Int) < (c 1 1).toInt) : 0 ≤ (c (5 + p) 0).toInt ∧ (c (5 + p) 0).toInt ≤ 2 ∧ 0 ≤ (c (5 + p) 1).toInt ∧ (c (5 + p) 1).toInt ≤ 63 := h.2.2.1.2.2.1.2.1 p hp
theorem Rel.wdeed (h : Rel c m) (hp : (d : Int) < (c 1 2).toInt) : 0 ≤ (c (9 + d) 0).toInt ∧ (c (9 + d) 0).toInt < (c 1 0).toInt ∧ 0 ≤ (c (9 + d) 1).toInt ∧ (c (9 + d) 1).toInt < (c 1 1).toInt ∧ 0 ≤ (c (9 + d) 2).toInt ∧ (c (9 + d) 2).toInt < (c 1 1).toInt ∧ 0 ≤ (c (9 + d) 3).toInt ∧ (c (9 + d) 3).toInt ≤ 5 ∧ 0 ≤ (c (9 + d) 4).toInt ∧ (c (9 + d) 4).toInt ≤ 63 ∧ 0 ≤ (c (9 + d) 5).toInt ∧ (c (9 + d) 5).toInt ≤ 2 ∧ 0 ≤ (c (9 + d) 6).toInt ∧ (c (9 + d) 6).toInt ≤ 10 := h.2.2.1.2.2.1.2.2.1 d hp
theorem Rel.wseen (h : Rel c m) (hp : (i : Int) < (c 1 3).toInt) : 0 ≤ (c (17 + i) 0).toInt ∧ (c (17 + i) 0).toInt < (c 1 1).toInt ∧ 0 ≤ (c (17 + i) 1).toInt ∧ (c (17 + i) 1).toInt ≤ 5 ∧ 0 ≤ (c (17 + i) 2).toInt ∧ (c (17 + i) 2).toInt < (c 1 0).toInt ∧ 0 ≤ (c (17 + i) 3).toInt ∧ (c (17 + i) 3).toInt ≤ 1 := h.2.2.1.2.2.1.2.2.2 i hp
/-- all but THE TAPE -/
theorem Rel.ofA (h : Rel c m) (hA : RA c' m') (uc : ∀ r k, ¬ (r = 28 ∧ k = 1) → r ≠ 29 → c' r k = c r k) (um : ∀ r k, ¬ (r = 113 ∧ k = 14) → r ≠ 117 → m' r k = m r k) : Rel c' m' := by
  obtain ⟨_, hB, hC, hD, hE⟩ := h
  exact ⟨hA, hB.congr (fun r k hr => uc r k (by omega) (by omega)) (fun r k hr => um r k (by omega) (by omega)), hC.congr (fun r k hr => uc r k (by omega) (by omega)) (fun r k hr => um r k (by omega) (by omega)), hD.congr (fun r k hr => uc r k (by omega) (by omega)) (fun r k hr => um r k (by omega) (by omega)), hE.congr (fun r k hr => uc r k (by omega) (by omega)) (fun r k hr => um r k (by omega) (by omega))⟩
theorem zi_b7 (h : 0 ≤ x.toInt ∧ x.toInt ≤ 127) : zm_nar 1 ((Int32.toInt8 x).toInt32) = x := by
  have e := zi_nat (x := x) (n := x.toInt.toNat) (by omega)
  have hn : x.toInt.toNat < 128 := by omega
  generalize x.toInt.toNat = n at e hn
  subst e
  revert n
  decide +kernel
theorem Rel.feed (h : Rel c m) (hk : (k : Int) = (c 28 1).toInt) (h2 : k < 160) (hx : 0 ≤ x.toInt ∧ x.toInt ≤ 127) (hy : y.toInt = k + 1) : Rel (zg_up (zg_up c 29 k x) 28 1 y) (zg_up (zg_up m 117 k x) 113 14 y) := by
  refine h.ofA ⟨rfl, ?_, ?_, fun q hq => ?_⟩ (fun r k h1 h2 => (zg_un (by omega)).trans (zg_un (by omega))) (fun r k h1 h2 => (zg_un (by omega)).trans (zg_un (by omega)))
  · show 0 ≤ y.toInt
    omega
  · show y.toInt ≤ 160
    omega
  · have hq : (q : Int) < y.toInt := hq
    rw [zg_un (r := 29) (by omega), zg_un (r := 117) (by omega)]
    by_cases hh : q = k
    · subst hh
      rw [zg_ue, zg_ue]
      exact ⟨rfl, hx⟩
    · rw [zg_un (by omega), zg_un (by omega)]
      exact h.1.2.2.2 q (by omega)
theorem Rel.len (h : Rel c m) (hx : 0 ≤ x.toInt ∧ x.toInt ≤ (c 28 1).toInt) : Rel (zg_up c 28 1 x) (zg_up m 113 14 x) := by
  have hA := h.1
  refine h.ofA ⟨rfl, ?_, ?_, fun q hq => ?_⟩ (fun r k h1 h2 => zg_un (by omega)) (fun r k h1 h2 => zg_un (by omega))
  · exact hx.1
  · have := hA.2.2.1
    show x.toInt ≤ 160
    omega
  · have hq : (q : Int) < x.toInt := hq
    rw [zg_un (r := 29) (by omega), zg_un (r := 117) (by omega)]
    exact hA.2.2.2 q (by omega)
theorem Rel.does (h : Rel c m) (hn : (c 1 2).toInt = n) (h8 : n < 8) (uc : ∀ r k, r ≠ 9 + n → ¬ (r = 1 ∧ k = 2) → c' r k = c r k) (um : ∀ r k, ¬ (r = 114 ∧ 9 + 7 * n ≤ k ∧ k < 16 + 7 * n) → ¬ (r = 114 ∧ k = 8) → m' r k = m r k) (he : ∀ j, j < 7 → c' (9 + n) j = m' 114 (9 + 7 * n + j)) (hc : c' 1 2 = m' 114 8) (hc1 : (c' 1 2).toInt = n + 1) (hW : Wdeed 1 n c') : Rel c' m' := by
  have h0 := h
  obtain ⟨hA, hB, ⟨h1, h2, w, r⟩, hD, hE⟩ := h
  refine h0.ofC ⟨?_, ?_, w.up2 (d := n) h8 (fun r k h1 h2 => uc r k (by omega) (by omega)) (by omega) (fun q hq hh => by omega) hW, r.app2 w.1 hn h8 (fun r k h1 h2 => uc r k (by omega) (by omega)) (fun k h1 h2 => um 114 k (by omega) (by omega)) ?_ hc1 hc⟩ (uc 1 0 (by omega) (by omega)) (uc 1 1 (by omega) (by omega)) (fun r k hr => uc r k (by omega) (by omega)) (fun r k hr => um r k (by omega) (by omega))
  · rw [uc 1 0 (by omega) (by omega), um 113 2 (by omega) (by omega)]
    exact h1
  · rw [uc 1 1 (by omega) (by omega), um 113 3 (by omega) (by omega)]
    exact h2
  · intro j hj
    rw [show 0 + 9 + 7 * n + j = 9 + 7 * n + j by omega]
    exact he j hj
theorem Rel.sees (h : Rel c m) (hn : (c 1 3).toInt = n) (h8 : n < 8) (uc : ∀ r k, r ≠ 17 + n → ¬ (r = 1 ∧ k = 3) → c' r k = c r k) (um : ∀ r k, ¬ (r = 114 ∧ 66 + 4 * n ≤ k ∧ k < 70 + 4 * n) → ¬ (r = 114 ∧ k = 65) → m' r k = m r k) (he : ∀ j, j < 4 → c' (17 + n) j = m' 114 (66 + 4 * n + j)) (hc : c' 1 3 = m' 114 65) (hc1 : (c' 1 3).toInt = n + 1) (hW : Wseen 1 n c') : Rel c' m' := by
  have h0 := h
  obtain ⟨hA, hB, ⟨h1, h2, w, r⟩, hD, hE⟩ := h
  refine h0.ofC ⟨?_, ?_, w.up3 (d := n) h8 (fun r k h1 h2 => uc r k (by omega) (by omega)) (by omega) (fun q hq hh => by omega) (fun _ => hW), r.app3 w.1 hn h8 (fun r k h1 h2 => uc r k (by omega) (by omega)) (fun k h1 h2 => um 114 k (by omega) (by omega)) ?_ hc1 hc⟩ (uc 1 0 (by omega) (by omega)) (uc 1 1 (by omega) (by omega)) (fun r k hr => uc r k (by omega) (by omega)) (fun r k hr => um r k (by omega) (by omega))
  · rw [uc 1 0 (by omega) (by omega), um 113 2 (by omega) (by omega)]
    exact h1
  · rw [uc 1 1 (by omega) (by omega), um 113 3 (by omega) (by omega)]
    exact h2
  · intro j hj
    rw [show 0 + 66 + 4 * n + j = 66 + 4 * n + j by omega]
    exact he j hj
theorem Rel.forgets (h : Rel c m) (hx : 0 ≤ x.toInt ∧ x.toInt ≤ (c 1 3).toInt) : Rel (zg_up c 1 3 x) (zg_up m 114 65 x) := by
  have h0 := h
  obtain ⟨hA, hB, ⟨h1, h2, w, r⟩, hD, hE⟩ := h
  have wn := w.1
  unfold Wn at wn
  have uc : ∀ r k, ¬ (r = 1 ∧ k = 3) → zg_up c 1 3 x r k = c r k := fun r k hn => zg_un hn
  have um : ∀ r k, ¬ (r = 114 ∧ k = 65) → zg_up m 114 65 x r k = m r k := fun r k hn => zg_un hn
  have ec : zg_up c 1 3 x 1 3 = x := zg_ue
  have em : zg_up m 114 65 x 114 65 = x := zg_ue
  generalize zg_up c 1 3 x = c' at *
  generalize zg_up m 114 65 x = m' at *
  refine h0.ofC ⟨?_, ?_, w.up3 (d := 7) (by omega) (fun r k h1 h2 => uc r k (by omega)) (by rw [ec]; omega) (fun q hq hh => by rw [ec] at hq; omega) (fun q => ?_), ?_⟩ (uc 1 0 (by omega)) (uc 1 1 (by omega)) (fun r k hr => uc r k (by omega)) (fun r k hr => um r k (by omega))
  · rw [uc 1 0 (by omega), um 113 2 (by omega)]
    exact h1
  · rw [uc 1 1 (by omega), um 113 3 (by omega)]
    exact h2
  · rw [ec] at q
    have := w.2.2.2 7 (by omega)
    unfold Wseen at *
    rw [uc 1 0 (by omega), uc 1 1 (by omega), uc (1 + 16 + 7) 0 (by omega), uc (1 + 16 + 7) 1 (by omega), uc (1 + 16 + 7) 2 (by omega), uc (1 + 16 + 7) 3 (by omega)]
    exact this
  · obtain ⟨r1, r2, r3, r4, r5⟩ := r
    unfold Rfam
    rw [ec, uc 1 1 (by omega), uc 1 2 (by omega), um 114 (0 + 8) (by omega), show m' 114 (0 + 65) = x from em]
    refine ⟨r1, rfl, fun q hq => ?_, fun q hq i hi => ?_, fun s hs i hi => ?_⟩
    · rw [uc _ _ (by omega), uc _ _ (by omega), um _ _ (by omega), um _ _ (by omega)]
      exact r3 q hq
    · rw [uc _ _ (by omega), um _ _ (by omega)]
      exact r4 q hq i hi
    · rw [uc _ _ (by omega), um _ _ (by omega)]
      exact r5 s (by omega) i hi
end RWR
