/-! bits of an int -/
def zbit (x : Int32) (n : Nat) : Bool := x.toBitVec.getLsbD n
theorem zbit_ext {x y : Int32} (h : ∀ i, i < 32 → zbit x i = zbit y i) : x = y := by
  apply Int32.toBitVec_inj.mp
  apply BitVec.eq_of_getLsbD_eq
  intro i hi
  exact h i hi
theorem zbit_and (x y : Int32) (n : Nat) : zbit (x &&& y) n = (zbit x n && zbit y n) := by
  unfold zbit
  rw [Int32.toBitVec_and, BitVec.getLsbD_and]
theorem zbit_or (x y : Int32) (n : Nat) : zbit (x ||| y) n = (zbit x n || zbit y n) := by
  unfold zbit
  rw [Int32.toBitVec_or, BitVec.getLsbD_or]
theorem zbit_ge (x : Int32) {n : Nat} (h : 32 ≤ n) : zbit x n = false := BitVec.getLsbD_of_ge _ _ h
theorem zbit_0 (n : Nat) : zbit 0 n = false := by
  show (0 : BitVec 32).getLsbD n = false
  simp
theorem zbit_1 (n : Nat) : zbit 1 n = decide (n = 0) := by
  show (1#32).getLsbD n = _
  rw [BitVec.getLsbD_one]
  simp
set_option maxRecDepth 100000 in
theorem zbit_sm : ∀ n, n < 32 → ((Int32.ofNat n &&& 31).toBitVec.smod 32).toNat = n := by decide +kernel
theorem zbit_shr (x : Int32) {n : Nat} (hn : n < 32) : zbit (x >>> (Int32.ofNat n &&& 31)) 0 = zbit x n := by
  unfold zbit
  rw [Int32.toBitVec_shiftRight]
  rw [BitVec.sshiftRight_eq', BitVec.getLsbD_sshiftRight, zbit_sm n hn]
  simp [hn]
theorem zbit_test (x : Int32) {n : Nat} (hn : n < 32) : ((x >>> (Int32.ofNat n &&& 31)) &&& 1) = (bif zbit x n then 1 else 0) := by
  apply zbit_ext
  intro i hi
  rw [zbit_and, zbit_1]
  by_cases q : i = 0
  · subst q
    rw [zbit_shr x hn]
    cases hz : zbit x n <;> simp [zbit_0, zbit_1]
  · cases hz : zbit x n <;> simp [q, zbit_0, zbit_1]
theorem zbit_ti (x : Int32) {n : Nat} (hn : n < 32) : ((x >>> (Int32.ofNat n &&& 31)) &&& 1).toInt = (bif zbit x n then 1 else 0) := by
  rw [zbit_test x hn]
  cases zbit x n <;> rfl
set_option maxRecDepth 100000 in
theorem zbit_msk : ∀ n, n < 32 → ∀ i, i < 32 → zbit (((1 : Int32) <<< (Int32.ofNat n &&& 31)) ^^^ (-1)) i = decide (i ≠ n) := by decide +kernel
set_option maxRecDepth 100000 in
theorem zbit_shl : ∀ n, n < 32 → ∀ i, i < 32 → zbit ((1 : Int32) <<< (Int32.ofNat n &&& 31)) i = decide (i = n) := by decide +kernel
set_option maxRecDepth 100000 in
theorem zbit_shl0 : ∀ n, n < 32 → ((0 : Int32) <<< (Int32.ofNat n &&& 31)) = 0 := by decide +kernel
theorem zbit_255 : ∀ i, i < 32 → zbit 255 i = decide (i < 8) := by decide +kernel
theorem zbit_b8 {x : Int32} (h : ∀ i, zbit x i = true → i < 8) : 0 ≤ x.toInt ∧ x.toInt ≤ 255 := by
  have e : x &&& 255 = x := by
    apply zbit_ext
    intro i hi
    rw [zbit_and, zbit_255 i hi]
    cases hz : zbit x i with
    | false => rfl
    | true => simp [h i hz]
  have h1 : (255 : Int32).toInt = 255 := by decide
  have := zi_and (x := x) (y := 255) (by omega)
  rw [e] at this
  omega
theorem zb_clr {x : Int32} {n : Nat} (hx : 0 ≤ x.toInt) (hn : n < 32) (hb : zbit x n = true) : 0 ≤ (x &&& (((1 : Int32) <<< (Int32.ofNat n &&& 31)) ^^^ (-1))).toInt ∧ (x &&& (((1 : Int32) <<< (Int32.ofNat n &&& 31)) ^^^ (-1))).toInt < x.toInt := by
  have h1 := zi_and (x := ((1 : Int32) <<< (Int32.ofNat n &&& 31)) ^^^ (-1)) (y := x) hx
  rw [Int32.and_comm] at h1
  refine ⟨h1.1, ?_⟩
  rcases Int.lt_or_eq_of_le h1.2 with q | q
  · exact q
  · exfalso
    have e := Int32.toInt_inj.mp q
    have e2 : zbit (x &&& (((1 : Int32) <<< (Int32.ofNat n &&& 31)) ^^^ (-1))) n = zbit x n := by rw [e]
    rw [zbit_and, zbit_msk n hn n hn, hb] at e2
    simp at e2
theorem zb_nz {x : Int32} (h : x.toInt ≠ 0) : ∃ b, b < 32 ∧ zbit x b = true := by
  apply Classical.byContradiction
  intro q
  apply h
  have : x = 0 := by
    apply zbit_ext
    intro i hi
    rw [zbit_0]
    cases hz : zbit x i with
    | false => rfl
    | true => exact absurd ⟨i, hi, hz⟩ q
  rw [this]
  decide
theorem zb_or_lt {x y : Int32} (hx : ∀ i, zbit x i = true → i < 8) (hy : ∀ i, zbit y i = true → i < 8) (hd : ∀ i, zbit y i = true → zbit x i = false) (h0 : y.toInt ≠ 0) : x.toInt < (x ||| y).toInt := by
  have h1 : ∀ i, zbit (x ||| y) i = true → i < 8 := fun i hi => by
    rw [zbit_or] at hi
    cases hz : zbit x i with
    | true => exact hx i hz
    | false => rw [hz] at hi; exact hy i (by simpa using hi)
  have b1 := zbit_b8 h1
  have e : x = (x &&& (x ||| y)) := by
    apply zbit_ext
    intro i _
    rw [zbit_and, zbit_or]
    cases zbit x i <;> simp
  have h2 := zi_and (x := x) (y := x ||| y) b1.1
  rw [← e] at h2
  rcases Int.lt_or_eq_of_le h2.2 with q | q
  · exact q
  · exfalso
    have e := Int32.toInt_inj.mp q
    obtain ⟨b, hb, hb2⟩ := zb_nz h0
    have e2 : zbit x b = zbit (x ||| y) b := by rw [← e]
    rw [zbit_or, hb2, hd b hb2] at e2
    simp at e2
