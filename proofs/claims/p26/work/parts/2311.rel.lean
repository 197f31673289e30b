/-! what holds between the class's memory c and the reference's memory m -/
def RA (c m : G) : Prop := c 28 1 = m 113 14 ∧ 0 ≤ (c 28 1).toInt ∧ (c 28 1).toInt ≤ 160 ∧ ∀ k : Nat, (k : Int) < (c 28 1).toInt → c 29 k = m 117 k ∧ 0 ≤ (c 29 k).toInt ∧ (c 29 k).toInt ≤ 127
def RB (c m : G) : Prop := c 28 2 = m 113 19
/-- the rows of a family at b against those of the reference from o on -/
def Rfam (b o : Nat) (c m : G) : Prop :=
  c b 2 = m 114 (o + 8) ∧ c b 3 = m 114 (o + 65) ∧
  (∀ p : Nat, (p : Int) < (c b 1).toInt → c (b + 4 + p) 0 = m 114 (o + p) ∧ c (b + 4 + p) 1 = m 114 (o + 4 + p)) ∧
  (∀ d : Nat, (d : Int) < (c b 2).toInt → ∀ j, j < 7 → c (b + 8 + d) j = m 114 (o + 9 + 7 * d + j)) ∧
  (∀ i : Nat, (i : Int) < (c b 3).toInt → ∀ j, j < 4 → c (b + 16 + i) j = m 114 (o + 66 + 4 * i + j))
def Wone (b p : Nat) (c : G) : Prop := 0 ≤ (c (b + 4 + p) 0).toInt ∧ (c (b + 4 + p) 0).toInt ≤ 2 ∧ 0 ≤ (c (b + 4 + p) 1).toInt ∧ (c (b + 4 + p) 1).toInt ≤ 63
def Wdeed (b d : Nat) (c : G) : Prop :=
  0 ≤ (c (b + 8 + d) 0).toInt ∧ (c (b + 8 + d) 0).toInt < (c b 0).toInt ∧ 0 ≤ (c (b + 8 + d) 1).toInt ∧ (c (b + 8 + d) 1).toInt < (c b 1).toInt ∧
  0 ≤ (c (b + 8 + d) 2).toInt ∧ (c (b + 8 + d) 2).toInt < (c b 1).toInt ∧ 0 ≤ (c (b + 8 + d) 3).toInt ∧ (c (b + 8 + d) 3).toInt ≤ 5 ∧
  0 ≤ (c (b + 8 + d) 4).toInt ∧ (c (b + 8 + d) 4).toInt ≤ 63 ∧ 0 ≤ (c (b + 8 + d) 5).toInt ∧ (c (b + 8 + d) 5).toInt ≤ 2 ∧
  0 ≤ (c (b + 8 + d) 6).toInt ∧ (c (b + 8 + d) 6).toInt ≤ 10
def Wseen (b i : Nat) (c : G) : Prop :=
  0 ≤ (c (b + 16 + i) 0).toInt ∧ (c (b + 16 + i) 0).toInt < (c b 1).toInt ∧ 0 ≤ (c (b + 16 + i) 1).toInt ∧ (c (b + 16 + i) 1).toInt ≤ 5 ∧
  0 ≤ (c (b + 16 + i) 2).toInt ∧ (c (b + 16 + i) 2).toInt < (c b 0).toInt ∧ 0 ≤ (c (b + 16 + i) 3).toInt ∧ (c (b + 16 + i) 3).toInt ≤ 1
def Wn (b : Nat) (c : G) : Prop :=
  2 ≤ (c b 0).toInt ∧ (c b 0).toInt ≤ 8 ∧ 0 ≤ (c b 1).toInt ∧ (c b 1).toInt ≤ 4 ∧ 0 ≤ (c b 2).toInt ∧ (c b 2).toInt ≤ 8 ∧ 0 ≤ (c b 3).toInt ∧ (c b 3).toInt ≤ 8
def Wfam (b : Nat) (c : G) : Prop :=
  Wn b c ∧ (∀ p : Nat, (p : Int) < (c b 1).toInt → Wone b p c) ∧ (∀ d : Nat, (d : Int) < (c b 2).toInt → Wdeed b d c) ∧ (∀ i : Nat, (i : Int) < (c b 3).toInt → Wseen b i c)
def RC (c m : G) : Prop := c 1 0 = m 113 2 ∧ c 1 1 = m 113 3 ∧ Wfam 1 c ∧ Rfam 1 0 c m
def RD1 (k : Nat) (c m : G) : Prop := c 55 k = m 115 k ∧ (c 55 k = 0 ∨ (c 55 k = 1 ∧ c (56 + 24 * k) 0 = c 1 0 ∧ c (56 + 24 * k) 1 = c 1 1 ∧ Wfam (56 + 24 * k) c ∧ Rfam (56 + 24 * k) (98 * (k + 1)) c m))
def RD (c m : G) : Prop := ∀ k : Nat, k < 2 → RD1 k c m
def RE1 (k : Nat) (c m : G) : Prop := ((c (105 + 2 * k) 0).toInt = -1 ∧ (m 119 k).toInt = -4) ∨
  (c (105 + 2 * k) 0 = m 120 k ∧ 0 ≤ (c (105 + 2 * k) 0).toInt ∧ (c (105 + 2 * k) 0).toInt ≤ 40 ∧ c (105 + 2 * k) 2 = m 119 k ∧ 0 ≤ (m 119 k).toInt ∧ (m 119 k).toInt ≤ 2 ∧ ∀ i : Nat, i < 40 → c (106 + 2 * k) i = m 121 (40 * k + i))
def RE (c m : G) : Prop := ∀ k : Nat, k < 4 → RE1 k c m
def Rel (c m : G) : Prop := RA c m ∧ RB c m ∧ RC c m ∧ RD c m ∧ RE c m
section RCONG
variable {c m c' m' : G} {b o : Nat}
theorem RA.congr (h : RA c m) (hc : ∀ r k, (r = 28 ∧ k = 1) ∨ r = 29 → c' r k = c r k) (hm : ∀ r k, (r = 113 ∧ k = 14) ∨ r = 117 → m' r k = m r k) : RA c' m' := by
  unfold RA at *
  rw [hc 28 1 (by omega), hm 113 14 (by omega)]
  refine ⟨h.1, h.2.1, h.2.2.1, fun k hk => ?_⟩
  rw [hc 29 k (by omega), hm 117 k (by omega)]
  exact h.2.2.2 k hk
theorem RB.congr (h : RB c m) (hc : ∀ r k, r = 28 ∧ k = 2 → c' r k = c r k) (hm : ∀ r k, r = 113 ∧ k = 19 → m' r k = m r k) : RB c' m' := by
  unfold RB at *
  rw [hc 28 2 (by omega), hm 113 19 (by omega)]
  exact h
theorem Rfam.congr (h : Rfam b o c m) (hc : ∀ r k, r = b ∨ (b + 4 ≤ r ∧ (r : Int) < b + 4 + (c b 1).toInt) ∨ (b + 8 ≤ r ∧ (r : Int) < b + 8 + (c b 2).toInt) ∨ (b + 16 ≤ r ∧ (r : Int) < b + 16 + (c b 3).toInt) → c' r k = c r k) (hm : ∀ k, o ≤ k → (k < o + 98 ∨ (k : Int) < o + 66 + 4 * (c b 3).toInt ∨ (k : Int) < o + 9 + 7 * (c b 2).toInt ∨ (k : Int) < o + 4 + (c b 1).toInt) → m' 114 k = m 114 k) : Rfam b o c' m' := by
  unfold Rfam at *
  rw [hc b 1 (by omega), hc b 2 (by omega), hc b 3 (by omega), hm (o + 8) (by omega) (by omega), hm (o + 65) (by omega) (by omega)]
  refine ⟨h.1, h.2.1, fun p hp => ?_, fun d hd j hj => ?_, fun i hi j hj => ?_⟩
  · rw [hc (b + 4 + p) 0 (by omega), hc (b + 4 + p) 1 (by omega), hm (o + p) (by omega) (by omega), hm (o + 4 + p) (by omega) (by omega)]
    exact h.2.2.1 p hp
  · rw [hc (b + 8 + d) j (by omega), hm (o + 9 + 7 * d + j) (by omega) (by omega)]
    exact h.2.2.2.1 d hd j hj
  · rw [hc (b + 16 + i) j (by omega), hm (o + 66 + 4 * i + j) (by omega) (by omega)]
    exact h.2.2.2.2 i hi j hj
theorem Wfam.congr (h : Wfam b c) (hc : ∀ r k, r = b ∨ (b + 4 ≤ r ∧ (r : Int) < b + 4 + (c b 1).toInt) ∨ (b + 8 ≤ r ∧ (r : Int) < b + 8 + (c b 2).toInt) ∨ (b + 16 ≤ r ∧ (r : Int) < b + 16 + (c b 3).toInt) → c' r k = c r k) : Wfam b c' := by
  unfold Wfam Wn Wone Wdeed Wseen at *
  rw [hc b 0 (by omega), hc b 1 (by omega), hc b 2 (by omega), hc b 3 (by omega)]
  refine ⟨h.1, fun p hp => ?_, fun d hd => ?_, fun i hi => ?_⟩
  · rw [hc (b + 4 + p) 0 (by omega), hc (b + 4 + p) 1 (by omega)]
    exact h.2.1 p hp
  · rw [hc (b + 8 + d) 0 (by omega), hc (b + 8 + d) 1 (by omega), hc (b + 8 + d) 2 (by omega), hc (b + 8 + d) 3 (by omega), hc (b + 8 + d) 4 (by omega), hc (b + 8 + d) 5 (by omega), hc (b + 8 + d) 6 (by omega)]
    exact h.2.2.1 d hd
  · rw [hc (b + 16 + i) 0 (by omega), hc (b + 16 + i) 1 (by omega), hc (b + 16 + i) 2 (by omega), hc (b + 16 + i) 3 (by omega)]
    exact h.2.2.2 i hi
theorem RC.congr (h : RC c m) (hc : ∀ r k, r = 1 ∨ (5 ≤ r ∧ r < 25) → c' r k = c r k) (hm : ∀ r k, (r = 113 ∧ (k = 2 ∨ k = 3)) ∨ (r = 114 ∧ k < 98) → m' r k = m r k) : RC c' m' := by
  obtain ⟨h1, h2, h3, h4⟩ := h
  have w := h3.1
  unfold Wn at w
  unfold RC
  rw [hc 1 0 (by omega), hc 1 1 (by omega), hm 113 2 (by omega), hm 113 3 (by omega)]
  exact ⟨h1, h2, h3.congr (fun r k hr => hc r k (by omega)), h4.congr (fun r k hr => hc r k (by omega)) (fun k h0 hk => hm 114 k (by omega))⟩
theorem RD1.congr {k : Nat} (q : RD1 k c m) (hc : ∀ r j, (r = 1 ∧ (j = 0 ∨ j = 1)) ∨ (r = 55 ∧ j = k) ∨ (56 + 24 * k ≤ r ∧ r < 80 + 24 * k) → c' r j = c r j) (hm : ∀ r j, (r = 115 ∧ j = k) ∨ (r = 114 ∧ 98 * (k + 1) ≤ j ∧ j < 98 * (k + 1) + 98) → m' r j = m r j) : RD1 k c' m' := by
  unfold RD1 at *
  rw [hc 55 k (by omega), hm 115 k (by omega)]
  refine ⟨q.1, ?_⟩
  rcases q.2 with q | ⟨q1, q2, q3, q4, q5⟩
  · exact Or.inl q
  · right
    have w := q4.1
    unfold Wn at w
    rw [hc (56 + 24 * k) 0 (by omega), hc (56 + 24 * k) 1 (by omega), hc 1 0 (by omega), hc 1 1 (by omega)]
    exact ⟨q1, q2, q3, q4.congr (fun r k hr => hc r k (by omega)), q5.congr (fun r k hr => hc r k (by omega)) (fun k h0 hk => hm 114 k (by omega))⟩
theorem RD.congr (h : RD c m) (hc : ∀ r k, (r = 1 ∧ (k = 0 ∨ k = 1)) ∨ (55 ≤ r ∧ r < 104) → c' r k = c r k) (hm : ∀ r k, r = 115 ∨ (r = 114 ∧ 98 ≤ k) → m' r k = m r k) : RD c' m' := fun k hk =>
  (h k hk).congr (fun r j hr => hc r j (by omega)) (fun r j hr => hm r j (by omega))
theorem RE1.congr {k : Nat} (h : RE1 k c m) (hc : ∀ r j, (r = 105 + 2 * k ∨ r = 106 + 2 * k) → c' r j = c r j) (hm : ∀ r j, (r = 119 ∧ j = k) ∨ (r = 120 ∧ j = k) ∨ (r = 121 ∧ 40 * k ≤ j ∧ j < 40 * k + 40) → m' r j = m r j) : RE1 k c' m' := by
  unfold RE1 at *
  rw [hc (105 + 2 * k) 0 (by omega), hm 119 k (by omega), hm 120 k (by omega), hc (105 + 2 * k) 2 (by omega)]
  rcases h with h | ⟨h1, h2, h3, h4, h5, h6, h7⟩
  · exact Or.inl h
  · refine Or.inr ⟨h1, h2, h3, h4, h5, h6, fun i hi => ?_⟩
    rw [hc (106 + 2 * k) i (by omega), hm 121 (40 * k + i) (by omega)]
    exact h7 i hi
theorem RE.congr (h : RE c m) (hc : ∀ r k, 105 ≤ r ∧ r < 113 → c' r k = c r k) (hm : ∀ r k, r = 119 ∨ r = 120 ∨ r = 121 → m' r k = m r k) : RE c' m' := fun k hk =>
  (h k hk).congr (fun r j hr => hc r j (by omega)) (fun r j hr => hm r j (by omega))
end RCONG
