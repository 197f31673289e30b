/-! the text: what has been told, on both sides -/
def D1 (c m : G) : Prop := (c 30 0 = m 113 5 ∧ c 30 1 = m 113 6 ∧ c 30 2 = m 116 8 ∧ c 28 5 = m 113 7 ∧ c 28 6 = m 113 8 ∧ c 28 7 = m 113 9 ∧ c 30 3 = m 116 65) ∧
  (2 ≤ (c 30 0).toInt ∧ (c 30 0).toInt ≤ 8 ∧ 0 ≤ (c 30 1).toInt ∧ (c 30 1).toInt ≤ 4 ∧ 0 ≤ (c 30 2).toInt ∧ (c 30 2).toInt ≤ 8 ∧ (c 30 3).toInt = 0) ∧ (c 28 5 = 0 ∨ c 28 5 = 1)
def D2 (c m : G) : Prop := ∀ p : Nat, (p : Int) < (c 30 1).toInt → c (34 + p) 0 = m 116 p ∧ c (34 + p) 1 = m 116 (4 + p) ∧ 0 ≤ (c (34 + p) 0).toInt ∧ (c (34 + p) 0).toInt ≤ 2 ∧ 0 ≤ (c (34 + p) 1).toInt ∧ (c (34 + p) 1).toInt ≤ 63
def D3 (c m : G) : Prop := ∀ d : Nat, (d : Int) < (c 30 2).toInt → (∀ j, j < 5 → c (38 + d) j = m 116 (9 + 7 * d + j)) ∧ 0 ≤ (c (38 + d) 0).toInt ∧ (c (38 + d) 0).toInt ≤ (m 113 10).toInt ∧ 0 ≤ (c (38 + d) 1).toInt ∧ (c (38 + d) 1).toInt ≤ (m 113 11).toInt ∧ 0 ≤ (c (38 + d) 2).toInt ∧ (c (38 + d) 2).toInt ≤ (m 113 11).toInt ∧ 0 ≤ (c (38 + d) 3).toInt ∧ (c (38 + d) 3).toInt ≤ 5 ∧ 0 ≤ (c (38 + d) 4).toInt ∧ (c (38 + d) 4).toInt ≤ 63
def D4 (c m : G) : Prop := ∀ d : Nat, d < 8 → c (38 + d) 5 = m 116 (9 + 7 * d + 5) ∧ 0 ≤ (c (38 + d) 5).toInt ∧ (c (38 + d) 5).toInt ≤ 2 ∧ c (38 + d) 6 = m 116 (9 + 7 * d + 6) ∧ 0 ≤ (c (38 + d) 6).toInt ∧ (c (38 + d) 6).toInt ≤ 10
def D5 (c m : G) : Prop := ((m 113 10).toInt = -4 ∨ ∃ d : Nat, (d : Int) < (c 30 2).toInt ∧ (c (38 + d) 0).toInt = (m 113 10).toInt) ∧ ((m 113 11).toInt = -4 ∨ ∃ d : Nat, (d : Int) < (c 30 2).toInt ∧ ((c (38 + d) 1).toInt = (m 113 11).toInt ∨ (c (38 + d) 2).toInt = (m 113 11).toInt))
def D6 (c m : G) : Prop := (∀ i, zbit (c 28 6 ||| c 28 7) i = true → (i : Int) ≤ (m 113 12).toInt) ∧ ((m 113 12).toInt = -4 ∨ ∃ i : Nat, (i : Int) = (m 113 12).toInt ∧ zbit (c 28 6 ||| c 28 7) i = true) ∧ (m 113 12).toInt ≤ 7
def DR (c m : G) : Prop := D1 c m ∧ D2 c m ∧ D3 c m ∧ D4 c m ∧ D5 c m ∧ D6 c m
section DRC
variable {c c' m m' : G} {x y : Int32} {n : Nat}
theorem D1.cg (h : D1 c m) (hc : ∀ r k, (r = 28 ∧ 5 ≤ k ∧ k ≤ 7) ∨ (r = 30 ∧ k < 4) → c' r k = c r k) (hm : ∀ r k, (r = 113 ∧ (k = 5 ∨ k = 6 ∨ k = 7 ∨ k = 8 ∨ k = 9)) ∨ (r = 116 ∧ (k = 8 ∨ k = 65)) → m' r k = m r k) : D1 c' m' := by
  unfold D1 at *
  rw [hc 28 5 (by omega), hc 28 6 (by omega), hc 28 7 (by omega), hc 30 0 (by omega), hc 30 1 (by omega), hc 30 2 (by omega), hc 30 3 (by omega), hm 113 5 (by omega), hm 113 6 (by omega), hm 113 7 (by omega), hm 113 8 (by omega), hm 113 9 (by omega), hm 116 8 (by omega), hm 116 65 (by omega)]
  exact h
theorem D2.cg (h : D2 c m) (h4 : (c 30 1).toInt ≤ 4) (hc : ∀ r k : Nat, (r = 30 ∧ k = 1) ∨ (34 ≤ r ∧ (r : Int) < 34 + (c 30 1).toInt) → c' r k = c r k) (hm : ∀ k : Nat, (k : Int) < (c 30 1).toInt ∨ (4 ≤ k ∧ (k : Int) < 4 + (c 30 1).toInt) → m' 116 k = m 116 k) : D2 c' m' := by
  intro p hp
  rw [hc 30 1 (by omega)] at hp
  rw [hc (34 + p) 0 (by omega), hc (34 + p) 1 (by omega), hm p (by omega), hm (4 + p) (by omega)]
  exact h p hp
theorem D3.cg (h : D3 c m) (hc : ∀ r k : Nat, (r = 30 ∧ k = 2) ∨ (38 ≤ r ∧ (r : Int) < 38 + (c 30 2).toInt ∧ k < 5) → c' r k = c r k) (hm : ∀ d j : Nat, (d : Int) < (c 30 2).toInt → j < 5 → m' 116 (9 + 7 * d + j) = m 116 (9 + 7 * d + j)) (h10 : (m 113 10).toInt ≤ (m' 113 10).toInt) (h11 : (m 113 11).toInt ≤ (m' 113 11).toInt) : D3 c' m' := by
  intro d hd
  rw [hc 30 2 (by omega)] at hd
  obtain ⟨q1, q2⟩ := h d hd
  rw [hc (38 + d) 0 (by omega), hc (38 + d) 1 (by omega), hc (38 + d) 2 (by omega), hc (38 + d) 3 (by omega), hc (38 + d) 4 (by omega)]
  refine ⟨fun j hj => ?_, by omega⟩
  rw [hc (38 + d) j (by omega), hm d j hd hj]
  exact q1 j hj
theorem D4.cg (h : D4 c m) (hc : ∀ r k, 38 ≤ r ∧ r < 46 ∧ (k = 5 ∨ k = 6) → c' r k = c r k) (hm : ∀ d j : Nat, d < 8 → (j = 5 ∨ j = 6) → m' 116 (9 + 7 * d + j) = m 116 (9 + 7 * d + j)) : D4 c' m' := by
  intro d hd
  rw [hc (38 + d) 5 (by omega), hc (38 + d) 6 (by omega), hm d 5 hd (by omega), hm d 6 hd (by omega)]
  exact h d hd
theorem D5.cg (h : D5 c m) (hc : ∀ r k : Nat, (r = 30 ∧ k = 2) ∨ (38 ≤ r ∧ (r : Int) < 38 + (c 30 2).toInt ∧ k < 3) → c' r k = c r k) (h10 : m' 113 10 = m 113 10) (h11 : m' 113 11 = m 113 11) : D5 c' m' := by
  unfold D5 at *
  rw [h10, h11, hc 30 2 (by omega)]
  refine ⟨h.1.imp id fun ⟨d, h1, h2⟩ => ⟨d, h1, ?_⟩, h.2.imp id fun ⟨d, h1, h2⟩ => ⟨d, h1, ?_⟩⟩
  · rw [hc (38 + d) 0 (by omega)]
    exact h2
  · rw [hc (38 + d) 1 (by omega), hc (38 + d) 2 (by omega)]
    exact h2
theorem D6.cg (h : D6 c m) (h6 : c' 28 6 = c 28 6) (h7 : c' 28 7 = c 28 7) (h12 : m' 113 12 = m 113 12) : D6 c' m' := by
  unfold D6 at *
  rw [h6, h7, h12]
  exact h
theorem DR.cg (h : DR c m) (hc : ∀ r k, (r = 28 ∧ 5 ≤ k ∧ k ≤ 7) ∨ (30 ≤ r ∧ r < 46) → c' r k = c r k) (hm : ∀ r k, (r = 113 ∧ 5 ≤ k ∧ k ≤ 12) ∨ r = 116 → m' r k = m r k) : DR c' m' := by
  obtain ⟨h1, h2, h3, h4, h5, h6⟩ := h
  have b := h1.2.1
  exact ⟨h1.cg (fun r k hr => hc r k (by omega)) (fun r k hr => hm r k (by omega)), h2.cg (by omega) (fun r k hr => hc r k (by omega)) (fun k hr => hm 116 k (by omega)), h3.cg (fun r k hr => hc r k (by omega)) (fun d j _ _ => hm 116 _ (by omega)) (by rw [hm 113 10 (by omega)]; omega) (by rw [hm 113 11 (by omega)]; omega), h4.cg (fun r k hr => hc r k (by omega)) (fun d j _ _ => hm 116 _ (by omega)), h5.cg (fun r k hr => hc r k (by omega)) (hm 113 10 (by omega)) (hm 113 11 (by omega)), h6.cg (hc 28 6 (by omega)) (hc 28 7 (by omega)) (hm 113 12 (by omega))⟩
theorem DR.tk (h : DR c m) (hc : UC c c') (hm : UM m m') : DR c' m' := h.cg (fun r k hr => hc r k (by omega)) (fun r k hr => hm r k (by omega))
/-- a bit more -/
theorem D6.or (h : D6 c m) (hn : n < 8) (hb : c' 28 6 ||| c' 28 7 = (c 28 6 ||| c 28 7) ||| ((1 : Int32) <<< (Int32.ofNat n &&& 31))) (h12 : ((n : Int) ≤ (m 113 12).toInt ∧ m' 113 12 = m 113 12) ∨ ((m 113 12).toInt < n ∧ (m' 113 12).toInt = n)) : D6 c' m' := by
  obtain ⟨h1, h2, h3⟩ := h
  have bit : ∀ i, zbit (c' 28 6 ||| c' 28 7) i = true → zbit (c 28 6 ||| c 28 7) i = true ∨ i = n := by
    intro i hi
    rw [hb, zbit_or] at hi
    cases hz : zbit (c 28 6 ||| c 28 7) i with
    | true => exact Or.inl rfl
    | false =>
      rw [hz, Bool.false_or] at hi
      by_cases h32 : i < 32
      · rw [zbit_shl n (by omega) i h32] at hi
        exact Or.inr (of_decide_eq_true hi)
      · rw [zbit_ge _ (by omega)] at hi
        cases hi
  have up : ∀ i, zbit (c 28 6 ||| c 28 7) i = true → zbit (c' 28 6 ||| c' 28 7) i = true := by
    intro i hi
    rw [hb, zbit_or, hi, Bool.true_or]
  have own : zbit (c' 28 6 ||| c' 28 7) n = true := by
    rw [hb, zbit_or, zbit_shl n (by omega) n (by omega)]
    simp
  rcases h12 with ⟨q1, q2⟩ | ⟨q1, q2⟩
  · refine ⟨fun i hi => ?_, ?_, by rw [q2]; exact h3⟩
    · rw [q2]
      rcases bit i hi with r | r
      · exact h1 i r
      · omega
    · rw [q2]
      exact h2.imp id fun ⟨i, r1, r2⟩ => ⟨i, r1, up i r2⟩
  · refine ⟨fun i hi => ?_, Or.inr ⟨n, q2.symm, own⟩, by omega⟩
    rcases bit i hi with r | r
    · have := h1 i r
      omega
    · omega
end DRC
/-- behind a line: the class's c1 and answer b, the reference's m5 -/
def LnR (c c1 : G) (b : Bool) (m5 : G) : Prop := (b = true ∧ (∃ mt, PT c1 mt ∧ d_119 mt = some m5 ∧ DR c1 mt) ∧ (c 28 10).toInt ≤ (c1 28 10).toInt) ∨ (b = false ∧ FT c1 m5)
/-- the state at a body's beginning: the class stands before its next TOKEN, the reference has read it -/
def BD (c mb : G) : Prop := ∃ ma, PT c ma ∧ d_119 ma = some mb ∧ DR c ma
section LINES
variable {c c1 ma mb mc m5 m : G} {b : Bool} {k x1 : Int32}
theorem t_121 {x1 x2 v : Int32} (f : d_121 x1 x2 m = some (v, m5)) : ∃ m1, d_120 x1 x2 m = (v, m1) ∧ d_119 m1 = some m5 := by
  unfold d_121 at f
  replace f := zb_pair f
  obtain ⟨v1, g2, h2, f⟩ := f
  replace f := zb_bind f
  obtain ⟨g3, h3, f⟩ := f
  obtain ⟨e1, e2⟩ := zb_r2 f
  subst e1
  subst e2
  exact ⟨g2, h2, h3⟩
/-- behind a FAULT of the TOKEN or the NUMBER nothing more is said -/
theorem fl_end {g13 : G} (h : FT c1 m) (u : UT m g13) (f : zt_tail g13 = some m5) : FT c1 m5 := by
  have h2 := h.ut u
  rw [tail_f (by rw [← h2.1]; exact h2.2.1) f]
  exact h2
/-- hours -/
theorem ln_hours (hP : PT c ma) (f0 : d_119 ma = some mb) (hD : DR c ma) (e : d_38 2 8 c = some (b, c1)) {c2 : G} {b2 : Bool} (e2 : b = true → ∃ c3, zg_up c1 30 0 (c1 28 11) = c3 ∧ d_39 c3 = some (b2, c2)) (e3 : b = false → b2 = false ∧ c2 = c1) (f : d_127 k mb = some mc) (hk : k = 0) (ft : zt_tail mc = some m5) : LnR c c2 b2 m5 := by
  subst hk
  unfold d_127 at f
  have L2 := zl_2
  have L8 := zl_8
  replace f := zb_if f
  rcases f with ⟨_, f⟩ | ⟨hf, f⟩
  · replace f := zb_bpair f
    obtain ⟨v2, g3, h3, f⟩ := f
    replace f := zb_let f
    obtain ⟨g4, h4, f⟩ := f
    have e4 := zb_r1 f
    subst e4
    obtain ⟨m1, h120, h119⟩ := t_121 h3
    have uT : UT g3 g4 := fun r k hr => zg_fr h4 r k (by omega)
    obtain ⟨F1, hcase⟩ := hP.num f0 e h120
    rcases hcase with ⟨q1, q2, q3, q4, q5, q6, q7⟩ | ⟨q1, q2⟩
    · subst q3
      obtain ⟨c3, hc3, e39⟩ := e2 q1
      have hP3 : PT c3 m1 := q2.pt.uc (fun r k hr => zg_fr hc3 r k (by omega))
      obtain ⟨F2, hs⟩ := hP3.semi h119 uT e39 ft
      have c310 : c3 28 10 = c1 28 10 := zg_fr hc3 28 10 (by omega)
      rcases hs with ⟨s1, s2, s3, s4⟩ | ⟨s1, s2⟩
      · refine Or.inl ⟨s1, ⟨g4, s2, s3, ?_⟩, by rw [c310] at s4; omega⟩
        have hD1 : DR c1 m1 := hD.tk F1 (f119u f0)
        have u1 : ∀ r k, ¬ (r = 28 ∧ (k = 2 ∨ k = 3 ∨ (8 ≤ k ∧ k ≤ 11))) → ¬ (r = 30 ∧ k = 0) → c2 r k = c1 r k := fun r k h1 h2 => (F2 r k h1).trans (zg_fr hc3 r k h2)
        have u0 : c2 30 0 = c1 28 11 := by rw [F2 30 0 (by omega), ← hc3]; exact zg_ue
        have w1 : ∀ r k, ¬ (r = 113 ∧ 15 ≤ k ∧ k ≤ 20) → ¬ (r = 113 ∧ k = 5) → g4 r k = m1 r k := fun r k h1 h2 => (zg_fr h4 r k h2).trans (f119u h119 r k h1)
        have w0 : g4 113 5 = v2 := by rw [← h4]; exact zg_ue
        obtain ⟨⟨⟨a1, a2, a3, a4, a5, a6, a7⟩, a8, a9⟩, d2, d3, d4, d5, d6⟩ := hD1
        refine ⟨⟨⟨by rw [u0, w0, q4], ?_, ?_, ?_, ?_, ?_, ?_⟩, ?_, ?_⟩, d2.cg (by omega) (fun r k hr => u1 r k (by omega) (by omega)) (fun k hr => w1 116 k (by omega) (by omega)), d3.cg (fun r k hr => u1 r k (by omega) (by omega)) (fun d j _ _ => w1 116 _ (by omega) (by omega)) (by rw [w1 113 10 (by omega) (by omega)]; omega) (by rw [w1 113 11 (by omega) (by omega)]; omega), d4.cg (fun r k hr => u1 r k (by omega) (by omega)) (fun d j _ _ => w1 116 _ (by omega) (by omega)), d5.cg (fun r k hr => u1 r k (by omega) (by omega)) (w1 113 10 (by omega) (by omega)) (w1 113 11 (by omega) (by omega)), d6.cg (u1 28 6 (by omega) (by omega)) (u1 28 7 (by omega) (by omega)) (w1 113 12 (by omega) (by omega))⟩
        · rw [u1 30 1 (by omega) (by omega), w1 113 6 (by omega) (by omega)]; exact a2
        · rw [u1 30 2 (by omega) (by omega), w1 116 8 (by omega) (by omega)]; exact a3
        · rw [u1 28 5 (by omega) (by omega), w1 113 7 (by omega) (by omega)]; exact a4
        · rw [u1 28 6 (by omega) (by omega), w1 113 8 (by omega) (by omega)]; exact a5
        · rw [u1 28 7 (by omega) (by omega), w1 113 9 (by omega) (by omega)]; exact a6
        · rw [u1 30 3 (by omega) (by omega), w1 116 65 (by omega) (by omega)]; exact a7
        · rw [u0, u1 30 1 (by omega) (by omega), u1 30 2 (by omega) (by omega), u1 30 3 (by omega) (by omega), ← q4]
          omega
        · rw [u1 28 5 (by omega) (by omega)]; exact a9
      · exact Or.inr ⟨s1, s2⟩
    · obtain ⟨r1, r2⟩ := e3 q1
      subst r2
      have g3e := t_119s (by rw [← q2.1]; exact q2.2.1) h119
      subst g3e
      exact Or.inr ⟨r1, fl_end q2 uT ft⟩
  · exact absurd hf (by decide)
end LINES
