/-! printed by wip/tools/frame.py -/
/-- EveningFirst.forget -/
theorem f_80 (x1 : Int32) (g : G) : T1 (d_80 x1 g) (fun q : Int32 × G => ∀ r k, ¬ ((r = 1)) → q.2 r k = g r k) := by
  unfold d_80
  refine T1.ite (fun _ => ?_) (fun _ => ?_)
  · skip
    exact T1.ret (fun _ _ _ => rfl)
  · skip
    refine T1.ite (fun _ => ?_) (fun _ => ?_)
    · skip
      refine T1.lt ?_
      intro g3 hg3
      have Fg3 : ∀ r k, ¬ ((r = 1)) → g3 r k = g r k := fun r k hw => (zg_fr hg3) r k (by omega)
      exact T1.ret Fg3
    · skip
      exact T1.ret (fun _ _ _ => rfl)
/-- EveningFirstModel.forget -/
theorem f_176 (x1 : Int32) (g : G) : P1 (d_176 x1 g) (fun q : Int32 × G => ∀ r k, ¬ ((r = 114)) → q.2 r k = g r k) := by
  unfold d_176
  refine P1.lt ?_
  intro v1 _
  refine P1.ite (fun _ => ?_) (fun _ => ?_)
  · skip
    refine P1.bp (f_142 (65 : Int32) x1 g) ?_
    intro v3 g4 hv3 qg4
    have Fg4 : ∀ r k, ¬ ((r = 114)) → g4 r k = g r k := fun r k hw => (qg4) r k (by omega)
    exact P1.ret Fg4
  · skip
    exact P1.ret (fun _ _ _ => rfl)
theorem f_26_4 (r0 : Nat) : ∀ (f : Nat) (x2 : Int32) (x3 : Int32) (g : G), P1 (d_26_4 r0 f x2 x3 g) (fun q : G => ∀ r k, ¬ ((r0 + 4 ≤ r ∧ r < r0 + 8)) → q r k = g r k) := by
  intro f
  induction f with
  | zero =>
    intro x2 x3 g
    exact P1.nn
  | succ f ih =>
    intro x2 x3 g
    rw [d_26_4.eq_2]
    refine P1.ite (fun _ => ?_) (fun _ => ?_)
    · skip
      exact P1.ret (fun _ _ _ => rfl)
    · skip
      refine P1.ix ?_
      intro k2 hk2 bk2
      refine P1.lt ?_
      intro g3 hg3
      have Fg3 : ∀ r k, ¬ ((r0 + 4 ≤ r ∧ r < r0 + 8)) → g3 r k = g r k := fun r k hw => (zg_fr hg3) r k (by omega)
      refine P1.mono (ih (x2 / 3) (x3 + 1) g3) ?_
      intro qq hq
      exact (fun r k hw => ((hq r k (by omega)).trans (Fg3 r k hw)))
/-- EveningFirst$Family.goBy -/
theorem f_26 (r0 : Nat) (x1 : Int32) (g : G) : P1 (d_26 r0 x1 g) (fun q : G => ∀ r k, ¬ ((r0 + 4 ≤ r ∧ r < r0 + 8)) → q r k = g r k) := by
  unfold d_26
  refine P1.mono (f_26_4 r0 300 x1 (0 : Int32) g) ?_
  intro qq hq
  exact (fun r k hw => hq r k (by omega))
theorem f_101_25 (r1 : Nat) (x2 : Int32) (g : G) : ∀ (f : Nat) (x3 : Int32), P1 (d_101_25 r1 x2 g f x3) (fun q : Bool × G => ∀ r k, ¬ ((r < 0)) → q.2 r k = g r k) := by
  intro f
  induction f with
  | zero =>
    intro x3
    exact P1.nn
  | succ f ih =>
    intro x3
    rw [d_101_25.eq_2]
    refine P1.ite (fun _ => ?_) (fun _ => ?_)
    · skip
      exact P1.ret (fun _ _ _ => rfl)
    · skip
      refine P1.ix ?_
      intro k4 hk4 bk4
      refine P1.bs ?_
      intro v5 _
      refine P1.lt ?_
      intro v6 _
      refine P1.ite (fun _ => ?_) (fun _ => ?_)
      · skip
        exact (ih (x3 + 1))
      · skip
        exact P1.ret (fun _ _ _ => rfl)
/-- EveningFirst.isFit -/
theorem f_101 (r1 : Nat) (g : G) : P1 (d_101 r1 g) (fun q : Bool × G => ∀ r k, ¬ ((25 ≤ r ∧ r < 28)) → q.2 r k = g r k) := by
  unfold d_101
  refine P1.bd (f_2 r1 g) ?_
  intro g1 hg1 qg1
  have Fg1 : ∀ r k, ¬ ((25 ≤ r ∧ r < 28)) → g1 r k = g r k := fun r k hw => (qg1) r k (by omega)
  refine P1.bs ?_
  intro v2 _
  refine P1.mono (f_101_25 r1 v2 g1 300 (0 : Int32)) ?_
  intro qq hq
  exact (fun r k hw => ((hq r k (by omega)).trans (Fg1 r k hw)))
theorem f_81_73 (x1 : Int32) (x2 : Int32) (x6 : Int32) : ∀ (f : Nat) (x3 : Int32) (x4 : Int32) (x5 : Int32) (x7 : Int32) (g : G), P1 (d_81_73 x1 x2 x6 f x3 x4 x5 x7 g) (fun q : Int32 × G => ∀ r k, ¬ ((25 ≤ r ∧ r < 28) ∨ (34 ≤ r ∧ r < 38)) → q.2 r k = g r k) := by
  intro f
  induction f with
  | zero =>
    intro x3 x4 x5 x7 g
    exact P1.nn
  | succ f ih =>
    intro x3 x4 x5 x7 g
    rw [d_81_73.eq_2]
    refine P1.ite (fun _ => ?_) (fun _ => ?_)
    · skip
      refine P1.ite (fun _ => ?_) (fun _ => ?_)
      · skip
        refine P1.ite (fun _ => ?_) (fun _ => ?_)
        · skip
          exact P1.ret (fun _ _ _ => rfl)
        · skip
          exact P1.ret (fun _ _ _ => rfl)
      · skip
        exact P1.ret (fun _ _ _ => rfl)
    · skip
      refine P1.bd (f_26 30 x7 g) ?_
      intro g8 hg8 qg8
      have Fg8 : ∀ r k, ¬ ((25 ≤ r ∧ r < 28) ∨ (34 ≤ r ∧ r < 38)) → g8 r k = g r k := fun r k hw => (qg8) r k (by omega)
      refine P1.bp (f_101 30 g8) ?_
      intro v9 g10 hv9 qg10
      have Fg10 : ∀ r k, ¬ ((25 ≤ r ∧ r < 28) ∨ (34 ≤ r ∧ r < 38)) → g10 r k = g r k := fun r k hw => ((qg10) r k (by omega)).trans (Fg8 r k hw)
      refine P1.ite (fun _ => ?_) (fun _ => ?_)
      · skip
        refine P1.ite (fun _ => ?_) (fun _ => ?_)
        · skip
          refine P1.ite (fun _ => ?_) (fun _ => ?_)
          · skip
            refine P1.mono (ih (x3 + 1) x4 x5 (x7 + 1) g10) ?_
            intro qq hq
            exact (fun r k hw => ((hq r k (by omega)).trans (Fg10 r k hw)))
          · skip
            refine P1.ix ?_
            intro k14 hk14 bk14
            refine P1.mono (ih (x3 + 1) x4 (x5 ||| ((1 : Int32) <<< ((g10 (34 + k14) 0) &&& 31))) (x7 + 1) g10) ?_
            intro qq hq
            exact (fun r k hw => ((hq r k (by omega)).trans (Fg10 r k hw)))
        · skip
          refine P1.ite (fun _ => ?_) (fun _ => ?_)
          · skip
            refine P1.mono (ih (x3 + 1) x7 x5 (x7 + 1) g10) ?_
            intro qq hq
            exact (fun r k hw => ((hq r k (by omega)).trans (Fg10 r k hw)))
          · skip
            refine P1.ix ?_
            intro k16 hk16 bk16
            refine P1.mono (ih (x3 + 1) x7 (x5 ||| ((1 : Int32) <<< ((g10 (34 + k16) 0) &&& 31))) (x7 + 1) g10) ?_
            intro qq hq
            exact (fun r k hw => ((hq r k (by omega)).trans (Fg10 r k hw)))
      · skip
        refine P1.mono (ih x3 x4 x5 (x7 + 1) g10) ?_
        intro qq hq
        exact (fun r k hw => ((hq r k (by omega)).trans (Fg10 r k hw)))
theorem f_81_25 (x1 : Int32) (s0 : Int32) (g : G) : P1 (d_81_25 x1 s0 g) (fun q : Int32 × G => ∀ r k, ¬ ((25 ≤ r ∧ r < 28) ∨ (r = 30) ∨ (34 ≤ r ∧ r < 54)) → q.2 r k = g r k) := by
  unfold d_81_25
  refine P1.ite (fun _ => ?_) (fun _ => ?_)
  · skip
    refine P1.bd (f_17 30 1 g) ?_
    intro g3 hg3 qg3
    have Fg3 : ∀ r k, ¬ ((25 ≤ r ∧ r < 28) ∨ (r = 30) ∨ (34 ≤ r ∧ r < 54)) → g3 r k = g r k := fun r k hw => (qg3) r k (by omega)
    refine P1.bs ?_
    intro v4 _
    refine P1.mono (f_81_73 x1 s0 v4 300 (0 : Int32) (-4 : Int32) (0 : Int32) (0 : Int32) g3) ?_
    intro qq hq
    exact (fun r k hw => ((hq r k (by omega)).trans (Fg3 r k hw)))
  · skip
    refine P1.ite (fun _ => ?_) (fun _ => ?_)
    · skip
      refine P1.bd (f_17 30 1 g) ?_
      intro g18 hg18 qg18
      have Fg18 : ∀ r k, ¬ ((25 ≤ r ∧ r < 28) ∨ (r = 30) ∨ (34 ≤ r ∧ r < 54)) → g18 r k = g r k := fun r k hw => (qg18) r k (by omega)
      refine P1.bs ?_
      intro v19 _
      refine P1.mono (f_81_73 x1 s0 v19 300 (0 : Int32) (-4 : Int32) (0 : Int32) (0 : Int32) g18) ?_
      intro qq hq
      exact (fun r k hw => ((hq r k (by omega)).trans (Fg18 r k hw)))
    · skip
      refine P1.ite (fun _ => ?_) (fun _ => ?_)
      · skip
        refine P1.bd (f_17 30 1 g) ?_
        intro g21 hg21 qg21
        have Fg21 : ∀ r k, ¬ ((25 ≤ r ∧ r < 28) ∨ (r = 30) ∨ (34 ≤ r ∧ r < 54)) → g21 r k = g r k := fun r k hw => (qg21) r k (by omega)
        refine P1.bs ?_
        intro v22 _
        refine P1.mono (f_81_73 x1 s0 v22 300 (0 : Int32) (-4 : Int32) (0 : Int32) (0 : Int32) g21) ?_
        intro qq hq
        exact (fun r k hw => ((hq r k (by omega)).trans (Fg21 r k hw)))
      · skip
        exact P1.ret (fun _ _ _ => rfl)
/-- EveningFirst.ways -/
theorem f_81 (x1 : Int32) (g : G) : P1 (d_81 x1 g) (fun q : Int32 × G => ∀ r k, ¬ ((25 ≤ r ∧ r < 28) ∨ (r = 30) ∨ (34 ≤ r ∧ r < 54)) → q.2 r k = g r k) := by
  unfold d_81
  refine P1.ite (fun _ => ?_) (fun _ => ?_)
  · skip
    refine P1.mono (f_81_25 x1 (0 : Int32) g) ?_
    intro qq hq
    exact (fun r k hw => hq r k (by omega))
  · skip
    refine P1.ite (fun _ => ?_) (fun _ => ?_)
    · skip
      refine P1.mono (f_81_25 x1 (0 : Int32) g) ?_
      intro qq hq
      exact (fun r k hw => hq r k (by omega))
    · skip
      refine P1.mono (f_81_25 x1 (1 : Int32) g) ?_
      intro qq hq
      exact (fun r k hw => hq r k (by omega))
theorem f_178_178 (x1 : Int32) (x3 : Int32) (x4 : Int32) (x5 : Int32) : ∀ (f : Nat) (x6 : Int32) (g : G), P1 (d_178_178 x1 x3 x4 x5 f x6 g) (fun q : Int32 × G => ∀ r k, ¬ ((r = 114)) → q.2 r k = g r k) := by
  intro f
  induction f with
  | zero =>
    intro x6 g
    exact P1.nn
  | succ f ih =>
    intro x6 g
    rw [d_178_178.eq_2]
    refine P1.ite (fun _ => ?_) (fun _ => ?_)
    · skip
      refine P1.ite (fun _ => ?_) (fun _ => ?_)
      · skip
        refine P1.ite (fun _ => ?_) (fun _ => ?_)
        · skip
          exact P1.ret (fun _ _ _ => rfl)
        · skip
          exact P1.ret (fun _ _ _ => rfl)
      · skip
        exact P1.ret (fun _ _ _ => rfl)
    · skip
      refine P1.ix ?_
      intro k8 hk8 bk8
      refine P1.ix ?_
      intro k10 hk10 bk10
      refine P1.lt ?_
      intro g9 hg9
      have Fg9 : ∀ r k, ¬ ((r = 114)) → g9 r k = g r k := fun r k hw => (zg_fr hg9) r k (by omega)
      refine P1.mono (ih (x6 + 1) g9) ?_
      intro qq hq
      exact (fun r k hw => ((hq r k (by omega)).trans (Fg9 r k hw)))
theorem f_178_84 (x1 : Int32) (x2 : Int32) (x3 : Int32) (x4 : Int32) (x5 : Int32) (x6 : Int32) (k71 : Int32 → Int32 → Int32 → Int32 → G → Option (Int32 × G)) (hk71 : ∀ (x3 : Int32) (x4 : Int32) (x5 : Int32) (x6 : Int32) (g : G), P1 (k71 x3 x4 x5 x6 g) (fun q : Int32 × G => ∀ r k, ¬ ((r = 114)) → q.2 r k = g r k)) : ∀ (f : Nat) (x7 : Int32) (x8 : Int32) (g : G), P1 (d_178_84 x1 x2 x3 x4 x5 x6 k71 f x7 x8 g) (fun q : Int32 × G => ∀ r k, ¬ ((r = 114)) → q.2 r k = g r k) := by
  intro f
  induction f with
  | zero =>
    intro x7 x8 g
    exact P1.nn
  | succ f ih =>
    intro x7 x8 g
    rw [d_178_84.eq_2]
    refine P1.ite (fun _ => ?_) (fun _ => ?_)
    · skip
      refine P1.bs ?_
      intro v12 _
      refine P1.ite (fun _ => ?_) (fun _ => ?_)
      · skip
        refine P1.ite (fun _ => ?_) (fun _ => ?_)
        · skip
          refine P1.ite (fun _ => ?_) (fun _ => ?_)
          · skip
            refine P1.mono (hk71 (x3 + 1) x4 (x5 ||| 0) (x6 + 1) g) ?_
            intro qq hq
            exact (fun r k hw => hq r k (by omega))
          · skip
            refine P1.ix ?_
            intro k16 hk16 bk16
            refine P1.mono (hk71 (x3 + 1) x4 (x5 ||| ((1 : Int32) <<< ((g 114 k16) &&& 31))) (x6 + 1) g) ?_
            intro qq hq
            exact (fun r k hw => hq r k (by omega))
        · skip
          refine P1.ite (fun _ => ?_) (fun _ => ?_)
          · skip
            refine P1.mono (hk71 (x3 + 1) x6 (x5 ||| 0) (x6 + 1) g) ?_
            intro qq hq
            exact (fun r k hw => hq r k (by omega))
          · skip
            refine P1.ix ?_
            intro k18 hk18 bk18
            refine P1.mono (hk71 (x3 + 1) x6 (x5 ||| ((1 : Int32) <<< ((g 114 k18) &&& 31))) (x6 + 1) g) ?_
            intro qq hq
            exact (fun r k hw => hq r k (by omega))
      · skip
        refine P1.mono (hk71 x3 x4 x5 (x6 + 1) g) ?_
        intro qq hq
        exact (fun r k hw => hq r k (by omega))
    · skip
      refine P1.ix ?_
      intro k20 hk20 bk20
      refine P1.lt ?_
      intro g19 hg19
      have Fg19 : ∀ r k, ¬ ((r = 114)) → g19 r k = g r k := fun r k hw => (zg_fr hg19) r k (by omega)
      refine P1.mono (ih (x7 / 3) (x8 + 1) g19) ?_
      intro qq hq
      exact (fun r k hw => ((hq r k (by omega)).trans (Fg19 r k hw)))
theorem f_178_71 (x1 : Int32) (x2 : Int32) : ∀ (f : Nat) (x3 : Int32) (x4 : Int32) (x5 : Int32) (x6 : Int32) (g : G), P1 (d_178_71 x1 x2 f x3 x4 x5 x6 g) (fun q : Int32 × G => ∀ r k, ¬ ((r = 114)) → q.2 r k = g r k) := by
  intro f
  induction f with
  | zero =>
    intro x3 x4 x5 x6 g
    exact P1.nn
  | succ f ih =>
    intro x3 x4 x5 x6 g
    rw [d_178_71.eq_2]
    refine P1.ite (fun _ => ?_) (fun _ => ?_)
    · skip
      refine P1.mono (f_178_178 x1 x3 x4 x5 300 (0 : Int32) g) ?_
      intro qq hq
      exact (fun r k hw => hq r k (by omega))
    · skip
      refine P1.mono (f_178_84 x1 x2 x3 x4 x5 x6 (d_178_71 x1 x2 f) (ih) 300 x6 (0 : Int32) g) ?_
      intro qq hq
      exact (fun r k hw => hq r k (by omega))
theorem f_178_27 (x1 : Int32) : ∀ (f : Nat) (x2 : Int32) (x3 : Int32) (g : G), P1 (d_178_27 x1 f x2 x3 g) (fun q : Int32 × G => ∀ r k, ¬ ((r = 114) ∨ (r = 118)) → q.2 r k = g r k) := by
  intro f
  induction f with
  | zero =>
    intro x2 x3 g
    exact P1.nn
  | succ f ih =>
    intro x2 x3 g
    rw [d_178_27.eq_2]
    refine P1.ite (fun _ => ?_) (fun _ => ?_)
    · skip
      refine P1.mono (f_178_71 x1 x2 300 (0 : Int32) (-4 : Int32) (0 : Int32) (0 : Int32) g) ?_
      intro qq hq
      exact (fun r k hw => hq r k (by omega))
    · skip
      refine P1.ix ?_
      intro k21 hk21 bk21
      refine P1.ix ?_
      intro k23 hk23 bk23
      refine P1.lt ?_
      intro g22 hg22
      have Fg22 : ∀ r k, ¬ ((r = 114) ∨ (r = 118)) → g22 r k = g r k := fun r k hw => (zg_fr hg22) r k (by omega)
      refine P1.mono (ih (x2 * 3) (x3 + 1) g22) ?_
      intro qq hq
      exact (fun r k hw => ((hq r k (by omega)).trans (Fg22 r k hw)))
/-- EveningFirstModel.ways -/
theorem f_178 (x1 : Int32) (g : G) : P1 (d_178 x1 g) (fun q : Int32 × G => ∀ r k, ¬ ((r = 114) ∨ (r = 118)) → q.2 r k = g r k) := by
  unfold d_178
  refine P1.lt ?_
  intro v1 _
  refine P1.ite (fun _ => ?_) (fun _ => ?_)
  · skip
    refine P1.mono (f_178_27 x1 300 (1 : Int32) (0 : Int32) g) ?_
    intro qq hq
    exact (fun r k hw => hq r k (by omega))
  · skip
    refine P1.lt ?_
    intro v24 _
    refine P1.ite (fun _ => ?_) (fun _ => ?_)
    · skip
      refine P1.mono (f_178_27 x1 300 (1 : Int32) (0 : Int32) g) ?_
      intro qq hq
      exact (fun r k hw => hq r k (by omega))
    · skip
      exact P1.ret (fun _ _ _ => rfl)
theorem f_82_48 (x2 : Int32) (x3 : Int32) (g : G) : ∀ (f : Nat) (x4 : Int32) (x5 : Int32) (x6 : Int32), P1 (d_82_48 x2 x3 g f x4 x5 x6) (fun q : Int32 × G => ∀ r k, ¬ ((r < 0)) → q.2 r k = g r k) := by
  intro f
  induction f with
  | zero =>
    intro x4 x5 x6
    exact P1.nn
  | succ f ih =>
    intro x4 x5 x6
    rw [d_82_48.eq_2]
    refine P1.ite (fun _ => ?_) (fun _ => ?_)
    · skip
      exact P1.ret (fun _ _ _ => rfl)
    · skip
      refine P1.gd ?_
      refine P1.lt ?_
      intro v7 _
      refine P1.ite (fun _ => ?_) (fun _ => ?_)
      · skip
        exact (ih ((x4 * 1103515245) + 12345) x5 (x6 + 1))
      · skip
        refine P1.bs ?_
        intro v9 _
        refine P1.ite (fun _ => ?_) (fun _ => ?_)
        · skip
          exact (ih ((x4 * 1103515245) + 12345) x5 (x6 + 1))
        · skip
          exact (ih ((x4 * 1103515245) + 12345) (x5 ||| ((1 : Int32) <<< (((((Int32.toUInt32 ((x4 * 1103515245) + 12345) >>> (Int32.toUInt32 16 &&& Int32.toUInt32 31)).toInt32) &&& 32767) - (((Int32.toUInt32 ((x4 * 1103515245) + 12345) >>> (Int32.toUInt32 16 &&& Int32.toUInt32 31)).toInt32) &&& 32767) / x3 * x3) &&& 31))) (x6 + 1))
/-- EveningFirst.walk -/
theorem f_82 (x1 : Int32) (x2 : Int32) (g : G) : P1 (d_82 x1 x2 g) (fun q : Int32 × G => ∀ r k, ¬ ((25 ≤ r ∧ r < 28)) → q.2 r k = g r k) := by
  unfold d_82
  refine P1.ite (fun _ => ?_) (fun _ => ?_)
  · skip
    exact P1.ret (fun _ _ _ => rfl)
  · skip
    refine P1.ite (fun _ => ?_) (fun _ => ?_)
    · skip
      refine P1.ite (fun _ => ?_) (fun _ => ?_)
      · skip
        refine P1.bd (f_2 1 g) ?_
        intro g4 hg4 qg4
        have Fg4 : ∀ r k, ¬ ((25 ≤ r ∧ r < 28)) → g4 r k = g r k := fun r k hw => (qg4) r k (by omega)
        refine P1.mono (f_82_48 x2 (g 1 2) g4 300 x1 (0 : Int32) (0 : Int32)) ?_
        intro qq hq
        exact (fun r k hw => ((hq r k (by omega)).trans (Fg4 r k hw)))
      · skip
        exact P1.ret (fun _ _ _ => rfl)
    · skip
      exact P1.ret (fun _ _ _ => rfl)
/-- EveningFirst.keep -/
theorem f_83 (x1 : Int32) (g : G) : P1 (d_83 x1 g) (fun q : Int32 × G => ∀ r k, ¬ ((55 ≤ r ∧ r < 104)) → q.2 r k = g r k) := by
  unfold d_83
  refine P1.ite (fun _ => ?_) (fun _ => ?_)
  · skip
    exact P1.ret (fun _ _ _ => rfl)
  · skip
    refine P1.ite (fun _ => ?_) (fun _ => ?_)
    · skip
      refine P1.ix ?_
      intro k3 hk3 bk3
      refine P1.ite (fun _ => ?_) (fun _ => ?_)
      · skip
        refine P1.ix ?_
        intro k5 hk5 bk5
        refine P1.bd (f_17 (56 + 24 * k5) 1 g) ?_
        intro g6 hg6 qg6
        have Fg6 : ∀ r k, ¬ ((55 ≤ r ∧ r < 104)) → g6 r k = g r k := fun r k hw => (qg6) r k (by omega)
        refine P1.ix ?_
        intro k8 hk8 bk8
        refine P1.lt ?_
        intro g7 hg7
        have Fg7 : ∀ r k, ¬ ((55 ≤ r ∧ r < 104)) → g7 r k = g r k := fun r k hw => ((zg_fr hg7) r k (by omega)).trans (Fg6 r k hw)
        exact P1.ret Fg7
      · skip
        refine P1.ix ?_
        intro k9 hk9 bk9
        refine P1.bd (f_17 (56 + 24 * k9) 1 g) ?_
        intro g10 hg10 qg10
        have Fg10 : ∀ r k, ¬ ((55 ≤ r ∧ r < 104)) → g10 r k = g r k := fun r k hw => (qg10) r k (by omega)
        refine P1.ix ?_
        intro k12 hk12 bk12
        refine P1.lt ?_
        intro g11 hg11
        have Fg11 : ∀ r k, ¬ ((55 ≤ r ∧ r < 104)) → g11 r k = g r k := fun r k hw => ((zg_fr hg11) r k (by omega)).trans (Fg10 r k hw)
        exact P1.ret Fg11
    · skip
      exact P1.ret (fun _ _ _ => rfl)
theorem f_180_2 (x1 : Int32) (x2 : Int32) : ∀ (f : Nat) (x3 : Int32) (g : G), P1 (d_180_2 x1 x2 f x3 g) (fun q : G => ∀ r k, ¬ ((r = 114)) → q r k = g r k) := by
  intro f
  induction f with
  | zero =>
    intro x3 g
    exact P1.nn
  | succ f ih =>
    intro x3 g
    rw [d_180_2.eq_2]
    refine P1.ite (fun _ => ?_) (fun _ => ?_)
    · skip
      exact P1.ret (fun _ _ _ => rfl)
    · skip
      refine P1.ix ?_
      intro k2 hk2 bk2
      refine P1.ix ?_
      intro k4 hk4 bk4
      refine P1.lt ?_
      intro g3 hg3
      have Fg3 : ∀ r k, ¬ ((r = 114)) → g3 r k = g r k := fun r k hw => (zg_fr hg3) r k (by omega)
      refine P1.mono (ih (x3 + 1) g3) ?_
      intro qq hq
      exact (fun r k hw => ((hq r k (by omega)).trans (Fg3 r k hw)))
/-- EveningFirstModel.copies -/
theorem f_180 (x1 : Int32) (x2 : Int32) (g : G) : P1 (d_180 x1 x2 g) (fun q : G => ∀ r k, ¬ ((r = 114)) → q r k = g r k) := by
  unfold d_180
  refine P1.mono (f_180_2 x1 x2 300 (0 : Int32) g) ?_
  intro qq hq
  exact (fun r k hw => hq r k (by omega))
/-- EveningFirstModel.keep -/
theorem f_181 (x1 : Int32) (g : G) : P1 (d_181 x1 g) (fun q : Int32 × G => ∀ r k, ¬ ((114 ≤ r ∧ r < 116)) → q.2 r k = g r k) := by
  unfold d_181
  refine P1.lt ?_
  intro v1 _
  refine P1.ite (fun _ => ?_) (fun _ => ?_)
  · skip
    refine P1.ix ?_
    intro k3 hk3 bk3
    refine P1.lt ?_
    intro v4 _
    refine P1.ix ?_
    intro k6 hk6 bk6
    refine P1.lt ?_
    intro g5 hg5
    have Fg5 : ∀ r k, ¬ ((114 ≤ r ∧ r < 116)) → g5 r k = g r k := fun r k hw => (zg_fr hg5) r k (by omega)
    refine P1.bd (f_180 (98 * (x1 + 1)) (0 : Int32) g5) ?_
    intro g7 hg7 qg7
    have Fg7 : ∀ r k, ¬ ((114 ≤ r ∧ r < 116)) → g7 r k = g r k := fun r k hw => ((qg7) r k (by omega)).trans (Fg5 r k hw)
    exact P1.ret Fg7
  · skip
    exact P1.ret (fun _ _ _ => rfl)
/-- EveningFirst.back -/
theorem f_84 (x1 : Int32) (g : G) : P1 (d_84 x1 g) (fun q : Int32 × G => ∀ r k, ¬ ((r = 1) ∨ (5 ≤ r ∧ r < 25)) → q.2 r k = g r k) := by
  unfold d_84
  refine P1.ite (fun _ => ?_) (fun _ => ?_)
  · skip
    exact P1.ret (fun _ _ _ => rfl)
  · skip
    refine P1.ite (fun _ => ?_) (fun _ => ?_)
    · skip
      refine P1.ix ?_
      intro k3 hk3 bk3
      refine P1.ite (fun _ => ?_) (fun _ => ?_)
      · skip
        refine P1.ix ?_
        intro k5 hk5 bk5
        refine P1.bd (f_17 1 (56 + 24 * k5) g) ?_
        intro g6 hg6 qg6
        have Fg6 : ∀ r k, ¬ ((r = 1) ∨ (5 ≤ r ∧ r < 25)) → g6 r k = g r k := fun r k hw => (qg6) r k (by omega)
        exact P1.ret Fg6
      · skip
        exact P1.ret (fun _ _ _ => rfl)
    · skip
      exact P1.ret (fun _ _ _ => rfl)
/-- EveningFirstModel.back -/
theorem f_182 (x1 : Int32) (g : G) : P1 (d_182 x1 g) (fun q : Int32 × G => ∀ r k, ¬ ((r = 114)) → q.2 r k = g r k) := by
  unfold d_182
  refine P1.lt ?_
  intro v1 _
  refine P1.ite (fun _ => ?_) (fun _ => ?_)
  · skip
    refine P1.ix ?_
    intro k3 hk3 bk3
    refine P1.ite (fun _ => ?_) (fun _ => ?_)
    · skip
      refine P1.bd (f_180 (0 : Int32) (98 * (x1 + 1)) g) ?_
      intro g5 hg5 qg5
      have Fg5 : ∀ r k, ¬ ((r = 114)) → g5 r k = g r k := fun r k hw => (qg5) r k (by omega)
      exact P1.ret Fg5
    · skip
      exact P1.ret (fun _ _ _ => rfl)
  · skip
    exact P1.ret (fun _ _ _ => rfl)
theorem f_47_12 (r0 : Nat) : ∀ (f : Nat) (x3 : Int32) (g : G), P1 (d_47_12 r0 f x3 g) (fun q : G => ∀ r k, ¬ ((r = r0 + 1)) → q r k = g r k) := by
  intro f
  induction f with
  | zero =>
    intro x3 g
    exact P1.nn
  | succ f ih =>
    intro x3 g
    rw [d_47_12.eq_2]
    refine P1.ite (fun _ => ?_) (fun _ => ?_)
    · skip
      exact P1.ret (fun _ _ _ => rfl)
    · skip
      refine P1.ix ?_
      intro k5 hk5 bk5
      refine P1.lt ?_
      intro g4 hg4
      have Fg4 : ∀ r k, ¬ ((r = r0 + 1)) → g4 r k = g r k := fun r k hw => (zg_fr hg4) r k (by omega)
      refine P1.mono (ih (x3 + 1) g4) ?_
      intro qq hq
      exact (fun r k hw => ((hq r k (by omega)).trans (Fg4 r k hw)))
/-- EveningFirst$Sheet.renew -/
theorem f_47 (r0 : Nat) (x1 : Int32) (x2 : Int32) (g : G) : P1 (d_47 r0 x1 x2 g) (fun q : G => ∀ r k, ¬ ((r0 ≤ r ∧ r < r0 + 2)) → q r k = g r k) := by
  unfold d_47
  refine P1.lt ?_
  intro g1 hg1
  have Fg1 : ∀ r k, ¬ ((r0 ≤ r ∧ r < r0 + 2)) → g1 r k = g r k := fun r k hw => (zg_fr hg1) r k (by omega)
  refine P1.lt ?_
  intro g2 hg2
  have Fg2 : ∀ r k, ¬ ((r0 ≤ r ∧ r < r0 + 2)) → g2 r k = g r k := fun r k hw => ((zg_fr hg2) r k (by omega)).trans (Fg1 r k hw)
  refine P1.mono (f_47_12 r0 300 (0 : Int32) g2) ?_
  intro qq hq
  exact (fun r k hw => ((hq r k (by omega)).trans (Fg2 r k hw)))
/-- EveningFirst.sheet -/
theorem f_85 (x1 : Int32) (x2 : Int32) (x3 : Int32) (g : G) : P1 (d_85 x1 x2 x3 g) (fun q : Int32 × G => ∀ r k, ¬ ((105 ≤ r ∧ r < 113)) → q.2 r k = g r k) := by
  unfold d_85
  refine P1.lt ?_
  intro v1 _
  refine P1.ite (fun _ => ?_) (fun _ => ?_)
  · skip
    exact P1.ret (fun _ _ _ => rfl)
  · skip
    refine P1.lt ?_
    intro v3 _
    refine P1.ite (fun _ => ?_) (fun _ => ?_)
    · skip
      exact P1.ret (fun _ _ _ => rfl)
    · skip
      refine P1.ite (fun _ => ?_) (fun _ => ?_)
      · skip
        refine P1.ite (fun _ => ?_) (fun _ => ?_)
        · skip
          refine P1.ix ?_
          intro k7 hk7 bk7
          refine P1.bd (f_47 (105 + 2 * k7) x2 x3 g) ?_
          intro g8 hg8 qg8
          have Fg8 : ∀ r k, ¬ ((105 ≤ r ∧ r < 113)) → g8 r k = g r k := fun r k hw => (qg8) r k (by omega)
          exact P1.ret Fg8
        · skip
          exact P1.ret (fun _ _ _ => rfl)
      · skip
        exact P1.ret (fun _ _ _ => rfl)
theorem f_184_40 (x1 : Int32) : ∀ (f : Nat) (x4 : Int32) (g : G), P1 (d_184_40 x1 f x4 g) (fun q : Int32 × G => ∀ r k, ¬ ((r = 121)) → q.2 r k = g r k) := by
  intro f
  induction f with
  | zero =>
    intro x4 g
    exact P1.nn
  | succ f ih =>
    intro x4 g
    rw [d_184_40.eq_2]
    refine P1.ite (fun _ => ?_) (fun _ => ?_)
    · skip
      exact P1.ret (fun _ _ _ => rfl)
    · skip
      refine P1.ix ?_
      intro k11 hk11 bk11
      refine P1.lt ?_
      intro g10 hg10
      have Fg10 : ∀ r k, ¬ ((r = 121)) → g10 r k = g r k := fun r k hw => (zg_fr hg10) r k (by omega)
      refine P1.mono (ih (x4 + 1) g10) ?_
      intro qq hq
      exact (fun r k hw => ((hq r k (by omega)).trans (Fg10 r k hw)))
/-- EveningFirstModel.sheet -/
theorem f_184 (x1 : Int32) (x2 : Int32) (x3 : Int32) (g : G) : P1 (d_184 x1 x2 x3 g) (fun q : Int32 × G => ∀ r k, ¬ ((119 ≤ r ∧ r < 122)) → q.2 r k = g r k) := by
  unfold d_184
  refine P1.lt ?_
  intro v1 _
  refine P1.ite (fun _ => ?_) (fun _ => ?_)
  · skip
    refine P1.ite (fun _ => ?_) (fun _ => ?_)
    · skip
      refine P1.ite (fun _ => ?_) (fun _ => ?_)
      · skip
        refine P1.ix ?_
        intro k6 hk6 bk6
        refine P1.lt ?_
        intro g5 hg5
        have Fg5 : ∀ r k, ¬ ((119 ≤ r ∧ r < 122)) → g5 r k = g r k := fun r k hw => (zg_fr hg5) r k (by omega)
        refine P1.ix ?_
        intro k8 hk8 bk8
        refine P1.lt ?_
        intro g7 hg7
        have Fg7 : ∀ r k, ¬ ((119 ≤ r ∧ r < 122)) → g7 r k = g r k := fun r k hw => ((zg_fr hg7) r k (by omega)).trans (Fg5 r k hw)
        refine P1.mono (f_184_40 x1 300 (0 : Int32) g7) ?_
        intro qq hq
        exact (fun r k hw => ((hq r k (by omega)).trans (Fg7 r k hw)))
      · skip
        exact P1.ret (fun _ _ _ => rfl)
    · skip
      exact P1.ret (fun _ _ _ => rfl)
  · skip
    exact P1.ret (fun _ _ _ => rfl)
/-- EveningFirst$Sheet.put -/
theorem f_51 (r0 : Nat) (x1 : Int32) (x2 : Int32) (g : G) : P1 (d_51 r0 x1 x2 g) (fun q : G => ∀ r k, ¬ ((r = r0 + 1)) → q r k = g r k) := by
  unfold d_51
  refine P1.ite (fun _ => ?_) (fun _ => ?_)
  · skip
    refine P1.ix ?_
    intro k3 hk3 bk3
    refine P1.lt ?_
    intro g2 hg2
    have Fg2 : ∀ r k, ¬ ((r = r0 + 1)) → g2 r k = g r k := fun r k hw => (zg_fr hg2) r k (by omega)
    exact P1.ret Fg2
  · skip
    refine P1.ite (fun _ => ?_) (fun _ => ?_)
    · skip
      refine P1.ix ?_
      intro k6 hk6 bk6
      refine P1.lt ?_
      intro g5 hg5
      have Fg5 : ∀ r k, ¬ ((r = r0 + 1)) → g5 r k = g r k := fun r k hw => (zg_fr hg5) r k (by omega)
      exact P1.ret Fg5
    · skip
      refine P1.ix ?_
      intro k8 hk8 bk8
      refine P1.lt ?_
      intro g7 hg7
      have Fg7 : ∀ r k, ¬ ((r = r0 + 1)) → g7 r k = g r k := fun r k hw => (zg_fr hg7) r k (by omega)
      exact P1.ret Fg7
/-- EveningFirst.lay -/
theorem f_86 (x1 : Int32) (x2 : Int32) (x3 : Int32) (g : G) : P1 (d_86 x1 x2 x3 g) (fun q : Int32 × G => ∀ r k, ¬ ((106 ≤ r ∧ r < 113)) → q.2 r k = g r k) := by
  unfold d_86
  refine P1.lt ?_
  intro v1 _
  refine P1.ite (fun _ => ?_) (fun _ => ?_)
  · skip
    exact P1.ret (fun _ _ _ => rfl)
  · skip
    refine P1.ix ?_
    intro k3 hk3 bk3
    refine P1.lt ?_
    intro v4 _
    refine P1.ite (fun _ => ?_) (fun _ => ?_)
    · skip
      refine P1.ix ?_
      intro k6 hk6 bk6
      refine P1.bd (f_51 (105 + 2 * k6) x2 x3 g) ?_
      intro g7 hg7 qg7
      have Fg7 : ∀ r k, ¬ ((106 ≤ r ∧ r < 113)) → g7 r k = g r k := fun r k hw => (qg7) r k (by omega)
      exact P1.ret Fg7
    · skip
      exact P1.ret (fun _ _ _ => rfl)
/-- EveningFirstModel.lay -/
theorem f_185 (x1 : Int32) (x2 : Int32) (x3 : Int32) (g : G) : P1 (d_185 x1 x2 x3 g) (fun q : Int32 × G => ∀ r k, ¬ ((r = 121)) → q.2 r k = g r k) := by
  unfold d_185
  refine P1.lt ?_
  intro v1 _
  refine P1.ite (fun _ => ?_) (fun _ => ?_)
  · skip
    refine P1.ix ?_
    intro k3 hk3 bk3
    refine P1.ite (fun _ => ?_) (fun _ => ?_)
    · skip
      refine P1.ix ?_
      intro k5 hk5 bk5
      refine P1.lt ?_
      intro v6 _
      refine P1.ite (fun _ => ?_) (fun _ => ?_)
      · skip
        refine P1.ix ?_
        intro k8 hk8 bk8
        refine P1.ite (fun _ => ?_) (fun _ => ?_)
        · skip
          refine P1.ix ?_
          intro k10 hk10 bk10
          refine P1.ite (fun _ => ?_) (fun _ => ?_)
          · skip
            refine P1.ix ?_
            intro k13 hk13 bk13
            refine P1.lt ?_
            intro g12 hg12
            have Fg12 : ∀ r k, ¬ ((r = 121)) → g12 r k = g r k := fun r k hw => (zg_fr hg12) r k (by omega)
            exact P1.ret Fg12
          · skip
            refine P1.ix ?_
            intro k15 hk15 bk15
            refine P1.lt ?_
            intro g14 hg14
            have Fg14 : ∀ r k, ¬ ((r = 121)) → g14 r k = g r k := fun r k hw => (zg_fr hg14) r k (by omega)
            exact P1.ret Fg14
        · skip
          refine P1.ix ?_
          intro k17 hk17 bk17
          refine P1.lt ?_
          intro g16 hg16
          have Fg16 : ∀ r k, ¬ ((r = 121)) → g16 r k = g r k := fun r k hw => (zg_fr hg16) r k (by omega)
          exact P1.ret Fg16
      · skip
        exact P1.ret (fun _ _ _ => rfl)
    · skip
      exact P1.ret (fun _ _ _ => rfl)
  · skip
    exact P1.ret (fun _ _ _ => rfl)
theorem f_87_130 (x3 : Int32) (r5 : Nat) (x6 : Int32) (x7 : Int32) : ∀ (f : Nat) (x8 : Int32) (g : G), P1 (d_87_130 x3 r5 x6 x7 f x8 g) (fun q : Int32 × G => ∀ r k, ¬ ((r = 0 ∧ k = 7) ∨ (9 ≤ r ∧ r < 17)) → q.2 r k = g r k) := by
  intro f
  induction f with
  | zero =>
    intro x8 g
    exact P1.nn
  | succ f ih =>
    intro x8 g
    rw [d_87_130.eq_2]
    refine P1.ite (fun _ => ?_) (fun _ => ?_)
    · skip
      refine P1.lt ?_
      intro g11 hg11
      have Fg11 : ∀ r k, ¬ ((r = 0 ∧ k = 7) ∨ (9 ≤ r ∧ r < 17)) → g11 r k = g r k := fun r k hw => (zg_fr hg11) r k (by omega)
      exact P1.ret Fg11
    · skip
      refine P1.ix ?_
      intro k12 hk12 bk12
      refine P1.ix ?_
      intro k13 hk13 bk13
      refine P1.ix ?_
      intro k14 hk14 bk14
      refine P1.lt ?_
      intro g15 hg15
      have Fg15 : ∀ r k, ¬ ((r = 0 ∧ k = 7) ∨ (9 ≤ r ∧ r < 17)) → g15 r k = g r k := fun r k hw => (zg_fr hg15) r k (by omega)
      refine P1.mono (ih (x8 + 1) g15) ?_
      intro qq hq
      exact (fun r k hw => ((hq r k (by omega)).trans (Fg15 r k hw)))
theorem f_87_50 (x3 : Int32) (x4 : Int32) (r5 : Nat) (g : G) : ∀ (f : Nat) (x6 : Int32) (x7 : Int32) (x8 : Int32), P1 (d_87_50 x3 x4 r5 g f x6 x7 x8) (fun q : Int32 × G => ∀ r k, ¬ ((r = 0 ∧ k = 7) ∨ (9 ≤ r ∧ r < 17)) → q.2 r k = g r k) := by
  intro f
  induction f with
  | zero =>
    intro x6 x7 x8
    exact P1.nn
  | succ f ih =>
    intro x6 x7 x8
    rw [d_87_50.eq_2]
    refine P1.ite (fun _ => ?_) (fun _ => ?_)
    · skip
      refine P1.mono (f_87_130 x3 r5 x6 x7 300 (0 : Int32) g) ?_
      intro qq hq
      exact (fun r k hw => hq r k (by omega))
    · skip
      refine P1.ite (fun _ => ?_) (fun _ => ?_)
      · skip
        refine P1.mono (f_87_130 x3 r5 x6 x7 300 (0 : Int32) g) ?_
        intro qq hq
        exact (fun r k hw => hq r k (by omega))
      · skip
        refine P1.lt ?_
        intro v17 _
        refine P1.ite (fun _ => ?_) (fun _ => ?_)
        · skip
          exact (ih v17 x7 (x8 + 1))
        · skip
          refine P1.ix ?_
          intro k19 hk19 bk19
          refine P1.ix ?_
          intro k20 hk20 bk20
          refine P1.lt ?_
          intro v21 _
          refine P1.ite (fun _ => ?_) (fun _ => ?_)
          · skip
            exact (ih v17 (x7 + 1) (x8 + 1))
          · skip
            exact P1.ret (fun _ _ _ => rfl)
/-- EveningFirst.read -/
theorem f_87 (x1 : Int32) (x2 : Int32) (x3 : Int32) (x4 : Int32) (g : G) : P1 (d_87 x1 x2 x3 x4 g) (fun q : Int32 × G => ∀ r k, ¬ ((r = 0 ∧ k = 7) ∨ (9 ≤ r ∧ r < 17)) → q.2 r k = g r k) := by
  unfold d_87
  refine P1.lt ?_
  intro v1 _
  refine P1.ite (fun _ => ?_) (fun _ => ?_)
  · skip
    exact P1.ret (fun _ _ _ => rfl)
  · skip
    refine P1.lt ?_
    intro v3 _
    refine P1.ite (fun _ => ?_) (fun _ => ?_)
    · skip
      exact P1.ret (fun _ _ _ => rfl)
    · skip
      refine P1.ite (fun _ => ?_) (fun _ => ?_)
      · skip
        exact P1.ret (fun _ _ _ => rfl)
      · skip
        refine P1.ite (fun _ => ?_) (fun _ => ?_)
        · skip
          refine P1.ix ?_
          intro k7 hk7 bk7
          refine P1.lt ?_
          intro v8 _
          refine P1.mono (f_87_50 x3 x4 (105 + 2 * k7) g 300 v8 (0 : Int32) (0 : Int32)) ?_
          intro qq hq
          exact (fun r k hw => hq r k (by omega))
        · skip
          exact P1.ret (fun _ _ _ => rfl)
theorem f_186_208 (x7 : Int32) : ∀ (f : Nat) (x9 : Int32) (g : G), P1 (d_186_208 x7 f x9 g) (fun q : Int32 × G => ∀ r k, ¬ ((r = 114)) → q.2 r k = g r k) := by
  intro f
  induction f with
  | zero =>
    intro x9 g
    exact P1.nn
  | succ f ih =>
    intro x9 g
    rw [d_186_208.eq_2]
    refine P1.ite (fun _ => ?_) (fun _ => ?_)
    · skip
      exact P1.ret (fun _ _ _ => rfl)
    · skip
      refine P1.ix ?_
      intro k18 hk18 bk18
      refine P1.ix ?_
      intro k20 hk20 bk20
      refine P1.lt ?_
      intro g19 hg19
      have Fg19 : ∀ r k, ¬ ((r = 114)) → g19 r k = g r k := fun r k hw => (zg_fr hg19) r k (by omega)
      refine P1.mono (ih (x9 + 1) g19) ?_
      intro qq hq
      exact (fun r k hw => ((hq r k (by omega)).trans (Fg19 r k hw)))
theorem f_186_77 (x1 : Int32) (x2 : Int32) (x3 : Int32) (x4 : Int32) (x6 : Int32) (x7 : Int32) (g : G) (k62 : Int32 → Int32 → Int32 → G → Option (Int32 × G)) (hk62 : ∀ (x5 : Int32) (x6 : Int32) (x7 : Int32) (g : G), P1 (k62 x5 x6 x7 g) (fun q : Int32 × G => ∀ r k, ¬ ((r = 113 ∧ k = 26) ∨ (r = 114)) → q.2 r k = g r k)) : ∀ (f : Nat) (x5 : Int32) (x8 : Int32), P1 (d_186_77 x1 x2 x3 x4 x6 x7 g k62 f x5 x8) (fun q : Int32 × G => ∀ r k, ¬ ((r = 113 ∧ k = 26) ∨ (r = 114)) → q.2 r k = g r k) := by
  intro f
  induction f with
  | zero =>
    intro x5 x8
    exact P1.nn
  | succ f ih =>
    intro x5 x8
    rw [d_186_77.eq_2]
    refine P1.ite (fun _ => ?_) (fun _ => ?_)
    · skip
      refine P1.ite (fun _ => ?_) (fun _ => ?_)
      · skip
        refine P1.mono (hk62 x5 x6 (x7 + 1) g) ?_
        intro qq hq
        exact (fun r k hw => hq r k (by omega))
      · skip
        refine P1.ix ?_
        intro k12 hk12 bk12
        refine P1.ix ?_
        intro k13 hk13 bk13
        refine P1.bp (f_148 (g 121 k12) (g 121 k13) g) ?_
        intro v14 g15 hv14 qg15
        have Fg15 : ∀ r k, ¬ ((r = 113 ∧ k = 26) ∨ (r = 114)) → g15 r k = g r k := fun r k hw => (qg15) r k (by omega)
        refine P1.ite (fun _ => ?_) (fun _ => ?_)
        · skip
          refine P1.mono (hk62 x5 (x6 + 1) (x7 + 1) g15) ?_
          intro qq hq
          exact (fun r k hw => ((hq r k (by omega)).trans (Fg15 r k hw)))
        · skip
          refine P1.mono (f_186_208 x7 300 (0 : Int32) g15) ?_
          intro qq hq
          exact (fun r k hw => ((hq r k (by omega)).trans (Fg15 r k hw)))
    · skip
      refine P1.ite (fun _ => ?_) (fun _ => ?_)
      · skip
        refine P1.ite (fun _ => ?_) (fun _ => ?_)
        · skip
          refine P1.mono (hk62 x5 x6 (x7 + 1) g) ?_
          intro qq hq
          exact (fun r k hw => hq r k (by omega))
        · skip
          refine P1.ix ?_
          intro k23 hk23 bk23
          refine P1.ix ?_
          intro k24 hk24 bk24
          refine P1.bp (f_148 (g 121 k23) (g 121 k24) g) ?_
          intro v25 g26 hv25 qg26
          have Fg26 : ∀ r k, ¬ ((r = 113 ∧ k = 26) ∨ (r = 114)) → g26 r k = g r k := fun r k hw => (qg26) r k (by omega)
          refine P1.ite (fun _ => ?_) (fun _ => ?_)
          · skip
            refine P1.mono (hk62 x5 (x6 + 1) (x7 + 1) g26) ?_
            intro qq hq
            exact (fun r k hw => ((hq r k (by omega)).trans (Fg26 r k hw)))
          · skip
            refine P1.mono (f_186_208 x7 300 (0 : Int32) g26) ?_
            intro qq hq
            exact (fun r k hw => ((hq r k (by omega)).trans (Fg26 r k hw)))
      · skip
        refine P1.ix ?_
        intro k28 hk28 bk28
        refine P1.ite (fun _ => ?_) (fun _ => ?_)
        · skip
          refine P1.ix ?_
          intro k30 hk30 bk30
          refine P1.ite (fun _ => ?_) (fun _ => ?_)
          · skip
            refine P1.ite (fun _ => ?_) (fun _ => ?_)
            · skip
              exact (ih (2 : Int32) (x8 + 1))
            · skip
              refine P1.ix ?_
              intro k33 hk33 bk33
              refine P1.ite (fun _ => ?_) (fun _ => ?_)
              · skip
                exact (ih (0 : Int32) (x8 + 1))
              · skip
                exact (ih (2 : Int32) (x8 + 1))
          · skip
            exact (ih (3 : Int32) (x8 + 1))
        · skip
          exact (ih (1 : Int32) (x8 + 1))
theorem f_186_62 (x1 : Int32) (x2 : Int32) (x3 : Int32) (x4 : Int32) : ∀ (f : Nat) (x5 : Int32) (x6 : Int32) (x7 : Int32) (g : G), P1 (d_186_62 x1 x2 x3 x4 f x5 x6 x7 g) (fun q : Int32 × G => ∀ r k, ¬ ((r = 113 ∧ k = 26) ∨ (r = 114)) → q.2 r k = g r k) := by
  intro f
  induction f with
  | zero =>
    intro x5 x6 x7 g
    exact P1.nn
  | succ f ih =>
    intro x5 x6 x7 g
    rw [d_186_62.eq_2]
    refine P1.ite (fun _ => ?_) (fun _ => ?_)
    · skip
      refine P1.lt ?_
      intro g7 hg7
      have Fg7 : ∀ r k, ¬ ((r = 113 ∧ k = 26) ∨ (r = 114)) → g7 r k = g r k := fun r k hw => (zg_fr hg7) r k (by omega)
      exact P1.ret Fg7
    · skip
      refine P1.ite (fun _ => ?_) (fun _ => ?_)
      · skip
        refine P1.lt ?_
        intro g9 hg9
        have Fg9 : ∀ r k, ¬ ((r = 113 ∧ k = 26) ∨ (r = 114)) → g9 r k = g r k := fun r k hw => (zg_fr hg9) r k (by omega)
        exact P1.ret Fg9
      · skip
        refine P1.mono (f_186_77 x1 x2 x3 x4 x6 x7 g (d_186_62 x1 x2 x3 x4 f) (ih) 300 x5 (0 : Int32)) ?_
        intro qq hq
        exact (fun r k hw => hq r k (by omega))
theorem f_186_26 (x1 : Int32) (x2 : Int32) (x3 : Int32) (x4 : Int32) : ∀ (f : Nat) (x5 : Int32) (g : G), P1 (d_186_26 x1 x2 x3 x4 f x5 g) (fun q : Int32 × G => ∀ r k, ¬ ((r = 113 ∧ k = 26) ∨ (r = 114) ∨ (r = 122)) → q.2 r k = g r k) := by
  intro f
  induction f with
  | zero =>
    intro x5 g
    exact P1.nn
  | succ f ih =>
    intro x5 g
    rw [d_186_26.eq_2]
    refine P1.ite (fun _ => ?_) (fun _ => ?_)
    · skip
      refine P1.mono (f_186_62 x1 x2 x3 x4 300 (0 : Int32) (0 : Int32) (0 : Int32) g) ?_
      intro qq hq
      exact (fun r k hw => hq r k (by omega))
    · skip
      refine P1.bs ?_
      intro v35 _
      refine P1.ix ?_
      intro k37 hk37 bk37
      refine P1.lt ?_
      intro g36 hg36
      have Fg36 : ∀ r k, ¬ ((r = 113 ∧ k = 26) ∨ (r = 114) ∨ (r = 122)) → g36 r k = g r k := fun r k hw => (zg_fr hg36) r k (by omega)
      refine P1.mono (ih (x5 + 1) g36) ?_
      intro qq hq
      exact (fun r k hw => ((hq r k (by omega)).trans (Fg36 r k hw)))
/-- EveningFirstModel.read -/
theorem f_186 (x1 : Int32) (x2 : Int32) (x3 : Int32) (x4 : Int32) (g : G) : P1 (d_186 x1 x2 x3 x4 g) (fun q : Int32 × G => ∀ r k, ¬ ((r = 113 ∧ k = 26) ∨ (r = 114) ∨ (r = 122)) → q.2 r k = g r k) := by
  unfold d_186
  refine P1.lt ?_
  intro v1 _
  refine P1.ite (fun _ => ?_) (fun _ => ?_)
  · skip
    refine P1.lt ?_
    intro v3 _
    refine P1.ite (fun _ => ?_) (fun _ => ?_)
    · skip
      refine P1.mono (f_186_26 x1 x2 x3 x4 300 (0 : Int32) g) ?_
      intro qq hq
      exact (fun r k hw => hq r k (by omega))
    · skip
      exact P1.ret (fun _ _ _ => rfl)
  · skip
    exact P1.ret (fun _ _ _ => rfl)
/-- EveningFirst.count -/
theorem f_89 (x1 : Int32) (g : G) : P1 (d_89 x1 g) (fun q : Int32 × G => ∀ r k, ¬ ((25 ≤ r ∧ r < 28)) → q.2 r k = g r k) := by
  unfold d_89
  refine P1.ite (fun _ => ?_) (fun _ => ?_)
  · skip
    refine P1.bs ?_
    intro v2 _
    exact P1.ret (fun _ _ _ => rfl)
  · skip
    refine P1.ite (fun _ => ?_) (fun _ => ?_)
    · skip
      refine P1.bs ?_
      intro v4 _
      exact P1.ret (fun _ _ _ => rfl)
    · skip
      refine P1.ite (fun _ => ?_) (fun _ => ?_)
      · skip
        exact P1.ret (fun _ _ _ => rfl)
      · skip
        refine P1.ite (fun _ => ?_) (fun _ => ?_)
        · skip
          refine P1.ite (fun _ => ?_) (fun _ => ?_)
          · skip
            refine P1.ite (fun _ => ?_) (fun _ => ?_)
            · skip
              exact P1.ret (fun _ _ _ => rfl)
            · skip
              exact P1.ret (fun _ _ _ => rfl)
          · skip
            refine P1.ite (fun _ => ?_) (fun _ => ?_)
            · skip
              exact P1.ret (fun _ _ _ => rfl)
            · skip
              exact P1.ret (fun _ _ _ => rfl)
        · skip
          refine P1.ite (fun _ => ?_) (fun _ => ?_)
          · skip
            exact P1.ret (fun _ _ _ => rfl)
          · skip
            refine P1.ite (fun _ => ?_) (fun _ => ?_)
            · skip
              refine P1.lt ?_
              intro v12 _
              refine P1.ite (fun _ => ?_) (fun _ => ?_)
              · skip
                exact P1.ret (fun _ _ _ => rfl)
              · skip
                exact P1.ret (fun _ _ _ => rfl)
            · skip
              refine P1.ite (fun _ => ?_) (fun _ => ?_)
              · skip
                refine P1.bp (f_100 1 g) ?_
                intro v15 g16 hv15 qg16
                have Fg16 : ∀ r k, ¬ ((25 ≤ r ∧ r < 28)) → g16 r k = g r k := fun r k hw => (qg16) r k (by omega)
                exact P1.ret Fg16
              · skip
                exact P1.ret (fun _ _ _ => rfl)
