/-! printed by wip/tools/frame.py -/
/-- EveningFirst.feed -/
theorem f_54 (x1 : Int32) (g : G) : P1 (d_54 x1 g) (fun q : Int32 × G => ∀ r k, ¬ ((r = 28 ∧ k = 1) ∨ (r = 29)) → q.2 r k = g r k) := by
  unfold d_54
  refine P1.ite (fun _ => ?_) (fun _ => ?_)
  · skip
    exact P1.ret (fun _ _ _ => rfl)
  · skip
    refine P1.ite (fun _ => ?_) (fun _ => ?_)
    · skip
      refine P1.ite (fun _ => ?_) (fun _ => ?_)
      · skip
        refine P1.ix ?_
        intro k5 hk5 bk5
        refine P1.lt ?_
        intro g4 hg4
        have Fg4 : ∀ r k, ¬ ((r = 28 ∧ k = 1) ∨ (r = 29)) → g4 r k = g r k := fun r k hw => (zg_fr hg4) r k (by omega)
        refine P1.lt ?_
        intro g6 hg6
        have Fg6 : ∀ r k, ¬ ((r = 28 ∧ k = 1) ∨ (r = 29)) → g6 r k = g r k := fun r k hw => ((zg_fr hg6) r k (by omega)).trans (Fg4 r k hw)
        exact P1.ret Fg6
      · skip
        exact P1.ret (fun _ _ _ => rfl)
    · skip
      exact P1.ret (fun _ _ _ => rfl)
/-- EveningFirstModel.feed -/
theorem f_111 (x1 : Int32) (g : G) : P1 (d_111 x1 g) (fun q : Int32 × G => ∀ r k, ¬ ((r = 113 ∧ k = 14) ∨ (r = 117)) → q.2 r k = g r k) := by
  unfold d_111
  refine P1.lt ?_
  intro v1 _
  refine P1.ite (fun _ => ?_) (fun _ => ?_)
  · skip
    refine P1.ite (fun _ => ?_) (fun _ => ?_)
    · skip
      refine P1.ix ?_
      intro k5 hk5 bk5
      refine P1.lt ?_
      intro g4 hg4
      have Fg4 : ∀ r k, ¬ ((r = 113 ∧ k = 14) ∨ (r = 117)) → g4 r k = g r k := fun r k hw => (zg_fr hg4) r k (by omega)
      refine P1.lt ?_
      intro g6 hg6
      have Fg6 : ∀ r k, ¬ ((r = 113 ∧ k = 14) ∨ (r = 117)) → g6 r k = g r k := fun r k hw => ((zg_fr hg6) r k (by omega)).trans (Fg4 r k hw)
      exact P1.ret Fg6
    · skip
      exact P1.ret (fun _ _ _ => rfl)
  · skip
    exact P1.ret (fun _ _ _ => rfl)
/-- EveningFirst.end -/
theorem f_55 (x1 : Int32) (g : G) : T1 (d_55 x1 g) (fun q : Int32 × G => ∀ r k, ¬ ((r = 28 ∧ k = 1)) → q.2 r k = g r k) := by
  unfold d_55
  refine T1.ite (fun _ => ?_) (fun _ => ?_)
  · skip
    exact T1.ret (fun _ _ _ => rfl)
  · skip
    refine T1.ite (fun _ => ?_) (fun _ => ?_)
    · skip
      refine T1.lt ?_
      intro g3 hg3
      have Fg3 : ∀ r k, ¬ ((r = 28 ∧ k = 1)) → g3 r k = g r k := fun r k hw => (zg_fr hg3) r k (by omega)
      exact T1.ret Fg3
    · skip
      exact T1.ret (fun _ _ _ => rfl)
/-- EveningFirstModel.end -/
theorem f_112 (x1 : Int32) (g : G) : T1 (d_112 x1 g) (fun q : Int32 × G => ∀ r k, ¬ ((r = 113 ∧ k = 14)) → q.2 r k = g r k) := by
  unfold d_112
  refine T1.lt ?_
  intro v1 _
  refine T1.ite (fun _ => ?_) (fun _ => ?_)
  · skip
    refine T1.lt ?_
    intro g3 hg3
    have Fg3 : ∀ r k, ¬ ((r = 113 ∧ k = 14)) → g3 r k = g r k := fun r k hw => (zg_fr hg3) r k (by omega)
    exact T1.ret Fg3
  · skip
    exact T1.ret (fun _ _ _ => rfl)
theorem f_16_22 (r0 : Nat) : ∀ (f : Nat) (x1 : Int32) (g : G), P1 (d_16_22 r0 f x1 g) (fun q : G => ∀ r k, ¬ ((r0 + 8 ≤ r ∧ r < r0 + 16)) → q r k = g r k) := by
  intro f
  induction f with
  | zero =>
    intro x1 g
    exact P1.nn
  | succ f ih =>
    intro x1 g
    rw [d_16_22.eq_2]
    refine P1.ite (fun _ => ?_) (fun _ => ?_)
    · skip
      exact P1.ret (fun _ _ _ => rfl)
    · skip
      refine P1.ix ?_
      intro k6 hk6 bk6
      refine P1.lt ?_
      intro g7 hg7
      have Fg7 : ∀ r k, ¬ ((r0 + 8 ≤ r ∧ r < r0 + 16)) → g7 r k = g r k := fun r k hw => (zg_fr hg7) r k (by omega)
      refine P1.ix ?_
      intro k8 hk8 bk8
      refine P1.lt ?_
      intro g9 hg9
      have Fg9 : ∀ r k, ¬ ((r0 + 8 ≤ r ∧ r < r0 + 16)) → g9 r k = g r k := fun r k hw => ((zg_fr hg9) r k (by omega)).trans (Fg7 r k hw)
      refine P1.mono (ih (x1 + 1) g9) ?_
      intro qq hq
      exact (fun r k hw => ((hq r k (by omega)).trans (Fg9 r k hw)))
/-- EveningFirst$Family.empty -/
theorem f_16 (r0 : Nat) (g : G) : P1 (d_16 r0 g) (fun q : G => ∀ r k, ¬ ((r = r0) ∨ (r0 + 8 ≤ r ∧ r < r0 + 16)) → q r k = g r k) := by
  unfold d_16
  refine P1.lt ?_
  intro g1 hg1
  have Fg1 : ∀ r k, ¬ ((r = r0) ∨ (r0 + 8 ≤ r ∧ r < r0 + 16)) → g1 r k = g r k := fun r k hw => (zg_fr hg1) r k (by omega)
  refine P1.lt ?_
  intro g2 hg2
  have Fg2 : ∀ r k, ¬ ((r = r0) ∨ (r0 + 8 ≤ r ∧ r < r0 + 16)) → g2 r k = g r k := fun r k hw => ((zg_fr hg2) r k (by omega)).trans (Fg1 r k hw)
  refine P1.lt ?_
  intro g3 hg3
  have Fg3 : ∀ r k, ¬ ((r = r0) ∨ (r0 + 8 ≤ r ∧ r < r0 + 16)) → g3 r k = g r k := fun r k hw => ((zg_fr hg3) r k (by omega)).trans (Fg2 r k hw)
  refine P1.lt ?_
  intro g4 hg4
  have Fg4 : ∀ r k, ¬ ((r = r0) ∨ (r0 + 8 ≤ r ∧ r < r0 + 16)) → g4 r k = g r k := fun r k hw => ((zg_fr hg4) r k (by omega)).trans (Fg3 r k hw)
  refine P1.mono (f_16_22 r0 300 (0 : Int32) g4) ?_
  intro qq hq
  exact (fun r k hw => ((hq r k (by omega)).trans (Fg4 r k hw)))
theorem f_43_2 : ∀ (f : Nat) (x1 : Int32) (g : G), P1 (d_43_2 f x1 g) (fun q : Int32 × G => ∀ r k, ¬ ((r = 28 ∧ k = 10)) → q.2 r k = g r k) := by
  intro f
  induction f with
  | zero =>
    intro x1 g
    exact P1.nn
  | succ f ih =>
    intro x1 g
    rw [d_43_2.eq_2]
    refine P1.ite (fun _ => ?_) (fun _ => ?_)
    · skip
      exact P1.ret (fun _ _ _ => rfl)
    · skip
      refine P1.ix ?_
      intro k2 hk2 bk2
      refine P1.ite (fun _ => ?_) (fun _ => ?_)
      · skip
        exact P1.ret (fun _ _ _ => rfl)
      · skip
        refine P1.ix ?_
        intro k4 hk4 bk4
        refine P1.ite (fun _ => ?_) (fun _ => ?_)
        · skip
          exact P1.ret (fun _ _ _ => rfl)
        · skip
          refine P1.ix ?_
          intro k6 hk6 bk6
          refine P1.lt ?_
          intro g7 hg7
          have Fg7 : ∀ r k, ¬ ((r = 28 ∧ k = 10)) → g7 r k = g r k := fun r k hw => (zg_fr hg7) r k (by omega)
          refine P1.mono (ih (((10 * x1) + (g 29 k6)) - 48) g7) ?_
          intro qq hq
          exact (fun r k hw => ((hq r k (by omega)).trans (Fg7 r k hw)))
/-- EveningFirst$Reader.takeFigures -/
theorem f_43 (g : G) : P1 (d_43 g) (fun q : Int32 × G => ∀ r k, ¬ ((r = 28 ∧ k = 10)) → q.2 r k = g r k) := by
  unfold d_43
  refine P1.mono (f_43_2 300 (0 : Int32) g) ?_
  intro qq hq
  exact (fun r k hw => hq r k (by omega))
/-- EveningFirst$Reader.refuse -/
theorem f_44 (x1 : Int32) (x2 : Int32) (g : G) : T1 (d_44 x1 x2 g) (fun q : Bool × G => ∀ r k, ¬ ((r = 28 ∧ k = 2) ∨ (r = 28 ∧ k = 3)) → q.2 r k = g r k) := by
  unfold d_44
  refine T1.lt ?_
  intro g1 hg1
  have Fg1 : ∀ r k, ¬ ((r = 28 ∧ k = 2) ∨ (r = 28 ∧ k = 3)) → g1 r k = g r k := fun r k hw => (zg_fr hg1) r k (by omega)
  refine T1.lt ?_
  intro g2 hg2
  have Fg2 : ∀ r k, ¬ ((r = 28 ∧ k = 2) ∨ (r = 28 ∧ k = 3)) → g2 r k = g r k := fun r k hw => ((zg_fr hg2) r k (by omega)).trans (Fg1 r k hw)
  exact T1.ret Fg2
theorem f_42_155 (g : G) : P1 (d_42_155 g) (fun q : Bool × G => ∀ r k, ¬ ((r = 28 ∧ k = 2) ∨ (r = 28 ∧ k = 3) ∨ (r = 28 ∧ k = 8) ∨ (r = 28 ∧ k = 10) ∨ (r = 28 ∧ k = 11)) → q.2 r k = g r k) := by
  unfold d_42_155
  refine P1.ite (fun _ => ?_) (fun _ => ?_)
  · skip
    refine P1.lt ?_
    intro g9 hg9
    have Fg9 : ∀ r k, ¬ ((r = 28 ∧ k = 2) ∨ (r = 28 ∧ k = 3) ∨ (r = 28 ∧ k = 8) ∨ (r = 28 ∧ k = 10) ∨ (r = 28 ∧ k = 11)) → g9 r k = g r k := fun r k hw => (zg_fr hg9) r k (by omega)
    refine P1.bp (f_43  g9) ?_
    intro v10 g11 hv10 qg11
    have Fg11 : ∀ r k, ¬ ((r = 28 ∧ k = 2) ∨ (r = 28 ∧ k = 3) ∨ (r = 28 ∧ k = 8) ∨ (r = 28 ∧ k = 10) ∨ (r = 28 ∧ k = 11)) → g11 r k = g r k := fun r k hw => ((qg11) r k (by omega)).trans (Fg9 r k hw)
    refine P1.lt ?_
    intro g12 hg12
    have Fg12 : ∀ r k, ¬ ((r = 28 ∧ k = 2) ∨ (r = 28 ∧ k = 3) ∨ (r = 28 ∧ k = 8) ∨ (r = 28 ∧ k = 10) ∨ (r = 28 ∧ k = 11)) → g12 r k = g r k := fun r k hw => ((zg_fr hg12) r k (by omega)).trans (Fg11 r k hw)
    refine P1.ite (fun _ => ?_) (fun _ => ?_)
    · skip
      refine P1.pc (f_44 (1 : Int32) (g12 28 9) g12) ?_
      intro v14 g15 hv14 qg15
      have Fg15 : ∀ r k, ¬ ((r = 28 ∧ k = 2) ∨ (r = 28 ∧ k = 3) ∨ (r = 28 ∧ k = 8) ∨ (r = 28 ∧ k = 10) ∨ (r = 28 ∧ k = 11)) → g15 r k = g r k := fun r k hw => ((qg15) r k (by omega)).trans (Fg12 r k hw)
      refine P1.ite (fun _ => ?_) (fun _ => ?_)
      · skip
        exact P1.ret Fg15
      · skip
        exact P1.ret Fg15
    · skip
      refine P1.ite (fun _ => ?_) (fun _ => ?_)
      · skip
        exact P1.ret Fg12
      · skip
        refine P1.pc (f_44 (1 : Int32) (g12 28 9) g12) ?_
        intro v18 g19 hv18 qg19
        have Fg19 : ∀ r k, ¬ ((r = 28 ∧ k = 2) ∨ (r = 28 ∧ k = 3) ∨ (r = 28 ∧ k = 8) ∨ (r = 28 ∧ k = 10) ∨ (r = 28 ∧ k = 11)) → g19 r k = g r k := fun r k hw => ((qg19) r k (by omega)).trans (Fg12 r k hw)
        refine P1.ite (fun _ => ?_) (fun _ => ?_)
        · skip
          exact P1.ret Fg19
        · skip
          exact P1.ret Fg19
  · skip
    refine P1.lt ?_
    intro g21 hg21
    have Fg21 : ∀ r k, ¬ ((r = 28 ∧ k = 2) ∨ (r = 28 ∧ k = 3) ∨ (r = 28 ∧ k = 8) ∨ (r = 28 ∧ k = 10) ∨ (r = 28 ∧ k = 11)) → g21 r k = g r k := fun r k hw => (zg_fr hg21) r k (by omega)
    exact P1.ret Fg21
theorem f_42_103 : ∀ (f : Nat) (g : G), P1 (d_42_103 f g) (fun q : Bool × G => ∀ r k, ¬ ((r = 28 ∧ k = 2) ∨ (r = 28 ∧ k = 3) ∨ (r = 28 ∧ k = 8) ∨ (r = 28 ∧ k = 10) ∨ (r = 28 ∧ k = 11)) → q.2 r k = g r k) := by
  intro f
  induction f with
  | zero =>
    intro g
    exact P1.nn
  | succ f ih =>
    intro g
    rw [d_42_103.eq_2]
    refine P1.ite (fun _ => ?_) (fun _ => ?_)
    · skip
      refine P1.mono (f_42_155 g) ?_
      intro qq hq
      exact (fun r k hw => hq r k (by omega))
    · skip
      refine P1.ix ?_
      intro k22 hk22 bk22
      refine P1.ite (fun _ => ?_) (fun _ => ?_)
      · skip
        refine P1.mono (f_42_155 g) ?_
        intro qq hq
        exact (fun r k hw => hq r k (by omega))
      · skip
        refine P1.ix ?_
        intro k24 hk24 bk24
        refine P1.ite (fun _ => ?_) (fun _ => ?_)
        · skip
          refine P1.mono (f_42_155 g) ?_
          intro qq hq
          exact (fun r k hw => hq r k (by omega))
        · skip
          refine P1.lt ?_
          intro g26 hg26
          have Fg26 : ∀ r k, ¬ ((r = 28 ∧ k = 2) ∨ (r = 28 ∧ k = 3) ∨ (r = 28 ∧ k = 8) ∨ (r = 28 ∧ k = 10) ∨ (r = 28 ∧ k = 11)) → g26 r k = g r k := fun r k hw => (zg_fr hg26) r k (by omega)
          refine P1.mono (ih g26) ?_
          intro qq hq
          exact (fun r k hw => ((hq r k (by omega)).trans (Fg26 r k hw)))
theorem f_42_8 : ∀ (f : Nat) (g : G), P1 (d_42_8 f g) (fun q : Bool × G => ∀ r k, ¬ ((r = 28 ∧ k = 2) ∨ (r = 28 ∧ k = 3) ∨ (r = 28 ∧ k = 8) ∨ (r = 28 ∧ k = 9) ∨ (r = 28 ∧ k = 10) ∨ (r = 28 ∧ k = 11)) → q.2 r k = g r k) := by
  intro f
  induction f with
  | zero =>
    intro g
    exact P1.nn
  | succ f ih =>
    intro g
    rw [d_42_8.eq_2]
    refine P1.ite (fun _ => ?_) (fun _ => ?_)
    · skip
      refine P1.lt ?_
      intro g3 hg3
      have Fg3 : ∀ r k, ¬ ((r = 28 ∧ k = 2) ∨ (r = 28 ∧ k = 3) ∨ (r = 28 ∧ k = 8) ∨ (r = 28 ∧ k = 9) ∨ (r = 28 ∧ k = 10) ∨ (r = 28 ∧ k = 11)) → g3 r k = g r k := fun r k hw => (zg_fr hg3) r k (by omega)
      refine P1.ite (fun _ => ?_) (fun _ => ?_)
      · skip
        refine P1.ix ?_
        intro k5 hk5 bk5
        refine P1.ite (fun _ => ?_) (fun _ => ?_)
        · skip
          refine P1.mono (f_42_103 300 g3) ?_
          intro qq hq
          exact (fun r k hw => ((hq r k (by omega)).trans (Fg3 r k hw)))
        · skip
          refine P1.lt ?_
          intro g27 hg27
          have Fg27 : ∀ r k, ¬ ((r = 28 ∧ k = 2) ∨ (r = 28 ∧ k = 3) ∨ (r = 28 ∧ k = 8) ∨ (r = 28 ∧ k = 9) ∨ (r = 28 ∧ k = 10) ∨ (r = 28 ∧ k = 11)) → g27 r k = g r k := fun r k hw => ((zg_fr hg27) r k (by omega)).trans (Fg3 r k hw)
          refine P1.lt ?_
          intro g28 hg28
          have Fg28 : ∀ r k, ¬ ((r = 28 ∧ k = 2) ∨ (r = 28 ∧ k = 3) ∨ (r = 28 ∧ k = 8) ∨ (r = 28 ∧ k = 9) ∨ (r = 28 ∧ k = 10) ∨ (r = 28 ∧ k = 11)) → g28 r k = g r k := fun r k hw => ((zg_fr hg28) r k (by omega)).trans (Fg27 r k hw)
          exact P1.ret Fg28
      · skip
        refine P1.lt ?_
        intro g29 hg29
        have Fg29 : ∀ r k, ¬ ((r = 28 ∧ k = 2) ∨ (r = 28 ∧ k = 3) ∨ (r = 28 ∧ k = 8) ∨ (r = 28 ∧ k = 9) ∨ (r = 28 ∧ k = 10) ∨ (r = 28 ∧ k = 11)) → g29 r k = g r k := fun r k hw => ((zg_fr hg29) r k (by omega)).trans (Fg3 r k hw)
        exact P1.ret Fg29
    · skip
      refine P1.ix ?_
      intro k30 hk30 bk30
      refine P1.ite (fun _ => ?_) (fun _ => ?_)
      · skip
        refine P1.lt ?_
        intro g32 hg32
        have Fg32 : ∀ r k, ¬ ((r = 28 ∧ k = 2) ∨ (r = 28 ∧ k = 3) ∨ (r = 28 ∧ k = 8) ∨ (r = 28 ∧ k = 9) ∨ (r = 28 ∧ k = 10) ∨ (r = 28 ∧ k = 11)) → g32 r k = g r k := fun r k hw => (zg_fr hg32) r k (by omega)
        refine P1.ite (fun _ => ?_) (fun _ => ?_)
        · skip
          refine P1.ix ?_
          intro k34 hk34 bk34
          refine P1.ite (fun _ => ?_) (fun _ => ?_)
          · skip
            refine P1.mono (f_42_103 300 g32) ?_
            intro qq hq
            exact (fun r k hw => ((hq r k (by omega)).trans (Fg32 r k hw)))
          · skip
            refine P1.lt ?_
            intro g36 hg36
            have Fg36 : ∀ r k, ¬ ((r = 28 ∧ k = 2) ∨ (r = 28 ∧ k = 3) ∨ (r = 28 ∧ k = 8) ∨ (r = 28 ∧ k = 9) ∨ (r = 28 ∧ k = 10) ∨ (r = 28 ∧ k = 11)) → g36 r k = g r k := fun r k hw => ((zg_fr hg36) r k (by omega)).trans (Fg32 r k hw)
            refine P1.lt ?_
            intro g37 hg37
            have Fg37 : ∀ r k, ¬ ((r = 28 ∧ k = 2) ∨ (r = 28 ∧ k = 3) ∨ (r = 28 ∧ k = 8) ∨ (r = 28 ∧ k = 9) ∨ (r = 28 ∧ k = 10) ∨ (r = 28 ∧ k = 11)) → g37 r k = g r k := fun r k hw => ((zg_fr hg37) r k (by omega)).trans (Fg36 r k hw)
            exact P1.ret Fg37
        · skip
          refine P1.lt ?_
          intro g38 hg38
          have Fg38 : ∀ r k, ¬ ((r = 28 ∧ k = 2) ∨ (r = 28 ∧ k = 3) ∨ (r = 28 ∧ k = 8) ∨ (r = 28 ∧ k = 9) ∨ (r = 28 ∧ k = 10) ∨ (r = 28 ∧ k = 11)) → g38 r k = g r k := fun r k hw => ((zg_fr hg38) r k (by omega)).trans (Fg32 r k hw)
          exact P1.ret Fg38
      · skip
        refine P1.lt ?_
        intro g39 hg39
        have Fg39 : ∀ r k, ¬ ((r = 28 ∧ k = 2) ∨ (r = 28 ∧ k = 3) ∨ (r = 28 ∧ k = 8) ∨ (r = 28 ∧ k = 9) ∨ (r = 28 ∧ k = 10) ∨ (r = 28 ∧ k = 11)) → g39 r k = g r k := fun r k hw => (zg_fr hg39) r k (by omega)
        refine P1.mono (ih g39) ?_
        intro qq hq
        exact (fun r k hw => ((hq r k (by omega)).trans (Fg39 r k hw)))
/-- EveningFirst$Reader.takeToken -/
theorem f_42 (g : G) : P1 (d_42 g) (fun q : Bool × G => ∀ r k, ¬ ((r = 28 ∧ k = 2) ∨ (r = 28 ∧ k = 3) ∨ (r = 28 ∧ k = 8) ∨ (r = 28 ∧ k = 9) ∨ (r = 28 ∧ k = 10) ∨ (r = 28 ∧ k = 11)) → q.2 r k = g r k) := by
  unfold d_42
  refine P1.lt ?_
  intro g1 hg1
  have Fg1 : ∀ r k, ¬ ((r = 28 ∧ k = 2) ∨ (r = 28 ∧ k = 3) ∨ (r = 28 ∧ k = 8) ∨ (r = 28 ∧ k = 9) ∨ (r = 28 ∧ k = 10) ∨ (r = 28 ∧ k = 11)) → g1 r k = g r k := fun r k hw => (zg_fr hg1) r k (by omega)
  refine P1.mono (f_42_8 300 g1) ?_
  intro qq hq
  exact (fun r k hw => ((hq r k (by omega)).trans (Fg1 r k hw)))
/-- EveningFirst$Reader.isNumber -/
theorem f_40 (x1 : Int32) (x2 : Int32) (g : G) : T1 (d_40 x1 x2 g) (fun q : Bool × G => ∀ r k, ¬ ((r = 28 ∧ k = 2) ∨ (r = 28 ∧ k = 3)) → q.2 r k = g r k) := by
  unfold d_40
  refine T1.ite (fun _ => ?_) (fun _ => ?_)
  · skip
    refine T1.ite (fun _ => ?_) (fun _ => ?_)
    · skip
      refine T1.pc (f_44 (3 : Int32) (g 28 9) g) ?_
      intro v3 g4 hv3 qg4
      have Fg4 : ∀ r k, ¬ ((r = 28 ∧ k = 2) ∨ (r = 28 ∧ k = 3)) → g4 r k = g r k := fun r k hw => (qg4) r k (by omega)
      refine T1.ite (fun _ => ?_) (fun _ => ?_)
      · skip
        exact T1.ret Fg4
      · skip
        exact T1.ret Fg4
    · skip
      refine T1.ite (fun _ => ?_) (fun _ => ?_)
      · skip
        exact T1.ret (fun _ _ _ => rfl)
      · skip
        refine T1.pc (f_44 (3 : Int32) (g 28 9) g) ?_
        intro v7 g8 hv7 qg8
        have Fg8 : ∀ r k, ¬ ((r = 28 ∧ k = 2) ∨ (r = 28 ∧ k = 3)) → g8 r k = g r k := fun r k hw => (qg8) r k (by omega)
        refine T1.ite (fun _ => ?_) (fun _ => ?_)
        · skip
          exact T1.ret Fg8
        · skip
          exact T1.ret Fg8
  · skip
    refine T1.pc (f_44 (2 : Int32) (g 28 9) g) ?_
    intro v10 g11 hv10 qg11
    have Fg11 : ∀ r k, ¬ ((r = 28 ∧ k = 2) ∨ (r = 28 ∧ k = 3)) → g11 r k = g r k := fun r k hw => (qg11) r k (by omega)
    exact T1.ret Fg11
/-- EveningFirst$Reader.takeNumber -/
theorem f_38 (x1 : Int32) (x2 : Int32) (g : G) : P1 (d_38 x1 x2 g) (fun q : Bool × G => ∀ r k, ¬ ((r = 28 ∧ k = 2) ∨ (r = 28 ∧ k = 3) ∨ (r = 28 ∧ k = 8) ∨ (r = 28 ∧ k = 9) ∨ (r = 28 ∧ k = 10) ∨ (r = 28 ∧ k = 11)) → q.2 r k = g r k) := by
  unfold d_38
  refine P1.bp (f_42  g) ?_
  intro v1 g2 hv1 qg2
  have Fg2 : ∀ r k, ¬ ((r = 28 ∧ k = 2) ∨ (r = 28 ∧ k = 3) ∨ (r = 28 ∧ k = 8) ∨ (r = 28 ∧ k = 9) ∨ (r = 28 ∧ k = 10) ∨ (r = 28 ∧ k = 11)) → g2 r k = g r k := fun r k hw => (qg2) r k (by omega)
  refine P1.ite (fun _ => ?_) (fun _ => ?_)
  · skip
    refine P1.pc (f_40 x1 x2 g2) ?_
    intro v4 g5 hv4 qg5
    have Fg5 : ∀ r k, ¬ ((r = 28 ∧ k = 2) ∨ (r = 28 ∧ k = 3) ∨ (r = 28 ∧ k = 8) ∨ (r = 28 ∧ k = 9) ∨ (r = 28 ∧ k = 10) ∨ (r = 28 ∧ k = 11)) → g5 r k = g r k := fun r k hw => ((qg5) r k (by omega)).trans (Fg2 r k hw)
    refine P1.ite (fun _ => ?_) (fun _ => ?_)
    · skip
      exact P1.ret Fg5
    · skip
      exact P1.ret Fg5
  · skip
    exact P1.ret Fg2
/-- EveningFirst$Reader.takeSemicolon -/
theorem f_39 (g : G) : P1 (d_39 g) (fun q : Bool × G => ∀ r k, ¬ ((r = 28 ∧ k = 2) ∨ (r = 28 ∧ k = 3) ∨ (r = 28 ∧ k = 8) ∨ (r = 28 ∧ k = 9) ∨ (r = 28 ∧ k = 10) ∨ (r = 28 ∧ k = 11)) → q.2 r k = g r k) := by
  unfold d_39
  refine P1.bp (f_42  g) ?_
  intro v1 g2 hv1 qg2
  have Fg2 : ∀ r k, ¬ ((r = 28 ∧ k = 2) ∨ (r = 28 ∧ k = 3) ∨ (r = 28 ∧ k = 8) ∨ (r = 28 ∧ k = 9) ∨ (r = 28 ∧ k = 10) ∨ (r = 28 ∧ k = 11)) → g2 r k = g r k := fun r k hw => (qg2) r k (by omega)
  refine P1.ite (fun _ => ?_) (fun _ => ?_)
  · skip
    refine P1.ite (fun _ => ?_) (fun _ => ?_)
    · skip
      exact P1.ret Fg2
    · skip
      refine P1.pc (f_44 (2 : Int32) (g2 28 9) g2) ?_
      intro v5 g6 hv5 qg6
      have Fg6 : ∀ r k, ¬ ((r = 28 ∧ k = 2) ∨ (r = 28 ∧ k = 3) ∨ (r = 28 ∧ k = 8) ∨ (r = 28 ∧ k = 9) ∨ (r = 28 ∧ k = 10) ∨ (r = 28 ∧ k = 11)) → g6 r k = g r k := fun r k hw => ((qg6) r k (by omega)).trans (Fg2 r k hw)
      refine P1.ite (fun _ => ?_) (fun _ => ?_)
      · skip
        exact P1.ret Fg6
      · skip
        exact P1.ret Fg6
  · skip
    exact P1.ret Fg2
/-- EveningFirst$Reader.takeHours -/
theorem f_32 (g : G) : P1 (d_32 g) (fun q : Bool × G => ∀ r k, ¬ ((r = 28 ∧ k = 2) ∨ (r = 28 ∧ k = 3) ∨ (r = 28 ∧ k = 5) ∨ (r = 28 ∧ k = 8) ∨ (r = 28 ∧ k = 9) ∨ (r = 28 ∧ k = 10) ∨ (r = 28 ∧ k = 11) ∨ (r = 30)) → q.2 r k = g r k) := by
  unfold d_32
  refine P1.ite (fun _ => ?_) (fun _ => ?_)
  · skip
    refine P1.lt ?_
    intro g2 hg2
    have Fg2 : ∀ r k, ¬ ((r = 28 ∧ k = 2) ∨ (r = 28 ∧ k = 3) ∨ (r = 28 ∧ k = 5) ∨ (r = 28 ∧ k = 8) ∨ (r = 28 ∧ k = 9) ∨ (r = 28 ∧ k = 10) ∨ (r = 28 ∧ k = 11) ∨ (r = 30)) → g2 r k = g r k := fun r k hw => (zg_fr hg2) r k (by omega)
    refine P1.bp (f_38 (2 : Int32) (8 : Int32) g2) ?_
    intro v3 g4 hv3 qg4
    have Fg4 : ∀ r k, ¬ ((r = 28 ∧ k = 2) ∨ (r = 28 ∧ k = 3) ∨ (r = 28 ∧ k = 5) ∨ (r = 28 ∧ k = 8) ∨ (r = 28 ∧ k = 9) ∨ (r = 28 ∧ k = 10) ∨ (r = 28 ∧ k = 11) ∨ (r = 30)) → g4 r k = g r k := fun r k hw => ((qg4) r k (by omega)).trans (Fg2 r k hw)
    refine P1.ite (fun _ => ?_) (fun _ => ?_)
    · skip
      refine P1.lt ?_
      intro g6 hg6
      have Fg6 : ∀ r k, ¬ ((r = 28 ∧ k = 2) ∨ (r = 28 ∧ k = 3) ∨ (r = 28 ∧ k = 5) ∨ (r = 28 ∧ k = 8) ∨ (r = 28 ∧ k = 9) ∨ (r = 28 ∧ k = 10) ∨ (r = 28 ∧ k = 11) ∨ (r = 30)) → g6 r k = g r k := fun r k hw => ((zg_fr hg6) r k (by omega)).trans (Fg4 r k hw)
      refine P1.bp (f_39  g6) ?_
      intro v7 g8 hv7 qg8
      have Fg8 : ∀ r k, ¬ ((r = 28 ∧ k = 2) ∨ (r = 28 ∧ k = 3) ∨ (r = 28 ∧ k = 5) ∨ (r = 28 ∧ k = 8) ∨ (r = 28 ∧ k = 9) ∨ (r = 28 ∧ k = 10) ∨ (r = 28 ∧ k = 11) ∨ (r = 30)) → g8 r k = g r k := fun r k hw => ((qg8) r k (by omega)).trans (Fg6 r k hw)
      exact P1.ret Fg8
    · skip
      exact P1.ret Fg4
  · skip
    refine P1.pc (f_44 (4 : Int32) (g 28 9) g) ?_
    intro v9 g10 hv9 qg10
    have Fg10 : ∀ r k, ¬ ((r = 28 ∧ k = 2) ∨ (r = 28 ∧ k = 3) ∨ (r = 28 ∧ k = 5) ∨ (r = 28 ∧ k = 8) ∨ (r = 28 ∧ k = 9) ∨ (r = 28 ∧ k = 10) ∨ (r = 28 ∧ k = 11) ∨ (r = 30)) → g10 r k = g r k := fun r k hw => (qg10) r k (by omega)
    exact P1.ret Fg10
theorem f_37_4 : ∀ (f : Nat) (x1 : Int32) (x2 : Int32) (g : G), P1 (d_37_4 f x1 x2 g) (fun q : Int32 × G => ∀ r k, ¬ ((r = 28 ∧ k = 2) ∨ (r = 28 ∧ k = 3) ∨ (r = 28 ∧ k = 8) ∨ (r = 28 ∧ k = 9) ∨ (r = 28 ∧ k = 10) ∨ (r = 28 ∧ k = 11)) → q.2 r k = g r k) := by
  intro f
  induction f with
  | zero =>
    intro x1 x2 g
    exact P1.nn
  | succ f ih =>
    intro x1 x2 g
    rw [d_37_4.eq_2]
    refine P1.ite (fun _ => ?_) (fun _ => ?_)
    · skip
      exact P1.ret (fun _ _ _ => rfl)
    · skip
      refine P1.bp (f_42  g) ?_
      intro v2 g3 hv2 qg3
      have Fg3 : ∀ r k, ¬ ((r = 28 ∧ k = 2) ∨ (r = 28 ∧ k = 3) ∨ (r = 28 ∧ k = 8) ∨ (r = 28 ∧ k = 9) ∨ (r = 28 ∧ k = 10) ∨ (r = 28 ∧ k = 11)) → g3 r k = g r k := fun r k hw => (qg3) r k (by omega)
      refine P1.ite (fun _ => ?_) (fun _ => ?_)
      · skip
        refine P1.ite (fun _ => ?_) (fun _ => ?_)
        · skip
          exact P1.ret Fg3
        · skip
          refine P1.pc (f_40 (0 : Int32) (5 : Int32) g3) ?_
          intro v6 g7 hv6 qg7
          have Fg7 : ∀ r k, ¬ ((r = 28 ∧ k = 2) ∨ (r = 28 ∧ k = 3) ∨ (r = 28 ∧ k = 8) ∨ (r = 28 ∧ k = 9) ∨ (r = 28 ∧ k = 10) ∨ (r = 28 ∧ k = 11)) → g7 r k = g r k := fun r k hw => ((qg7) r k (by omega)).trans (Fg3 r k hw)
          refine P1.ite (fun _ => ?_) (fun _ => ?_)
          · skip
            refine P1.lt ?_
            intro v9 _
            refine P1.ite (fun _ => ?_) (fun _ => ?_)
            · skip
              refine P1.pc (f_44 (4 : Int32) (g7 28 9) g7) ?_
              intro v11 g12 hv11 qg12
              have Fg12 : ∀ r k, ¬ ((r = 28 ∧ k = 2) ∨ (r = 28 ∧ k = 3) ∨ (r = 28 ∧ k = 8) ∨ (r = 28 ∧ k = 9) ∨ (r = 28 ∧ k = 10) ∨ (r = 28 ∧ k = 11)) → g12 r k = g r k := fun r k hw => ((qg12) r k (by omega)).trans (Fg7 r k hw)
              exact P1.ret Fg12
            · skip
              refine P1.mono (ih (x1 ||| ((1 : Int32) <<< ((g7 28 11) &&& 31))) (x2 + 1) g7) ?_
              intro qq hq
              exact (fun r k hw => ((hq r k (by omega)).trans (Fg7 r k hw)))
          · skip
            exact P1.ret Fg7
      · skip
        exact P1.ret Fg3
/-- EveningFirst$Reader.takeThings -/
theorem f_37 (g : G) : P1 (d_37 g) (fun q : Int32 × G => ∀ r k, ¬ ((r = 28 ∧ k = 2) ∨ (r = 28 ∧ k = 3) ∨ (r = 28 ∧ k = 8) ∨ (r = 28 ∧ k = 9) ∨ (r = 28 ∧ k = 10) ∨ (r = 28 ∧ k = 11)) → q.2 r k = g r k) := by
  unfold d_37
  refine P1.mono (f_37_4 300 (0 : Int32) (0 : Int32) g) ?_
  intro qq hq
  exact (fun r k hw => hq r k (by omega))
/-- EveningFirst$Reader.takeOne -/
theorem f_33 (g : G) : P1 (d_33 g) (fun q : Bool × G => ∀ r k, ¬ ((r = 28 ∧ k = 2) ∨ (r = 28 ∧ k = 3) ∨ (r = 28 ∧ k = 8) ∨ (r = 28 ∧ k = 9) ∨ (r = 28 ∧ k = 10) ∨ (r = 28 ∧ k = 11) ∨ (r = 30) ∨ (34 ≤ r ∧ r < 38)) → q.2 r k = g r k) := by
  unfold d_33
  refine P1.ite (fun _ => ?_) (fun _ => ?_)
  · skip
    refine P1.ix ?_
    intro k2 hk2 bk2
    refine P1.lt ?_
    intro g3 hg3
    have Fg3 : ∀ r k, ¬ ((r = 28 ∧ k = 2) ∨ (r = 28 ∧ k = 3) ∨ (r = 28 ∧ k = 8) ∨ (r = 28 ∧ k = 9) ∨ (r = 28 ∧ k = 10) ∨ (r = 28 ∧ k = 11) ∨ (r = 30) ∨ (34 ≤ r ∧ r < 38)) → g3 r k = g r k := fun r k hw => (zg_fr hg3) r k (by omega)
    refine P1.bp (f_42  g3) ?_
    intro v4 g5 hv4 qg5
    have Fg5 : ∀ r k, ¬ ((r = 28 ∧ k = 2) ∨ (r = 28 ∧ k = 3) ∨ (r = 28 ∧ k = 8) ∨ (r = 28 ∧ k = 9) ∨ (r = 28 ∧ k = 10) ∨ (r = 28 ∧ k = 11) ∨ (r = 30) ∨ (34 ≤ r ∧ r < 38)) → g5 r k = g r k := fun r k hw => ((qg5) r k (by omega)).trans (Fg3 r k hw)
    refine P1.ite (fun _ => ?_) (fun _ => ?_)
    · skip
      refine P1.bs ?_
      intro v7 _
      refine P1.ite (fun _ => ?_) (fun _ => ?_)
      · skip
        refine P1.lt ?_
        intro g25 hg25
        have Fg25 : ∀ r k, ¬ ((r = 28 ∧ k = 2) ∨ (r = 28 ∧ k = 3) ∨ (r = 28 ∧ k = 8) ∨ (r = 28 ∧ k = 9) ∨ (r = 28 ∧ k = 10) ∨ (r = 28 ∧ k = 11) ∨ (r = 30) ∨ (34 ≤ r ∧ r < 38)) → g25 r k = g r k := fun r k hw => ((zg_fr hg25) r k (by omega)).trans (Fg5 r k hw)
        refine P1.bp (f_37  g25) ?_
        intro v26 g27 hv26 qg27
        have Fg27 : ∀ r k, ¬ ((r = 28 ∧ k = 2) ∨ (r = 28 ∧ k = 3) ∨ (r = 28 ∧ k = 8) ∨ (r = 28 ∧ k = 9) ∨ (r = 28 ∧ k = 10) ∨ (r = 28 ∧ k = 11) ∨ (r = 30) ∨ (34 ≤ r ∧ r < 38)) → g27 r k = g r k := fun r k hw => ((qg27) r k (by omega)).trans (Fg25 r k hw)
        refine P1.lt ?_
        intro g28 hg28
        have Fg28 : ∀ r k, ¬ ((r = 28 ∧ k = 2) ∨ (r = 28 ∧ k = 3) ∨ (r = 28 ∧ k = 8) ∨ (r = 28 ∧ k = 9) ∨ (r = 28 ∧ k = 10) ∨ (r = 28 ∧ k = 11) ∨ (r = 30) ∨ (34 ≤ r ∧ r < 38)) → g28 r k = g r k := fun r k hw => ((zg_fr hg28) r k (by omega)).trans (Fg27 r k hw)
        refine P1.ite (fun _ => ?_) (fun _ => ?_)
        · skip
          exact P1.ret Fg28
        · skip
          exact P1.ret Fg28
      · skip
        refine P1.bs ?_
        intro v9 _
        refine P1.ite (fun _ => ?_) (fun _ => ?_)
        · skip
          refine P1.lt ?_
          intro g20 hg20
          have Fg20 : ∀ r k, ¬ ((r = 28 ∧ k = 2) ∨ (r = 28 ∧ k = 3) ∨ (r = 28 ∧ k = 8) ∨ (r = 28 ∧ k = 9) ∨ (r = 28 ∧ k = 10) ∨ (r = 28 ∧ k = 11) ∨ (r = 30) ∨ (34 ≤ r ∧ r < 38)) → g20 r k = g r k := fun r k hw => ((zg_fr hg20) r k (by omega)).trans (Fg5 r k hw)
          refine P1.bp (f_37  g20) ?_
          intro v21 g22 hv21 qg22
          have Fg22 : ∀ r k, ¬ ((r = 28 ∧ k = 2) ∨ (r = 28 ∧ k = 3) ∨ (r = 28 ∧ k = 8) ∨ (r = 28 ∧ k = 9) ∨ (r = 28 ∧ k = 10) ∨ (r = 28 ∧ k = 11) ∨ (r = 30) ∨ (34 ≤ r ∧ r < 38)) → g22 r k = g r k := fun r k hw => ((qg22) r k (by omega)).trans (Fg20 r k hw)
          refine P1.lt ?_
          intro g23 hg23
          have Fg23 : ∀ r k, ¬ ((r = 28 ∧ k = 2) ∨ (r = 28 ∧ k = 3) ∨ (r = 28 ∧ k = 8) ∨ (r = 28 ∧ k = 9) ∨ (r = 28 ∧ k = 10) ∨ (r = 28 ∧ k = 11) ∨ (r = 30) ∨ (34 ≤ r ∧ r < 38)) → g23 r k = g r k := fun r k hw => ((zg_fr hg23) r k (by omega)).trans (Fg22 r k hw)
          refine P1.ite (fun _ => ?_) (fun _ => ?_)
          · skip
            exact P1.ret Fg23
          · skip
            exact P1.ret Fg23
        · skip
          refine P1.bs ?_
          intro v11 _
          refine P1.ite (fun _ => ?_) (fun _ => ?_)
          · skip
            refine P1.lt ?_
            intro g15 hg15
            have Fg15 : ∀ r k, ¬ ((r = 28 ∧ k = 2) ∨ (r = 28 ∧ k = 3) ∨ (r = 28 ∧ k = 8) ∨ (r = 28 ∧ k = 9) ∨ (r = 28 ∧ k = 10) ∨ (r = 28 ∧ k = 11) ∨ (r = 30) ∨ (34 ≤ r ∧ r < 38)) → g15 r k = g r k := fun r k hw => ((zg_fr hg15) r k (by omega)).trans (Fg5 r k hw)
            refine P1.bp (f_37  g15) ?_
            intro v16 g17 hv16 qg17
            have Fg17 : ∀ r k, ¬ ((r = 28 ∧ k = 2) ∨ (r = 28 ∧ k = 3) ∨ (r = 28 ∧ k = 8) ∨ (r = 28 ∧ k = 9) ∨ (r = 28 ∧ k = 10) ∨ (r = 28 ∧ k = 11) ∨ (r = 30) ∨ (34 ≤ r ∧ r < 38)) → g17 r k = g r k := fun r k hw => ((qg17) r k (by omega)).trans (Fg15 r k hw)
            refine P1.lt ?_
            intro g18 hg18
            have Fg18 : ∀ r k, ¬ ((r = 28 ∧ k = 2) ∨ (r = 28 ∧ k = 3) ∨ (r = 28 ∧ k = 8) ∨ (r = 28 ∧ k = 9) ∨ (r = 28 ∧ k = 10) ∨ (r = 28 ∧ k = 11) ∨ (r = 30) ∨ (34 ≤ r ∧ r < 38)) → g18 r k = g r k := fun r k hw => ((zg_fr hg18) r k (by omega)).trans (Fg17 r k hw)
            refine P1.ite (fun _ => ?_) (fun _ => ?_)
            · skip
              exact P1.ret Fg18
            · skip
              exact P1.ret Fg18
          · skip
            refine P1.pc (f_44 (2 : Int32) (g5 28 9) g5) ?_
            intro v13 g14 hv13 qg14
            have Fg14 : ∀ r k, ¬ ((r = 28 ∧ k = 2) ∨ (r = 28 ∧ k = 3) ∨ (r = 28 ∧ k = 8) ∨ (r = 28 ∧ k = 9) ∨ (r = 28 ∧ k = 10) ∨ (r = 28 ∧ k = 11) ∨ (r = 30) ∨ (34 ≤ r ∧ r < 38)) → g14 r k = g r k := fun r k hw => ((qg14) r k (by omega)).trans (Fg5 r k hw)
            exact P1.ret Fg14
    · skip
      exact P1.ret Fg5
  · skip
    refine P1.pc (f_44 (5 : Int32) (g 28 9) g) ?_
    intro v30 g31 hv30 qg31
    have Fg31 : ∀ r k, ¬ ((r = 28 ∧ k = 2) ∨ (r = 28 ∧ k = 3) ∨ (r = 28 ∧ k = 8) ∨ (r = 28 ∧ k = 9) ∨ (r = 28 ∧ k = 10) ∨ (r = 28 ∧ k = 11) ∨ (r = 30) ∨ (34 ≤ r ∧ r < 38)) → g31 r k = g r k := fun r k hw => (qg31) r k (by omega)
    exact P1.ret Fg31
/-- EveningFirst$Reader.takeDeed -/
theorem f_34 (g : G) : P1 (d_34 g) (fun q : Bool × G => ∀ r k, ¬ ((r = 28 ∧ k = 2) ∨ (r = 28 ∧ k = 3) ∨ (r = 28 ∧ k = 8) ∨ (r = 28 ∧ k = 9) ∨ (r = 28 ∧ k = 10) ∨ (r = 28 ∧ k = 11) ∨ (r = 30) ∨ (38 ≤ r ∧ r < 46)) → q.2 r k = g r k) := by
  unfold d_34
  refine P1.ite (fun _ => ?_) (fun _ => ?_)
  · skip
    refine P1.ix ?_
    intro k2 hk2 bk2
    refine P1.lt ?_
    intro g3 hg3
    have Fg3 : ∀ r k, ¬ ((r = 28 ∧ k = 2) ∨ (r = 28 ∧ k = 3) ∨ (r = 28 ∧ k = 8) ∨ (r = 28 ∧ k = 9) ∨ (r = 28 ∧ k = 10) ∨ (r = 28 ∧ k = 11) ∨ (r = 30) ∨ (38 ≤ r ∧ r < 46)) → g3 r k = g r k := fun r k hw => (zg_fr hg3) r k (by omega)
    refine P1.bp (f_38 (0 : Int32) (7 : Int32) g3) ?_
    intro v4 g5 hv4 qg5
    have Fg5 : ∀ r k, ¬ ((r = 28 ∧ k = 2) ∨ (r = 28 ∧ k = 3) ∨ (r = 28 ∧ k = 8) ∨ (r = 28 ∧ k = 9) ∨ (r = 28 ∧ k = 10) ∨ (r = 28 ∧ k = 11) ∨ (r = 30) ∨ (38 ≤ r ∧ r < 46)) → g5 r k = g r k := fun r k hw => ((qg5) r k (by omega)).trans (Fg3 r k hw)
    refine P1.ite (fun _ => ?_) (fun _ => ?_)
    · skip
      refine P1.lt ?_
      intro g7 hg7
      have Fg7 : ∀ r k, ¬ ((r = 28 ∧ k = 2) ∨ (r = 28 ∧ k = 3) ∨ (r = 28 ∧ k = 8) ∨ (r = 28 ∧ k = 9) ∨ (r = 28 ∧ k = 10) ∨ (r = 28 ∧ k = 11) ∨ (r = 30) ∨ (38 ≤ r ∧ r < 46)) → g7 r k = g r k := fun r k hw => ((zg_fr hg7) r k (by omega)).trans (Fg5 r k hw)
      refine P1.bp (f_38 (0 : Int32) (3 : Int32) g7) ?_
      intro v8 g9 hv8 qg9
      have Fg9 : ∀ r k, ¬ ((r = 28 ∧ k = 2) ∨ (r = 28 ∧ k = 3) ∨ (r = 28 ∧ k = 8) ∨ (r = 28 ∧ k = 9) ∨ (r = 28 ∧ k = 10) ∨ (r = 28 ∧ k = 11) ∨ (r = 30) ∨ (38 ≤ r ∧ r < 46)) → g9 r k = g r k := fun r k hw => ((qg9) r k (by omega)).trans (Fg7 r k hw)
      refine P1.ite (fun _ => ?_) (fun _ => ?_)
      · skip
        refine P1.lt ?_
        intro g11 hg11
        have Fg11 : ∀ r k, ¬ ((r = 28 ∧ k = 2) ∨ (r = 28 ∧ k = 3) ∨ (r = 28 ∧ k = 8) ∨ (r = 28 ∧ k = 9) ∨ (r = 28 ∧ k = 10) ∨ (r = 28 ∧ k = 11) ∨ (r = 30) ∨ (38 ≤ r ∧ r < 46)) → g11 r k = g r k := fun r k hw => ((zg_fr hg11) r k (by omega)).trans (Fg9 r k hw)
        refine P1.bp (f_38 (0 : Int32) (3 : Int32) g11) ?_
        intro v12 g13 hv12 qg13
        have Fg13 : ∀ r k, ¬ ((r = 28 ∧ k = 2) ∨ (r = 28 ∧ k = 3) ∨ (r = 28 ∧ k = 8) ∨ (r = 28 ∧ k = 9) ∨ (r = 28 ∧ k = 10) ∨ (r = 28 ∧ k = 11) ∨ (r = 30) ∨ (38 ≤ r ∧ r < 46)) → g13 r k = g r k := fun r k hw => ((qg13) r k (by omega)).trans (Fg11 r k hw)
        refine P1.ite (fun _ => ?_) (fun _ => ?_)
        · skip
          refine P1.lt ?_
          intro g15 hg15
          have Fg15 : ∀ r k, ¬ ((r = 28 ∧ k = 2) ∨ (r = 28 ∧ k = 3) ∨ (r = 28 ∧ k = 8) ∨ (r = 28 ∧ k = 9) ∨ (r = 28 ∧ k = 10) ∨ (r = 28 ∧ k = 11) ∨ (r = 30) ∨ (38 ≤ r ∧ r < 46)) → g15 r k = g r k := fun r k hw => ((zg_fr hg15) r k (by omega)).trans (Fg13 r k hw)
          refine P1.bp (f_38 (0 : Int32) (5 : Int32) g15) ?_
          intro v16 g17 hv16 qg17
          have Fg17 : ∀ r k, ¬ ((r = 28 ∧ k = 2) ∨ (r = 28 ∧ k = 3) ∨ (r = 28 ∧ k = 8) ∨ (r = 28 ∧ k = 9) ∨ (r = 28 ∧ k = 10) ∨ (r = 28 ∧ k = 11) ∨ (r = 30) ∨ (38 ≤ r ∧ r < 46)) → g17 r k = g r k := fun r k hw => ((qg17) r k (by omega)).trans (Fg15 r k hw)
          refine P1.ite (fun _ => ?_) (fun _ => ?_)
          · skip
            refine P1.lt ?_
            intro g19 hg19
            have Fg19 : ∀ r k, ¬ ((r = 28 ∧ k = 2) ∨ (r = 28 ∧ k = 3) ∨ (r = 28 ∧ k = 8) ∨ (r = 28 ∧ k = 9) ∨ (r = 28 ∧ k = 10) ∨ (r = 28 ∧ k = 11) ∨ (r = 30) ∨ (38 ≤ r ∧ r < 46)) → g19 r k = g r k := fun r k hw => ((zg_fr hg19) r k (by omega)).trans (Fg17 r k hw)
            refine P1.bp (f_37  g19) ?_
            intro v20 g21 hv20 qg21
            have Fg21 : ∀ r k, ¬ ((r = 28 ∧ k = 2) ∨ (r = 28 ∧ k = 3) ∨ (r = 28 ∧ k = 8) ∨ (r = 28 ∧ k = 9) ∨ (r = 28 ∧ k = 10) ∨ (r = 28 ∧ k = 11) ∨ (r = 30) ∨ (38 ≤ r ∧ r < 46)) → g21 r k = g r k := fun r k hw => ((qg21) r k (by omega)).trans (Fg19 r k hw)
            refine P1.lt ?_
            intro g22 hg22
            have Fg22 : ∀ r k, ¬ ((r = 28 ∧ k = 2) ∨ (r = 28 ∧ k = 3) ∨ (r = 28 ∧ k = 8) ∨ (r = 28 ∧ k = 9) ∨ (r = 28 ∧ k = 10) ∨ (r = 28 ∧ k = 11) ∨ (r = 30) ∨ (38 ≤ r ∧ r < 46)) → g22 r k = g r k := fun r k hw => ((zg_fr hg22) r k (by omega)).trans (Fg21 r k hw)
            refine P1.ite (fun _ => ?_) (fun _ => ?_)
            · skip
              exact P1.ret Fg22
            · skip
              exact P1.ret Fg22
          · skip
            exact P1.ret Fg17
        · skip
          exact P1.ret Fg13
      · skip
        exact P1.ret Fg9
    · skip
      exact P1.ret Fg5
  · skip
    refine P1.pc (f_44 (5 : Int32) (g 28 9) g) ?_
    intro v24 g25 hv24 qg25
    have Fg25 : ∀ r k, ¬ ((r = 28 ∧ k = 2) ∨ (r = 28 ∧ k = 3) ∨ (r = 28 ∧ k = 8) ∨ (r = 28 ∧ k = 9) ∨ (r = 28 ∧ k = 10) ∨ (r = 28 ∧ k = 11) ∨ (r = 30) ∨ (38 ≤ r ∧ r < 46)) → g25 r k = g r k := fun r k hw => (qg25) r k (by omega)
    exact P1.ret Fg25
/-- EveningFirst$Reader.takeMark -/
theorem f_35 (x1 : Int32) (g : G) : P1 (d_35 x1 g) (fun q : Bool × G => ∀ r k, ¬ ((r = 28 ∧ k = 2) ∨ (r = 28 ∧ k = 3) ∨ (r = 28 ∧ k = 6) ∨ (r = 28 ∧ k = 8) ∨ (r = 28 ∧ k = 9) ∨ (r = 28 ∧ k = 10) ∨ (r = 28 ∧ k = 11) ∨ (38 ≤ r ∧ r < 46)) → q.2 r k = g r k) := by
  unfold d_35
  refine P1.bp (f_38 (0 : Int32) (7 : Int32) g) ?_
  intro v1 g2 hv1 qg2
  have Fg2 : ∀ r k, ¬ ((r = 28 ∧ k = 2) ∨ (r = 28 ∧ k = 3) ∨ (r = 28 ∧ k = 6) ∨ (r = 28 ∧ k = 8) ∨ (r = 28 ∧ k = 9) ∨ (r = 28 ∧ k = 10) ∨ (r = 28 ∧ k = 11) ∨ (38 ≤ r ∧ r < 46)) → g2 r k = g r k := fun r k hw => (qg2) r k (by omega)
  refine P1.ite (fun _ => ?_) (fun _ => ?_)
  · skip
    refine P1.lt ?_
    intro v4 _
    refine P1.ite (fun _ => ?_) (fun _ => ?_)
    · skip
      refine P1.pc (f_44 (4 : Int32) (g2 28 9) g2) ?_
      intro v11 g12 hv11 qg12
      have Fg12 : ∀ r k, ¬ ((r = 28 ∧ k = 2) ∨ (r = 28 ∧ k = 3) ∨ (r = 28 ∧ k = 6) ∨ (r = 28 ∧ k = 8) ∨ (r = 28 ∧ k = 9) ∨ (r = 28 ∧ k = 10) ∨ (r = 28 ∧ k = 11) ∨ (38 ≤ r ∧ r < 46)) → g12 r k = g r k := fun r k hw => ((qg12) r k (by omega)).trans (Fg2 r k hw)
      exact P1.ret Fg12
    · skip
      refine P1.lt ?_
      intro g6 hg6
      have Fg6 : ∀ r k, ¬ ((r = 28 ∧ k = 2) ∨ (r = 28 ∧ k = 3) ∨ (r = 28 ∧ k = 6) ∨ (r = 28 ∧ k = 8) ∨ (r = 28 ∧ k = 9) ∨ (r = 28 ∧ k = 10) ∨ (r = 28 ∧ k = 11) ∨ (38 ≤ r ∧ r < 46)) → g6 r k = g r k := fun r k hw => ((zg_fr hg6) r k (by omega)).trans (Fg2 r k hw)
      refine P1.ix ?_
      intro k7 hk7 bk7
      refine P1.lt ?_
      intro g8 hg8
      have Fg8 : ∀ r k, ¬ ((r = 28 ∧ k = 2) ∨ (r = 28 ∧ k = 3) ∨ (r = 28 ∧ k = 6) ∨ (r = 28 ∧ k = 8) ∨ (r = 28 ∧ k = 9) ∨ (r = 28 ∧ k = 10) ∨ (r = 28 ∧ k = 11) ∨ (38 ≤ r ∧ r < 46)) → g8 r k = g r k := fun r k hw => ((zg_fr hg8) r k (by omega)).trans (Fg6 r k hw)
      refine P1.bp (f_39  g8) ?_
      intro v9 g10 hv9 qg10
      have Fg10 : ∀ r k, ¬ ((r = 28 ∧ k = 2) ∨ (r = 28 ∧ k = 3) ∨ (r = 28 ∧ k = 6) ∨ (r = 28 ∧ k = 8) ∨ (r = 28 ∧ k = 9) ∨ (r = 28 ∧ k = 10) ∨ (r = 28 ∧ k = 11) ∨ (38 ≤ r ∧ r < 46)) → g10 r k = g r k := fun r k hw => ((qg10) r k (by omega)).trans (Fg8 r k hw)
      exact P1.ret Fg10
  · skip
    exact P1.ret Fg2
/-- EveningFirst$Reader.takeOdds -/
theorem f_36 (g : G) : P1 (d_36 g) (fun q : Bool × G => ∀ r k, ¬ ((r = 28 ∧ k = 2) ∨ (r = 28 ∧ k = 3) ∨ (r = 28 ∧ k = 7) ∨ (r = 28 ∧ k = 8) ∨ (r = 28 ∧ k = 9) ∨ (r = 28 ∧ k = 10) ∨ (r = 28 ∧ k = 11) ∨ (38 ≤ r ∧ r < 46)) → q.2 r k = g r k) := by
  unfold d_36
  refine P1.bp (f_38 (0 : Int32) (7 : Int32) g) ?_
  intro v1 g2 hv1 qg2
  have Fg2 : ∀ r k, ¬ ((r = 28 ∧ k = 2) ∨ (r = 28 ∧ k = 3) ∨ (r = 28 ∧ k = 7) ∨ (r = 28 ∧ k = 8) ∨ (r = 28 ∧ k = 9) ∨ (r = 28 ∧ k = 10) ∨ (r = 28 ∧ k = 11) ∨ (38 ≤ r ∧ r < 46)) → g2 r k = g r k := fun r k hw => (qg2) r k (by omega)
  refine P1.ite (fun _ => ?_) (fun _ => ?_)
  · skip
    refine P1.lt ?_
    intro v4 _
    refine P1.ite (fun _ => ?_) (fun _ => ?_)
    · skip
      refine P1.pc (f_44 (4 : Int32) (g2 28 9) g2) ?_
      intro v14 g15 hv14 qg15
      have Fg15 : ∀ r k, ¬ ((r = 28 ∧ k = 2) ∨ (r = 28 ∧ k = 3) ∨ (r = 28 ∧ k = 7) ∨ (r = 28 ∧ k = 8) ∨ (r = 28 ∧ k = 9) ∨ (r = 28 ∧ k = 10) ∨ (r = 28 ∧ k = 11) ∨ (38 ≤ r ∧ r < 46)) → g15 r k = g r k := fun r k hw => ((qg15) r k (by omega)).trans (Fg2 r k hw)
      exact P1.ret Fg15
    · skip
      refine P1.lt ?_
      intro g6 hg6
      have Fg6 : ∀ r k, ¬ ((r = 28 ∧ k = 2) ∨ (r = 28 ∧ k = 3) ∨ (r = 28 ∧ k = 7) ∨ (r = 28 ∧ k = 8) ∨ (r = 28 ∧ k = 9) ∨ (r = 28 ∧ k = 10) ∨ (r = 28 ∧ k = 11) ∨ (38 ≤ r ∧ r < 46)) → g6 r k = g r k := fun r k hw => ((zg_fr hg6) r k (by omega)).trans (Fg2 r k hw)
      refine P1.ix ?_
      intro k7 hk7 bk7
      refine P1.bp (f_38 (0 : Int32) (10 : Int32) g6) ?_
      intro v8 g9 hv8 qg9
      have Fg9 : ∀ r k, ¬ ((r = 28 ∧ k = 2) ∨ (r = 28 ∧ k = 3) ∨ (r = 28 ∧ k = 7) ∨ (r = 28 ∧ k = 8) ∨ (r = 28 ∧ k = 9) ∨ (r = 28 ∧ k = 10) ∨ (r = 28 ∧ k = 11) ∨ (38 ≤ r ∧ r < 46)) → g9 r k = g r k := fun r k hw => ((qg9) r k (by omega)).trans (Fg6 r k hw)
      refine P1.ite (fun _ => ?_) (fun _ => ?_)
      · skip
        refine P1.lt ?_
        intro g11 hg11
        have Fg11 : ∀ r k, ¬ ((r = 28 ∧ k = 2) ∨ (r = 28 ∧ k = 3) ∨ (r = 28 ∧ k = 7) ∨ (r = 28 ∧ k = 8) ∨ (r = 28 ∧ k = 9) ∨ (r = 28 ∧ k = 10) ∨ (r = 28 ∧ k = 11) ∨ (38 ≤ r ∧ r < 46)) → g11 r k = g r k := fun r k hw => ((zg_fr hg11) r k (by omega)).trans (Fg9 r k hw)
        refine P1.bp (f_39  g11) ?_
        intro v12 g13 hv12 qg13
        have Fg13 : ∀ r k, ¬ ((r = 28 ∧ k = 2) ∨ (r = 28 ∧ k = 3) ∨ (r = 28 ∧ k = 7) ∨ (r = 28 ∧ k = 8) ∨ (r = 28 ∧ k = 9) ∨ (r = 28 ∧ k = 10) ∨ (r = 28 ∧ k = 11) ∨ (38 ≤ r ∧ r < 46)) → g13 r k = g r k := fun r k hw => ((qg13) r k (by omega)).trans (Fg11 r k hw)
        exact P1.ret Fg13
      · skip
        exact P1.ret Fg9
  · skip
    exact P1.ret Fg2
/-- EveningFirst$Reader.takeLine -/
theorem f_31 (g : G) : P1 (d_31 g) (fun q : Bool × G => ∀ r k, ¬ ((r = 28 ∧ k = 2) ∨ (r = 28 ∧ k = 3) ∨ (r = 28 ∧ k = 5) ∨ (r = 28 ∧ k = 6) ∨ (r = 28 ∧ k = 7) ∨ (r = 28 ∧ k = 8) ∨ (r = 28 ∧ k = 9) ∨ (r = 28 ∧ k = 10) ∨ (r = 28 ∧ k = 11) ∨ (r = 30) ∨ (34 ≤ r ∧ r < 46)) → q.2 r k = g r k) := by
  unfold d_31
  refine P1.bs ?_
  intro v1 _
  refine P1.ite (fun _ => ?_) (fun _ => ?_)
  · skip
    refine P1.bp (f_32  g) ?_
    intro v25 g26 hv25 qg26
    have Fg26 : ∀ r k, ¬ ((r = 28 ∧ k = 2) ∨ (r = 28 ∧ k = 3) ∨ (r = 28 ∧ k = 5) ∨ (r = 28 ∧ k = 6) ∨ (r = 28 ∧ k = 7) ∨ (r = 28 ∧ k = 8) ∨ (r = 28 ∧ k = 9) ∨ (r = 28 ∧ k = 10) ∨ (r = 28 ∧ k = 11) ∨ (r = 30) ∨ (34 ≤ r ∧ r < 46)) → g26 r k = g r k := fun r k hw => (qg26) r k (by omega)
    exact P1.ret Fg26
  · skip
    refine P1.bs ?_
    intro v3 _
    refine P1.ite (fun _ => ?_) (fun _ => ?_)
    · skip
      refine P1.bp (f_33  g) ?_
      intro v23 g24 hv23 qg24
      have Fg24 : ∀ r k, ¬ ((r = 28 ∧ k = 2) ∨ (r = 28 ∧ k = 3) ∨ (r = 28 ∧ k = 5) ∨ (r = 28 ∧ k = 6) ∨ (r = 28 ∧ k = 7) ∨ (r = 28 ∧ k = 8) ∨ (r = 28 ∧ k = 9) ∨ (r = 28 ∧ k = 10) ∨ (r = 28 ∧ k = 11) ∨ (r = 30) ∨ (34 ≤ r ∧ r < 46)) → g24 r k = g r k := fun r k hw => (qg24) r k (by omega)
      exact P1.ret Fg24
    · skip
      refine P1.bs ?_
      intro v5 _
      refine P1.ite (fun _ => ?_) (fun _ => ?_)
      · skip
        refine P1.bp (f_34  g) ?_
        intro v21 g22 hv21 qg22
        have Fg22 : ∀ r k, ¬ ((r = 28 ∧ k = 2) ∨ (r = 28 ∧ k = 3) ∨ (r = 28 ∧ k = 5) ∨ (r = 28 ∧ k = 6) ∨ (r = 28 ∧ k = 7) ∨ (r = 28 ∧ k = 8) ∨ (r = 28 ∧ k = 9) ∨ (r = 28 ∧ k = 10) ∨ (r = 28 ∧ k = 11) ∨ (r = 30) ∨ (34 ≤ r ∧ r < 46)) → g22 r k = g r k := fun r k hw => (qg22) r k (by omega)
        exact P1.ret Fg22
      · skip
        refine P1.bs ?_
        intro v7 _
        refine P1.ite (fun _ => ?_) (fun _ => ?_)
        · skip
          refine P1.bp (f_35 (1 : Int32) g) ?_
          intro v19 g20 hv19 qg20
          have Fg20 : ∀ r k, ¬ ((r = 28 ∧ k = 2) ∨ (r = 28 ∧ k = 3) ∨ (r = 28 ∧ k = 5) ∨ (r = 28 ∧ k = 6) ∨ (r = 28 ∧ k = 7) ∨ (r = 28 ∧ k = 8) ∨ (r = 28 ∧ k = 9) ∨ (r = 28 ∧ k = 10) ∨ (r = 28 ∧ k = 11) ∨ (r = 30) ∨ (34 ≤ r ∧ r < 46)) → g20 r k = g r k := fun r k hw => (qg20) r k (by omega)
          exact P1.ret Fg20
        · skip
          refine P1.bs ?_
          intro v9 _
          refine P1.ite (fun _ => ?_) (fun _ => ?_)
          · skip
            refine P1.bp (f_35 (2 : Int32) g) ?_
            intro v17 g18 hv17 qg18
            have Fg18 : ∀ r k, ¬ ((r = 28 ∧ k = 2) ∨ (r = 28 ∧ k = 3) ∨ (r = 28 ∧ k = 5) ∨ (r = 28 ∧ k = 6) ∨ (r = 28 ∧ k = 7) ∨ (r = 28 ∧ k = 8) ∨ (r = 28 ∧ k = 9) ∨ (r = 28 ∧ k = 10) ∨ (r = 28 ∧ k = 11) ∨ (r = 30) ∨ (34 ≤ r ∧ r < 46)) → g18 r k = g r k := fun r k hw => (qg18) r k (by omega)
            exact P1.ret Fg18
          · skip
            refine P1.bs ?_
            intro v11 _
            refine P1.ite (fun _ => ?_) (fun _ => ?_)
            · skip
              refine P1.bp (f_36  g) ?_
              intro v15 g16 hv15 qg16
              have Fg16 : ∀ r k, ¬ ((r = 28 ∧ k = 2) ∨ (r = 28 ∧ k = 3) ∨ (r = 28 ∧ k = 5) ∨ (r = 28 ∧ k = 6) ∨ (r = 28 ∧ k = 7) ∨ (r = 28 ∧ k = 8) ∨ (r = 28 ∧ k = 9) ∨ (r = 28 ∧ k = 10) ∨ (r = 28 ∧ k = 11) ∨ (r = 30) ∨ (34 ≤ r ∧ r < 46)) → g16 r k = g r k := fun r k hw => (qg16) r k (by omega)
              exact P1.ret Fg16
            · skip
              refine P1.pc (f_44 (2 : Int32) (g 28 9) g) ?_
              intro v13 g14 hv13 qg14
              have Fg14 : ∀ r k, ¬ ((r = 28 ∧ k = 2) ∨ (r = 28 ∧ k = 3) ∨ (r = 28 ∧ k = 5) ∨ (r = 28 ∧ k = 6) ∨ (r = 28 ∧ k = 7) ∨ (r = 28 ∧ k = 8) ∨ (r = 28 ∧ k = 9) ∨ (r = 28 ∧ k = 10) ∨ (r = 28 ∧ k = 11) ∨ (r = 30) ∨ (34 ≤ r ∧ r < 46)) → g14 r k = g r k := fun r k hw => (qg14) r k (by omega)
              exact P1.ret Fg14
theorem f_30_68 (x1 : Int32) (g : G) : P1 (d_30_68 x1 g) (fun q : Int32 × G => ∀ r k, ¬ ((r = 28 ∧ k = 2) ∨ (r = 28 ∧ k = 3)) → q.2 r k = g r k) := by
  unfold d_30_68
  refine P1.ite (fun _ => ?_) (fun _ => ?_)
  · skip
    refine P1.ite (fun _ => ?_) (fun _ => ?_)
    · skip
      exact P1.ret (fun _ _ _ => rfl)
    · skip
      exact P1.ret (fun _ _ _ => rfl)
  · skip
    refine P1.bs ?_
    intro v10 _
    refine P1.ite (fun _ => ?_) (fun _ => ?_)
    · skip
      refine P1.ite (fun _ => ?_) (fun _ => ?_)
      · skip
        refine P1.ite (fun _ => ?_) (fun _ => ?_)
        · skip
          exact P1.ret (fun _ _ _ => rfl)
        · skip
          exact P1.ret (fun _ _ _ => rfl)
      · skip
        refine P1.pc (f_44 (6 : Int32) (g 28 1) g) ?_
        intro v17 g18 hv17 qg18
        have Fg18 : ∀ r k, ¬ ((r = 28 ∧ k = 2) ∨ (r = 28 ∧ k = 3)) → g18 r k = g r k := fun r k hw => (qg18) r k (by omega)
        refine P1.ite (fun _ => ?_) (fun _ => ?_)
        · skip
          exact P1.ret Fg18
        · skip
          exact P1.ret Fg18
    · skip
      refine P1.pc (f_44 (6 : Int32) (g 28 1) g) ?_
      intro v12 g13 hv12 qg13
      have Fg13 : ∀ r k, ¬ ((r = 28 ∧ k = 2) ∨ (r = 28 ∧ k = 3)) → g13 r k = g r k := fun r k hw => (qg13) r k (by omega)
      refine P1.ite (fun _ => ?_) (fun _ => ?_)
      · skip
        exact P1.ret Fg13
      · skip
        exact P1.ret Fg13
theorem f_30_34 : ∀ (f : Nat) (x1 : Int32) (g : G), P1 (d_30_34 f x1 g) (fun q : Int32 × G => ∀ r k, ¬ ((r = 28 ∧ k = 2) ∨ (r = 28 ∧ k = 3) ∨ (r = 28 ∧ k = 5) ∨ (r = 28 ∧ k = 6) ∨ (r = 28 ∧ k = 7) ∨ (r = 28 ∧ k = 8) ∨ (r = 28 ∧ k = 9) ∨ (r = 28 ∧ k = 10) ∨ (r = 28 ∧ k = 11) ∨ (r = 30) ∨ (34 ≤ r ∧ r < 46)) → q.2 r k = g r k) := by
  intro f
  induction f with
  | zero =>
    intro x1 g
    exact P1.nn
  | succ f ih =>
    intro x1 g
    rw [d_30_34.eq_2]
    refine P1.ite (fun _ => ?_) (fun _ => ?_)
    · skip
      refine P1.mono (f_30_68 x1 g) ?_
      intro qq hq
      exact (fun r k hw => hq r k (by omega))
    · skip
      refine P1.bp (f_42  g) ?_
      intro v20 g21 hv20 qg21
      have Fg21 : ∀ r k, ¬ ((r = 28 ∧ k = 2) ∨ (r = 28 ∧ k = 3) ∨ (r = 28 ∧ k = 5) ∨ (r = 28 ∧ k = 6) ∨ (r = 28 ∧ k = 7) ∨ (r = 28 ∧ k = 8) ∨ (r = 28 ∧ k = 9) ∨ (r = 28 ∧ k = 10) ∨ (r = 28 ∧ k = 11) ∨ (r = 30) ∨ (34 ≤ r ∧ r < 46)) → g21 r k = g r k := fun r k hw => (qg21) r k (by omega)
      refine P1.ite (fun _ => ?_) (fun _ => ?_)
      · skip
        refine P1.ite (fun _ => ?_) (fun _ => ?_)
        · skip
          refine P1.mono (f_30_68 x1 g21) ?_
          intro qq hq
          exact (fun r k hw => ((hq r k (by omega)).trans (Fg21 r k hw)))
        · skip
          refine P1.bp (f_31  g21) ?_
          intro v24 g25 hv24 qg25
          have Fg25 : ∀ r k, ¬ ((r = 28 ∧ k = 2) ∨ (r = 28 ∧ k = 3) ∨ (r = 28 ∧ k = 5) ∨ (r = 28 ∧ k = 6) ∨ (r = 28 ∧ k = 7) ∨ (r = 28 ∧ k = 8) ∨ (r = 28 ∧ k = 9) ∨ (r = 28 ∧ k = 10) ∨ (r = 28 ∧ k = 11) ∨ (r = 30) ∨ (34 ≤ r ∧ r < 46)) → g25 r k = g r k := fun r k hw => ((qg25) r k (by omega)).trans (Fg21 r k hw)
          refine P1.ite (fun _ => ?_) (fun _ => ?_)
          · skip
            refine P1.mono (ih (x1 + 1) g25) ?_
            intro qq hq
            exact (fun r k hw => ((hq r k (by omega)).trans (Fg25 r k hw)))
          · skip
            refine P1.mono (f_30_68 x1 g25) ?_
            intro qq hq
            exact (fun r k hw => ((hq r k (by omega)).trans (Fg25 r k hw)))
      · skip
        refine P1.mono (f_30_68 x1 g21) ?_
        intro qq hq
        exact (fun r k hw => ((hq r k (by omega)).trans (Fg21 r k hw)))
/-- EveningFirst$Reader.tell -/
theorem f_30 (g : G) : P1 (d_30 g) (fun q : Int32 × G => ∀ r k, ¬ ((r = 28 ∧ k = 2) ∨ (r = 28 ∧ k = 3) ∨ (r = 28 ∧ k = 5) ∨ (r = 28 ∧ k = 6) ∨ (r = 28 ∧ k = 7) ∨ (r = 28 ∧ k = 8) ∨ (r = 28 ∧ k = 9) ∨ (r = 28 ∧ k = 10) ∨ (r = 28 ∧ k = 11) ∨ (r = 30) ∨ (34 ≤ r ∧ r < 46)) → q.2 r k = g r k) := by
  unfold d_30
  refine P1.bd (f_16 30 g) ?_
  intro g1 hg1 qg1
  have Fg1 : ∀ r k, ¬ ((r = 28 ∧ k = 2) ∨ (r = 28 ∧ k = 3) ∨ (r = 28 ∧ k = 5) ∨ (r = 28 ∧ k = 6) ∨ (r = 28 ∧ k = 7) ∨ (r = 28 ∧ k = 8) ∨ (r = 28 ∧ k = 9) ∨ (r = 28 ∧ k = 10) ∨ (r = 28 ∧ k = 11) ∨ (r = 30) ∨ (34 ≤ r ∧ r < 46)) → g1 r k = g r k := fun r k hw => (qg1) r k (by omega)
  refine P1.lt ?_
  intro g2 hg2
  have Fg2 : ∀ r k, ¬ ((r = 28 ∧ k = 2) ∨ (r = 28 ∧ k = 3) ∨ (r = 28 ∧ k = 5) ∨ (r = 28 ∧ k = 6) ∨ (r = 28 ∧ k = 7) ∨ (r = 28 ∧ k = 8) ∨ (r = 28 ∧ k = 9) ∨ (r = 28 ∧ k = 10) ∨ (r = 28 ∧ k = 11) ∨ (r = 30) ∨ (34 ≤ r ∧ r < 46)) → g2 r k = g r k := fun r k hw => ((zg_fr hg2) r k (by omega)).trans (Fg1 r k hw)
  refine P1.lt ?_
  intro g3 hg3
  have Fg3 : ∀ r k, ¬ ((r = 28 ∧ k = 2) ∨ (r = 28 ∧ k = 3) ∨ (r = 28 ∧ k = 5) ∨ (r = 28 ∧ k = 6) ∨ (r = 28 ∧ k = 7) ∨ (r = 28 ∧ k = 8) ∨ (r = 28 ∧ k = 9) ∨ (r = 28 ∧ k = 10) ∨ (r = 28 ∧ k = 11) ∨ (r = 30) ∨ (34 ≤ r ∧ r < 46)) → g3 r k = g r k := fun r k hw => ((zg_fr hg3) r k (by omega)).trans (Fg2 r k hw)
  refine P1.lt ?_
  intro g4 hg4
  have Fg4 : ∀ r k, ¬ ((r = 28 ∧ k = 2) ∨ (r = 28 ∧ k = 3) ∨ (r = 28 ∧ k = 5) ∨ (r = 28 ∧ k = 6) ∨ (r = 28 ∧ k = 7) ∨ (r = 28 ∧ k = 8) ∨ (r = 28 ∧ k = 9) ∨ (r = 28 ∧ k = 10) ∨ (r = 28 ∧ k = 11) ∨ (r = 30) ∨ (34 ≤ r ∧ r < 46)) → g4 r k = g r k := fun r k hw => ((zg_fr hg4) r k (by omega)).trans (Fg3 r k hw)
  refine P1.lt ?_
  intro g5 hg5
  have Fg5 : ∀ r k, ¬ ((r = 28 ∧ k = 2) ∨ (r = 28 ∧ k = 3) ∨ (r = 28 ∧ k = 5) ∨ (r = 28 ∧ k = 6) ∨ (r = 28 ∧ k = 7) ∨ (r = 28 ∧ k = 8) ∨ (r = 28 ∧ k = 9) ∨ (r = 28 ∧ k = 10) ∨ (r = 28 ∧ k = 11) ∨ (r = 30) ∨ (34 ≤ r ∧ r < 46)) → g5 r k = g r k := fun r k hw => ((zg_fr hg5) r k (by omega)).trans (Fg4 r k hw)
  refine P1.lt ?_
  intro g6 hg6
  have Fg6 : ∀ r k, ¬ ((r = 28 ∧ k = 2) ∨ (r = 28 ∧ k = 3) ∨ (r = 28 ∧ k = 5) ∨ (r = 28 ∧ k = 6) ∨ (r = 28 ∧ k = 7) ∨ (r = 28 ∧ k = 8) ∨ (r = 28 ∧ k = 9) ∨ (r = 28 ∧ k = 10) ∨ (r = 28 ∧ k = 11) ∨ (r = 30) ∨ (34 ≤ r ∧ r < 46)) → g6 r k = g r k := fun r k hw => ((zg_fr hg6) r k (by omega)).trans (Fg5 r k hw)
  refine P1.mono (f_30_34 300 (0 : Int32) g6) ?_
  intro qq hq
  exact (fun r k hw => ((hq r k (by omega)).trans (Fg6 r k hw)))
/-- EveningFirst$Deed.become -/
theorem f_13 (r0 : Nat) (r1 : Nat) (g : G) : T1 (d_13 r0 r1 g) (fun q : G => ∀ r k, ¬ ((r = r0)) → q r k = g r k) := by
  unfold d_13
  refine T1.lt ?_
  intro g1 hg1
  have Fg1 : ∀ r k, ¬ ((r = r0)) → g1 r k = g r k := fun r k hw => (zg_fr hg1) r k (by omega)
  refine T1.lt ?_
  intro g2 hg2
  have Fg2 : ∀ r k, ¬ ((r = r0)) → g2 r k = g r k := fun r k hw => ((zg_fr hg2) r k (by omega)).trans (Fg1 r k hw)
  refine T1.lt ?_
  intro g3 hg3
  have Fg3 : ∀ r k, ¬ ((r = r0)) → g3 r k = g r k := fun r k hw => ((zg_fr hg3) r k (by omega)).trans (Fg2 r k hw)
  refine T1.lt ?_
  intro g4 hg4
  have Fg4 : ∀ r k, ¬ ((r = r0)) → g4 r k = g r k := fun r k hw => ((zg_fr hg4) r k (by omega)).trans (Fg3 r k hw)
  refine T1.lt ?_
  intro g5 hg5
  have Fg5 : ∀ r k, ¬ ((r = r0)) → g5 r k = g r k := fun r k hw => ((zg_fr hg5) r k (by omega)).trans (Fg4 r k hw)
  refine T1.lt ?_
  intro g6 hg6
  have Fg6 : ∀ r k, ¬ ((r = r0)) → g6 r k = g r k := fun r k hw => ((zg_fr hg6) r k (by omega)).trans (Fg5 r k hw)
  refine T1.lt ?_
  intro g7 hg7
  have Fg7 : ∀ r k, ¬ ((r = r0)) → g7 r k = g r k := fun r k hw => ((zg_fr hg7) r k (by omega)).trans (Fg6 r k hw)
  exact T1.ret Fg7
theorem f_17_112 (r0 : Nat) (r1 : Nat) : ∀ (f : Nat) (x2 : Int32) (g : G), P1 (d_17_112 r0 r1 f x2 g) (fun q : G => ∀ r k, ¬ ((r0 + 16 ≤ r ∧ r < r0 + 24)) → q r k = g r k) := by
  intro f
  induction f with
  | zero =>
    intro x2 g
    exact P1.nn
  | succ f ih =>
    intro x2 g
    rw [d_17_112.eq_2]
    refine P1.ite (fun _ => ?_) (fun _ => ?_)
    · skip
      exact P1.ret (fun _ _ _ => rfl)
    · skip
      refine P1.ix ?_
      intro k8 hk8 bk8
      refine P1.ix ?_
      intro k9 hk9 bk9
      refine P1.lt ?_
      intro g10 hg10
      have Fg10 : ∀ r k, ¬ ((r0 + 16 ≤ r ∧ r < r0 + 24)) → g10 r k = g r k := fun r k hw => (zg_fr hg10) r k (by omega)
      refine P1.ix ?_
      intro k11 hk11 bk11
      refine P1.ix ?_
      intro k12 hk12 bk12
      refine P1.lt ?_
      intro g13 hg13
      have Fg13 : ∀ r k, ¬ ((r0 + 16 ≤ r ∧ r < r0 + 24)) → g13 r k = g r k := fun r k hw => ((zg_fr hg13) r k (by omega)).trans (Fg10 r k hw)
      refine P1.ix ?_
      intro k14 hk14 bk14
      refine P1.ix ?_
      intro k15 hk15 bk15
      refine P1.lt ?_
      intro g16 hg16
      have Fg16 : ∀ r k, ¬ ((r0 + 16 ≤ r ∧ r < r0 + 24)) → g16 r k = g r k := fun r k hw => ((zg_fr hg16) r k (by omega)).trans (Fg13 r k hw)
      refine P1.ix ?_
      intro k17 hk17 bk17
      refine P1.ix ?_
      intro k18 hk18 bk18
      refine P1.nd ?_
      refine P1.lt ?_
      intro g19 hg19
      have Fg19 : ∀ r k, ¬ ((r0 + 16 ≤ r ∧ r < r0 + 24)) → g19 r k = g r k := fun r k hw => ((zg_fr hg19) r k (by omega)).trans (Fg16 r k hw)
      refine P1.mono (ih (x2 + 1) g19) ?_
      intro qq hq
      exact (fun r k hw => ((hq r k (by omega)).trans (Fg19 r k hw)))
theorem f_17_83 (r0 : Nat) (r1 : Nat) : ∀ (f : Nat) (x2 : Int32) (g : G), P1 (d_17_83 r0 r1 f x2 g) (fun q : G => ∀ r k, ¬ ((r0 + 8 ≤ r ∧ r < r0 + 24)) → q r k = g r k) := by
  intro f
  induction f with
  | zero =>
    intro x2 g
    exact P1.nn
  | succ f ih =>
    intro x2 g
    rw [d_17_83.eq_2]
    refine P1.ite (fun _ => ?_) (fun _ => ?_)
    · skip
      refine P1.mono (f_17_112 r0 r1 300 (0 : Int32) g) ?_
      intro qq hq
      exact (fun r k hw => hq r k (by omega))
    · skip
      refine P1.ix ?_
      intro k21 hk21 bk21
      refine P1.ix ?_
      intro k22 hk22 bk22
      refine P1.lc (f_13 (r0 + 8 + k21) (r1 + 8 + k22) g) ?_
      intro g23 hg23 qg23
      have Fg23 : ∀ r k, ¬ ((r0 + 8 ≤ r ∧ r < r0 + 24)) → g23 r k = g r k := fun r k hw => (qg23) r k (by omega)
      refine P1.mono (ih (x2 + 1) g23) ?_
      intro qq hq
      exact (fun r k hw => ((hq r k (by omega)).trans (Fg23 r k hw)))
theorem f_17_34 (r0 : Nat) (r1 : Nat) : ∀ (f : Nat) (x2 : Int32) (g : G), P1 (d_17_34 r0 r1 f x2 g) (fun q : G => ∀ r k, ¬ ((r0 + 4 ≤ r ∧ r < r0 + 24)) → q r k = g r k) := by
  intro f
  induction f with
  | zero =>
    intro x2 g
    exact P1.nn
  | succ f ih =>
    intro x2 g
    rw [d_17_34.eq_2]
    refine P1.ite (fun _ => ?_) (fun _ => ?_)
    · skip
      refine P1.mono (f_17_83 r0 r1 300 (0 : Int32) g) ?_
      intro qq hq
      exact (fun r k hw => hq r k (by omega))
    · skip
      refine P1.ix ?_
      intro k24 hk24 bk24
      refine P1.ix ?_
      intro k25 hk25 bk25
      refine P1.lt ?_
      intro g26 hg26
      have Fg26 : ∀ r k, ¬ ((r0 + 4 ≤ r ∧ r < r0 + 24)) → g26 r k = g r k := fun r k hw => (zg_fr hg26) r k (by omega)
      refine P1.ix ?_
      intro k27 hk27 bk27
      refine P1.ix ?_
      intro k28 hk28 bk28
      refine P1.lt ?_
      intro g29 hg29
      have Fg29 : ∀ r k, ¬ ((r0 + 4 ≤ r ∧ r < r0 + 24)) → g29 r k = g r k := fun r k hw => ((zg_fr hg29) r k (by omega)).trans (Fg26 r k hw)
      refine P1.mono (ih (x2 + 1) g29) ?_
      intro qq hq
      exact (fun r k hw => ((hq r k (by omega)).trans (Fg29 r k hw)))
/-- EveningFirst$Family.become -/
theorem f_17 (r0 : Nat) (r1 : Nat) (g : G) : P1 (d_17 r0 r1 g) (fun q : G => ∀ r k, ¬ ((r = r0) ∨ (r0 + 4 ≤ r ∧ r < r0 + 24)) → q r k = g r k) := by
  unfold d_17
  refine P1.lt ?_
  intro g1 hg1
  have Fg1 : ∀ r k, ¬ ((r = r0) ∨ (r0 + 4 ≤ r ∧ r < r0 + 24)) → g1 r k = g r k := fun r k hw => (zg_fr hg1) r k (by omega)
  refine P1.lt ?_
  intro g2 hg2
  have Fg2 : ∀ r k, ¬ ((r = r0) ∨ (r0 + 4 ≤ r ∧ r < r0 + 24)) → g2 r k = g r k := fun r k hw => ((zg_fr hg2) r k (by omega)).trans (Fg1 r k hw)
  refine P1.lt ?_
  intro g3 hg3
  have Fg3 : ∀ r k, ¬ ((r = r0) ∨ (r0 + 4 ≤ r ∧ r < r0 + 24)) → g3 r k = g r k := fun r k hw => ((zg_fr hg3) r k (by omega)).trans (Fg2 r k hw)
  refine P1.lt ?_
  intro g4 hg4
  have Fg4 : ∀ r k, ¬ ((r = r0) ∨ (r0 + 4 ≤ r ∧ r < r0 + 24)) → g4 r k = g r k := fun r k hw => ((zg_fr hg4) r k (by omega)).trans (Fg3 r k hw)
  refine P1.mono (f_17_34 r0 r1 300 (0 : Int32) g4) ?_
  intro qq hq
  exact (fun r k hw => ((hq r k (by omega)).trans (Fg4 r k hw)))
theorem f_56_42 (x1 : Int32) : ∀ (f : Nat) (x2 : Int32) (g : G), P1 (d_56_42 x1 f x2 g) (fun q : Int32 × G => ∀ r k, ¬ ((r = 55)) → q.2 r k = g r k) := by
  intro f
  induction f with
  | zero =>
    intro x2 g
    exact P1.nn
  | succ f ih =>
    intro x2 g
    rw [d_56_42.eq_2]
    refine P1.ite (fun _ => ?_) (fun _ => ?_)
    · skip
      exact P1.ret (fun _ _ _ => rfl)
    · skip
      refine P1.ix ?_
      intro k8 hk8 bk8
      refine P1.lt ?_
      intro g7 hg7
      have Fg7 : ∀ r k, ¬ ((r = 55)) → g7 r k = g r k := fun r k hw => (zg_fr hg7) r k (by omega)
      refine P1.mono (ih (x2 + 1) g7) ?_
      intro qq hq
      exact (fun r k hw => ((hq r k (by omega)).trans (Fg7 r k hw)))
/-- EveningFirst.text -/
theorem f_56 (g : G) : P1 (d_56 g) (fun q : Int32 × G => ∀ r k, ¬ ((r = 1) ∨ (5 ≤ r ∧ r < 25) ∨ (r = 28 ∧ k = 1) ∨ (r = 28 ∧ k = 2) ∨ (r = 28 ∧ k = 3) ∨ (r = 28 ∧ k = 5) ∨ (r = 28 ∧ k = 6) ∨ (r = 28 ∧ k = 7) ∨ (r = 28 ∧ k = 8) ∨ (r = 28 ∧ k = 9) ∨ (r = 28 ∧ k = 10) ∨ (r = 28 ∧ k = 11) ∨ (r = 30) ∨ (34 ≤ r ∧ r < 46) ∨ (r = 55)) → q.2 r k = g r k) := by
  unfold d_56
  refine P1.bp (f_30  g) ?_
  intro v1 g2 hv1 qg2
  have Fg2 : ∀ r k, ¬ ((r = 1) ∨ (5 ≤ r ∧ r < 25) ∨ (r = 28 ∧ k = 1) ∨ (r = 28 ∧ k = 2) ∨ (r = 28 ∧ k = 3) ∨ (r = 28 ∧ k = 5) ∨ (r = 28 ∧ k = 6) ∨ (r = 28 ∧ k = 7) ∨ (r = 28 ∧ k = 8) ∨ (r = 28 ∧ k = 9) ∨ (r = 28 ∧ k = 10) ∨ (r = 28 ∧ k = 11) ∨ (r = 30) ∨ (34 ≤ r ∧ r < 46) ∨ (r = 55)) → g2 r k = g r k := fun r k hw => (qg2) r k (by omega)
  refine P1.lt ?_
  intro g3 hg3
  have Fg3 : ∀ r k, ¬ ((r = 1) ∨ (5 ≤ r ∧ r < 25) ∨ (r = 28 ∧ k = 1) ∨ (r = 28 ∧ k = 2) ∨ (r = 28 ∧ k = 3) ∨ (r = 28 ∧ k = 5) ∨ (r = 28 ∧ k = 6) ∨ (r = 28 ∧ k = 7) ∨ (r = 28 ∧ k = 8) ∨ (r = 28 ∧ k = 9) ∨ (r = 28 ∧ k = 10) ∨ (r = 28 ∧ k = 11) ∨ (r = 30) ∨ (34 ≤ r ∧ r < 46) ∨ (r = 55)) → g3 r k = g r k := fun r k hw => ((zg_fr hg3) r k (by omega)).trans (Fg2 r k hw)
  refine P1.ite (fun _ => ?_) (fun _ => ?_)
  · skip
    exact P1.ret Fg3
  · skip
    refine P1.bd (f_17 1 30 g3) ?_
    intro g5 hg5 qg5
    have Fg5 : ∀ r k, ¬ ((r = 1) ∨ (5 ≤ r ∧ r < 25) ∨ (r = 28 ∧ k = 1) ∨ (r = 28 ∧ k = 2) ∨ (r = 28 ∧ k = 3) ∨ (r = 28 ∧ k = 5) ∨ (r = 28 ∧ k = 6) ∨ (r = 28 ∧ k = 7) ∨ (r = 28 ∧ k = 8) ∨ (r = 28 ∧ k = 9) ∨ (r = 28 ∧ k = 10) ∨ (r = 28 ∧ k = 11) ∨ (r = 30) ∨ (34 ≤ r ∧ r < 46) ∨ (r = 55)) → g5 r k = g r k := fun r k hw => ((qg5) r k (by omega)).trans (Fg3 r k hw)
    refine P1.mono (f_56_42 v1 300 (0 : Int32) g5) ?_
    intro qq hq
    exact (fun r k hw => ((hq r k (by omega)).trans (Fg5 r k hw)))
theorem f_109_23 : ∀ (f : Nat) (x1 : Int32) (g : G), P1 (d_109_23 f x1 g) (fun q : G => ∀ r k, ¬ ((r = 113 ∧ k = 5) ∨ (r = 113 ∧ k = 6) ∨ (r = 113 ∧ k = 7) ∨ (r = 113 ∧ k = 8) ∨ (r = 113 ∧ k = 9) ∨ (r = 113 ∧ k = 10) ∨ (r = 113 ∧ k = 11) ∨ (r = 113 ∧ k = 12) ∨ (r = 116)) → q r k = g r k) := by
  intro f
  induction f with
  | zero =>
    intro x1 g
    exact P1.nn
  | succ f ih =>
    intro x1 g
    rw [d_109_23.eq_2]
    refine P1.ite (fun _ => ?_) (fun _ => ?_)
    · skip
      refine P1.lt ?_
      intro g3 hg3
      have Fg3 : ∀ r k, ¬ ((r = 113 ∧ k = 5) ∨ (r = 113 ∧ k = 6) ∨ (r = 113 ∧ k = 7) ∨ (r = 113 ∧ k = 8) ∨ (r = 113 ∧ k = 9) ∨ (r = 113 ∧ k = 10) ∨ (r = 113 ∧ k = 11) ∨ (r = 113 ∧ k = 12) ∨ (r = 116)) → g3 r k = g r k := fun r k hw => (zg_fr hg3) r k (by omega)
      refine P1.lt ?_
      intro g4 hg4
      have Fg4 : ∀ r k, ¬ ((r = 113 ∧ k = 5) ∨ (r = 113 ∧ k = 6) ∨ (r = 113 ∧ k = 7) ∨ (r = 113 ∧ k = 8) ∨ (r = 113 ∧ k = 9) ∨ (r = 113 ∧ k = 10) ∨ (r = 113 ∧ k = 11) ∨ (r = 113 ∧ k = 12) ∨ (r = 116)) → g4 r k = g r k := fun r k hw => ((zg_fr hg4) r k (by omega)).trans (Fg3 r k hw)
      refine P1.lt ?_
      intro g5 hg5
      have Fg5 : ∀ r k, ¬ ((r = 113 ∧ k = 5) ∨ (r = 113 ∧ k = 6) ∨ (r = 113 ∧ k = 7) ∨ (r = 113 ∧ k = 8) ∨ (r = 113 ∧ k = 9) ∨ (r = 113 ∧ k = 10) ∨ (r = 113 ∧ k = 11) ∨ (r = 113 ∧ k = 12) ∨ (r = 116)) → g5 r k = g r k := fun r k hw => ((zg_fr hg5) r k (by omega)).trans (Fg4 r k hw)
      refine P1.lt ?_
      intro g6 hg6
      have Fg6 : ∀ r k, ¬ ((r = 113 ∧ k = 5) ∨ (r = 113 ∧ k = 6) ∨ (r = 113 ∧ k = 7) ∨ (r = 113 ∧ k = 8) ∨ (r = 113 ∧ k = 9) ∨ (r = 113 ∧ k = 10) ∨ (r = 113 ∧ k = 11) ∨ (r = 113 ∧ k = 12) ∨ (r = 116)) → g6 r k = g r k := fun r k hw => ((zg_fr hg6) r k (by omega)).trans (Fg5 r k hw)
      refine P1.lt ?_
      intro g7 hg7
      have Fg7 : ∀ r k, ¬ ((r = 113 ∧ k = 5) ∨ (r = 113 ∧ k = 6) ∨ (r = 113 ∧ k = 7) ∨ (r = 113 ∧ k = 8) ∨ (r = 113 ∧ k = 9) ∨ (r = 113 ∧ k = 10) ∨ (r = 113 ∧ k = 11) ∨ (r = 113 ∧ k = 12) ∨ (r = 116)) → g7 r k = g r k := fun r k hw => ((zg_fr hg7) r k (by omega)).trans (Fg6 r k hw)
      refine P1.lt ?_
      intro g8 hg8
      have Fg8 : ∀ r k, ¬ ((r = 113 ∧ k = 5) ∨ (r = 113 ∧ k = 6) ∨ (r = 113 ∧ k = 7) ∨ (r = 113 ∧ k = 8) ∨ (r = 113 ∧ k = 9) ∨ (r = 113 ∧ k = 10) ∨ (r = 113 ∧ k = 11) ∨ (r = 113 ∧ k = 12) ∨ (r = 116)) → g8 r k = g r k := fun r k hw => ((zg_fr hg8) r k (by omega)).trans (Fg7 r k hw)
      refine P1.lt ?_
      intro g9 hg9
      have Fg9 : ∀ r k, ¬ ((r = 113 ∧ k = 5) ∨ (r = 113 ∧ k = 6) ∨ (r = 113 ∧ k = 7) ∨ (r = 113 ∧ k = 8) ∨ (r = 113 ∧ k = 9) ∨ (r = 113 ∧ k = 10) ∨ (r = 113 ∧ k = 11) ∨ (r = 113 ∧ k = 12) ∨ (r = 116)) → g9 r k = g r k := fun r k hw => ((zg_fr hg9) r k (by omega)).trans (Fg8 r k hw)
      refine P1.lt ?_
      intro g10 hg10
      have Fg10 : ∀ r k, ¬ ((r = 113 ∧ k = 5) ∨ (r = 113 ∧ k = 6) ∨ (r = 113 ∧ k = 7) ∨ (r = 113 ∧ k = 8) ∨ (r = 113 ∧ k = 9) ∨ (r = 113 ∧ k = 10) ∨ (r = 113 ∧ k = 11) ∨ (r = 113 ∧ k = 12) ∨ (r = 116)) → g10 r k = g r k := fun r k hw => ((zg_fr hg10) r k (by omega)).trans (Fg9 r k hw)
      exact P1.ret Fg10
    · skip
      refine P1.ix ?_
      intro k12 hk12 bk12
      refine P1.lt ?_
      intro g11 hg11
      have Fg11 : ∀ r k, ¬ ((r = 113 ∧ k = 5) ∨ (r = 113 ∧ k = 6) ∨ (r = 113 ∧ k = 7) ∨ (r = 113 ∧ k = 8) ∨ (r = 113 ∧ k = 9) ∨ (r = 113 ∧ k = 10) ∨ (r = 113 ∧ k = 11) ∨ (r = 113 ∧ k = 12) ∨ (r = 116)) → g11 r k = g r k := fun r k hw => (zg_fr hg11) r k (by omega)
      refine P1.mono (ih (x1 + 1) g11) ?_
      intro qq hq
      exact (fun r k hw => ((hq r k (by omega)).trans (Fg11 r k hw)))
theorem f_109_2 : ∀ (f : Nat) (x1 : Int32) (g : G), P1 (d_109_2 f x1 g) (fun q : G => ∀ r k, ¬ ((r = 113 ∧ k = 5) ∨ (r = 113 ∧ k = 6) ∨ (r = 113 ∧ k = 7) ∨ (r = 113 ∧ k = 8) ∨ (r = 113 ∧ k = 9) ∨ (r = 113 ∧ k = 10) ∨ (r = 113 ∧ k = 11) ∨ (r = 113 ∧ k = 12) ∨ (r = 116)) → q r k = g r k) := by
  intro f
  induction f with
  | zero =>
    intro x1 g
    exact P1.nn
  | succ f ih =>
    intro x1 g
    rw [d_109_2.eq_2]
    refine P1.ite (fun _ => ?_) (fun _ => ?_)
    · skip
      refine P1.mono (f_109_23 300 (0 : Int32) g) ?_
      intro qq hq
      exact (fun r k hw => hq r k (by omega))
    · skip
      refine P1.ix ?_
      intro k14 hk14 bk14
      refine P1.lt ?_
      intro g13 hg13
      have Fg13 : ∀ r k, ¬ ((r = 113 ∧ k = 5) ∨ (r = 113 ∧ k = 6) ∨ (r = 113 ∧ k = 7) ∨ (r = 113 ∧ k = 8) ∨ (r = 113 ∧ k = 9) ∨ (r = 113 ∧ k = 10) ∨ (r = 113 ∧ k = 11) ∨ (r = 113 ∧ k = 12) ∨ (r = 116)) → g13 r k = g r k := fun r k hw => (zg_fr hg13) r k (by omega)
      refine P1.mono (ih (x1 + 1) g13) ?_
      intro qq hq
      exact (fun r k hw => ((hq r k (by omega)).trans (Fg13 r k hw)))
/-- EveningFirstModel.firstDraft -/
theorem f_109 (g : G) : P1 (d_109 g) (fun q : G => ∀ r k, ¬ ((r = 113 ∧ k = 5) ∨ (r = 113 ∧ k = 6) ∨ (r = 113 ∧ k = 7) ∨ (r = 113 ∧ k = 8) ∨ (r = 113 ∧ k = 9) ∨ (r = 113 ∧ k = 10) ∨ (r = 113 ∧ k = 11) ∨ (r = 113 ∧ k = 12) ∨ (r = 116)) → q r k = g r k) := by
  unfold d_109
  refine P1.mono (f_109_2 300 (0 : Int32) g) ?_
  intro qq hq
  exact (fun r k hw => hq r k (by omega))
