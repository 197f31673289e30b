/-! printed by wip/tools/frame.py -/
theorem f_110_2 : ∀ (f : Nat) (x1 : Int32) (g : G), P1 (d_110_2 f x1 g) (fun q : G => ∀ r k, ¬ ((r = 113 ∧ k = 2) ∨ (r = 113 ∧ k = 3) ∨ (114 ≤ r ∧ r < 116)) → q r k = g r k) := by
  intro f
  induction f with
  | zero =>
    intro x1 g
    exact P1.nn
  | succ f ih =>
    intro x1 g
    rw [d_110_2.eq_2]
    refine P1.ite (fun _ => ?_) (fun _ => ?_)
    · skip
      refine P1.lt ?_
      intro g2 hg2
      have Fg2 : ∀ r k, ¬ ((r = 113 ∧ k = 2) ∨ (r = 113 ∧ k = 3) ∨ (114 ≤ r ∧ r < 116)) → g2 r k = g r k := fun r k hw => (zg_fr hg2) r k (by omega)
      refine P1.lt ?_
      intro g3 hg3
      have Fg3 : ∀ r k, ¬ ((r = 113 ∧ k = 2) ∨ (r = 113 ∧ k = 3) ∨ (114 ≤ r ∧ r < 116)) → g3 r k = g r k := fun r k hw => ((zg_fr hg3) r k (by omega)).trans (Fg2 r k hw)
      refine P1.lt ?_
      intro g4 hg4
      have Fg4 : ∀ r k, ¬ ((r = 113 ∧ k = 2) ∨ (r = 113 ∧ k = 3) ∨ (114 ≤ r ∧ r < 116)) → g4 r k = g r k := fun r k hw => ((zg_fr hg4) r k (by omega)).trans (Fg3 r k hw)
      refine P1.lt ?_
      intro g5 hg5
      have Fg5 : ∀ r k, ¬ ((r = 113 ∧ k = 2) ∨ (r = 113 ∧ k = 3) ∨ (114 ≤ r ∧ r < 116)) → g5 r k = g r k := fun r k hw => ((zg_fr hg5) r k (by omega)).trans (Fg4 r k hw)
      exact P1.ret Fg5
    · skip
      refine P1.ix ?_
      intro k6 hk6 bk6
      refine P1.ix ?_
      intro k8 hk8 bk8
      refine P1.lt ?_
      intro g7 hg7
      have Fg7 : ∀ r k, ¬ ((r = 113 ∧ k = 2) ∨ (r = 113 ∧ k = 3) ∨ (114 ≤ r ∧ r < 116)) → g7 r k = g r k := fun r k hw => (zg_fr hg7) r k (by omega)
      refine P1.mono (ih (x1 + 1) g7) ?_
      intro qq hq
      exact (fun r k hw => ((hq r k (by omega)).trans (Fg7 r k hw)))
/-- EveningFirstModel.keepDraft -/
theorem f_110 (g : G) : P1 (d_110 g) (fun q : G => ∀ r k, ¬ ((r = 113 ∧ k = 2) ∨ (r = 113 ∧ k = 3) ∨ (114 ≤ r ∧ r < 116)) → q r k = g r k) := by
  unfold d_110
  refine P1.mono (f_110_2 300 (0 : Int32) g) ?_
  intro qq hq
  exact (fun r k hw => hq r k (by omega))
theorem f_129_44 (x1 : Int32) (g : G) : P1 (d_129_44 x1 g) (fun q : Int32 × G => ∀ r k, ¬ ((r = 113 ∧ k = 2) ∨ (r = 113 ∧ k = 3) ∨ (r = 113 ∧ k = 14) ∨ (r = 113 ∧ k = 19) ∨ (r = 113 ∧ k = 20) ∨ (114 ≤ r ∧ r < 116)) → q.2 r k = g r k) := by
  unfold d_129_44
  refine P1.ite (fun _ => ?_) (fun _ => ?_)
  · skip
    refine P1.lt ?_
    intro g7 hg7
    have Fg7 : ∀ r k, ¬ ((r = 113 ∧ k = 2) ∨ (r = 113 ∧ k = 3) ∨ (r = 113 ∧ k = 14) ∨ (r = 113 ∧ k = 19) ∨ (r = 113 ∧ k = 20) ∨ (114 ≤ r ∧ r < 116)) → g7 r k = g r k := fun r k hw => (zg_fr hg7) r k (by omega)
    refine P1.ite (fun _ => ?_) (fun _ => ?_)
    · skip
      refine P1.bd (f_110  g7) ?_
      intro g9 hg9 qg9
      have Fg9 : ∀ r k, ¬ ((r = 113 ∧ k = 2) ∨ (r = 113 ∧ k = 3) ∨ (r = 113 ∧ k = 14) ∨ (r = 113 ∧ k = 19) ∨ (r = 113 ∧ k = 20) ∨ (114 ≤ r ∧ r < 116)) → g9 r k = g r k := fun r k hw => ((qg9) r k (by omega)).trans (Fg7 r k hw)
      exact P1.ret Fg9
    · skip
      exact P1.ret Fg7
  · skip
    refine P1.ite (fun _ => ?_) (fun _ => ?_)
    · skip
      refine P1.lc (f_113 (0 : Int32) (6 : Int32) g) ?_
      intro g11 hg11 qg11
      have Fg11 : ∀ r k, ¬ ((r = 113 ∧ k = 2) ∨ (r = 113 ∧ k = 3) ∨ (r = 113 ∧ k = 14) ∨ (r = 113 ∧ k = 19) ∨ (r = 113 ∧ k = 20) ∨ (114 ≤ r ∧ r < 116)) → g11 r k = g r k := fun r k hw => (qg11) r k (by omega)
      refine P1.lt ?_
      intro g12 hg12
      have Fg12 : ∀ r k, ¬ ((r = 113 ∧ k = 2) ∨ (r = 113 ∧ k = 3) ∨ (r = 113 ∧ k = 14) ∨ (r = 113 ∧ k = 19) ∨ (r = 113 ∧ k = 20) ∨ (114 ≤ r ∧ r < 116)) → g12 r k = g r k := fun r k hw => ((zg_fr hg12) r k (by omega)).trans (Fg11 r k hw)
      refine P1.ite (fun _ => ?_) (fun _ => ?_)
      · skip
        refine P1.bd (f_110  g12) ?_
        intro g14 hg14 qg14
        have Fg14 : ∀ r k, ¬ ((r = 113 ∧ k = 2) ∨ (r = 113 ∧ k = 3) ∨ (r = 113 ∧ k = 14) ∨ (r = 113 ∧ k = 19) ∨ (r = 113 ∧ k = 20) ∨ (114 ≤ r ∧ r < 116)) → g14 r k = g r k := fun r k hw => ((qg14) r k (by omega)).trans (Fg12 r k hw)
        exact P1.ret Fg14
      · skip
        exact P1.ret Fg12
    · skip
      refine P1.ite (fun _ => ?_) (fun _ => ?_)
      · skip
        refine P1.lc (f_113 (0 : Int32) (6 : Int32) g) ?_
        intro g16 hg16 qg16
        have Fg16 : ∀ r k, ¬ ((r = 113 ∧ k = 2) ∨ (r = 113 ∧ k = 3) ∨ (r = 113 ∧ k = 14) ∨ (r = 113 ∧ k = 19) ∨ (r = 113 ∧ k = 20) ∨ (114 ≤ r ∧ r < 116)) → g16 r k = g r k := fun r k hw => (qg16) r k (by omega)
        refine P1.lt ?_
        intro g17 hg17
        have Fg17 : ∀ r k, ¬ ((r = 113 ∧ k = 2) ∨ (r = 113 ∧ k = 3) ∨ (r = 113 ∧ k = 14) ∨ (r = 113 ∧ k = 19) ∨ (r = 113 ∧ k = 20) ∨ (114 ≤ r ∧ r < 116)) → g17 r k = g r k := fun r k hw => ((zg_fr hg17) r k (by omega)).trans (Fg16 r k hw)
        refine P1.ite (fun _ => ?_) (fun _ => ?_)
        · skip
          refine P1.bd (f_110  g17) ?_
          intro g19 hg19 qg19
          have Fg19 : ∀ r k, ¬ ((r = 113 ∧ k = 2) ∨ (r = 113 ∧ k = 3) ∨ (r = 113 ∧ k = 14) ∨ (r = 113 ∧ k = 19) ∨ (r = 113 ∧ k = 20) ∨ (114 ≤ r ∧ r < 116)) → g19 r k = g r k := fun r k hw => ((qg19) r k (by omega)).trans (Fg17 r k hw)
          exact P1.ret Fg19
        · skip
          exact P1.ret Fg17
      · skip
        refine P1.ite (fun _ => ?_) (fun _ => ?_)
        · skip
          refine P1.lc (f_113 (0 : Int32) (6 : Int32) g) ?_
          intro g21 hg21 qg21
          have Fg21 : ∀ r k, ¬ ((r = 113 ∧ k = 2) ∨ (r = 113 ∧ k = 3) ∨ (r = 113 ∧ k = 14) ∨ (r = 113 ∧ k = 19) ∨ (r = 113 ∧ k = 20) ∨ (114 ≤ r ∧ r < 116)) → g21 r k = g r k := fun r k hw => (qg21) r k (by omega)
          refine P1.lt ?_
          intro g22 hg22
          have Fg22 : ∀ r k, ¬ ((r = 113 ∧ k = 2) ∨ (r = 113 ∧ k = 3) ∨ (r = 113 ∧ k = 14) ∨ (r = 113 ∧ k = 19) ∨ (r = 113 ∧ k = 20) ∨ (114 ≤ r ∧ r < 116)) → g22 r k = g r k := fun r k hw => ((zg_fr hg22) r k (by omega)).trans (Fg21 r k hw)
          refine P1.ite (fun _ => ?_) (fun _ => ?_)
          · skip
            refine P1.bd (f_110  g22) ?_
            intro g24 hg24 qg24
            have Fg24 : ∀ r k, ¬ ((r = 113 ∧ k = 2) ∨ (r = 113 ∧ k = 3) ∨ (r = 113 ∧ k = 14) ∨ (r = 113 ∧ k = 19) ∨ (r = 113 ∧ k = 20) ∨ (114 ≤ r ∧ r < 116)) → g24 r k = g r k := fun r k hw => ((qg24) r k (by omega)).trans (Fg22 r k hw)
            exact P1.ret Fg24
          · skip
            exact P1.ret Fg22
        · skip
          refine P1.lc (f_113 (1 : Int32) (6 : Int32) g) ?_
          intro g25 hg25 qg25
          have Fg25 : ∀ r k, ¬ ((r = 113 ∧ k = 2) ∨ (r = 113 ∧ k = 3) ∨ (r = 113 ∧ k = 14) ∨ (r = 113 ∧ k = 19) ∨ (r = 113 ∧ k = 20) ∨ (114 ≤ r ∧ r < 116)) → g25 r k = g r k := fun r k hw => (qg25) r k (by omega)
          refine P1.lt ?_
          intro g26 hg26
          have Fg26 : ∀ r k, ¬ ((r = 113 ∧ k = 2) ∨ (r = 113 ∧ k = 3) ∨ (r = 113 ∧ k = 14) ∨ (r = 113 ∧ k = 19) ∨ (r = 113 ∧ k = 20) ∨ (114 ≤ r ∧ r < 116)) → g26 r k = g r k := fun r k hw => ((zg_fr hg26) r k (by omega)).trans (Fg25 r k hw)
          refine P1.ite (fun _ => ?_) (fun _ => ?_)
          · skip
            refine P1.bd (f_110  g26) ?_
            intro g28 hg28 qg28
            have Fg28 : ∀ r k, ¬ ((r = 113 ∧ k = 2) ∨ (r = 113 ∧ k = 3) ∨ (r = 113 ∧ k = 14) ∨ (r = 113 ∧ k = 19) ∨ (r = 113 ∧ k = 20) ∨ (114 ≤ r ∧ r < 116)) → g28 r k = g r k := fun r k hw => ((qg28) r k (by omega)).trans (Fg26 r k hw)
            exact P1.ret Fg28
          · skip
            exact P1.ret Fg26
theorem f_129_20 : ∀ (f : Nat) (x1 : Int32) (g : G), P1 (d_129_20 f x1 g) (fun q : Int32 × G => ∀ r k, ¬ ((r = 113 ∧ k = 2) ∨ (r = 113 ∧ k = 3) ∨ (r = 113 ∧ k = 5) ∨ (r = 113 ∧ k = 6) ∨ (r = 113 ∧ k = 7) ∨ (r = 113 ∧ k = 8) ∨ (r = 113 ∧ k = 9) ∨ (r = 113 ∧ k = 10) ∨ (r = 113 ∧ k = 11) ∨ (r = 113 ∧ k = 12) ∨ (r = 113 ∧ k = 14) ∨ (r = 113 ∧ k = 15) ∨ (r = 113 ∧ k = 16) ∨ (r = 113 ∧ k = 17) ∨ (r = 113 ∧ k = 18) ∨ (r = 113 ∧ k = 19) ∨ (r = 113 ∧ k = 20) ∨ (114 ≤ r ∧ r < 117)) → q.2 r k = g r k) := by
  intro f
  induction f with
  | zero =>
    intro x1 g
    exact P1.nn
  | succ f ih =>
    intro x1 g
    rw [d_129_20.eq_2]
    refine P1.ite (fun _ => ?_) (fun _ => ?_)
    · skip
      refine P1.mono (f_129_44 x1 g) ?_
      intro qq hq
      exact (fun r k hw => hq r k (by omega))
    · skip
      refine P1.ite (fun _ => ?_) (fun _ => ?_)
      · skip
        refine P1.mono (f_129_44 x1 g) ?_
        intro qq hq
        exact (fun r k hw => hq r k (by omega))
      · skip
        refine P1.bd (f_128  g) ?_
        intro g30 hg30 qg30
        have Fg30 : ∀ r k, ¬ ((r = 113 ∧ k = 2) ∨ (r = 113 ∧ k = 3) ∨ (r = 113 ∧ k = 5) ∨ (r = 113 ∧ k = 6) ∨ (r = 113 ∧ k = 7) ∨ (r = 113 ∧ k = 8) ∨ (r = 113 ∧ k = 9) ∨ (r = 113 ∧ k = 10) ∨ (r = 113 ∧ k = 11) ∨ (r = 113 ∧ k = 12) ∨ (r = 113 ∧ k = 14) ∨ (r = 113 ∧ k = 15) ∨ (r = 113 ∧ k = 16) ∨ (r = 113 ∧ k = 17) ∨ (r = 113 ∧ k = 18) ∨ (r = 113 ∧ k = 19) ∨ (r = 113 ∧ k = 20) ∨ (114 ≤ r ∧ r < 117)) → g30 r k = g r k := fun r k hw => (qg30) r k (by omega)
        refine P1.mono (ih (x1 + 1) g30) ?_
        intro qq hq
        exact (fun r k hw => ((hq r k (by omega)).trans (Fg30 r k hw)))
/-- EveningFirstModel.text -/
theorem f_129 (g : G) : P1 (d_129 g) (fun q : Int32 × G => ∀ r k, ¬ ((r = 113 ∧ k = 2) ∨ (r = 113 ∧ k = 3) ∨ (r = 113 ∧ k = 5) ∨ (r = 113 ∧ k = 6) ∨ (r = 113 ∧ k = 7) ∨ (r = 113 ∧ k = 8) ∨ (r = 113 ∧ k = 9) ∨ (r = 113 ∧ k = 10) ∨ (r = 113 ∧ k = 11) ∨ (r = 113 ∧ k = 12) ∨ (r = 113 ∧ k = 14) ∨ (r = 113 ∧ k = 15) ∨ (r = 113 ∧ k = 16) ∨ (r = 113 ∧ k = 17) ∨ (r = 113 ∧ k = 18) ∨ (r = 113 ∧ k = 19) ∨ (r = 113 ∧ k = 20) ∨ (114 ≤ r ∧ r < 117)) → q.2 r k = g r k) := by
  unfold d_129
  refine P1.lt ?_
  intro g1 hg1
  have Fg1 : ∀ r k, ¬ ((r = 113 ∧ k = 2) ∨ (r = 113 ∧ k = 3) ∨ (r = 113 ∧ k = 5) ∨ (r = 113 ∧ k = 6) ∨ (r = 113 ∧ k = 7) ∨ (r = 113 ∧ k = 8) ∨ (r = 113 ∧ k = 9) ∨ (r = 113 ∧ k = 10) ∨ (r = 113 ∧ k = 11) ∨ (r = 113 ∧ k = 12) ∨ (r = 113 ∧ k = 14) ∨ (r = 113 ∧ k = 15) ∨ (r = 113 ∧ k = 16) ∨ (r = 113 ∧ k = 17) ∨ (r = 113 ∧ k = 18) ∨ (r = 113 ∧ k = 19) ∨ (r = 113 ∧ k = 20) ∨ (114 ≤ r ∧ r < 117)) → g1 r k = g r k := fun r k hw => (zg_fr hg1) r k (by omega)
  refine P1.lt ?_
  intro g2 hg2
  have Fg2 : ∀ r k, ¬ ((r = 113 ∧ k = 2) ∨ (r = 113 ∧ k = 3) ∨ (r = 113 ∧ k = 5) ∨ (r = 113 ∧ k = 6) ∨ (r = 113 ∧ k = 7) ∨ (r = 113 ∧ k = 8) ∨ (r = 113 ∧ k = 9) ∨ (r = 113 ∧ k = 10) ∨ (r = 113 ∧ k = 11) ∨ (r = 113 ∧ k = 12) ∨ (r = 113 ∧ k = 14) ∨ (r = 113 ∧ k = 15) ∨ (r = 113 ∧ k = 16) ∨ (r = 113 ∧ k = 17) ∨ (r = 113 ∧ k = 18) ∨ (r = 113 ∧ k = 19) ∨ (r = 113 ∧ k = 20) ∨ (114 ≤ r ∧ r < 117)) → g2 r k = g r k := fun r k hw => ((zg_fr hg2) r k (by omega)).trans (Fg1 r k hw)
  refine P1.bd (f_109  g2) ?_
  intro g3 hg3 qg3
  have Fg3 : ∀ r k, ¬ ((r = 113 ∧ k = 2) ∨ (r = 113 ∧ k = 3) ∨ (r = 113 ∧ k = 5) ∨ (r = 113 ∧ k = 6) ∨ (r = 113 ∧ k = 7) ∨ (r = 113 ∧ k = 8) ∨ (r = 113 ∧ k = 9) ∨ (r = 113 ∧ k = 10) ∨ (r = 113 ∧ k = 11) ∨ (r = 113 ∧ k = 12) ∨ (r = 113 ∧ k = 14) ∨ (r = 113 ∧ k = 15) ∨ (r = 113 ∧ k = 16) ∨ (r = 113 ∧ k = 17) ∨ (r = 113 ∧ k = 18) ∨ (r = 113 ∧ k = 19) ∨ (r = 113 ∧ k = 20) ∨ (114 ≤ r ∧ r < 117)) → g3 r k = g r k := fun r k hw => ((qg3) r k (by omega)).trans (Fg2 r k hw)
  refine P1.bd (f_119  g3) ?_
  intro g4 hg4 qg4
  have Fg4 : ∀ r k, ¬ ((r = 113 ∧ k = 2) ∨ (r = 113 ∧ k = 3) ∨ (r = 113 ∧ k = 5) ∨ (r = 113 ∧ k = 6) ∨ (r = 113 ∧ k = 7) ∨ (r = 113 ∧ k = 8) ∨ (r = 113 ∧ k = 9) ∨ (r = 113 ∧ k = 10) ∨ (r = 113 ∧ k = 11) ∨ (r = 113 ∧ k = 12) ∨ (r = 113 ∧ k = 14) ∨ (r = 113 ∧ k = 15) ∨ (r = 113 ∧ k = 16) ∨ (r = 113 ∧ k = 17) ∨ (r = 113 ∧ k = 18) ∨ (r = 113 ∧ k = 19) ∨ (r = 113 ∧ k = 20) ∨ (114 ≤ r ∧ r < 117)) → g4 r k = g r k := fun r k hw => ((qg4) r k (by omega)).trans (Fg3 r k hw)
  refine P1.mono (f_129_20 300 (0 : Int32) g4) ?_
  intro qq hq
  exact (fun r k hw => ((hq r k (by omega)).trans (Fg4 r k hw)))
/-- EveningFirst.go -/
theorem f_61 (x1 : Int32) (x2 : Int32) (g : G) : P1 (d_61 x1 x2 g) (fun q : Int32 × G => ∀ r k, ¬ ((5 ≤ r ∧ r < 9)) → q.2 r k = g r k) := by
  unfold d_61
  refine P1.lt ?_
  intro v1 _
  refine P1.ite (fun _ => ?_) (fun _ => ?_)
  · skip
    refine P1.ite (fun _ => ?_) (fun _ => ?_)
    · skip
      exact P1.ret (fun _ _ _ => rfl)
    · skip
      refine P1.ite (fun _ => ?_) (fun _ => ?_)
      · skip
        refine P1.ix ?_
        intro k5 hk5 bk5
        refine P1.ix ?_
        intro k6 hk6 bk6
        refine P1.lt ?_
        intro g7 hg7
        have Fg7 : ∀ r k, ¬ ((5 ≤ r ∧ r < 9)) → g7 r k = g r k := fun r k hw => (zg_fr hg7) r k (by omega)
        exact P1.ret Fg7
      · skip
        exact P1.ret (fun _ _ _ => rfl)
  · skip
    exact P1.ret (fun _ _ _ => rfl)
/-- EveningFirstModel.becomes -/
theorem f_142 (x1 : Int32) (x2 : Int32) (g : G) : P1 (d_142 x1 x2 g) (fun q : Int32 × G => ∀ r k, ¬ ((r = 114)) → q.2 r k = g r k) := by
  unfold d_142
  refine P1.ix ?_
  intro k1 hk1 bk1
  refine P1.ix ?_
  intro k3 hk3 bk3
  refine P1.lt ?_
  intro g2 hg2
  have Fg2 : ∀ r k, ¬ ((r = 114)) → g2 r k = g r k := fun r k hw => (zg_fr hg2) r k (by omega)
  exact P1.ret Fg2
/-- EveningFirstModel.go -/
theorem f_143 (x1 : Int32) (x2 : Int32) (g : G) : P1 (d_143 x1 x2 g) (fun q : Int32 × G => ∀ r k, ¬ ((r = 114)) → q.2 r k = g r k) := by
  unfold d_143
  refine P1.lt ?_
  intro v1 _
  refine P1.ite (fun _ => ?_) (fun _ => ?_)
  · skip
    refine P1.lt ?_
    intro v3 _
    refine P1.ite (fun _ => ?_) (fun _ => ?_)
    · skip
      refine P1.bp (f_142 (0 + x1) x2 g) ?_
      intro v5 g6 hv5 qg6
      have Fg6 : ∀ r k, ¬ ((r = 114)) → g6 r k = g r k := fun r k hw => (qg6) r k (by omega)
      exact P1.ret Fg6
    · skip
      exact P1.ret (fun _ _ _ => rfl)
  · skip
    exact P1.ret (fun _ _ _ => rfl)
/-- EveningFirst.birth -/
theorem f_62 (x1 : Int32) (x2 : Int32) (g : G) : P1 (d_62 x1 x2 g) (fun q : Int32 × G => ∀ r k, ¬ ((5 ≤ r ∧ r < 9)) → q.2 r k = g r k) := by
  unfold d_62
  refine P1.lt ?_
  intro v1 _
  refine P1.ite (fun _ => ?_) (fun _ => ?_)
  · skip
    refine P1.lt ?_
    intro v3 _
    refine P1.ite (fun _ => ?_) (fun _ => ?_)
    · skip
      refine P1.ix ?_
      intro k5 hk5 bk5
      refine P1.ix ?_
      intro k6 hk6 bk6
      refine P1.lt ?_
      intro g7 hg7
      have Fg7 : ∀ r k, ¬ ((5 ≤ r ∧ r < 9)) → g7 r k = g r k := fun r k hw => (zg_fr hg7) r k (by omega)
      exact P1.ret Fg7
    · skip
      exact P1.ret (fun _ _ _ => rfl)
  · skip
    exact P1.ret (fun _ _ _ => rfl)
/-- EveningFirstModel.birth -/
theorem f_145 (x1 : Int32) (x2 : Int32) (g : G) : P1 (d_145 x1 x2 g) (fun q : Int32 × G => ∀ r k, ¬ ((r = 114)) → q.2 r k = g r k) := by
  unfold d_145
  refine P1.lt ?_
  intro v1 _
  refine P1.ite (fun _ => ?_) (fun _ => ?_)
  · skip
    refine P1.lt ?_
    intro v3 _
    refine P1.ite (fun _ => ?_) (fun _ => ?_)
    · skip
      refine P1.bp (f_142 (4 + x1) x2 g) ?_
      intro v5 g6 hv5 qg6
      have Fg6 : ∀ r k, ¬ ((r = 114)) → g6 r k = g r k := fun r k hw => (qg6) r k (by omega)
      exact P1.ret Fg6
    · skip
      exact P1.ret (fun _ _ _ => rfl)
  · skip
    exact P1.ret (fun _ _ _ => rfl)
/-- EveningFirst.does -/
theorem f_63 (x1 : Int32) (x2 : Int32) (x3 : Int32) (x4 : Int32) (x5 : Int32) (g : G) : P1 (d_63 x1 x2 x3 x4 x5 g) (fun q : Int32 × G => ∀ r k, ¬ ((r = 1) ∨ (9 ≤ r ∧ r < 17)) → q.2 r k = g r k) := by
  unfold d_63
  refine P1.lt ?_
  intro v1 _
  refine P1.ite (fun _ => ?_) (fun _ => ?_)
  · skip
    refine P1.lt ?_
    intro v3 _
    refine P1.ite (fun _ => ?_) (fun _ => ?_)
    · skip
      refine P1.lt ?_
      intro v5 _
      refine P1.ite (fun _ => ?_) (fun _ => ?_)
      · skip
        refine P1.lt ?_
        intro v7 _
        refine P1.ite (fun _ => ?_) (fun _ => ?_)
        · skip
          refine P1.lt ?_
          intro v9 _
          refine P1.ite (fun _ => ?_) (fun _ => ?_)
          · skip
            refine P1.ite (fun _ => ?_) (fun _ => ?_)
            · skip
              refine P1.ix ?_
              intro k12 hk12 bk12
              refine P1.lt ?_
              intro g13 hg13
              have Fg13 : ∀ r k, ¬ ((r = 1) ∨ (9 ≤ r ∧ r < 17)) → g13 r k = g r k := fun r k hw => (zg_fr hg13) r k (by omega)
              refine P1.lt ?_
              intro g14 hg14
              have Fg14 : ∀ r k, ¬ ((r = 1) ∨ (9 ≤ r ∧ r < 17)) → g14 r k = g r k := fun r k hw => ((zg_fr hg14) r k (by omega)).trans (Fg13 r k hw)
              refine P1.lt ?_
              intro g15 hg15
              have Fg15 : ∀ r k, ¬ ((r = 1) ∨ (9 ≤ r ∧ r < 17)) → g15 r k = g r k := fun r k hw => ((zg_fr hg15) r k (by omega)).trans (Fg14 r k hw)
              refine P1.lt ?_
              intro g16 hg16
              have Fg16 : ∀ r k, ¬ ((r = 1) ∨ (9 ≤ r ∧ r < 17)) → g16 r k = g r k := fun r k hw => ((zg_fr hg16) r k (by omega)).trans (Fg15 r k hw)
              refine P1.lt ?_
              intro g17 hg17
              have Fg17 : ∀ r k, ¬ ((r = 1) ∨ (9 ≤ r ∧ r < 17)) → g17 r k = g r k := fun r k hw => ((zg_fr hg17) r k (by omega)).trans (Fg16 r k hw)
              refine P1.lt ?_
              intro g18 hg18
              have Fg18 : ∀ r k, ¬ ((r = 1) ∨ (9 ≤ r ∧ r < 17)) → g18 r k = g r k := fun r k hw => ((zg_fr hg18) r k (by omega)).trans (Fg17 r k hw)
              refine P1.lt ?_
              intro g19 hg19
              have Fg19 : ∀ r k, ¬ ((r = 1) ∨ (9 ≤ r ∧ r < 17)) → g19 r k = g r k := fun r k hw => ((zg_fr hg19) r k (by omega)).trans (Fg18 r k hw)
              refine P1.lt ?_
              intro g20 hg20
              have Fg20 : ∀ r k, ¬ ((r = 1) ∨ (9 ≤ r ∧ r < 17)) → g20 r k = g r k := fun r k hw => ((zg_fr hg20) r k (by omega)).trans (Fg19 r k hw)
              exact P1.ret Fg20
            · skip
              exact P1.ret (fun _ _ _ => rfl)
          · skip
            exact P1.ret (fun _ _ _ => rfl)
        · skip
          exact P1.ret (fun _ _ _ => rfl)
      · skip
        exact P1.ret (fun _ _ _ => rfl)
    · skip
      exact P1.ret (fun _ _ _ => rfl)
  · skip
    exact P1.ret (fun _ _ _ => rfl)
/-- EveningFirstModel.does -/
theorem f_146 (x1 : Int32) (x2 : Int32) (x3 : Int32) (x4 : Int32) (x5 : Int32) (g : G) : P1 (d_146 x1 x2 x3 x4 x5 g) (fun q : Int32 × G => ∀ r k, ¬ ((r = 114)) → q.2 r k = g r k) := by
  unfold d_146
  refine P1.lt ?_
  intro v1 _
  refine P1.ite (fun _ => ?_) (fun _ => ?_)
  · skip
    refine P1.lt ?_
    intro v3 _
    refine P1.ite (fun _ => ?_) (fun _ => ?_)
    · skip
      refine P1.lt ?_
      intro v5 _
      refine P1.ite (fun _ => ?_) (fun _ => ?_)
      · skip
        refine P1.lt ?_
        intro v7 _
        refine P1.ite (fun _ => ?_) (fun _ => ?_)
        · skip
          refine P1.lt ?_
          intro v9 _
          refine P1.ite (fun _ => ?_) (fun _ => ?_)
          · skip
            refine P1.ite (fun _ => ?_) (fun _ => ?_)
            · skip
              refine P1.ix ?_
              intro k13 hk13 bk13
              refine P1.lt ?_
              intro g12 hg12
              have Fg12 : ∀ r k, ¬ ((r = 114)) → g12 r k = g r k := fun r k hw => (zg_fr hg12) r k (by omega)
              refine P1.ix ?_
              intro k15 hk15 bk15
              refine P1.lt ?_
              intro g14 hg14
              have Fg14 : ∀ r k, ¬ ((r = 114)) → g14 r k = g r k := fun r k hw => ((zg_fr hg14) r k (by omega)).trans (Fg12 r k hw)
              refine P1.ix ?_
              intro k17 hk17 bk17
              refine P1.lt ?_
              intro g16 hg16
              have Fg16 : ∀ r k, ¬ ((r = 114)) → g16 r k = g r k := fun r k hw => ((zg_fr hg16) r k (by omega)).trans (Fg14 r k hw)
              refine P1.ix ?_
              intro k19 hk19 bk19
              refine P1.lt ?_
              intro g18 hg18
              have Fg18 : ∀ r k, ¬ ((r = 114)) → g18 r k = g r k := fun r k hw => ((zg_fr hg18) r k (by omega)).trans (Fg16 r k hw)
              refine P1.ix ?_
              intro k21 hk21 bk21
              refine P1.lt ?_
              intro g20 hg20
              have Fg20 : ∀ r k, ¬ ((r = 114)) → g20 r k = g r k := fun r k hw => ((zg_fr hg20) r k (by omega)).trans (Fg18 r k hw)
              refine P1.ix ?_
              intro k23 hk23 bk23
              refine P1.lt ?_
              intro g22 hg22
              have Fg22 : ∀ r k, ¬ ((r = 114)) → g22 r k = g r k := fun r k hw => ((zg_fr hg22) r k (by omega)).trans (Fg20 r k hw)
              refine P1.ix ?_
              intro k25 hk25 bk25
              refine P1.lt ?_
              intro g24 hg24
              have Fg24 : ∀ r k, ¬ ((r = 114)) → g24 r k = g r k := fun r k hw => ((zg_fr hg24) r k (by omega)).trans (Fg22 r k hw)
              refine P1.lt ?_
              intro g26 hg26
              have Fg26 : ∀ r k, ¬ ((r = 114)) → g26 r k = g r k := fun r k hw => ((zg_fr hg26) r k (by omega)).trans (Fg24 r k hw)
              exact P1.ret Fg26
            · skip
              exact P1.ret (fun _ _ _ => rfl)
          · skip
            exact P1.ret (fun _ _ _ => rfl)
        · skip
          exact P1.ret (fun _ _ _ => rfl)
      · skip
        exact P1.ret (fun _ _ _ => rfl)
    · skip
      exact P1.ret (fun _ _ _ => rfl)
  · skip
    exact P1.ret (fun _ _ _ => rfl)
/-- EveningFirst.shift -/
theorem f_64 (x1 : Int32) (x2 : Int32) (g : G) : P1 (d_64 x1 x2 g) (fun q : Int32 × G => ∀ r k, ¬ ((9 ≤ r ∧ r < 17)) → q.2 r k = g r k) := by
  unfold d_64
  refine P1.lt ?_
  intro v1 _
  refine P1.ite (fun _ => ?_) (fun _ => ?_)
  · skip
    refine P1.lt ?_
    intro v3 _
    refine P1.ite (fun _ => ?_) (fun _ => ?_)
    · skip
      refine P1.ix ?_
      intro k5 hk5 bk5
      refine P1.ix ?_
      intro k6 hk6 bk6
      refine P1.lt ?_
      intro g7 hg7
      have Fg7 : ∀ r k, ¬ ((9 ≤ r ∧ r < 17)) → g7 r k = g r k := fun r k hw => (zg_fr hg7) r k (by omega)
      exact P1.ret Fg7
    · skip
      exact P1.ret (fun _ _ _ => rfl)
  · skip
    exact P1.ret (fun _ _ _ => rfl)
/-- EveningFirstModel.shift -/
theorem f_147 (x1 : Int32) (x2 : Int32) (g : G) : P1 (d_147 x1 x2 g) (fun q : Int32 × G => ∀ r k, ¬ ((r = 114)) → q.2 r k = g r k) := by
  unfold d_147
  refine P1.lt ?_
  intro v1 _
  refine P1.ite (fun _ => ?_) (fun _ => ?_)
  · skip
    refine P1.lt ?_
    intro v3 _
    refine P1.ite (fun _ => ?_) (fun _ => ?_)
    · skip
      refine P1.bp (f_142 ((9 + (7 * x1)) + 0) x2 g) ?_
      intro v5 g6 hv5 qg6
      have Fg6 : ∀ r k, ¬ ((r = 114)) → g6 r k = g r k := fun r k hw => (qg6) r k (by omega)
      exact P1.ret Fg6
    · skip
      exact P1.ret (fun _ _ _ => rfl)
  · skip
    exact P1.ret (fun _ _ _ => rfl)
/-- EveningFirst.mark -/
theorem f_65 (x1 : Int32) (x2 : Int32) (g : G) : P1 (d_65 x1 x2 g) (fun q : Int32 × G => ∀ r k, ¬ ((9 ≤ r ∧ r < 17)) → q.2 r k = g r k) := by
  unfold d_65
  refine P1.lt ?_
  intro v1 _
  refine P1.ite (fun _ => ?_) (fun _ => ?_)
  · skip
    refine P1.ix ?_
    intro k3 hk3 bk3
    refine P1.ix ?_
    intro k4 hk4 bk4
    refine P1.lt ?_
    intro g5 hg5
    have Fg5 : ∀ r k, ¬ ((9 ≤ r ∧ r < 17)) → g5 r k = g r k := fun r k hw => (zg_fr hg5) r k (by omega)
    exact P1.ret Fg5
  · skip
    exact P1.ret (fun _ _ _ => rfl)
/-- EveningFirstModel.mark -/
theorem f_148 (x1 : Int32) (x2 : Int32) (g : G) : P1 (d_148 x1 x2 g) (fun q : Int32 × G => ∀ r k, ¬ ((r = 114)) → q.2 r k = g r k) := by
  unfold d_148
  refine P1.lt ?_
  intro v1 _
  refine P1.ite (fun _ => ?_) (fun _ => ?_)
  · skip
    refine P1.lt ?_
    intro v3 _
    refine P1.ite (fun _ => ?_) (fun _ => ?_)
    · skip
      refine P1.bp (f_142 ((9 + (7 * x1)) + 5) x2 g) ?_
      intro v5 g6 hv5 qg6
      have Fg6 : ∀ r k, ¬ ((r = 114)) → g6 r k = g r k := fun r k hw => (qg6) r k (by omega)
      exact P1.ret Fg6
    · skip
      exact P1.ret (fun _ _ _ => rfl)
  · skip
    exact P1.ret (fun _ _ _ => rfl)
/-- EveningFirst.odd -/
theorem f_66 (x1 : Int32) (x2 : Int32) (g : G) : P1 (d_66 x1 x2 g) (fun q : Int32 × G => ∀ r k, ¬ ((9 ≤ r ∧ r < 17)) → q.2 r k = g r k) := by
  unfold d_66
  refine P1.lt ?_
  intro v1 _
  refine P1.ite (fun _ => ?_) (fun _ => ?_)
  · skip
    refine P1.ite (fun _ => ?_) (fun _ => ?_)
    · skip
      exact P1.ret (fun _ _ _ => rfl)
    · skip
      refine P1.ite (fun _ => ?_) (fun _ => ?_)
      · skip
        refine P1.ix ?_
        intro k5 hk5 bk5
        refine P1.ix ?_
        intro k6 hk6 bk6
        refine P1.lt ?_
        intro g7 hg7
        have Fg7 : ∀ r k, ¬ ((9 ≤ r ∧ r < 17)) → g7 r k = g r k := fun r k hw => (zg_fr hg7) r k (by omega)
        exact P1.ret Fg7
      · skip
        exact P1.ret (fun _ _ _ => rfl)
  · skip
    exact P1.ret (fun _ _ _ => rfl)
/-- EveningFirstModel.odd -/
theorem f_149 (x1 : Int32) (x2 : Int32) (g : G) : P1 (d_149 x1 x2 g) (fun q : Int32 × G => ∀ r k, ¬ ((r = 114)) → q.2 r k = g r k) := by
  unfold d_149
  refine P1.lt ?_
  intro v1 _
  refine P1.ite (fun _ => ?_) (fun _ => ?_)
  · skip
    refine P1.lt ?_
    intro v3 _
    refine P1.ite (fun _ => ?_) (fun _ => ?_)
    · skip
      refine P1.bp (f_142 ((9 + (7 * x1)) + 6) x2 g) ?_
      intro v5 g6 hv5 qg6
      have Fg6 : ∀ r k, ¬ ((r = 114)) → g6 r k = g r k := fun r k hw => (qg6) r k (by omega)
      exact P1.ret Fg6
    · skip
      exact P1.ret (fun _ _ _ => rfl)
  · skip
    exact P1.ret (fun _ _ _ => rfl)
theorem f_3_42 (r1 : Nat) (x3 : Int32) (r4 : Nat) : ∀ (f : Nat) (x5 : Int32) (g : G), P1 (d_3_42 r1 x3 r4 f x5 g) (fun q : G => ∀ r k, ¬ ((r = 27)) → q r k = g r k) := by
  intro f
  induction f with
  | zero =>
    intro x5 g
    exact P1.nn
  | succ f ih =>
    intro x5 g
    rw [d_3_42.eq_2]
    refine P1.ite (fun _ => ?_) (fun _ => ?_)
    · skip
      exact P1.ret (fun _ _ _ => rfl)
    · skip
      refine P1.ix ?_
      intro k4 hk4 bk4
      refine P1.ite (fun _ => ?_) (fun _ => ?_)
      · skip
        refine P1.mono (ih (x5 + 1) g) ?_
        intro qq hq
        exact (fun r k hw => hq r k (by omega))
      · skip
        refine P1.bs ?_
        intro v6 _
        refine P1.ite (fun _ => ?_) (fun _ => ?_)
        · skip
          refine P1.ix ?_
          intro k8 hk8 bk8
          refine P1.ix ?_
          intro k10 hk10 bk10
          refine P1.lt ?_
          intro g9 hg9
          have Fg9 : ∀ r k, ¬ ((r = 27)) → g9 r k = g r k := fun r k hw => (zg_fr hg9) r k (by omega)
          refine P1.mono (ih (x5 + 1) g9) ?_
          intro qq hq
          exact (fun r k hw => ((hq r k (by omega)).trans (Fg9 r k hw)))
        · skip
          refine P1.mono (ih (x5 + 1) g) ?_
          intro qq hq
          exact (fun r k hw => hq r k (by omega))
theorem f_3_8 (r1 : Nat) (x2 : Int32) (x3 : Int32) : ∀ (f : Nat) (x4 : Int32) (g : G), P1 (d_3_8 r1 x2 x3 f x4 g) (fun q : G => ∀ r k, ¬ ((r = 27)) → q r k = g r k) := by
  intro f
  induction f with
  | zero =>
    intro x4 g
    exact P1.nn
  | succ f ih =>
    intro x4 g
    rw [d_3_8.eq_2]
    refine P1.ite (fun _ => ?_) (fun _ => ?_)
    · skip
      refine P1.ix ?_
      intro k2 hk2 bk2
      refine P1.mono (f_3_42 r1 x3 (r1 + 8 + k2) 300 (0 : Int32) g) ?_
      intro qq hq
      exact (fun r k hw => hq r k (by omega))
    · skip
      refine P1.ix ?_
      intro k12 hk12 bk12
      refine P1.lt ?_
      intro g11 hg11
      have Fg11 : ∀ r k, ¬ ((r = 27)) → g11 r k = g r k := fun r k hw => (zg_fr hg11) r k (by omega)
      refine P1.mono (ih (x4 + 1) g11) ?_
      intro qq hq
      exact (fun r k hw => ((hq r k (by omega)).trans (Fg11 r k hw)))
/-- EveningFirst$Bonds.findBringers -/
theorem f_3 (r1 : Nat) (x2 : Int32) (g : G) : P1 (d_3 r1 x2 g) (fun q : G => ∀ r k, ¬ ((r = 27)) → q r k = g r k) := by
  unfold d_3
  refine P1.mono (f_3_8 r1 x2 (x2 * 6) 300 (0 : Int32) g) ?_
  intro qq hq
  exact (fun r k hw => hq r k (by omega))
theorem f_2_32 (r1 : Nat) : ∀ (f : Nat) (x2 : Int32) (g : G), P1 (d_2_32 r1 f x2 g) (fun q : G => ∀ r k, ¬ ((25 ≤ r ∧ r < 28)) → q r k = g r k) := by
  intro f
  induction f with
  | zero =>
    intro x2 g
    exact P1.nn
  | succ f ih =>
    intro x2 g
    rw [d_2_32.eq_2]
    refine P1.ite (fun _ => ?_) (fun _ => ?_)
    · skip
      exact P1.ret (fun _ _ _ => rfl)
    · skip
      refine P1.ix ?_
      intro k6 hk6 bk6
      refine P1.ix ?_
      intro k7 hk7 bk7
      refine P1.ix ?_
      intro k9 hk9 bk9
      refine P1.lt ?_
      intro g8 hg8
      have Fg8 : ∀ r k, ¬ ((25 ≤ r ∧ r < 28)) → g8 r k = g r k := fun r k hw => (zg_fr hg8) r k (by omega)
      refine P1.ite (fun _ => ?_) (fun _ => ?_)
      · skip
        refine P1.lt ?_
        intro g11 hg11
        have Fg11 : ∀ r k, ¬ ((25 ≤ r ∧ r < 28)) → g11 r k = g r k := fun r k hw => ((zg_fr hg11) r k (by omega)).trans (Fg8 r k hw)
        refine P1.ite (fun _ => ?_) (fun _ => ?_)
        · skip
          refine P1.lt ?_
          intro g13 hg13
          have Fg13 : ∀ r k, ¬ ((25 ≤ r ∧ r < 28)) → g13 r k = g r k := fun r k hw => ((zg_fr hg13) r k (by omega)).trans (Fg11 r k hw)
          refine P1.bd (f_3 r1 x2 g13) ?_
          intro g14 hg14 qg14
          have Fg14 : ∀ r k, ¬ ((25 ≤ r ∧ r < 28)) → g14 r k = g r k := fun r k hw => ((qg14) r k (by omega)).trans (Fg13 r k hw)
          refine P1.mono (ih (x2 + 1) g14) ?_
          intro qq hq
          exact (fun r k hw => ((hq r k (by omega)).trans (Fg14 r k hw)))
        · skip
          refine P1.lt ?_
          intro g15 hg15
          have Fg15 : ∀ r k, ¬ ((25 ≤ r ∧ r < 28)) → g15 r k = g r k := fun r k hw => ((zg_fr hg15) r k (by omega)).trans (Fg11 r k hw)
          refine P1.bd (f_3 r1 x2 g15) ?_
          intro g16 hg16 qg16
          have Fg16 : ∀ r k, ¬ ((25 ≤ r ∧ r < 28)) → g16 r k = g r k := fun r k hw => ((qg16) r k (by omega)).trans (Fg15 r k hw)
          refine P1.mono (ih (x2 + 1) g16) ?_
          intro qq hq
          exact (fun r k hw => ((hq r k (by omega)).trans (Fg16 r k hw)))
      · skip
        refine P1.lt ?_
        intro g17 hg17
        have Fg17 : ∀ r k, ¬ ((25 ≤ r ∧ r < 28)) → g17 r k = g r k := fun r k hw => ((zg_fr hg17) r k (by omega)).trans (Fg8 r k hw)
        refine P1.ite (fun _ => ?_) (fun _ => ?_)
        · skip
          refine P1.lt ?_
          intro g19 hg19
          have Fg19 : ∀ r k, ¬ ((25 ≤ r ∧ r < 28)) → g19 r k = g r k := fun r k hw => ((zg_fr hg19) r k (by omega)).trans (Fg17 r k hw)
          refine P1.bd (f_3 r1 x2 g19) ?_
          intro g20 hg20 qg20
          have Fg20 : ∀ r k, ¬ ((25 ≤ r ∧ r < 28)) → g20 r k = g r k := fun r k hw => ((qg20) r k (by omega)).trans (Fg19 r k hw)
          refine P1.mono (ih (x2 + 1) g20) ?_
          intro qq hq
          exact (fun r k hw => ((hq r k (by omega)).trans (Fg20 r k hw)))
        · skip
          refine P1.lt ?_
          intro g21 hg21
          have Fg21 : ∀ r k, ¬ ((25 ≤ r ∧ r < 28)) → g21 r k = g r k := fun r k hw => ((zg_fr hg21) r k (by omega)).trans (Fg17 r k hw)
          refine P1.bd (f_3 r1 x2 g21) ?_
          intro g22 hg22 qg22
          have Fg22 : ∀ r k, ¬ ((25 ≤ r ∧ r < 28)) → g22 r k = g r k := fun r k hw => ((qg22) r k (by omega)).trans (Fg21 r k hw)
          refine P1.mono (ih (x2 + 1) g22) ?_
          intro qq hq
          exact (fun r k hw => ((hq r k (by omega)).trans (Fg22 r k hw)))
/-- EveningFirst$Bonds.look -/
theorem f_2 (r1 : Nat) (g : G) : P1 (d_2 r1 g) (fun q : G => ∀ r k, ¬ ((25 ≤ r ∧ r < 28)) → q r k = g r k) := by
  unfold d_2
  refine P1.lt ?_
  intro g1 hg1
  have Fg1 : ∀ r k, ¬ ((25 ≤ r ∧ r < 28)) → g1 r k = g r k := fun r k hw => (zg_fr hg1) r k (by omega)
  refine P1.lt ?_
  intro g2 hg2
  have Fg2 : ∀ r k, ¬ ((25 ≤ r ∧ r < 28)) → g2 r k = g r k := fun r k hw => ((zg_fr hg2) r k (by omega)).trans (Fg1 r k hw)
  refine P1.lt ?_
  intro g3 hg3
  have Fg3 : ∀ r k, ¬ ((25 ≤ r ∧ r < 28)) → g3 r k = g r k := fun r k hw => ((zg_fr hg3) r k (by omega)).trans (Fg2 r k hw)
  refine P1.lt ?_
  intro g4 hg4
  have Fg4 : ∀ r k, ¬ ((25 ≤ r ∧ r < 28)) → g4 r k = g r k := fun r k hw => ((zg_fr hg4) r k (by omega)).trans (Fg3 r k hw)
  refine P1.mono (f_2_32 r1 300 (0 : Int32) g4) ?_
  intro qq hq
  exact (fun r k hw => ((hq r k (by omega)).trans (Fg4 r k hw)))
/-- EveningFirst.hangs -/
theorem f_68 (x1 : Int32) (g : G) : P1 (d_68 x1 g) (fun q : Int32 × G => ∀ r k, ¬ ((25 ≤ r ∧ r < 28)) → q.2 r k = g r k) := by
  unfold d_68
  refine P1.lt ?_
  intro v1 _
  refine P1.ite (fun _ => ?_) (fun _ => ?_)
  · skip
    refine P1.bd (f_2 1 g) ?_
    intro g3 hg3 qg3
    have Fg3 : ∀ r k, ¬ ((25 ≤ r ∧ r < 28)) → g3 r k = g r k := fun r k hw => (qg3) r k (by omega)
    refine P1.bs ?_
    intro v4 _
    refine P1.ite (fun _ => ?_) (fun _ => ?_)
    · skip
      exact P1.ret Fg3
    · skip
      exact P1.ret Fg3
  · skip
    exact P1.ret (fun _ _ _ => rfl)
theorem f_69_33 (x1 : Int32) (x2 : Int32) (g : G) : ∀ (f : Nat) (x3 : Int32), P1 (d_69_33 x1 x2 g f x3) (fun q : Int32 × G => ∀ r k, ¬ ((r < 0)) → q.2 r k = g r k) := by
  intro f
  induction f with
  | zero =>
    intro x3
    exact P1.nn
  | succ f ih =>
    intro x3
    rw [d_69_33.eq_2]
    refine P1.ite (fun _ => ?_) (fun _ => ?_)
    · skip
      exact P1.ret (fun _ _ _ => rfl)
    · skip
      refine P1.lt ?_
      intro v7 _
      refine P1.ite (fun _ => ?_) (fun _ => ?_)
      · skip
        refine P1.bs ?_
        intro v9 _
        refine P1.ite (fun _ => ?_) (fun _ => ?_)
        · skip
          exact (ih (x3 + 1))
        · skip
          refine P1.ite (fun _ => ?_) (fun _ => ?_)
          · skip
            refine P1.lt ?_
            intro v12 _
            exact P1.ret (fun _ _ _ => rfl)
          · skip
            exact P1.ret (fun _ _ _ => rfl)
      · skip
        exact (ih (x3 + 1))
/-- EveningFirst.lacks -/
theorem f_69 (x1 : Int32) (x2 : Int32) (g : G) : P1 (d_69 x1 x2 g) (fun q : Int32 × G => ∀ r k, ¬ ((25 ≤ r ∧ r < 28)) → q.2 r k = g r k) := by
  unfold d_69
  refine P1.lt ?_
  intro v1 _
  refine P1.ite (fun _ => ?_) (fun _ => ?_)
  · skip
    refine P1.lt ?_
    intro v3 _
    refine P1.ite (fun _ => ?_) (fun _ => ?_)
    · skip
      exact P1.ret (fun _ _ _ => rfl)
    · skip
      refine P1.bd (f_2 1 g) ?_
      intro g5 hg5 qg5
      have Fg5 : ∀ r k, ¬ ((25 ≤ r ∧ r < 28)) → g5 r k = g r k := fun r k hw => (qg5) r k (by omega)
      refine P1.mono (f_69_33 x1 x2 g5 300 (0 : Int32)) ?_
      intro qq hq
      exact (fun r k hw => ((hq r k (by omega)).trans (Fg5 r k hw)))
  · skip
    exact P1.ret (fun _ _ _ => rfl)
theorem f_70_46 (x1 : Int32) (g : G) : ∀ (f : Nat) (x2 : Int32) (x3 : Int32) (x4 : Int32) (x5 : Int32) (x6 : Int32) (x7 : Int32), P1 (d_70_46 x1 g f x2 x3 x4 x5 x6 x7) (fun q : Int32 × G => ∀ r k, ¬ ((r < 0)) → q.2 r k = g r k) := by
  intro f
  induction f with
  | zero =>
    intro x2 x3 x4 x5 x6 x7
    exact P1.nn
  | succ f ih =>
    intro x2 x3 x4 x5 x6 x7
    rw [d_70_46.eq_2]
    refine P1.ite (fun _ => ?_) (fun _ => ?_)
    · skip
      refine P1.ite (fun _ => ?_) (fun _ => ?_)
      · skip
        refine P1.ite (fun _ => ?_) (fun _ => ?_)
        · skip
          refine P1.ite (fun _ => ?_) (fun _ => ?_)
          · skip
            exact P1.ret (fun _ _ _ => rfl)
          · skip
            refine P1.ite (fun _ => ?_) (fun _ => ?_)
            · skip
              exact P1.ret (fun _ _ _ => rfl)
            · skip
              refine P1.ite (fun _ => ?_) (fun _ => ?_)
              · skip
                exact P1.ret (fun _ _ _ => rfl)
              · skip
                exact P1.ret (fun _ _ _ => rfl)
        · skip
          exact P1.ret (fun _ _ _ => rfl)
      · skip
        exact P1.ret (fun _ _ _ => rfl)
    · skip
      refine P1.bs ?_
      intro v10 _
      refine P1.ite (fun _ => ?_) (fun _ => ?_)
      · skip
        refine P1.ite (fun _ => ?_) (fun _ => ?_)
        · skip
          exact (ih (x2 + 1) x3 x7 (x5 &&& x7) (x6 ||| x7) (x7 + 1))
        · skip
          exact (ih (x2 + 1) x7 x7 (x5 &&& x7) (x6 ||| x7) (x7 + 1))
      · skip
        exact (ih x2 x3 x4 x5 x6 (x7 + 1))
/-- EveningFirst.days -/
theorem f_70 (x1 : Int32) (g : G) : P1 (d_70 x1 g) (fun q : Int32 × G => ∀ r k, ¬ ((25 ≤ r ∧ r < 28)) → q.2 r k = g r k) := by
  unfold d_70
  refine P1.ite (fun _ => ?_) (fun _ => ?_)
  · skip
    exact P1.ret (fun _ _ _ => rfl)
  · skip
    refine P1.ite (fun _ => ?_) (fun _ => ?_)
    · skip
      refine P1.bd (f_2 1 g) ?_
      intro g3 hg3 qg3
      have Fg3 : ∀ r k, ¬ ((25 ≤ r ∧ r < 28)) → g3 r k = g r k := fun r k hw => (qg3) r k (by omega)
      refine P1.mono (f_70_46 x1 g3 300 (0 : Int32) (-4 : Int32) (-4 : Int32) (g3 25 0) (0 : Int32) (0 : Int32)) ?_
      intro qq hq
      exact (fun r k hw => ((hq r k (by omega)).trans (Fg3 r k hw)))
    · skip
      exact P1.ret (fun _ _ _ => rfl)
/-- EveningFirst.greatest -/
theorem f_71 (g : G) : P1 (d_71 g) (fun q : Int32 × G => ∀ r k, ¬ ((25 ≤ r ∧ r < 28)) → q.2 r k = g r k) := by
  unfold d_71
  refine P1.bd (f_2 1 g) ?_
  intro g1 hg1 qg1
  have Fg1 : ∀ r k, ¬ ((25 ≤ r ∧ r < 28)) → g1 r k = g r k := fun r k hw => (qg1) r k (by omega)
  refine P1.bs ?_
  intro v2 _
  exact P1.ret Fg1
/-- EveningFirst.made -/
theorem f_72 (x1 : Int32) (g : G) : P1 (d_72 x1 g) (fun q : Int32 × G => ∀ r k, ¬ ((25 ≤ r ∧ r < 28)) → q.2 r k = g r k) := by
  unfold d_72
  refine P1.ite (fun _ => ?_) (fun _ => ?_)
  · skip
    exact P1.ret (fun _ _ _ => rfl)
  · skip
    refine P1.ite (fun _ => ?_) (fun _ => ?_)
    · skip
      refine P1.bd (f_2 1 g) ?_
      intro g3 hg3 qg3
      have Fg3 : ∀ r k, ¬ ((25 ≤ r ∧ r < 28)) → g3 r k = g r k := fun r k hw => (qg3) r k (by omega)
      refine P1.bs ?_
      intro v4 _
      refine P1.ite (fun _ => ?_) (fun _ => ?_)
      · skip
        refine P1.bs ?_
        intro v6 _
        exact P1.ret Fg3
      · skip
        refine P1.ite (fun _ => ?_) (fun _ => ?_)
        · skip
          refine P1.bs ?_
          intro v8 _
          exact P1.ret Fg3
        · skip
          refine P1.bs ?_
          intro v9 _
          exact P1.ret Fg3
    · skip
      exact P1.ret (fun _ _ _ => rfl)
theorem f_163_19 (x1 : Int32) (x2 : Int32) (g : G) (k9 : Int32 → Bool → G → Option (Int32 × G)) (hk9 : ∀ (x2 : Int32) (x3 : Bool) (g : G), P1 (k9 x2 x3 g) (fun q : Int32 × G => ∀ r k, ¬ ((r = 113 ∧ k = 21)) → q.2 r k = g r k)) : ∀ (f : Nat) (x4 : Int32) (x5 : Int32), P1 (d_163_19 x1 x2 g k9 f x4 x5) (fun q : Int32 × G => ∀ r k, ¬ ((r = 113 ∧ k = 21)) → q.2 r k = g r k) := by
  intro f
  induction f with
  | zero =>
    intro x4 x5
    exact P1.nn
  | succ f ih =>
    intro x4 x5
    rw [d_163_19.eq_2]
    refine P1.ite (fun _ => ?_) (fun _ => ?_)
    · skip
      refine P1.ite (fun _ => ?_) (fun _ => ?_)
      · skip
        refine P1.lt ?_
        intro v5 _
        refine P1.lt ?_
        intro g6 hg6
        have Fg6 : ∀ r k, ¬ ((r = 113 ∧ k = 21)) → g6 r k = g r k := fun r k hw => (zg_fr hg6) r k (by omega)
        refine P1.mono (hk9 (x2 ||| x4) false g6) ?_
        intro qq hq
        exact (fun r k hw => ((hq r k (by omega)).trans (Fg6 r k hw)))
      · skip
        refine P1.lt ?_
        intro v7 _
        refine P1.lt ?_
        intro g8 hg8
        have Fg8 : ∀ r k, ¬ ((r = 113 ∧ k = 21)) → g8 r k = g r k := fun r k hw => (zg_fr hg8) r k (by omega)
        refine P1.mono (hk9 (x2 ||| x4) true g8) ?_
        intro qq hq
        exact (fun r k hw => ((hq r k (by omega)).trans (Fg8 r k hw)))
    · skip
      refine P1.ite (fun _ => ?_) (fun _ => ?_)
      · skip
        refine P1.lt ?_
        intro v10 _
        exact (ih (x4 ||| (v10 <<< (x5 &&& 31))) (x5 + 1))
      · skip
        refine P1.ite (fun _ => ?_) (fun _ => ?_)
        · skip
          refine P1.lt ?_
          intro v12 _
          exact (ih (x4 ||| (v12 <<< (x5 &&& 31))) (x5 + 1))
        · skip
          refine P1.bs ?_
          intro v13 _
          refine P1.ite (fun _ => ?_) (fun _ => ?_)
          · skip
            refine P1.lt ?_
            intro v15 _
            exact (ih (x4 ||| (v15 <<< (x5 &&& 31))) (x5 + 1))
          · skip
            refine P1.lt ?_
            intro v16 _
            exact (ih (x4 ||| (v16 <<< (x5 &&& 31))) (x5 + 1))
theorem f_163_9 (x1 : Int32) : ∀ (f : Nat) (x2 : Int32) (x3 : Bool) (g : G), P1 (d_163_9 x1 f x2 x3 g) (fun q : Int32 × G => ∀ r k, ¬ ((r = 113 ∧ k = 21)) → q.2 r k = g r k) := by
  intro f
  induction f with
  | zero =>
    intro x2 x3 g
    exact P1.nn
  | succ f ih =>
    intro x2 x3 g
    rw [d_163_9.eq_2]
    refine P1.ite (fun _ => ?_) (fun _ => ?_)
    · skip
      refine P1.mono (f_163_19 x1 x2 g (d_163_9 x1 f) (ih) 300 (0 : Int32) (0 : Int32)) ?_
      intro qq hq
      exact (fun r k hw => hq r k (by omega))
    · skip
      exact P1.ret (fun _ _ _ => rfl)
/-- EveningFirstModel.findMade -/
theorem f_163 (x1 : Int32) (g : G) : P1 (d_163 x1 g) (fun q : Int32 × G => ∀ r k, ¬ ((r = 113 ∧ k = 21)) → q.2 r k = g r k) := by
  unfold d_163
  refine P1.lt ?_
  intro g1 hg1
  have Fg1 : ∀ r k, ¬ ((r = 113 ∧ k = 21)) → g1 r k = g r k := fun r k hw => (zg_fr hg1) r k (by omega)
  refine P1.mono (f_163_9 x1 300 (0 : Int32) true g1) ?_
  intro qq hq
  exact (fun r k hw => ((hq r k (by omega)).trans (Fg1 r k hw)))
/-- EveningFirstModel.made -/
theorem f_165 (x1 : Int32) (g : G) : P1 (d_165 x1 g) (fun q : Int32 × G => ∀ r k, ¬ ((r = 113 ∧ k = 21)) → q.2 r k = g r k) := by
  unfold d_165
  refine P1.lt ?_
  intro v1 _
  refine P1.ite (fun _ => ?_) (fun _ => ?_)
  · skip
    refine P1.bs ?_
    intro v3 _
    refine P1.bp (f_163 v3 g) ?_
    intro v4 g5 hv4 qg5
    have Fg5 : ∀ r k, ¬ ((r = 113 ∧ k = 21)) → g5 r k = g r k := fun r k hw => (qg5) r k (by omega)
    refine P1.ite (fun _ => ?_) (fun _ => ?_)
    · skip
      refine P1.ite (fun _ => ?_) (fun _ => ?_)
      · skip
        exact P1.ret Fg5
      · skip
        exact P1.ret Fg5
    · skip
      exact P1.ret Fg5
  · skip
    exact P1.ret (fun _ _ _ => rfl)
theorem f_73_41 (x1 : Int32) (g : G) : ∀ (f : Nat) (x2 : Int32) (x3 : Int32) (x4 : Int32), P1 (d_73_41 x1 g f x2 x3 x4) (fun q : Int32 × G => ∀ r k, ¬ ((r < 0)) → q.2 r k = g r k) := by
  intro f
  induction f with
  | zero =>
    intro x2 x3 x4
    exact P1.nn
  | succ f ih =>
    intro x2 x3 x4
    rw [d_73_41.eq_2]
    refine P1.ite (fun _ => ?_) (fun _ => ?_)
    · skip
      refine P1.ite (fun _ => ?_) (fun _ => ?_)
      · skip
        refine P1.ite (fun _ => ?_) (fun _ => ?_)
        · skip
          exact P1.ret (fun _ _ _ => rfl)
        · skip
          exact P1.ret (fun _ _ _ => rfl)
      · skip
        exact P1.ret (fun _ _ _ => rfl)
    · skip
      refine P1.bs ?_
      intro v8 _
      refine P1.ite (fun _ => ?_) (fun _ => ?_)
      · skip
        exact (ih x2 x3 (x4 + 1))
      · skip
        exact (ih x4 v8 (x4 + 1))
/-- EveningFirst.stop -/
theorem f_73 (x1 : Int32) (g : G) : P1 (d_73 x1 g) (fun q : Int32 × G => ∀ r k, ¬ ((25 ≤ r ∧ r < 28)) → q.2 r k = g r k) := by
  unfold d_73
  refine P1.lt ?_
  intro v1 _
  refine P1.ite (fun _ => ?_) (fun _ => ?_)
  · skip
    exact P1.ret (fun _ _ _ => rfl)
  · skip
    refine P1.bd (f_2 1 g) ?_
    intro g3 hg3 qg3
    have Fg3 : ∀ r k, ¬ ((25 ≤ r ∧ r < 28)) → g3 r k = g r k := fun r k hw => (qg3) r k (by omega)
    refine P1.bs ?_
    intro v4 _
    refine P1.mono (f_73_41 x1 g3 300 (-4 : Int32) v4 (0 : Int32)) ?_
    intro qq hq
    exact (fun r k hw => ((hq r k (by omega)).trans (Fg3 r k hw)))
/-- EveningFirstModel.roundNow -/
theorem f_166 (g : G) : P1 (d_166 g) (fun q : Int32 × G => ∀ r k, ¬ ((r = 113 ∧ k = 21)) → q.2 r k = g r k) := by
  unfold d_166
  refine P1.bs ?_
  intro v1 _
  refine P1.bp (f_163 v1 g) ?_
  intro v2 g3 hv2 qg3
  have Fg3 : ∀ r k, ¬ ((r = 113 ∧ k = 21)) → g3 r k = g r k := fun r k hw => (qg3) r k (by omega)
  refine P1.bs ?_
  intro v4 _
  exact P1.ret Fg3
theorem f_167_23 (x1 : Int32) : ∀ (f : Nat) (x2 : Int32) (x3 : Int32) (x4 : Int32) (g : G), P1 (d_167_23 x1 f x2 x3 x4 g) (fun q : Int32 × G => ∀ r k, ¬ ((r = 113 ∧ k = 21) ∨ (r = 114)) → q.2 r k = g r k) := by
  intro f
  induction f with
  | zero =>
    intro x2 x3 x4 g
    exact P1.nn
  | succ f ih =>
    intro x2 x3 x4 g
    rw [d_167_23.eq_2]
    refine P1.ite (fun _ => ?_) (fun _ => ?_)
    · skip
      refine P1.ite (fun _ => ?_) (fun _ => ?_)
      · skip
        refine P1.ite (fun _ => ?_) (fun _ => ?_)
        · skip
          exact P1.ret (fun _ _ _ => rfl)
        · skip
          exact P1.ret (fun _ _ _ => rfl)
      · skip
        exact P1.ret (fun _ _ _ => rfl)
    · skip
      refine P1.bp (f_142 ((9 + (7 * x4)) + 5) (2 : Int32) g) ?_
      intro v8 g9 hv8 qg9
      have Fg9 : ∀ r k, ¬ ((r = 113 ∧ k = 21) ∨ (r = 114)) → g9 r k = g r k := fun r k hw => (qg9) r k (by omega)
      refine P1.bp (f_166  g9) ?_
      intro v10 g11 hv10 qg11
      have Fg11 : ∀ r k, ¬ ((r = 113 ∧ k = 21) ∨ (r = 114)) → g11 r k = g r k := fun r k hw => ((qg11) r k (by omega)).trans (Fg9 r k hw)
      refine P1.ix ?_
      intro k13 hk13 bk13
      refine P1.lt ?_
      intro g12 hg12
      have Fg12 : ∀ r k, ¬ ((r = 113 ∧ k = 21) ∨ (r = 114)) → g12 r k = g r k := fun r k hw => ((zg_fr hg12) r k (by omega)).trans (Fg11 r k hw)
      refine P1.ite (fun _ => ?_) (fun _ => ?_)
      · skip
        refine P1.ite (fun _ => ?_) (fun _ => ?_)
        · skip
          refine P1.mono (ih x2 x3 (x4 + 1) g12) ?_
          intro qq hq
          exact (fun r k hw => ((hq r k (by omega)).trans (Fg12 r k hw)))
        · skip
          refine P1.mono (ih v10 x3 (x4 + 1) g12) ?_
          intro qq hq
          exact (fun r k hw => ((hq r k (by omega)).trans (Fg12 r k hw)))
      · skip
        refine P1.ite (fun _ => ?_) (fun _ => ?_)
        · skip
          refine P1.mono (ih x2 x4 (x4 + 1) g12) ?_
          intro qq hq
          exact (fun r k hw => ((hq r k (by omega)).trans (Fg12 r k hw)))
        · skip
          refine P1.mono (ih v10 x4 (x4 + 1) g12) ?_
          intro qq hq
          exact (fun r k hw => ((hq r k (by omega)).trans (Fg12 r k hw)))
/-- EveningFirstModel.stop -/
theorem f_167 (x1 : Int32) (g : G) : P1 (d_167 x1 g) (fun q : Int32 × G => ∀ r k, ¬ ((r = 113 ∧ k = 21) ∨ (r = 114)) → q.2 r k = g r k) := by
  unfold d_167
  refine P1.lt ?_
  intro v1 _
  refine P1.ite (fun _ => ?_) (fun _ => ?_)
  · skip
    refine P1.bp (f_166  g) ?_
    intro v3 g4 hv3 qg4
    have Fg4 : ∀ r k, ¬ ((r = 113 ∧ k = 21) ∨ (r = 114)) → g4 r k = g r k := fun r k hw => (qg4) r k (by omega)
    refine P1.mono (f_167_23 x1 300 v3 (-4 : Int32) (0 : Int32) g4) ?_
    intro qq hq
    exact (fun r k hw => ((hq r k (by omega)).trans (Fg4 r k hw)))
  · skip
    exact P1.ret (fun _ _ _ => rfl)
theorem f_74_42 (x1 : Int32) (x2 : Int32) (x3 : Int32) (x4 : Int32) (g : G) : ∀ (f : Nat) (x5 : Int32) (x6 : Int32) (x7 : Int32), P1 (d_74_42 x1 x2 x3 x4 g f x5 x6 x7) (fun q : Int32 × G => ∀ r k, ¬ ((r < 0)) → q.2 r k = g r k) := by
  intro f
  induction f with
  | zero =>
    intro x5 x6 x7
    exact P1.nn
  | succ f ih =>
    intro x5 x6 x7
    rw [d_74_42.eq_2]
    refine P1.ite (fun _ => ?_) (fun _ => ?_)
    · skip
      refine P1.ite (fun _ => ?_) (fun _ => ?_)
      · skip
        refine P1.ite (fun _ => ?_) (fun _ => ?_)
        · skip
          exact P1.ret (fun _ _ _ => rfl)
        · skip
          exact P1.ret (fun _ _ _ => rfl)
      · skip
        exact P1.ret (fun _ _ _ => rfl)
    · skip
      refine P1.lt ?_
      intro v9 _
      refine P1.ite (fun _ => ?_) (fun _ => ?_)
      · skip
        exact (ih x5 x6 (x7 + 1))
      · skip
        refine P1.bs ?_
        intro v11 _
        refine P1.ite (fun _ => ?_) (fun _ => ?_)
        · skip
          refine P1.bs ?_
          intro v13 _
          refine P1.lt ?_
          intro v14 _
          refine P1.ite (fun _ => ?_) (fun _ => ?_)
          · skip
            exact (ih x7 v9 (x7 + 1))
          · skip
            exact (ih x5 x6 (x7 + 1))
        · skip
          exact (ih x5 x6 (x7 + 1))
/-- EveningFirst.reach -/
theorem f_74 (x1 : Int32) (x2 : Int32) (x3 : Int32) (x4 : Int32) (g : G) : P1 (d_74 x1 x2 x3 x4 g) (fun q : Int32 × G => ∀ r k, ¬ ((25 ≤ r ∧ r < 28)) → q.2 r k = g r k) := by
  unfold d_74
  refine P1.lt ?_
  intro v1 _
  refine P1.ite (fun _ => ?_) (fun _ => ?_)
  · skip
    exact P1.ret (fun _ _ _ => rfl)
  · skip
    refine P1.lt ?_
    intro v3 _
    refine P1.ite (fun _ => ?_) (fun _ => ?_)
    · skip
      exact P1.ret (fun _ _ _ => rfl)
    · skip
      refine P1.bd (f_2 1 g) ?_
      intro g5 hg5 qg5
      have Fg5 : ∀ r k, ¬ ((25 ≤ r ∧ r < 28)) → g5 r k = g r k := fun r k hw => (qg5) r k (by omega)
      refine P1.mono (f_74_42 x1 x2 x3 x4 g5 300 (-4 : Int32) (9 : Int32) (0 : Int32)) ?_
      intro qq hq
      exact (fun r k hw => ((hq r k (by omega)).trans (Fg5 r k hw)))
/-- EveningFirst.sizeOfGreatest -/
theorem f_100 (r1 : Nat) (g : G) : P1 (d_100 r1 g) (fun q : Int32 × G => ∀ r k, ¬ ((25 ≤ r ∧ r < 28)) → q.2 r k = g r k) := by
  unfold d_100
  refine P1.bd (f_2 r1 g) ?_
  intro g1 hg1 qg1
  have Fg1 : ∀ r k, ¬ ((25 ≤ r ∧ r < 28)) → g1 r k = g r k := fun r k hw => (qg1) r k (by omega)
  refine P1.bs ?_
  intro v2 _
  refine P1.lt ?_
  intro v3 _
  exact P1.ret Fg1
theorem f_75_47 (x1 : Int32) (x2 : Int32) : ∀ (f : Nat) (x3 : Int32) (x4 : Int32) (x5 : Int32) (g : G), P1 (d_75_47 x1 x2 f x3 x4 x5 g) (fun q : Int32 × G => ∀ r k, ¬ ((25 ≤ r ∧ r < 28) ∨ (38 ≤ r ∧ r < 46)) → q.2 r k = g r k) := by
  intro f
  induction f with
  | zero =>
    intro x3 x4 x5 g
    exact P1.nn
  | succ f ih =>
    intro x3 x4 x5 g
    rw [d_75_47.eq_2]
    refine P1.ite (fun _ => ?_) (fun _ => ?_)
    · skip
      refine P1.ite (fun _ => ?_) (fun _ => ?_)
      · skip
        refine P1.ite (fun _ => ?_) (fun _ => ?_)
        · skip
          exact P1.ret (fun _ _ _ => rfl)
        · skip
          exact P1.ret (fun _ _ _ => rfl)
      · skip
        exact P1.ret (fun _ _ _ => rfl)
    · skip
      refine P1.ix ?_
      intro k11 hk11 bk11
      refine P1.lt ?_
      intro g12 hg12
      have Fg12 : ∀ r k, ¬ ((25 ≤ r ∧ r < 28) ∨ (38 ≤ r ∧ r < 46)) → g12 r k = g r k := fun r k hw => (zg_fr hg12) r k (by omega)
      refine P1.bp (f_100 30 g12) ?_
      intro v13 g14 hv13 qg14
      have Fg14 : ∀ r k, ¬ ((25 ≤ r ∧ r < 28) ∨ (38 ≤ r ∧ r < 46)) → g14 r k = g r k := fun r k hw => ((qg14) r k (by omega)).trans (Fg12 r k hw)
      refine P1.ite (fun _ => ?_) (fun _ => ?_)
      · skip
        refine P1.mono (ih x3 x4 (x5 + 1) g14) ?_
        intro qq hq
        exact (fun r k hw => ((hq r k (by omega)).trans (Fg14 r k hw)))
      · skip
        refine P1.mono (ih v13 x5 (x5 + 1) g14) ?_
        intro qq hq
        exact (fun r k hw => ((hq r k (by omega)).trans (Fg14 r k hw)))
/-- EveningFirst.better -/
theorem f_75 (x1 : Int32) (x2 : Int32) (g : G) : P1 (d_75 x1 x2 g) (fun q : Int32 × G => ∀ r k, ¬ ((25 ≤ r ∧ r < 28) ∨ (r = 30) ∨ (34 ≤ r ∧ r < 54)) → q.2 r k = g r k) := by
  unfold d_75
  refine P1.lt ?_
  intro v1 _
  refine P1.ite (fun _ => ?_) (fun _ => ?_)
  · skip
    refine P1.lt ?_
    intro v3 _
    refine P1.ite (fun _ => ?_) (fun _ => ?_)
    · skip
      exact P1.ret (fun _ _ _ => rfl)
    · skip
      refine P1.bp (f_100 1 g) ?_
      intro v5 g6 hv5 qg6
      have Fg6 : ∀ r k, ¬ ((25 ≤ r ∧ r < 28) ∨ (r = 30) ∨ (34 ≤ r ∧ r < 54)) → g6 r k = g r k := fun r k hw => (qg6) r k (by omega)
      refine P1.bd (f_17 30 1 g6) ?_
      intro g7 hg7 qg7
      have Fg7 : ∀ r k, ¬ ((25 ≤ r ∧ r < 28) ∨ (r = 30) ∨ (34 ≤ r ∧ r < 54)) → g7 r k = g r k := fun r k hw => ((qg7) r k (by omega)).trans (Fg6 r k hw)
      refine P1.mono (f_75_47 x1 x2 300 v5 (-4 : Int32) (0 : Int32) g7) ?_
      intro qq hq
      exact (fun r k hw => ((hq r k (by omega)).trans (Fg7 r k hw)))
  · skip
    exact P1.ret (fun _ _ _ => rfl)
theorem f_169_55 (x2 : Int32) (x5 : Int32) (x6 : Int32) : ∀ (f : Nat) (x3 : Int32) (x4 : Int32) (x7 : Int32) (g : G), P1 (d_169_55 x2 x5 x6 f x3 x4 x7 g) (fun q : Int32 × G => ∀ r k, ¬ ((r = 114)) → q.2 r k = g r k) := by
  intro f
  induction f with
  | zero =>
    intro x3 x4 x7 g
    exact P1.nn
  | succ f ih =>
    intro x3 x4 x7 g
    rw [d_169_55.eq_2]
    refine P1.ite (fun _ => ?_) (fun _ => ?_)
    · skip
      refine P1.ix ?_
      intro k10 hk10 bk10
      refine P1.lt ?_
      intro g9 hg9
      have Fg9 : ∀ r k, ¬ ((r = 114)) → g9 r k = g r k := fun r k hw => (zg_fr hg9) r k (by omega)
      refine P1.ite (fun _ => ?_) (fun _ => ?_)
      · skip
        refine P1.ite (fun _ => ?_) (fun _ => ?_)
        · skip
          exact P1.ret Fg9
        · skip
          exact P1.ret Fg9
      · skip
        exact P1.ret Fg9
    · skip
      refine P1.ix ?_
      intro k14 hk14 bk14
      refine P1.lt ?_
      intro g13 hg13
      have Fg13 : ∀ r k, ¬ ((r = 114)) → g13 r k = g r k := fun r k hw => (zg_fr hg13) r k (by omega)
      refine P1.bs ?_
      intro v15 _
      refine P1.bs ?_
      intro v16 _
      refine P1.ite (fun _ => ?_) (fun _ => ?_)
      · skip
        refine P1.ite (fun _ => ?_) (fun _ => ?_)
        · skip
          refine P1.mono (ih x3 x4 (x7 + 1) g13) ?_
          intro qq hq
          exact (fun r k hw => ((hq r k (by omega)).trans (Fg13 r k hw)))
        · skip
          refine P1.mono (ih v16 x4 (x7 + 1) g13) ?_
          intro qq hq
          exact (fun r k hw => ((hq r k (by omega)).trans (Fg13 r k hw)))
      · skip
        refine P1.ite (fun _ => ?_) (fun _ => ?_)
        · skip
          refine P1.mono (ih x3 x7 (x7 + 1) g13) ?_
          intro qq hq
          exact (fun r k hw => ((hq r k (by omega)).trans (Fg13 r k hw)))
        · skip
          refine P1.mono (ih v16 x7 (x7 + 1) g13) ?_
          intro qq hq
          exact (fun r k hw => ((hq r k (by omega)).trans (Fg13 r k hw)))
/-- EveningFirstModel.better -/
theorem f_169 (x1 : Int32) (x2 : Int32) (g : G) : P1 (d_169 x1 x2 g) (fun q : Int32 × G => ∀ r k, ¬ ((r = 114)) → q.2 r k = g r k) := by
  unfold d_169
  refine P1.lt ?_
  intro v1 _
  refine P1.ite (fun _ => ?_) (fun _ => ?_)
  · skip
    refine P1.lt ?_
    intro v3 _
    refine P1.ite (fun _ => ?_) (fun _ => ?_)
    · skip
      refine P1.bs ?_
      intro v5 _
      refine P1.bs ?_
      intro v6 _
      refine P1.ix ?_
      intro k7 hk7 bk7
      refine P1.mono (f_169_55 x2 ((9 + (7 * x1)) + 0) (g 114 k7) 300 v6 (-4 : Int32) (0 : Int32) g) ?_
      intro qq hq
      exact (fun r k hw => hq r k (by omega))
    · skip
      exact P1.ret (fun _ _ _ => rfl)
  · skip
    exact P1.ret (fun _ _ _ => rfl)
theorem f_76_69 (x1 : Int32) (x2 : Int32) (x3 : Int32) (x4 : Int32) (g : G) : ∀ (f : Nat) (x5 : Int32) (x6 : Int32), P1 (d_76_69 x1 x2 x3 x4 g f x5 x6) (fun q : Int32 × G => ∀ r k, ¬ ((r < 0)) → q.2 r k = g r k) := by
  intro f
  induction f with
  | zero =>
    intro x5 x6
    exact P1.nn
  | succ f ih =>
    intro x5 x6
    rw [d_76_69.eq_2]
    refine P1.ite (fun _ => ?_) (fun _ => ?_)
    · skip
      exact P1.ret (fun _ _ _ => rfl)
    · skip
      refine P1.bs ?_
      intro v11 _
      refine P1.bs ?_
      intro v12 _
      refine P1.lt ?_
      intro v13 _
      refine P1.ite (fun _ => ?_) (fun _ => ?_)
      · skip
        exact (ih (x5 ||| ((1 : Int32) <<< (x6 &&& 31))) (x6 + 1))
      · skip
        exact (ih x5 (x6 + 1))
/-- EveningFirst.common -/
theorem f_76 (x1 : Int32) (x2 : Int32) (x3 : Int32) (g : G) : P1 (d_76 x1 x2 x3 g) (fun q : Int32 × G => ∀ r k, ¬ ((25 ≤ r ∧ r < 28)) → q.2 r k = g r k) := by
  unfold d_76
  refine P1.lt ?_
  intro v1 _
  refine P1.ite (fun _ => ?_) (fun _ => ?_)
  · skip
    refine P1.lt ?_
    intro v3 _
    refine P1.ite (fun _ => ?_) (fun _ => ?_)
    · skip
      refine P1.ite (fun _ => ?_) (fun _ => ?_)
      · skip
        exact P1.ret (fun _ _ _ => rfl)
      · skip
        refine P1.lt ?_
        intro v6 _
        refine P1.ite (fun _ => ?_) (fun _ => ?_)
        · skip
          refine P1.bd (f_2 1 g) ?_
          intro g8 hg8 qg8
          have Fg8 : ∀ r k, ¬ ((25 ≤ r ∧ r < 28)) → g8 r k = g r k := fun r k hw => (qg8) r k (by omega)
          refine P1.bs ?_
          intro v9 _
          refine P1.mono (f_76_69 x1 x2 x3 v9 g8 300 (0 : Int32) (0 : Int32)) ?_
          intro qq hq
          exact (fun r k hw => ((hq r k (by omega)).trans (Fg8 r k hw)))
        · skip
          exact P1.ret (fun _ _ _ => rfl)
    · skip
      exact P1.ret (fun _ _ _ => rfl)
  · skip
    exact P1.ret (fun _ _ _ => rfl)
theorem f_102_17 (x1 : Int32) (x2 : Int32) (x3 : Int32) (g : G) : ∀ (f : Nat) (x4 : Int64) (x6 : Int32), P1 (d_102_17 x1 x2 x3 g f x4 x6) (fun q : Int64 × G => ∀ r k, ¬ ((r < 0)) → q.2 r k = g r k) := by
  intro f
  induction f with
  | zero =>
    intro x4 x6
    exact P1.nn
  | succ f ih =>
    intro x4 x6
    rw [d_102_17.eq_2]
    refine P1.ite (fun _ => ?_) (fun _ => ?_)
    · skip
      exact P1.ret (fun _ _ _ => rfl)
    · skip
      refine P1.bs ?_
      intro v3 _
      refine P1.ite (fun _ => ?_) (fun _ => ?_)
      · skip
        refine P1.ite (fun _ => ?_) (fun _ => ?_)
        · skip
          refine P1.bs ?_
          intro v6 _
          exact (ih (x4 + v6) (x6 + 1))
        · skip
          refine P1.bs ?_
          intro v7 _
          refine P1.lt ?_
          intro v8 _
          refine P1.ite (fun _ => ?_) (fun _ => ?_)
          · skip
            refine P1.bs ?_
            intro v10 _
            exact (ih (x4 + v10) (x6 + 1))
          · skip
            exact (ih x4 (x6 + 1))
      · skip
        exact (ih x4 (x6 + 1))
/-- EveningFirst.weightOfDays -/
theorem f_102 (x1 : Int32) (x2 : Int32) (x3 : Int32) (g : G) : P1 (d_102 x1 x2 x3 g) (fun q : Int64 × G => ∀ r k, ¬ ((25 ≤ r ∧ r < 28)) → q.2 r k = g r k) := by
  unfold d_102
  refine P1.bd (f_2 1 g) ?_
  intro g1 hg1 qg1
  have Fg1 : ∀ r k, ¬ ((25 ≤ r ∧ r < 28)) → g1 r k = g r k := fun r k hw => (qg1) r k (by omega)
  refine P1.mono (f_102_17 x1 x2 x3 g1 300 (0 : Int64) (0 : Int32)) ?_
  intro qq hq
  exact (fun r k hw => ((hq r k (by omega)).trans (Fg1 r k hw)))
/-- EveningFirst.odds -/
theorem f_77 (x1 : Int32) (g : G) : P1 (d_77 x1 g) (fun q : Int64 × G => ∀ r k, ¬ ((25 ≤ r ∧ r < 28)) → q.2 r k = g r k) := by
  unfold d_77
  refine P1.lt ?_
  intro v1 _
  refine P1.ite (fun _ => ?_) (fun _ => ?_)
  · skip
    exact P1.ret (fun _ _ _ => rfl)
  · skip
    refine P1.bp (f_102 (-1 : Int32) (0 : Int32) (0 : Int32) g) ?_
    intro v3 g4 hv3 qg4
    have Fg4 : ∀ r k, ¬ ((25 ≤ r ∧ r < 28)) → g4 r k = g r k := fun r k hw => (qg4) r k (by omega)
    refine P1.bs ?_
    intro v5 _
    exact P1.ret Fg4
/-- EveningFirst.luck -/
theorem f_78 (x1 : Int32) (x2 : Int32) (x3 : Int32) (x4 : Int32) (g : G) : P1 (d_78 x1 x2 x3 x4 g) (fun q : Int64 × G => ∀ r k, ¬ ((25 ≤ r ∧ r < 28)) → q.2 r k = g r k) := by
  unfold d_78
  refine P1.lt ?_
  intro v1 _
  refine P1.ite (fun _ => ?_) (fun _ => ?_)
  · skip
    exact P1.ret (fun _ _ _ => rfl)
  · skip
    refine P1.lt ?_
    intro v3 _
    refine P1.ite (fun _ => ?_) (fun _ => ?_)
    · skip
      exact P1.ret (fun _ _ _ => rfl)
    · skip
      refine P1.bp (f_102 x1 x2 x3 g) ?_
      intro v5 g6 hv5 qg6
      have Fg6 : ∀ r k, ¬ ((25 ≤ r ∧ r < 28)) → g6 r k = g r k := fun r k hw => (qg6) r k (by omega)
      refine P1.bs ?_
      intro v7 _
      exact P1.ret Fg6
/-- EveningFirst.see -/
theorem f_79 (x1 : Int32) (x2 : Int32) (x3 : Int32) (x4 : Int32) (g : G) : P1 (d_79 x1 x2 x3 x4 g) (fun q : Int32 × G => ∀ r k, ¬ ((r = 1) ∨ (17 ≤ r ∧ r < 25)) → q.2 r k = g r k) := by
  unfold d_79
  refine P1.lt ?_
  intro v1 _
  refine P1.ite (fun _ => ?_) (fun _ => ?_)
  · skip
    exact P1.ret (fun _ _ _ => rfl)
  · skip
    refine P1.ite (fun _ => ?_) (fun _ => ?_)
    · skip
      refine P1.ix ?_
      intro k4 hk4 bk4
      refine P1.lt ?_
      intro g5 hg5
      have Fg5 : ∀ r k, ¬ ((r = 1) ∨ (17 ≤ r ∧ r < 25)) → g5 r k = g r k := fun r k hw => (zg_fr hg5) r k (by omega)
      refine P1.lt ?_
      intro g6 hg6
      have Fg6 : ∀ r k, ¬ ((r = 1) ∨ (17 ≤ r ∧ r < 25)) → g6 r k = g r k := fun r k hw => ((zg_fr hg6) r k (by omega)).trans (Fg5 r k hw)
      refine P1.lt ?_
      intro g7 hg7
      have Fg7 : ∀ r k, ¬ ((r = 1) ∨ (17 ≤ r ∧ r < 25)) → g7 r k = g r k := fun r k hw => ((zg_fr hg7) r k (by omega)).trans (Fg6 r k hw)
      refine P1.nd ?_
      refine P1.lt ?_
      intro g8 hg8
      have Fg8 : ∀ r k, ¬ ((r = 1) ∨ (17 ≤ r ∧ r < 25)) → g8 r k = g r k := fun r k hw => ((zg_fr hg8) r k (by omega)).trans (Fg7 r k hw)
      refine P1.lt ?_
      intro g10 hg10
      have Fg10 : ∀ r k, ¬ ((r = 1) ∨ (17 ≤ r ∧ r < 25)) → g10 r k = g r k := fun r k hw => ((zg_fr hg10) r k (by omega)).trans (Fg8 r k hw)
      exact P1.ret Fg10
    · skip
      exact P1.ret (fun _ _ _ => rfl)
/-- EveningFirstModel.see -/
theorem f_175 (x1 : Int32) (x2 : Int32) (x3 : Int32) (x4 : Int32) (g : G) : P1 (d_175 x1 x2 x3 x4 g) (fun q : Int32 × G => ∀ r k, ¬ ((r = 114)) → q.2 r k = g r k) := by
  unfold d_175
  refine P1.lt ?_
  intro v1 _
  refine P1.ite (fun _ => ?_) (fun _ => ?_)
  · skip
    refine P1.lt ?_
    intro v3 _
    refine P1.ite (fun _ => ?_) (fun _ => ?_)
    · skip
      refine P1.lt ?_
      intro v5 _
      refine P1.ite (fun _ => ?_) (fun _ => ?_)
      · skip
        refine P1.ite (fun _ => ?_) (fun _ => ?_)
        · skip
          refine P1.ix ?_
          intro k9 hk9 bk9
          refine P1.lt ?_
          intro g8 hg8
          have Fg8 : ∀ r k, ¬ ((r = 114)) → g8 r k = g r k := fun r k hw => (zg_fr hg8) r k (by omega)
          refine P1.ix ?_
          intro k11 hk11 bk11
          refine P1.lt ?_
          intro g10 hg10
          have Fg10 : ∀ r k, ¬ ((r = 114)) → g10 r k = g r k := fun r k hw => ((zg_fr hg10) r k (by omega)).trans (Fg8 r k hw)
          refine P1.ix ?_
          intro k13 hk13 bk13
          refine P1.lt ?_
          intro g12 hg12
          have Fg12 : ∀ r k, ¬ ((r = 114)) → g12 r k = g r k := fun r k hw => ((zg_fr hg12) r k (by omega)).trans (Fg10 r k hw)
          refine P1.lt ?_
          intro v14 _
          refine P1.ix ?_
          intro k16 hk16 bk16
          refine P1.lt ?_
          intro g15 hg15
          have Fg15 : ∀ r k, ¬ ((r = 114)) → g15 r k = g r k := fun r k hw => ((zg_fr hg15) r k (by omega)).trans (Fg12 r k hw)
          refine P1.lt ?_
          intro g17 hg17
          have Fg17 : ∀ r k, ¬ ((r = 114)) → g17 r k = g r k := fun r k hw => ((zg_fr hg17) r k (by omega)).trans (Fg15 r k hw)
          exact P1.ret Fg17
        · skip
          exact P1.ret (fun _ _ _ => rfl)
      · skip
        exact P1.ret (fun _ _ _ => rfl)
    · skip
      exact P1.ret (fun _ _ _ => rfl)
  · skip
    exact P1.ret (fun _ _ _ => rfl)
