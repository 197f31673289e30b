/-! printed by wip/tools/frame.py -/
/-- EveningFirstModel.needs -/
theorem f_113 (x1 : Int32) (x2 : Int32) (g : G) : T1 (d_113 x1 x2 g) (fun q : G => ∀ r k, ¬ ((r = 113 ∧ k = 19) ∨ (r = 113 ∧ k = 20)) → q r k = g r k) := by
  unfold d_113
  refine T1.ite (fun _ => ?_) (fun _ => ?_)
  · skip
    exact T1.ret (fun _ _ _ => rfl)
  · skip
    refine T1.ite (fun _ => ?_) (fun _ => ?_)
    · skip
      exact T1.ret (fun _ _ _ => rfl)
    · skip
      refine T1.lt ?_
      intro g3 hg3
      have Fg3 : ∀ r k, ¬ ((r = 113 ∧ k = 19) ∨ (r = 113 ∧ k = 20)) → g3 r k = g r k := fun r k hw => (zg_fr hg3) r k (by omega)
      refine T1.lt ?_
      intro g4 hg4
      have Fg4 : ∀ r k, ¬ ((r = 113 ∧ k = 19) ∨ (r = 113 ∧ k = 20)) → g4 r k = g r k := fun r k hw => ((zg_fr hg4) r k (by omega)).trans (Fg3 r k hw)
      exact T1.ret Fg4
theorem f_119_140 : ∀ (f : Nat) (g : G), P1 (d_119_140 f g) (fun q : G => ∀ r k, ¬ ((r = 113 ∧ k = 15) ∨ (r = 113 ∧ k = 18) ∨ (r = 113 ∧ k = 19) ∨ (r = 113 ∧ k = 20)) → q r k = g r k) := by
  intro f
  induction f with
  | zero =>
    intro g
    exact P1.nn
  | succ f ih =>
    intro g
    rw [d_119_140.eq_2]
    refine P1.bs ?_
    intro v19 _
    refine P1.lt ?_
    intro v20 _
    refine P1.ite (fun _ => ?_) (fun _ => ?_)
    · skip
      refine P1.ite (fun _ => ?_) (fun _ => ?_)
      · skip
        refine P1.lt ?_
        intro g26 hg26
        have Fg26 : ∀ r k, ¬ ((r = 113 ∧ k = 15) ∨ (r = 113 ∧ k = 18) ∨ (r = 113 ∧ k = 19) ∨ (r = 113 ∧ k = 20)) → g26 r k = g r k := fun r k hw => (zg_fr hg26) r k (by omega)
        refine P1.lt ?_
        intro g27 hg27
        have Fg27 : ∀ r k, ¬ ((r = 113 ∧ k = 15) ∨ (r = 113 ∧ k = 18) ∨ (r = 113 ∧ k = 19) ∨ (r = 113 ∧ k = 20)) → g27 r k = g r k := fun r k hw => ((zg_fr hg27) r k (by omega)).trans (Fg26 r k hw)
        refine P1.mono (ih g27) ?_
        intro qq hq
        exact (fun r k hw => ((hq r k (by omega)).trans (Fg27 r k hw)))
      · skip
        refine P1.bs ?_
        intro v28 _
        refine P1.lt ?_
        intro g29 hg29
        have Fg29 : ∀ r k, ¬ ((r = 113 ∧ k = 15) ∨ (r = 113 ∧ k = 18) ∨ (r = 113 ∧ k = 19) ∨ (r = 113 ∧ k = 20)) → g29 r k = g r k := fun r k hw => (zg_fr hg29) r k (by omega)
        refine P1.lt ?_
        intro g30 hg30
        have Fg30 : ∀ r k, ¬ ((r = 113 ∧ k = 15) ∨ (r = 113 ∧ k = 18) ∨ (r = 113 ∧ k = 19) ∨ (r = 113 ∧ k = 20)) → g30 r k = g r k := fun r k hw => ((zg_fr hg30) r k (by omega)).trans (Fg29 r k hw)
        refine P1.mono (ih g30) ?_
        intro qq hq
        exact (fun r k hw => ((hq r k (by omega)).trans (Fg30 r k hw)))
    · skip
      refine P1.ite (fun _ => ?_) (fun _ => ?_)
      · skip
        refine P1.lc (f_113 (0 : Int32) (1 : Int32) g) ?_
        intro g23 hg23 qg23
        have Fg23 : ∀ r k, ¬ ((r = 113 ∧ k = 15) ∨ (r = 113 ∧ k = 18) ∨ (r = 113 ∧ k = 19) ∨ (r = 113 ∧ k = 20)) → g23 r k = g r k := fun r k hw => (qg23) r k (by omega)
        exact P1.ret Fg23
      · skip
        refine P1.lc (f_113 (1 : Int32) (1 : Int32) g) ?_
        intro g24 hg24 qg24
        have Fg24 : ∀ r k, ¬ ((r = 113 ∧ k = 15) ∨ (r = 113 ∧ k = 18) ∨ (r = 113 ∧ k = 19) ∨ (r = 113 ∧ k = 20)) → g24 r k = g r k := fun r k hw => (qg24) r k (by omega)
        exact P1.ret Fg24
theorem f_119_82 : ∀ (f : Nat) (g : G), P1 (d_119_82 f g) (fun q : G => ∀ r k, ¬ ((r = 113 ∧ k = 15)) → q r k = g r k) := by
  intro f
  induction f with
  | zero =>
    intro g
    exact P1.nn
  | succ f ih =>
    intro g
    rw [d_119_82.eq_2]
    refine P1.bs ?_
    intro v32 _
    refine P1.lt ?_
    intro v33 _
    refine P1.ite (fun _ => ?_) (fun _ => ?_)
    · skip
      refine P1.lt ?_
      intro g35 hg35
      have Fg35 : ∀ r k, ¬ ((r = 113 ∧ k = 15)) → g35 r k = g r k := fun r k hw => (zg_fr hg35) r k (by omega)
      refine P1.mono (ih g35) ?_
      intro qq hq
      exact (fun r k hw => ((hq r k (by omega)).trans (Fg35 r k hw)))
    · skip
      exact P1.ret (fun _ _ _ => rfl)
theorem f_119_8 : ∀ (f : Nat) (g : G), P1 (d_119_8 f g) (fun q : G => ∀ r k, ¬ ((r = 113 ∧ k = 15) ∨ (r = 113 ∧ k = 16) ∨ (r = 113 ∧ k = 17) ∨ (r = 113 ∧ k = 18) ∨ (r = 113 ∧ k = 19) ∨ (r = 113 ∧ k = 20)) → q r k = g r k) := by
  intro f
  induction f with
  | zero =>
    intro g
    exact P1.nn
  | succ f ih =>
    intro g
    rw [d_119_8.eq_2]
    refine P1.bs ?_
    intro v2 _
    refine P1.ite (fun _ => ?_) (fun _ => ?_)
    · skip
      refine P1.lt ?_
      intro g4 hg4
      have Fg4 : ∀ r k, ¬ ((r = 113 ∧ k = 15) ∨ (r = 113 ∧ k = 16) ∨ (r = 113 ∧ k = 17) ∨ (r = 113 ∧ k = 18) ∨ (r = 113 ∧ k = 19) ∨ (r = 113 ∧ k = 20)) → g4 r k = g r k := fun r k hw => (zg_fr hg4) r k (by omega)
      refine P1.bs ?_
      intro v5 _
      refine P1.ite (fun _ => ?_) (fun _ => ?_)
      · skip
        refine P1.lt ?_
        intro v7 _
        refine P1.ite (fun _ => ?_) (fun _ => ?_)
        · skip
          refine P1.lt ?_
          intro g31 hg31
          have Fg31 : ∀ r k, ¬ ((r = 113 ∧ k = 15) ∨ (r = 113 ∧ k = 16) ∨ (r = 113 ∧ k = 17) ∨ (r = 113 ∧ k = 18) ∨ (r = 113 ∧ k = 19) ∨ (r = 113 ∧ k = 20)) → g31 r k = g r k := fun r k hw => ((zg_fr hg31) r k (by omega)).trans (Fg4 r k hw)
          refine P1.mono (f_119_82 300 g31) ?_
          intro qq hq
          exact (fun r k hw => ((hq r k (by omega)).trans (Fg31 r k hw)))
        · skip
          refine P1.lt ?_
          intro v9 _
          refine P1.ite (fun _ => ?_) (fun _ => ?_)
          · skip
            refine P1.lt ?_
            intro g17 hg17
            have Fg17 : ∀ r k, ¬ ((r = 113 ∧ k = 15) ∨ (r = 113 ∧ k = 16) ∨ (r = 113 ∧ k = 17) ∨ (r = 113 ∧ k = 18) ∨ (r = 113 ∧ k = 19) ∨ (r = 113 ∧ k = 20)) → g17 r k = g r k := fun r k hw => ((zg_fr hg17) r k (by omega)).trans (Fg4 r k hw)
            refine P1.lt ?_
            intro g18 hg18
            have Fg18 : ∀ r k, ¬ ((r = 113 ∧ k = 15) ∨ (r = 113 ∧ k = 16) ∨ (r = 113 ∧ k = 17) ∨ (r = 113 ∧ k = 18) ∨ (r = 113 ∧ k = 19) ∨ (r = 113 ∧ k = 20)) → g18 r k = g r k := fun r k hw => ((zg_fr hg18) r k (by omega)).trans (Fg17 r k hw)
            refine P1.mono (f_119_140 300 g18) ?_
            intro qq hq
            exact (fun r k hw => ((hq r k (by omega)).trans (Fg18 r k hw)))
          · skip
            refine P1.lt ?_
            intro g11 hg11
            have Fg11 : ∀ r k, ¬ ((r = 113 ∧ k = 15) ∨ (r = 113 ∧ k = 16) ∨ (r = 113 ∧ k = 17) ∨ (r = 113 ∧ k = 18) ∨ (r = 113 ∧ k = 19) ∨ (r = 113 ∧ k = 20)) → g11 r k = g r k := fun r k hw => ((zg_fr hg11) r k (by omega)).trans (Fg4 r k hw)
            refine P1.ite (fun _ => ?_) (fun _ => ?_)
            · skip
              refine P1.lc (f_113 (0 : Int32) (1 : Int32) g11) ?_
              intro g13 hg13 qg13
              have Fg13 : ∀ r k, ¬ ((r = 113 ∧ k = 15) ∨ (r = 113 ∧ k = 16) ∨ (r = 113 ∧ k = 17) ∨ (r = 113 ∧ k = 18) ∨ (r = 113 ∧ k = 19) ∨ (r = 113 ∧ k = 20)) → g13 r k = g r k := fun r k hw => ((qg13) r k (by omega)).trans (Fg11 r k hw)
              refine P1.lt ?_
              intro g14 hg14
              have Fg14 : ∀ r k, ¬ ((r = 113 ∧ k = 15) ∨ (r = 113 ∧ k = 16) ∨ (r = 113 ∧ k = 17) ∨ (r = 113 ∧ k = 18) ∨ (r = 113 ∧ k = 19) ∨ (r = 113 ∧ k = 20)) → g14 r k = g r k := fun r k hw => ((zg_fr hg14) r k (by omega)).trans (Fg13 r k hw)
              exact P1.ret Fg14
            · skip
              refine P1.lc (f_113 (1 : Int32) (1 : Int32) g11) ?_
              intro g15 hg15 qg15
              have Fg15 : ∀ r k, ¬ ((r = 113 ∧ k = 15) ∨ (r = 113 ∧ k = 16) ∨ (r = 113 ∧ k = 17) ∨ (r = 113 ∧ k = 18) ∨ (r = 113 ∧ k = 19) ∨ (r = 113 ∧ k = 20)) → g15 r k = g r k := fun r k hw => ((qg15) r k (by omega)).trans (Fg11 r k hw)
              refine P1.lt ?_
              intro g16 hg16
              have Fg16 : ∀ r k, ¬ ((r = 113 ∧ k = 15) ∨ (r = 113 ∧ k = 16) ∨ (r = 113 ∧ k = 17) ∨ (r = 113 ∧ k = 18) ∨ (r = 113 ∧ k = 19) ∨ (r = 113 ∧ k = 20)) → g16 r k = g r k := fun r k hw => ((zg_fr hg16) r k (by omega)).trans (Fg15 r k hw)
              exact P1.ret Fg16
      · skip
        refine P1.lt ?_
        intro g36 hg36
        have Fg36 : ∀ r k, ¬ ((r = 113 ∧ k = 15) ∨ (r = 113 ∧ k = 16) ∨ (r = 113 ∧ k = 17) ∨ (r = 113 ∧ k = 18) ∨ (r = 113 ∧ k = 19) ∨ (r = 113 ∧ k = 20)) → g36 r k = g r k := fun r k hw => ((zg_fr hg36) r k (by omega)).trans (Fg4 r k hw)
        exact P1.ret Fg36
    · skip
      refine P1.lt ?_
      intro g37 hg37
      have Fg37 : ∀ r k, ¬ ((r = 113 ∧ k = 15) ∨ (r = 113 ∧ k = 16) ∨ (r = 113 ∧ k = 17) ∨ (r = 113 ∧ k = 18) ∨ (r = 113 ∧ k = 19) ∨ (r = 113 ∧ k = 20)) → g37 r k = g r k := fun r k hw => (zg_fr hg37) r k (by omega)
      refine P1.mono (ih g37) ?_
      intro qq hq
      exact (fun r k hw => ((hq r k (by omega)).trans (Fg37 r k hw)))
/-- EveningFirstModel.next -/
theorem f_119 (g : G) : P1 (d_119 g) (fun q : G => ∀ r k, ¬ ((r = 113 ∧ k = 15) ∨ (r = 113 ∧ k = 16) ∨ (r = 113 ∧ k = 17) ∨ (r = 113 ∧ k = 18) ∨ (r = 113 ∧ k = 19) ∨ (r = 113 ∧ k = 20)) → q r k = g r k) := by
  unfold d_119
  refine P1.ite (fun _ => ?_) (fun _ => ?_)
  · skip
    refine P1.mono (f_119_8 300 g) ?_
    intro qq hq
    exact (fun r k hw => hq r k (by omega))
  · skip
    exact P1.ret (fun _ _ _ => rfl)
/-- EveningFirstModel.looked -/
theorem f_120 (x1 : Int32) (x2 : Int32) (g : G) : T1 (d_120 x1 x2 g) (fun q : Int32 × G => ∀ r k, ¬ ((r = 113 ∧ k = 19) ∨ (r = 113 ∧ k = 20)) → q.2 r k = g r k) := by
  unfold d_120
  refine T1.ite (fun _ => ?_) (fun _ => ?_)
  · skip
    refine T1.ite (fun _ => ?_) (fun _ => ?_)
    · skip
      refine T1.ite (fun _ => ?_) (fun _ => ?_)
      · skip
        exact T1.ret (fun _ _ _ => rfl)
      · skip
        exact T1.ret (fun _ _ _ => rfl)
    · skip
      refine T1.lt ?_
      intro v4 _
      refine T1.lc (f_113 (zb_i v4) (3 : Int32) g) ?_
      intro g5 hg5 qg5
      have Fg5 : ∀ r k, ¬ ((r = 113 ∧ k = 19) ∨ (r = 113 ∧ k = 20)) → g5 r k = g r k := fun r k hw => (qg5) r k (by omega)
      refine T1.ite (fun _ => ?_) (fun _ => ?_)
      · skip
        exact T1.ret Fg5
      · skip
        exact T1.ret Fg5
  · skip
    refine T1.ite (fun _ => ?_) (fun _ => ?_)
    · skip
      refine T1.lc (f_113 (0 : Int32) (2 : Int32) g) ?_
      intro g8 hg8 qg8
      have Fg8 : ∀ r k, ¬ ((r = 113 ∧ k = 19) ∨ (r = 113 ∧ k = 20)) → g8 r k = g r k := fun r k hw => (qg8) r k (by omega)
      refine T1.ite (fun _ => ?_) (fun _ => ?_)
      · skip
        refine T1.ite (fun _ => ?_) (fun _ => ?_)
        · skip
          exact T1.ret Fg8
        · skip
          exact T1.ret Fg8
      · skip
        refine T1.lt ?_
        intro v11 _
        refine T1.lc (f_113 (zb_i v11) (3 : Int32) g8) ?_
        intro g12 hg12 qg12
        have Fg12 : ∀ r k, ¬ ((r = 113 ∧ k = 19) ∨ (r = 113 ∧ k = 20)) → g12 r k = g r k := fun r k hw => ((qg12) r k (by omega)).trans (Fg8 r k hw)
        refine T1.ite (fun _ => ?_) (fun _ => ?_)
        · skip
          exact T1.ret Fg12
        · skip
          exact T1.ret Fg12
    · skip
      refine T1.lc (f_113 (1 : Int32) (2 : Int32) g) ?_
      intro g14 hg14 qg14
      have Fg14 : ∀ r k, ¬ ((r = 113 ∧ k = 19) ∨ (r = 113 ∧ k = 20)) → g14 r k = g r k := fun r k hw => (qg14) r k (by omega)
      refine T1.ite (fun _ => ?_) (fun _ => ?_)
      · skip
        refine T1.ite (fun _ => ?_) (fun _ => ?_)
        · skip
          exact T1.ret Fg14
        · skip
          exact T1.ret Fg14
      · skip
        refine T1.lt ?_
        intro v17 _
        refine T1.lc (f_113 (zb_i v17) (3 : Int32) g14) ?_
        intro g18 hg18 qg18
        have Fg18 : ∀ r k, ¬ ((r = 113 ∧ k = 19) ∨ (r = 113 ∧ k = 20)) → g18 r k = g r k := fun r k hw => ((qg18) r k (by omega)).trans (Fg14 r k hw)
        refine T1.ite (fun _ => ?_) (fun _ => ?_)
        · skip
          exact T1.ret Fg18
        · skip
          exact T1.ret Fg18
/-- EveningFirstModel.readNumber -/
theorem f_121 (x1 : Int32) (x2 : Int32) (g : G) : P1 (d_121 x1 x2 g) (fun q : Int32 × G => ∀ r k, ¬ ((r = 113 ∧ k = 15) ∨ (r = 113 ∧ k = 16) ∨ (r = 113 ∧ k = 17) ∨ (r = 113 ∧ k = 18) ∨ (r = 113 ∧ k = 19) ∨ (r = 113 ∧ k = 20)) → q.2 r k = g r k) := by
  unfold d_121
  refine P1.pc (f_120 x1 x2 g) ?_
  intro v1 g2 hv1 qg2
  have Fg2 : ∀ r k, ¬ ((r = 113 ∧ k = 15) ∨ (r = 113 ∧ k = 16) ∨ (r = 113 ∧ k = 17) ∨ (r = 113 ∧ k = 18) ∨ (r = 113 ∧ k = 19) ∨ (r = 113 ∧ k = 20)) → g2 r k = g r k := fun r k hw => (qg2) r k (by omega)
  refine P1.bd (f_119  g2) ?_
  intro g3 hg3 qg3
  have Fg3 : ∀ r k, ¬ ((r = 113 ∧ k = 15) ∨ (r = 113 ∧ k = 16) ∨ (r = 113 ∧ k = 17) ∨ (r = 113 ∧ k = 18) ∨ (r = 113 ∧ k = 19) ∨ (r = 113 ∧ k = 20)) → g3 r k = g r k := fun r k hw => ((qg3) r k (by omega)).trans (Fg2 r k hw)
  exact P1.ret Fg3
theorem f_122_2 : ∀ (f : Nat) (x1 : Int32) (g : G), P1 (d_122_2 f x1 g) (fun q : Int32 × G => ∀ r k, ¬ ((r = 113 ∧ k = 15) ∨ (r = 113 ∧ k = 16) ∨ (r = 113 ∧ k = 17) ∨ (r = 113 ∧ k = 18) ∨ (r = 113 ∧ k = 19) ∨ (r = 113 ∧ k = 20)) → q.2 r k = g r k) := by
  intro f
  induction f with
  | zero =>
    intro x1 g
    exact P1.nn
  | succ f ih =>
    intro x1 g
    rw [d_122_2.eq_2]
    refine P1.ite (fun _ => ?_) (fun _ => ?_)
    · skip
      exact P1.ret (fun _ _ _ => rfl)
    · skip
      refine P1.ite (fun _ => ?_) (fun _ => ?_)
      · skip
        exact P1.ret (fun _ _ _ => rfl)
      · skip
        refine P1.pc (f_120 (0 : Int32) (5 : Int32) g) ?_
        intro v3 g4 hv3 qg4
        have Fg4 : ∀ r k, ¬ ((r = 113 ∧ k = 15) ∨ (r = 113 ∧ k = 16) ∨ (r = 113 ∧ k = 17) ∨ (r = 113 ∧ k = 18) ∨ (r = 113 ∧ k = 19) ∨ (r = 113 ∧ k = 20)) → g4 r k = g r k := fun r k hw => (qg4) r k (by omega)
        refine P1.ite (fun _ => ?_) (fun _ => ?_)
        · skip
          refine P1.bd (f_119  g4) ?_
          intro g6 hg6 qg6
          have Fg6 : ∀ r k, ¬ ((r = 113 ∧ k = 15) ∨ (r = 113 ∧ k = 16) ∨ (r = 113 ∧ k = 17) ∨ (r = 113 ∧ k = 18) ∨ (r = 113 ∧ k = 19) ∨ (r = 113 ∧ k = 20)) → g6 r k = g r k := fun r k hw => ((qg6) r k (by omega)).trans (Fg4 r k hw)
          refine P1.mono (ih (x1 ||| ((1 : Int32) <<< (v3 &&& 31))) g6) ?_
          intro qq hq
          exact (fun r k hw => ((hq r k (by omega)).trans (Fg6 r k hw)))
        · skip
          refine P1.ite (fun _ => ?_) (fun _ => ?_)
          · skip
            refine P1.lc (f_113 (0 : Int32) (4 : Int32) g4) ?_
            intro g8 hg8 qg8
            have Fg8 : ∀ r k, ¬ ((r = 113 ∧ k = 15) ∨ (r = 113 ∧ k = 16) ∨ (r = 113 ∧ k = 17) ∨ (r = 113 ∧ k = 18) ∨ (r = 113 ∧ k = 19) ∨ (r = 113 ∧ k = 20)) → g8 r k = g r k := fun r k hw => ((qg8) r k (by omega)).trans (Fg4 r k hw)
            refine P1.bd (f_119  g8) ?_
            intro g9 hg9 qg9
            have Fg9 : ∀ r k, ¬ ((r = 113 ∧ k = 15) ∨ (r = 113 ∧ k = 16) ∨ (r = 113 ∧ k = 17) ∨ (r = 113 ∧ k = 18) ∨ (r = 113 ∧ k = 19) ∨ (r = 113 ∧ k = 20)) → g9 r k = g r k := fun r k hw => ((qg9) r k (by omega)).trans (Fg8 r k hw)
            refine P1.mono (ih (x1 ||| ((1 : Int32) <<< (v3 &&& 31))) g9) ?_
            intro qq hq
            exact (fun r k hw => ((hq r k (by omega)).trans (Fg9 r k hw)))
          · skip
            refine P1.lc (f_113 (1 : Int32) (4 : Int32) g4) ?_
            intro g10 hg10 qg10
            have Fg10 : ∀ r k, ¬ ((r = 113 ∧ k = 15) ∨ (r = 113 ∧ k = 16) ∨ (r = 113 ∧ k = 17) ∨ (r = 113 ∧ k = 18) ∨ (r = 113 ∧ k = 19) ∨ (r = 113 ∧ k = 20)) → g10 r k = g r k := fun r k hw => ((qg10) r k (by omega)).trans (Fg4 r k hw)
            refine P1.bd (f_119  g10) ?_
            intro g11 hg11 qg11
            have Fg11 : ∀ r k, ¬ ((r = 113 ∧ k = 15) ∨ (r = 113 ∧ k = 16) ∨ (r = 113 ∧ k = 17) ∨ (r = 113 ∧ k = 18) ∨ (r = 113 ∧ k = 19) ∨ (r = 113 ∧ k = 20)) → g11 r k = g r k := fun r k hw => ((qg11) r k (by omega)).trans (Fg10 r k hw)
            refine P1.mono (ih (x1 ||| ((1 : Int32) <<< (v3 &&& 31))) g11) ?_
            intro qq hq
            exact (fun r k hw => ((hq r k (by omega)).trans (Fg11 r k hw)))
/-- EveningFirstModel.readThings -/
theorem f_122 (g : G) : P1 (d_122 g) (fun q : Int32 × G => ∀ r k, ¬ ((r = 113 ∧ k = 15) ∨ (r = 113 ∧ k = 16) ∨ (r = 113 ∧ k = 17) ∨ (r = 113 ∧ k = 18) ∨ (r = 113 ∧ k = 19) ∨ (r = 113 ∧ k = 20)) → q.2 r k = g r k) := by
  unfold d_122
  refine P1.mono (f_122_2 300 (0 : Int32) g) ?_
  intro qq hq
  exact (fun r k hw => hq r k (by omega))
theorem f_123_24 (s0 : Int32) (g : G) : P1 (d_123_24 s0 g) (fun q : G => ∀ r k, ¬ ((r = 113 ∧ k = 6) ∨ (r = 113 ∧ k = 15) ∨ (r = 113 ∧ k = 16) ∨ (r = 113 ∧ k = 17) ∨ (r = 113 ∧ k = 18) ∨ (r = 113 ∧ k = 19) ∨ (r = 113 ∧ k = 20) ∨ (r = 116)) → q r k = g r k) := by
  unfold d_123_24
  refine P1.ite (fun _ => ?_) (fun _ => ?_)
  · skip
    refine P1.lc (f_113 (0 : Int32) (2 : Int32) g) ?_
    intro g3 hg3 qg3
    have Fg3 : ∀ r k, ¬ ((r = 113 ∧ k = 6) ∨ (r = 113 ∧ k = 15) ∨ (r = 113 ∧ k = 16) ∨ (r = 113 ∧ k = 17) ∨ (r = 113 ∧ k = 18) ∨ (r = 113 ∧ k = 19) ∨ (r = 113 ∧ k = 20) ∨ (r = 116)) → g3 r k = g r k := fun r k hw => (qg3) r k (by omega)
    refine P1.bd (f_119  g3) ?_
    intro g4 hg4 qg4
    have Fg4 : ∀ r k, ¬ ((r = 113 ∧ k = 6) ∨ (r = 113 ∧ k = 15) ∨ (r = 113 ∧ k = 16) ∨ (r = 113 ∧ k = 17) ∨ (r = 113 ∧ k = 18) ∨ (r = 113 ∧ k = 19) ∨ (r = 113 ∧ k = 20) ∨ (r = 116)) → g4 r k = g r k := fun r k hw => ((qg4) r k (by omega)).trans (Fg3 r k hw)
    refine P1.ix ?_
    intro k6 hk6 bk6
    refine P1.lt ?_
    intro g5 hg5
    have Fg5 : ∀ r k, ¬ ((r = 113 ∧ k = 6) ∨ (r = 113 ∧ k = 15) ∨ (r = 113 ∧ k = 16) ∨ (r = 113 ∧ k = 17) ∨ (r = 113 ∧ k = 18) ∨ (r = 113 ∧ k = 19) ∨ (r = 113 ∧ k = 20) ∨ (r = 116)) → g5 r k = g r k := fun r k hw => ((zg_fr hg5) r k (by omega)).trans (Fg4 r k hw)
    refine P1.bp (f_122  g5) ?_
    intro v7 g8 hv7 qg8
    have Fg8 : ∀ r k, ¬ ((r = 113 ∧ k = 6) ∨ (r = 113 ∧ k = 15) ∨ (r = 113 ∧ k = 16) ∨ (r = 113 ∧ k = 17) ∨ (r = 113 ∧ k = 18) ∨ (r = 113 ∧ k = 19) ∨ (r = 113 ∧ k = 20) ∨ (r = 116)) → g8 r k = g r k := fun r k hw => ((qg8) r k (by omega)).trans (Fg5 r k hw)
    refine P1.ix ?_
    intro k10 hk10 bk10
    refine P1.lt ?_
    intro g9 hg9
    have Fg9 : ∀ r k, ¬ ((r = 113 ∧ k = 6) ∨ (r = 113 ∧ k = 15) ∨ (r = 113 ∧ k = 16) ∨ (r = 113 ∧ k = 17) ∨ (r = 113 ∧ k = 18) ∨ (r = 113 ∧ k = 19) ∨ (r = 113 ∧ k = 20) ∨ (r = 116)) → g9 r k = g r k := fun r k hw => ((zg_fr hg9) r k (by omega)).trans (Fg8 r k hw)
    refine P1.lt ?_
    intro g11 hg11
    have Fg11 : ∀ r k, ¬ ((r = 113 ∧ k = 6) ∨ (r = 113 ∧ k = 15) ∨ (r = 113 ∧ k = 16) ∨ (r = 113 ∧ k = 17) ∨ (r = 113 ∧ k = 18) ∨ (r = 113 ∧ k = 19) ∨ (r = 113 ∧ k = 20) ∨ (r = 116)) → g11 r k = g r k := fun r k hw => ((zg_fr hg11) r k (by omega)).trans (Fg9 r k hw)
    exact P1.ret Fg11
  · skip
    refine P1.lc (f_113 (1 : Int32) (2 : Int32) g) ?_
    intro g12 hg12 qg12
    have Fg12 : ∀ r k, ¬ ((r = 113 ∧ k = 6) ∨ (r = 113 ∧ k = 15) ∨ (r = 113 ∧ k = 16) ∨ (r = 113 ∧ k = 17) ∨ (r = 113 ∧ k = 18) ∨ (r = 113 ∧ k = 19) ∨ (r = 113 ∧ k = 20) ∨ (r = 116)) → g12 r k = g r k := fun r k hw => (qg12) r k (by omega)
    refine P1.bd (f_119  g12) ?_
    intro g13 hg13 qg13
    have Fg13 : ∀ r k, ¬ ((r = 113 ∧ k = 6) ∨ (r = 113 ∧ k = 15) ∨ (r = 113 ∧ k = 16) ∨ (r = 113 ∧ k = 17) ∨ (r = 113 ∧ k = 18) ∨ (r = 113 ∧ k = 19) ∨ (r = 113 ∧ k = 20) ∨ (r = 116)) → g13 r k = g r k := fun r k hw => ((qg13) r k (by omega)).trans (Fg12 r k hw)
    refine P1.ix ?_
    intro k15 hk15 bk15
    refine P1.lt ?_
    intro g14 hg14
    have Fg14 : ∀ r k, ¬ ((r = 113 ∧ k = 6) ∨ (r = 113 ∧ k = 15) ∨ (r = 113 ∧ k = 16) ∨ (r = 113 ∧ k = 17) ∨ (r = 113 ∧ k = 18) ∨ (r = 113 ∧ k = 19) ∨ (r = 113 ∧ k = 20) ∨ (r = 116)) → g14 r k = g r k := fun r k hw => ((zg_fr hg14) r k (by omega)).trans (Fg13 r k hw)
    refine P1.bp (f_122  g14) ?_
    intro v16 g17 hv16 qg17
    have Fg17 : ∀ r k, ¬ ((r = 113 ∧ k = 6) ∨ (r = 113 ∧ k = 15) ∨ (r = 113 ∧ k = 16) ∨ (r = 113 ∧ k = 17) ∨ (r = 113 ∧ k = 18) ∨ (r = 113 ∧ k = 19) ∨ (r = 113 ∧ k = 20) ∨ (r = 116)) → g17 r k = g r k := fun r k hw => ((qg17) r k (by omega)).trans (Fg14 r k hw)
    refine P1.ix ?_
    intro k19 hk19 bk19
    refine P1.lt ?_
    intro g18 hg18
    have Fg18 : ∀ r k, ¬ ((r = 113 ∧ k = 6) ∨ (r = 113 ∧ k = 15) ∨ (r = 113 ∧ k = 16) ∨ (r = 113 ∧ k = 17) ∨ (r = 113 ∧ k = 18) ∨ (r = 113 ∧ k = 19) ∨ (r = 113 ∧ k = 20) ∨ (r = 116)) → g18 r k = g r k := fun r k hw => ((zg_fr hg18) r k (by omega)).trans (Fg17 r k hw)
    refine P1.lt ?_
    intro g20 hg20
    have Fg20 : ∀ r k, ¬ ((r = 113 ∧ k = 6) ∨ (r = 113 ∧ k = 15) ∨ (r = 113 ∧ k = 16) ∨ (r = 113 ∧ k = 17) ∨ (r = 113 ∧ k = 18) ∨ (r = 113 ∧ k = 19) ∨ (r = 113 ∧ k = 20) ∨ (r = 116)) → g20 r k = g r k := fun r k hw => ((zg_fr hg20) r k (by omega)).trans (Fg18 r k hw)
    exact P1.ret Fg20
/-- EveningFirstModel.readOne -/
theorem f_123 (g : G) : P1 (d_123 g) (fun q : G => ∀ r k, ¬ ((r = 113 ∧ k = 6) ∨ (r = 113 ∧ k = 15) ∨ (r = 113 ∧ k = 16) ∨ (r = 113 ∧ k = 17) ∨ (r = 113 ∧ k = 18) ∨ (r = 113 ∧ k = 19) ∨ (r = 113 ∧ k = 20) ∨ (r = 116)) → q r k = g r k) := by
  unfold d_123
  refine P1.ite (fun _ => ?_) (fun _ => ?_)
  · skip
    refine P1.mono (f_123_24 (-4 : Int32) g) ?_
    intro qq hq
    exact (fun r k hw => hq r k (by omega))
  · skip
    refine P1.ite (fun _ => ?_) (fun _ => ?_)
    · skip
      refine P1.mono (f_123_24 (-4 : Int32) g) ?_
      intro qq hq
      exact (fun r k hw => hq r k (by omega))
    · skip
      refine P1.bs ?_
      intro v22 _
      refine P1.mono (f_123_24 v22 g) ?_
      intro qq hq
      exact (fun r k hw => hq r k (by omega))
/-- EveningFirstModel.readHis -/
theorem f_124 (g : G) : P1 (d_124 g) (fun q : Int32 × G => ∀ r k, ¬ ((r = 113 ∧ k = 11) ∨ (r = 113 ∧ k = 15) ∨ (r = 113 ∧ k = 16) ∨ (r = 113 ∧ k = 17) ∨ (r = 113 ∧ k = 18) ∨ (r = 113 ∧ k = 19) ∨ (r = 113 ∧ k = 20)) → q.2 r k = g r k) := by
  unfold d_124
  refine P1.bp (f_121 (0 : Int32) (3 : Int32) g) ?_
  intro v1 g2 hv1 qg2
  have Fg2 : ∀ r k, ¬ ((r = 113 ∧ k = 11) ∨ (r = 113 ∧ k = 15) ∨ (r = 113 ∧ k = 16) ∨ (r = 113 ∧ k = 17) ∨ (r = 113 ∧ k = 18) ∨ (r = 113 ∧ k = 19) ∨ (r = 113 ∧ k = 20)) → g2 r k = g r k := fun r k hw => (qg2) r k (by omega)
  refine P1.ite (fun _ => ?_) (fun _ => ?_)
  · skip
    refine P1.lt ?_
    intro g4 hg4
    have Fg4 : ∀ r k, ¬ ((r = 113 ∧ k = 11) ∨ (r = 113 ∧ k = 15) ∨ (r = 113 ∧ k = 16) ∨ (r = 113 ∧ k = 17) ∨ (r = 113 ∧ k = 18) ∨ (r = 113 ∧ k = 19) ∨ (r = 113 ∧ k = 20)) → g4 r k = g r k := fun r k hw => ((zg_fr hg4) r k (by omega)).trans (Fg2 r k hw)
    exact P1.ret Fg4
  · skip
    refine P1.ite (fun _ => ?_) (fun _ => ?_)
    · skip
      refine P1.lt ?_
      intro g6 hg6
      have Fg6 : ∀ r k, ¬ ((r = 113 ∧ k = 11) ∨ (r = 113 ∧ k = 15) ∨ (r = 113 ∧ k = 16) ∨ (r = 113 ∧ k = 17) ∨ (r = 113 ∧ k = 18) ∨ (r = 113 ∧ k = 19) ∨ (r = 113 ∧ k = 20)) → g6 r k = g r k := fun r k hw => ((zg_fr hg6) r k (by omega)).trans (Fg2 r k hw)
      exact P1.ret Fg6
    · skip
      refine P1.lt ?_
      intro g7 hg7
      have Fg7 : ∀ r k, ¬ ((r = 113 ∧ k = 11) ∨ (r = 113 ∧ k = 15) ∨ (r = 113 ∧ k = 16) ∨ (r = 113 ∧ k = 17) ∨ (r = 113 ∧ k = 18) ∨ (r = 113 ∧ k = 19) ∨ (r = 113 ∧ k = 20)) → g7 r k = g r k := fun r k hw => ((zg_fr hg7) r k (by omega)).trans (Fg2 r k hw)
      exact P1.ret Fg7
theorem f_125_46 (x1 : Int32) (x2 : Int32) (s1 : Int32) (g : G) : P1 (d_125_46 x1 x2 s1 g) (fun q : G => ∀ r k, ¬ ((r = 113 ∧ k = 10) ∨ (r = 113 ∧ k = 11) ∨ (r = 113 ∧ k = 15) ∨ (r = 113 ∧ k = 16) ∨ (r = 113 ∧ k = 17) ∨ (r = 113 ∧ k = 18) ∨ (r = 113 ∧ k = 19) ∨ (r = 113 ∧ k = 20) ∨ (r = 116)) → q r k = g r k) := by
  unfold d_125_46
  refine P1.lt ?_
  intro g4 hg4
  have Fg4 : ∀ r k, ¬ ((r = 113 ∧ k = 10) ∨ (r = 113 ∧ k = 11) ∨ (r = 113 ∧ k = 15) ∨ (r = 113 ∧ k = 16) ∨ (r = 113 ∧ k = 17) ∨ (r = 113 ∧ k = 18) ∨ (r = 113 ∧ k = 19) ∨ (r = 113 ∧ k = 20) ∨ (r = 116)) → g4 r k = g r k := fun r k hw => (zg_fr hg4) r k (by omega)
  refine P1.ix ?_
  intro k6 hk6 bk6
  refine P1.lt ?_
  intro g5 hg5
  have Fg5 : ∀ r k, ¬ ((r = 113 ∧ k = 10) ∨ (r = 113 ∧ k = 11) ∨ (r = 113 ∧ k = 15) ∨ (r = 113 ∧ k = 16) ∨ (r = 113 ∧ k = 17) ∨ (r = 113 ∧ k = 18) ∨ (r = 113 ∧ k = 19) ∨ (r = 113 ∧ k = 20) ∨ (r = 116)) → g5 r k = g r k := fun r k hw => ((zg_fr hg5) r k (by omega)).trans (Fg4 r k hw)
  refine P1.bp (f_124  g5) ?_
  intro v7 g8 hv7 qg8
  have Fg8 : ∀ r k, ¬ ((r = 113 ∧ k = 10) ∨ (r = 113 ∧ k = 11) ∨ (r = 113 ∧ k = 15) ∨ (r = 113 ∧ k = 16) ∨ (r = 113 ∧ k = 17) ∨ (r = 113 ∧ k = 18) ∨ (r = 113 ∧ k = 19) ∨ (r = 113 ∧ k = 20) ∨ (r = 116)) → g8 r k = g r k := fun r k hw => ((qg8) r k (by omega)).trans (Fg5 r k hw)
  refine P1.ix ?_
  intro k10 hk10 bk10
  refine P1.lt ?_
  intro g9 hg9
  have Fg9 : ∀ r k, ¬ ((r = 113 ∧ k = 10) ∨ (r = 113 ∧ k = 11) ∨ (r = 113 ∧ k = 15) ∨ (r = 113 ∧ k = 16) ∨ (r = 113 ∧ k = 17) ∨ (r = 113 ∧ k = 18) ∨ (r = 113 ∧ k = 19) ∨ (r = 113 ∧ k = 20) ∨ (r = 116)) → g9 r k = g r k := fun r k hw => ((zg_fr hg9) r k (by omega)).trans (Fg8 r k hw)
  refine P1.bp (f_124  g9) ?_
  intro v11 g12 hv11 qg12
  have Fg12 : ∀ r k, ¬ ((r = 113 ∧ k = 10) ∨ (r = 113 ∧ k = 11) ∨ (r = 113 ∧ k = 15) ∨ (r = 113 ∧ k = 16) ∨ (r = 113 ∧ k = 17) ∨ (r = 113 ∧ k = 18) ∨ (r = 113 ∧ k = 19) ∨ (r = 113 ∧ k = 20) ∨ (r = 116)) → g12 r k = g r k := fun r k hw => ((qg12) r k (by omega)).trans (Fg9 r k hw)
  refine P1.ix ?_
  intro k14 hk14 bk14
  refine P1.lt ?_
  intro g13 hg13
  have Fg13 : ∀ r k, ¬ ((r = 113 ∧ k = 10) ∨ (r = 113 ∧ k = 11) ∨ (r = 113 ∧ k = 15) ∨ (r = 113 ∧ k = 16) ∨ (r = 113 ∧ k = 17) ∨ (r = 113 ∧ k = 18) ∨ (r = 113 ∧ k = 19) ∨ (r = 113 ∧ k = 20) ∨ (r = 116)) → g13 r k = g r k := fun r k hw => ((zg_fr hg13) r k (by omega)).trans (Fg12 r k hw)
  refine P1.bp (f_121 (0 : Int32) (5 : Int32) g13) ?_
  intro v15 g16 hv15 qg16
  have Fg16 : ∀ r k, ¬ ((r = 113 ∧ k = 10) ∨ (r = 113 ∧ k = 11) ∨ (r = 113 ∧ k = 15) ∨ (r = 113 ∧ k = 16) ∨ (r = 113 ∧ k = 17) ∨ (r = 113 ∧ k = 18) ∨ (r = 113 ∧ k = 19) ∨ (r = 113 ∧ k = 20) ∨ (r = 116)) → g16 r k = g r k := fun r k hw => ((qg16) r k (by omega)).trans (Fg13 r k hw)
  refine P1.ix ?_
  intro k18 hk18 bk18
  refine P1.lt ?_
  intro g17 hg17
  have Fg17 : ∀ r k, ¬ ((r = 113 ∧ k = 10) ∨ (r = 113 ∧ k = 11) ∨ (r = 113 ∧ k = 15) ∨ (r = 113 ∧ k = 16) ∨ (r = 113 ∧ k = 17) ∨ (r = 113 ∧ k = 18) ∨ (r = 113 ∧ k = 19) ∨ (r = 113 ∧ k = 20) ∨ (r = 116)) → g17 r k = g r k := fun r k hw => ((zg_fr hg17) r k (by omega)).trans (Fg16 r k hw)
  refine P1.bp (f_122  g17) ?_
  intro v19 g20 hv19 qg20
  have Fg20 : ∀ r k, ¬ ((r = 113 ∧ k = 10) ∨ (r = 113 ∧ k = 11) ∨ (r = 113 ∧ k = 15) ∨ (r = 113 ∧ k = 16) ∨ (r = 113 ∧ k = 17) ∨ (r = 113 ∧ k = 18) ∨ (r = 113 ∧ k = 19) ∨ (r = 113 ∧ k = 20) ∨ (r = 116)) → g20 r k = g r k := fun r k hw => ((qg20) r k (by omega)).trans (Fg17 r k hw)
  refine P1.ix ?_
  intro k22 hk22 bk22
  refine P1.lt ?_
  intro g21 hg21
  have Fg21 : ∀ r k, ¬ ((r = 113 ∧ k = 10) ∨ (r = 113 ∧ k = 11) ∨ (r = 113 ∧ k = 15) ∨ (r = 113 ∧ k = 16) ∨ (r = 113 ∧ k = 17) ∨ (r = 113 ∧ k = 18) ∨ (r = 113 ∧ k = 19) ∨ (r = 113 ∧ k = 20) ∨ (r = 116)) → g21 r k = g r k := fun r k hw => ((zg_fr hg21) r k (by omega)).trans (Fg20 r k hw)
  refine P1.lt ?_
  intro g23 hg23
  have Fg23 : ∀ r k, ¬ ((r = 113 ∧ k = 10) ∨ (r = 113 ∧ k = 11) ∨ (r = 113 ∧ k = 15) ∨ (r = 113 ∧ k = 16) ∨ (r = 113 ∧ k = 17) ∨ (r = 113 ∧ k = 18) ∨ (r = 113 ∧ k = 19) ∨ (r = 113 ∧ k = 20) ∨ (r = 116)) → g23 r k = g r k := fun r k hw => ((zg_fr hg23) r k (by omega)).trans (Fg21 r k hw)
  exact P1.ret Fg23
/-- EveningFirstModel.readDeed -/
theorem f_125 (g : G) : P1 (d_125 g) (fun q : G => ∀ r k, ¬ ((r = 113 ∧ k = 10) ∨ (r = 113 ∧ k = 11) ∨ (r = 113 ∧ k = 15) ∨ (r = 113 ∧ k = 16) ∨ (r = 113 ∧ k = 17) ∨ (r = 113 ∧ k = 18) ∨ (r = 113 ∧ k = 19) ∨ (r = 113 ∧ k = 20) ∨ (r = 116)) → q r k = g r k) := by
  unfold d_125
  refine P1.bp (f_121 (0 : Int32) (7 : Int32) g) ?_
  intro v1 g2 hv1 qg2
  have Fg2 : ∀ r k, ¬ ((r = 113 ∧ k = 10) ∨ (r = 113 ∧ k = 11) ∨ (r = 113 ∧ k = 15) ∨ (r = 113 ∧ k = 16) ∨ (r = 113 ∧ k = 17) ∨ (r = 113 ∧ k = 18) ∨ (r = 113 ∧ k = 19) ∨ (r = 113 ∧ k = 20) ∨ (r = 116)) → g2 r k = g r k := fun r k hw => (qg2) r k (by omega)
  refine P1.ite (fun _ => ?_) (fun _ => ?_)
  · skip
    refine P1.mono (f_125_46 (9 + (7 * (g 116 8))) v1 (g2 113 10) g2) ?_
    intro qq hq
    exact (fun r k hw => ((hq r k (by omega)).trans (Fg2 r k hw)))
  · skip
    refine P1.ite (fun _ => ?_) (fun _ => ?_)
    · skip
      refine P1.mono (f_125_46 (9 + (7 * (g 116 8))) v1 (g2 113 10) g2) ?_
      intro qq hq
      exact (fun r k hw => ((hq r k (by omega)).trans (Fg2 r k hw)))
    · skip
      refine P1.mono (f_125_46 (9 + (7 * (g 116 8))) v1 v1 g2) ?_
      intro qq hq
      exact (fun r k hw => ((hq r k (by omega)).trans (Fg2 r k hw)))
/-- EveningFirstModel.readFresh -/
theorem f_126 (x1 : Int32) (g : G) : P1 (d_126 x1 g) (fun q : Int32 × G => ∀ r k, ¬ ((r = 113 ∧ k = 12) ∨ (r = 113 ∧ k = 15) ∨ (r = 113 ∧ k = 16) ∨ (r = 113 ∧ k = 17) ∨ (r = 113 ∧ k = 18) ∨ (r = 113 ∧ k = 19) ∨ (r = 113 ∧ k = 20)) → q.2 r k = g r k) := by
  unfold d_126
  refine P1.pc (f_120 (0 : Int32) (7 : Int32) g) ?_
  intro v1 g2 hv1 qg2
  have Fg2 : ∀ r k, ¬ ((r = 113 ∧ k = 12) ∨ (r = 113 ∧ k = 15) ∨ (r = 113 ∧ k = 16) ∨ (r = 113 ∧ k = 17) ∨ (r = 113 ∧ k = 18) ∨ (r = 113 ∧ k = 19) ∨ (r = 113 ∧ k = 20)) → g2 r k = g r k := fun r k hw => (qg2) r k (by omega)
  refine P1.ite (fun _ => ?_) (fun _ => ?_)
  · skip
    refine P1.ite (fun _ => ?_) (fun _ => ?_)
    · skip
      refine P1.bd (f_119  g2) ?_
      intro g5 hg5 qg5
      have Fg5 : ∀ r k, ¬ ((r = 113 ∧ k = 12) ∨ (r = 113 ∧ k = 15) ∨ (r = 113 ∧ k = 16) ∨ (r = 113 ∧ k = 17) ∨ (r = 113 ∧ k = 18) ∨ (r = 113 ∧ k = 19) ∨ (r = 113 ∧ k = 20)) → g5 r k = g r k := fun r k hw => ((qg5) r k (by omega)).trans (Fg2 r k hw)
      exact P1.ret Fg5
    · skip
      refine P1.ite (fun _ => ?_) (fun _ => ?_)
      · skip
        refine P1.lt ?_
        intro g7 hg7
        have Fg7 : ∀ r k, ¬ ((r = 113 ∧ k = 12) ∨ (r = 113 ∧ k = 15) ∨ (r = 113 ∧ k = 16) ∨ (r = 113 ∧ k = 17) ∨ (r = 113 ∧ k = 18) ∨ (r = 113 ∧ k = 19) ∨ (r = 113 ∧ k = 20)) → g7 r k = g r k := fun r k hw => ((zg_fr hg7) r k (by omega)).trans (Fg2 r k hw)
        refine P1.bd (f_119  g7) ?_
        intro g8 hg8 qg8
        have Fg8 : ∀ r k, ¬ ((r = 113 ∧ k = 12) ∨ (r = 113 ∧ k = 15) ∨ (r = 113 ∧ k = 16) ∨ (r = 113 ∧ k = 17) ∨ (r = 113 ∧ k = 18) ∨ (r = 113 ∧ k = 19) ∨ (r = 113 ∧ k = 20)) → g8 r k = g r k := fun r k hw => ((qg8) r k (by omega)).trans (Fg7 r k hw)
        exact P1.ret Fg8
      · skip
        refine P1.lt ?_
        intro g9 hg9
        have Fg9 : ∀ r k, ¬ ((r = 113 ∧ k = 12) ∨ (r = 113 ∧ k = 15) ∨ (r = 113 ∧ k = 16) ∨ (r = 113 ∧ k = 17) ∨ (r = 113 ∧ k = 18) ∨ (r = 113 ∧ k = 19) ∨ (r = 113 ∧ k = 20)) → g9 r k = g r k := fun r k hw => ((zg_fr hg9) r k (by omega)).trans (Fg2 r k hw)
        refine P1.bd (f_119  g9) ?_
        intro g10 hg10 qg10
        have Fg10 : ∀ r k, ¬ ((r = 113 ∧ k = 12) ∨ (r = 113 ∧ k = 15) ∨ (r = 113 ∧ k = 16) ∨ (r = 113 ∧ k = 17) ∨ (r = 113 ∧ k = 18) ∨ (r = 113 ∧ k = 19) ∨ (r = 113 ∧ k = 20)) → g10 r k = g r k := fun r k hw => ((qg10) r k (by omega)).trans (Fg9 r k hw)
        exact P1.ret Fg10
  · skip
    refine P1.ite (fun _ => ?_) (fun _ => ?_)
    · skip
      refine P1.lc (f_113 (0 : Int32) (4 : Int32) g2) ?_
      intro g12 hg12 qg12
      have Fg12 : ∀ r k, ¬ ((r = 113 ∧ k = 12) ∨ (r = 113 ∧ k = 15) ∨ (r = 113 ∧ k = 16) ∨ (r = 113 ∧ k = 17) ∨ (r = 113 ∧ k = 18) ∨ (r = 113 ∧ k = 19) ∨ (r = 113 ∧ k = 20)) → g12 r k = g r k := fun r k hw => ((qg12) r k (by omega)).trans (Fg2 r k hw)
      refine P1.ite (fun _ => ?_) (fun _ => ?_)
      · skip
        refine P1.bd (f_119  g12) ?_
        intro g14 hg14 qg14
        have Fg14 : ∀ r k, ¬ ((r = 113 ∧ k = 12) ∨ (r = 113 ∧ k = 15) ∨ (r = 113 ∧ k = 16) ∨ (r = 113 ∧ k = 17) ∨ (r = 113 ∧ k = 18) ∨ (r = 113 ∧ k = 19) ∨ (r = 113 ∧ k = 20)) → g14 r k = g r k := fun r k hw => ((qg14) r k (by omega)).trans (Fg12 r k hw)
        exact P1.ret Fg14
      · skip
        refine P1.ite (fun _ => ?_) (fun _ => ?_)
        · skip
          refine P1.lt ?_
          intro g16 hg16
          have Fg16 : ∀ r k, ¬ ((r = 113 ∧ k = 12) ∨ (r = 113 ∧ k = 15) ∨ (r = 113 ∧ k = 16) ∨ (r = 113 ∧ k = 17) ∨ (r = 113 ∧ k = 18) ∨ (r = 113 ∧ k = 19) ∨ (r = 113 ∧ k = 20)) → g16 r k = g r k := fun r k hw => ((zg_fr hg16) r k (by omega)).trans (Fg12 r k hw)
          refine P1.bd (f_119  g16) ?_
          intro g17 hg17 qg17
          have Fg17 : ∀ r k, ¬ ((r = 113 ∧ k = 12) ∨ (r = 113 ∧ k = 15) ∨ (r = 113 ∧ k = 16) ∨ (r = 113 ∧ k = 17) ∨ (r = 113 ∧ k = 18) ∨ (r = 113 ∧ k = 19) ∨ (r = 113 ∧ k = 20)) → g17 r k = g r k := fun r k hw => ((qg17) r k (by omega)).trans (Fg16 r k hw)
          exact P1.ret Fg17
        · skip
          refine P1.lt ?_
          intro g18 hg18
          have Fg18 : ∀ r k, ¬ ((r = 113 ∧ k = 12) ∨ (r = 113 ∧ k = 15) ∨ (r = 113 ∧ k = 16) ∨ (r = 113 ∧ k = 17) ∨ (r = 113 ∧ k = 18) ∨ (r = 113 ∧ k = 19) ∨ (r = 113 ∧ k = 20)) → g18 r k = g r k := fun r k hw => ((zg_fr hg18) r k (by omega)).trans (Fg12 r k hw)
          refine P1.bd (f_119  g18) ?_
          intro g19 hg19 qg19
          have Fg19 : ∀ r k, ¬ ((r = 113 ∧ k = 12) ∨ (r = 113 ∧ k = 15) ∨ (r = 113 ∧ k = 16) ∨ (r = 113 ∧ k = 17) ∨ (r = 113 ∧ k = 18) ∨ (r = 113 ∧ k = 19) ∨ (r = 113 ∧ k = 20)) → g19 r k = g r k := fun r k hw => ((qg19) r k (by omega)).trans (Fg18 r k hw)
          exact P1.ret Fg19
    · skip
      refine P1.lc (f_113 (1 : Int32) (4 : Int32) g2) ?_
      intro g20 hg20 qg20
      have Fg20 : ∀ r k, ¬ ((r = 113 ∧ k = 12) ∨ (r = 113 ∧ k = 15) ∨ (r = 113 ∧ k = 16) ∨ (r = 113 ∧ k = 17) ∨ (r = 113 ∧ k = 18) ∨ (r = 113 ∧ k = 19) ∨ (r = 113 ∧ k = 20)) → g20 r k = g r k := fun r k hw => ((qg20) r k (by omega)).trans (Fg2 r k hw)
      refine P1.ite (fun _ => ?_) (fun _ => ?_)
      · skip
        refine P1.bd (f_119  g20) ?_
        intro g22 hg22 qg22
        have Fg22 : ∀ r k, ¬ ((r = 113 ∧ k = 12) ∨ (r = 113 ∧ k = 15) ∨ (r = 113 ∧ k = 16) ∨ (r = 113 ∧ k = 17) ∨ (r = 113 ∧ k = 18) ∨ (r = 113 ∧ k = 19) ∨ (r = 113 ∧ k = 20)) → g22 r k = g r k := fun r k hw => ((qg22) r k (by omega)).trans (Fg20 r k hw)
        exact P1.ret Fg22
      · skip
        refine P1.ite (fun _ => ?_) (fun _ => ?_)
        · skip
          refine P1.lt ?_
          intro g24 hg24
          have Fg24 : ∀ r k, ¬ ((r = 113 ∧ k = 12) ∨ (r = 113 ∧ k = 15) ∨ (r = 113 ∧ k = 16) ∨ (r = 113 ∧ k = 17) ∨ (r = 113 ∧ k = 18) ∨ (r = 113 ∧ k = 19) ∨ (r = 113 ∧ k = 20)) → g24 r k = g r k := fun r k hw => ((zg_fr hg24) r k (by omega)).trans (Fg20 r k hw)
          refine P1.bd (f_119  g24) ?_
          intro g25 hg25 qg25
          have Fg25 : ∀ r k, ¬ ((r = 113 ∧ k = 12) ∨ (r = 113 ∧ k = 15) ∨ (r = 113 ∧ k = 16) ∨ (r = 113 ∧ k = 17) ∨ (r = 113 ∧ k = 18) ∨ (r = 113 ∧ k = 19) ∨ (r = 113 ∧ k = 20)) → g25 r k = g r k := fun r k hw => ((qg25) r k (by omega)).trans (Fg24 r k hw)
          exact P1.ret Fg25
        · skip
          refine P1.lt ?_
          intro g26 hg26
          have Fg26 : ∀ r k, ¬ ((r = 113 ∧ k = 12) ∨ (r = 113 ∧ k = 15) ∨ (r = 113 ∧ k = 16) ∨ (r = 113 ∧ k = 17) ∨ (r = 113 ∧ k = 18) ∨ (r = 113 ∧ k = 19) ∨ (r = 113 ∧ k = 20)) → g26 r k = g r k := fun r k hw => ((zg_fr hg26) r k (by omega)).trans (Fg20 r k hw)
          refine P1.bd (f_119  g26) ?_
          intro g27 hg27 qg27
          have Fg27 : ∀ r k, ¬ ((r = 113 ∧ k = 12) ∨ (r = 113 ∧ k = 15) ∨ (r = 113 ∧ k = 16) ∨ (r = 113 ∧ k = 17) ∨ (r = 113 ∧ k = 18) ∨ (r = 113 ∧ k = 19) ∨ (r = 113 ∧ k = 20)) → g27 r k = g r k := fun r k hw => ((qg27) r k (by omega)).trans (Fg26 r k hw)
          exact P1.ret Fg27
/-- EveningFirstModel.readLineOf -/
theorem f_127 (x1 : Int32) (g : G) : P1 (d_127 x1 g) (fun q : G => ∀ r k, ¬ ((r = 113 ∧ k = 5) ∨ (r = 113 ∧ k = 6) ∨ (r = 113 ∧ k = 8) ∨ (r = 113 ∧ k = 9) ∨ (r = 113 ∧ k = 10) ∨ (r = 113 ∧ k = 11) ∨ (r = 113 ∧ k = 12) ∨ (r = 113 ∧ k = 15) ∨ (r = 113 ∧ k = 16) ∨ (r = 113 ∧ k = 17) ∨ (r = 113 ∧ k = 18) ∨ (r = 113 ∧ k = 19) ∨ (r = 113 ∧ k = 20) ∨ (r = 116)) → q r k = g r k) := by
  unfold d_127
  refine P1.ite (fun _ => ?_) (fun _ => ?_)
  · skip
    refine P1.bp (f_121 (2 : Int32) (8 : Int32) g) ?_
    intro v2 g3 hv2 qg3
    have Fg3 : ∀ r k, ¬ ((r = 113 ∧ k = 5) ∨ (r = 113 ∧ k = 6) ∨ (r = 113 ∧ k = 8) ∨ (r = 113 ∧ k = 9) ∨ (r = 113 ∧ k = 10) ∨ (r = 113 ∧ k = 11) ∨ (r = 113 ∧ k = 12) ∨ (r = 113 ∧ k = 15) ∨ (r = 113 ∧ k = 16) ∨ (r = 113 ∧ k = 17) ∨ (r = 113 ∧ k = 18) ∨ (r = 113 ∧ k = 19) ∨ (r = 113 ∧ k = 20) ∨ (r = 116)) → g3 r k = g r k := fun r k hw => (qg3) r k (by omega)
    refine P1.lt ?_
    intro g4 hg4
    have Fg4 : ∀ r k, ¬ ((r = 113 ∧ k = 5) ∨ (r = 113 ∧ k = 6) ∨ (r = 113 ∧ k = 8) ∨ (r = 113 ∧ k = 9) ∨ (r = 113 ∧ k = 10) ∨ (r = 113 ∧ k = 11) ∨ (r = 113 ∧ k = 12) ∨ (r = 113 ∧ k = 15) ∨ (r = 113 ∧ k = 16) ∨ (r = 113 ∧ k = 17) ∨ (r = 113 ∧ k = 18) ∨ (r = 113 ∧ k = 19) ∨ (r = 113 ∧ k = 20) ∨ (r = 116)) → g4 r k = g r k := fun r k hw => ((zg_fr hg4) r k (by omega)).trans (Fg3 r k hw)
    exact P1.ret Fg4
  · skip
    refine P1.ite (fun _ => ?_) (fun _ => ?_)
    · skip
      refine P1.bd (f_123  g) ?_
      intro g6 hg6 qg6
      have Fg6 : ∀ r k, ¬ ((r = 113 ∧ k = 5) ∨ (r = 113 ∧ k = 6) ∨ (r = 113 ∧ k = 8) ∨ (r = 113 ∧ k = 9) ∨ (r = 113 ∧ k = 10) ∨ (r = 113 ∧ k = 11) ∨ (r = 113 ∧ k = 12) ∨ (r = 113 ∧ k = 15) ∨ (r = 113 ∧ k = 16) ∨ (r = 113 ∧ k = 17) ∨ (r = 113 ∧ k = 18) ∨ (r = 113 ∧ k = 19) ∨ (r = 113 ∧ k = 20) ∨ (r = 116)) → g6 r k = g r k := fun r k hw => (qg6) r k (by omega)
      exact P1.ret Fg6
    · skip
      refine P1.ite (fun _ => ?_) (fun _ => ?_)
      · skip
        refine P1.bd (f_125  g) ?_
        intro g8 hg8 qg8
        have Fg8 : ∀ r k, ¬ ((r = 113 ∧ k = 5) ∨ (r = 113 ∧ k = 6) ∨ (r = 113 ∧ k = 8) ∨ (r = 113 ∧ k = 9) ∨ (r = 113 ∧ k = 10) ∨ (r = 113 ∧ k = 11) ∨ (r = 113 ∧ k = 12) ∨ (r = 113 ∧ k = 15) ∨ (r = 113 ∧ k = 16) ∨ (r = 113 ∧ k = 17) ∨ (r = 113 ∧ k = 18) ∨ (r = 113 ∧ k = 19) ∨ (r = 113 ∧ k = 20) ∨ (r = 116)) → g8 r k = g r k := fun r k hw => (qg8) r k (by omega)
        exact P1.ret Fg8
      · skip
        refine P1.ite (fun _ => ?_) (fun _ => ?_)
        · skip
          refine P1.bp (f_126 (g 113 8) g) ?_
          intro v10 g11 hv10 qg11
          have Fg11 : ∀ r k, ¬ ((r = 113 ∧ k = 5) ∨ (r = 113 ∧ k = 6) ∨ (r = 113 ∧ k = 8) ∨ (r = 113 ∧ k = 9) ∨ (r = 113 ∧ k = 10) ∨ (r = 113 ∧ k = 11) ∨ (r = 113 ∧ k = 12) ∨ (r = 113 ∧ k = 15) ∨ (r = 113 ∧ k = 16) ∨ (r = 113 ∧ k = 17) ∨ (r = 113 ∧ k = 18) ∨ (r = 113 ∧ k = 19) ∨ (r = 113 ∧ k = 20) ∨ (r = 116)) → g11 r k = g r k := fun r k hw => (qg11) r k (by omega)
          refine P1.lt ?_
          intro g12 hg12
          have Fg12 : ∀ r k, ¬ ((r = 113 ∧ k = 5) ∨ (r = 113 ∧ k = 6) ∨ (r = 113 ∧ k = 8) ∨ (r = 113 ∧ k = 9) ∨ (r = 113 ∧ k = 10) ∨ (r = 113 ∧ k = 11) ∨ (r = 113 ∧ k = 12) ∨ (r = 113 ∧ k = 15) ∨ (r = 113 ∧ k = 16) ∨ (r = 113 ∧ k = 17) ∨ (r = 113 ∧ k = 18) ∨ (r = 113 ∧ k = 19) ∨ (r = 113 ∧ k = 20) ∨ (r = 116)) → g12 r k = g r k := fun r k hw => ((zg_fr hg12) r k (by omega)).trans (Fg11 r k hw)
          refine P1.ite (fun _ => ?_) (fun _ => ?_)
          · skip
            refine P1.ix ?_
            intro k15 hk15 bk15
            refine P1.lt ?_
            intro g14 hg14
            have Fg14 : ∀ r k, ¬ ((r = 113 ∧ k = 5) ∨ (r = 113 ∧ k = 6) ∨ (r = 113 ∧ k = 8) ∨ (r = 113 ∧ k = 9) ∨ (r = 113 ∧ k = 10) ∨ (r = 113 ∧ k = 11) ∨ (r = 113 ∧ k = 12) ∨ (r = 113 ∧ k = 15) ∨ (r = 113 ∧ k = 16) ∨ (r = 113 ∧ k = 17) ∨ (r = 113 ∧ k = 18) ∨ (r = 113 ∧ k = 19) ∨ (r = 113 ∧ k = 20) ∨ (r = 116)) → g14 r k = g r k := fun r k hw => ((zg_fr hg14) r k (by omega)).trans (Fg12 r k hw)
            exact P1.ret Fg14
          · skip
            refine P1.ix ?_
            intro k17 hk17 bk17
            refine P1.lt ?_
            intro g16 hg16
            have Fg16 : ∀ r k, ¬ ((r = 113 ∧ k = 5) ∨ (r = 113 ∧ k = 6) ∨ (r = 113 ∧ k = 8) ∨ (r = 113 ∧ k = 9) ∨ (r = 113 ∧ k = 10) ∨ (r = 113 ∧ k = 11) ∨ (r = 113 ∧ k = 12) ∨ (r = 113 ∧ k = 15) ∨ (r = 113 ∧ k = 16) ∨ (r = 113 ∧ k = 17) ∨ (r = 113 ∧ k = 18) ∨ (r = 113 ∧ k = 19) ∨ (r = 113 ∧ k = 20) ∨ (r = 116)) → g16 r k = g r k := fun r k hw => ((zg_fr hg16) r k (by omega)).trans (Fg12 r k hw)
            exact P1.ret Fg16
        · skip
          refine P1.ite (fun _ => ?_) (fun _ => ?_)
          · skip
            refine P1.bp (f_126 (g 113 8) g) ?_
            intro v19 g20 hv19 qg20
            have Fg20 : ∀ r k, ¬ ((r = 113 ∧ k = 5) ∨ (r = 113 ∧ k = 6) ∨ (r = 113 ∧ k = 8) ∨ (r = 113 ∧ k = 9) ∨ (r = 113 ∧ k = 10) ∨ (r = 113 ∧ k = 11) ∨ (r = 113 ∧ k = 12) ∨ (r = 113 ∧ k = 15) ∨ (r = 113 ∧ k = 16) ∨ (r = 113 ∧ k = 17) ∨ (r = 113 ∧ k = 18) ∨ (r = 113 ∧ k = 19) ∨ (r = 113 ∧ k = 20) ∨ (r = 116)) → g20 r k = g r k := fun r k hw => (qg20) r k (by omega)
            refine P1.lt ?_
            intro g21 hg21
            have Fg21 : ∀ r k, ¬ ((r = 113 ∧ k = 5) ∨ (r = 113 ∧ k = 6) ∨ (r = 113 ∧ k = 8) ∨ (r = 113 ∧ k = 9) ∨ (r = 113 ∧ k = 10) ∨ (r = 113 ∧ k = 11) ∨ (r = 113 ∧ k = 12) ∨ (r = 113 ∧ k = 15) ∨ (r = 113 ∧ k = 16) ∨ (r = 113 ∧ k = 17) ∨ (r = 113 ∧ k = 18) ∨ (r = 113 ∧ k = 19) ∨ (r = 113 ∧ k = 20) ∨ (r = 116)) → g21 r k = g r k := fun r k hw => ((zg_fr hg21) r k (by omega)).trans (Fg20 r k hw)
            refine P1.ite (fun _ => ?_) (fun _ => ?_)
            · skip
              refine P1.ix ?_
              intro k24 hk24 bk24
              refine P1.lt ?_
              intro g23 hg23
              have Fg23 : ∀ r k, ¬ ((r = 113 ∧ k = 5) ∨ (r = 113 ∧ k = 6) ∨ (r = 113 ∧ k = 8) ∨ (r = 113 ∧ k = 9) ∨ (r = 113 ∧ k = 10) ∨ (r = 113 ∧ k = 11) ∨ (r = 113 ∧ k = 12) ∨ (r = 113 ∧ k = 15) ∨ (r = 113 ∧ k = 16) ∨ (r = 113 ∧ k = 17) ∨ (r = 113 ∧ k = 18) ∨ (r = 113 ∧ k = 19) ∨ (r = 113 ∧ k = 20) ∨ (r = 116)) → g23 r k = g r k := fun r k hw => ((zg_fr hg23) r k (by omega)).trans (Fg21 r k hw)
              exact P1.ret Fg23
            · skip
              refine P1.ix ?_
              intro k26 hk26 bk26
              refine P1.lt ?_
              intro g25 hg25
              have Fg25 : ∀ r k, ¬ ((r = 113 ∧ k = 5) ∨ (r = 113 ∧ k = 6) ∨ (r = 113 ∧ k = 8) ∨ (r = 113 ∧ k = 9) ∨ (r = 113 ∧ k = 10) ∨ (r = 113 ∧ k = 11) ∨ (r = 113 ∧ k = 12) ∨ (r = 113 ∧ k = 15) ∨ (r = 113 ∧ k = 16) ∨ (r = 113 ∧ k = 17) ∨ (r = 113 ∧ k = 18) ∨ (r = 113 ∧ k = 19) ∨ (r = 113 ∧ k = 20) ∨ (r = 116)) → g25 r k = g r k := fun r k hw => ((zg_fr hg25) r k (by omega)).trans (Fg21 r k hw)
              exact P1.ret Fg25
          · skip
            refine P1.ite (fun _ => ?_) (fun _ => ?_)
            · skip
              refine P1.bp (f_126 (g 113 9) g) ?_
              intro v28 g29 hv28 qg29
              have Fg29 : ∀ r k, ¬ ((r = 113 ∧ k = 5) ∨ (r = 113 ∧ k = 6) ∨ (r = 113 ∧ k = 8) ∨ (r = 113 ∧ k = 9) ∨ (r = 113 ∧ k = 10) ∨ (r = 113 ∧ k = 11) ∨ (r = 113 ∧ k = 12) ∨ (r = 113 ∧ k = 15) ∨ (r = 113 ∧ k = 16) ∨ (r = 113 ∧ k = 17) ∨ (r = 113 ∧ k = 18) ∨ (r = 113 ∧ k = 19) ∨ (r = 113 ∧ k = 20) ∨ (r = 116)) → g29 r k = g r k := fun r k hw => (qg29) r k (by omega)
              refine P1.lt ?_
              intro g30 hg30
              have Fg30 : ∀ r k, ¬ ((r = 113 ∧ k = 5) ∨ (r = 113 ∧ k = 6) ∨ (r = 113 ∧ k = 8) ∨ (r = 113 ∧ k = 9) ∨ (r = 113 ∧ k = 10) ∨ (r = 113 ∧ k = 11) ∨ (r = 113 ∧ k = 12) ∨ (r = 113 ∧ k = 15) ∨ (r = 113 ∧ k = 16) ∨ (r = 113 ∧ k = 17) ∨ (r = 113 ∧ k = 18) ∨ (r = 113 ∧ k = 19) ∨ (r = 113 ∧ k = 20) ∨ (r = 116)) → g30 r k = g r k := fun r k hw => ((zg_fr hg30) r k (by omega)).trans (Fg29 r k hw)
              refine P1.bp (f_121 (0 : Int32) (10 : Int32) g30) ?_
              intro v31 g32 hv31 qg32
              have Fg32 : ∀ r k, ¬ ((r = 113 ∧ k = 5) ∨ (r = 113 ∧ k = 6) ∨ (r = 113 ∧ k = 8) ∨ (r = 113 ∧ k = 9) ∨ (r = 113 ∧ k = 10) ∨ (r = 113 ∧ k = 11) ∨ (r = 113 ∧ k = 12) ∨ (r = 113 ∧ k = 15) ∨ (r = 113 ∧ k = 16) ∨ (r = 113 ∧ k = 17) ∨ (r = 113 ∧ k = 18) ∨ (r = 113 ∧ k = 19) ∨ (r = 113 ∧ k = 20) ∨ (r = 116)) → g32 r k = g r k := fun r k hw => ((qg32) r k (by omega)).trans (Fg30 r k hw)
              refine P1.ix ?_
              intro k34 hk34 bk34
              refine P1.lt ?_
              intro g33 hg33
              have Fg33 : ∀ r k, ¬ ((r = 113 ∧ k = 5) ∨ (r = 113 ∧ k = 6) ∨ (r = 113 ∧ k = 8) ∨ (r = 113 ∧ k = 9) ∨ (r = 113 ∧ k = 10) ∨ (r = 113 ∧ k = 11) ∨ (r = 113 ∧ k = 12) ∨ (r = 113 ∧ k = 15) ∨ (r = 113 ∧ k = 16) ∨ (r = 113 ∧ k = 17) ∨ (r = 113 ∧ k = 18) ∨ (r = 113 ∧ k = 19) ∨ (r = 113 ∧ k = 20) ∨ (r = 116)) → g33 r k = g r k := fun r k hw => ((zg_fr hg33) r k (by omega)).trans (Fg32 r k hw)
              exact P1.ret Fg33
            · skip
              refine P1.bp (f_126 (g 113 8) g) ?_
              intro v35 g36 hv35 qg36
              have Fg36 : ∀ r k, ¬ ((r = 113 ∧ k = 5) ∨ (r = 113 ∧ k = 6) ∨ (r = 113 ∧ k = 8) ∨ (r = 113 ∧ k = 9) ∨ (r = 113 ∧ k = 10) ∨ (r = 113 ∧ k = 11) ∨ (r = 113 ∧ k = 12) ∨ (r = 113 ∧ k = 15) ∨ (r = 113 ∧ k = 16) ∨ (r = 113 ∧ k = 17) ∨ (r = 113 ∧ k = 18) ∨ (r = 113 ∧ k = 19) ∨ (r = 113 ∧ k = 20) ∨ (r = 116)) → g36 r k = g r k := fun r k hw => (qg36) r k (by omega)
              refine P1.lt ?_
              intro g37 hg37
              have Fg37 : ∀ r k, ¬ ((r = 113 ∧ k = 5) ∨ (r = 113 ∧ k = 6) ∨ (r = 113 ∧ k = 8) ∨ (r = 113 ∧ k = 9) ∨ (r = 113 ∧ k = 10) ∨ (r = 113 ∧ k = 11) ∨ (r = 113 ∧ k = 12) ∨ (r = 113 ∧ k = 15) ∨ (r = 113 ∧ k = 16) ∨ (r = 113 ∧ k = 17) ∨ (r = 113 ∧ k = 18) ∨ (r = 113 ∧ k = 19) ∨ (r = 113 ∧ k = 20) ∨ (r = 116)) → g37 r k = g r k := fun r k hw => ((zg_fr hg37) r k (by omega)).trans (Fg36 r k hw)
              refine P1.ite (fun _ => ?_) (fun _ => ?_)
              · skip
                refine P1.ix ?_
                intro k40 hk40 bk40
                refine P1.lt ?_
                intro g39 hg39
                have Fg39 : ∀ r k, ¬ ((r = 113 ∧ k = 5) ∨ (r = 113 ∧ k = 6) ∨ (r = 113 ∧ k = 8) ∨ (r = 113 ∧ k = 9) ∨ (r = 113 ∧ k = 10) ∨ (r = 113 ∧ k = 11) ∨ (r = 113 ∧ k = 12) ∨ (r = 113 ∧ k = 15) ∨ (r = 113 ∧ k = 16) ∨ (r = 113 ∧ k = 17) ∨ (r = 113 ∧ k = 18) ∨ (r = 113 ∧ k = 19) ∨ (r = 113 ∧ k = 20) ∨ (r = 116)) → g39 r k = g r k := fun r k hw => ((zg_fr hg39) r k (by omega)).trans (Fg37 r k hw)
                exact P1.ret Fg39
              · skip
                refine P1.ix ?_
                intro k42 hk42 bk42
                refine P1.lt ?_
                intro g41 hg41
                have Fg41 : ∀ r k, ¬ ((r = 113 ∧ k = 5) ∨ (r = 113 ∧ k = 6) ∨ (r = 113 ∧ k = 8) ∨ (r = 113 ∧ k = 9) ∨ (r = 113 ∧ k = 10) ∨ (r = 113 ∧ k = 11) ∨ (r = 113 ∧ k = 12) ∨ (r = 113 ∧ k = 15) ∨ (r = 113 ∧ k = 16) ∨ (r = 113 ∧ k = 17) ∨ (r = 113 ∧ k = 18) ∨ (r = 113 ∧ k = 19) ∨ (r = 113 ∧ k = 20) ∨ (r = 116)) → g41 r k = g r k := fun r k hw => ((zg_fr hg41) r k (by omega)).trans (Fg37 r k hw)
                exact P1.ret Fg41
theorem f_128_91 (x1 : Int32) (s1 : Int32) (g : G) : P1 (d_128_91 x1 s1 g) (fun q : G => ∀ r k, ¬ ((r = 113 ∧ k = 5) ∨ (r = 113 ∧ k = 6) ∨ (r = 113 ∧ k = 7) ∨ (r = 113 ∧ k = 8) ∨ (r = 113 ∧ k = 9) ∨ (r = 113 ∧ k = 10) ∨ (r = 113 ∧ k = 11) ∨ (r = 113 ∧ k = 12) ∨ (r = 113 ∧ k = 15) ∨ (r = 113 ∧ k = 16) ∨ (r = 113 ∧ k = 17) ∨ (r = 113 ∧ k = 18) ∨ (r = 113 ∧ k = 19) ∨ (r = 113 ∧ k = 20) ∨ (r = 116)) → q r k = g r k) := by
  unfold d_128_91
  refine P1.lc (f_113 s1 (4 : Int32) g) ?_
  intro g8 hg8 qg8
  have Fg8 : ∀ r k, ¬ ((r = 113 ∧ k = 5) ∨ (r = 113 ∧ k = 6) ∨ (r = 113 ∧ k = 7) ∨ (r = 113 ∧ k = 8) ∨ (r = 113 ∧ k = 9) ∨ (r = 113 ∧ k = 10) ∨ (r = 113 ∧ k = 11) ∨ (r = 113 ∧ k = 12) ∨ (r = 113 ∧ k = 15) ∨ (r = 113 ∧ k = 16) ∨ (r = 113 ∧ k = 17) ∨ (r = 113 ∧ k = 18) ∨ (r = 113 ∧ k = 19) ∨ (r = 113 ∧ k = 20) ∨ (r = 116)) → g8 r k = g r k := fun r k hw => (qg8) r k (by omega)
  refine P1.ite (fun _ => ?_) (fun _ => ?_)
  · skip
    refine P1.lt ?_
    intro g10 hg10
    have Fg10 : ∀ r k, ¬ ((r = 113 ∧ k = 5) ∨ (r = 113 ∧ k = 6) ∨ (r = 113 ∧ k = 7) ∨ (r = 113 ∧ k = 8) ∨ (r = 113 ∧ k = 9) ∨ (r = 113 ∧ k = 10) ∨ (r = 113 ∧ k = 11) ∨ (r = 113 ∧ k = 12) ∨ (r = 113 ∧ k = 15) ∨ (r = 113 ∧ k = 16) ∨ (r = 113 ∧ k = 17) ∨ (r = 113 ∧ k = 18) ∨ (r = 113 ∧ k = 19) ∨ (r = 113 ∧ k = 20) ∨ (r = 116)) → g10 r k = g r k := fun r k hw => ((zg_fr hg10) r k (by omega)).trans (Fg8 r k hw)
    refine P1.bd (f_119  g10) ?_
    intro g11 hg11 qg11
    have Fg11 : ∀ r k, ¬ ((r = 113 ∧ k = 5) ∨ (r = 113 ∧ k = 6) ∨ (r = 113 ∧ k = 7) ∨ (r = 113 ∧ k = 8) ∨ (r = 113 ∧ k = 9) ∨ (r = 113 ∧ k = 10) ∨ (r = 113 ∧ k = 11) ∨ (r = 113 ∧ k = 12) ∨ (r = 113 ∧ k = 15) ∨ (r = 113 ∧ k = 16) ∨ (r = 113 ∧ k = 17) ∨ (r = 113 ∧ k = 18) ∨ (r = 113 ∧ k = 19) ∨ (r = 113 ∧ k = 20) ∨ (r = 116)) → g11 r k = g r k := fun r k hw => ((qg11) r k (by omega)).trans (Fg10 r k hw)
    refine P1.ite (fun _ => ?_) (fun _ => ?_)
    · skip
      refine P1.bd (f_127 x1 g11) ?_
      intro g13 hg13 qg13
      have Fg13 : ∀ r k, ¬ ((r = 113 ∧ k = 5) ∨ (r = 113 ∧ k = 6) ∨ (r = 113 ∧ k = 7) ∨ (r = 113 ∧ k = 8) ∨ (r = 113 ∧ k = 9) ∨ (r = 113 ∧ k = 10) ∨ (r = 113 ∧ k = 11) ∨ (r = 113 ∧ k = 12) ∨ (r = 113 ∧ k = 15) ∨ (r = 113 ∧ k = 16) ∨ (r = 113 ∧ k = 17) ∨ (r = 113 ∧ k = 18) ∨ (r = 113 ∧ k = 19) ∨ (r = 113 ∧ k = 20) ∨ (r = 116)) → g13 r k = g r k := fun r k hw => ((qg13) r k (by omega)).trans (Fg11 r k hw)
      refine P1.ite (fun _ => ?_) (fun _ => ?_)
      · skip
        refine P1.bd (f_119  g13) ?_
        intro g15 hg15 qg15
        have Fg15 : ∀ r k, ¬ ((r = 113 ∧ k = 5) ∨ (r = 113 ∧ k = 6) ∨ (r = 113 ∧ k = 7) ∨ (r = 113 ∧ k = 8) ∨ (r = 113 ∧ k = 9) ∨ (r = 113 ∧ k = 10) ∨ (r = 113 ∧ k = 11) ∨ (r = 113 ∧ k = 12) ∨ (r = 113 ∧ k = 15) ∨ (r = 113 ∧ k = 16) ∨ (r = 113 ∧ k = 17) ∨ (r = 113 ∧ k = 18) ∨ (r = 113 ∧ k = 19) ∨ (r = 113 ∧ k = 20) ∨ (r = 116)) → g15 r k = g r k := fun r k hw => ((qg15) r k (by omega)).trans (Fg13 r k hw)
        exact P1.ret Fg15
      · skip
        refine P1.ite (fun _ => ?_) (fun _ => ?_)
        · skip
          refine P1.lc (f_113 (0 : Int32) (2 : Int32) g13) ?_
          intro g17 hg17 qg17
          have Fg17 : ∀ r k, ¬ ((r = 113 ∧ k = 5) ∨ (r = 113 ∧ k = 6) ∨ (r = 113 ∧ k = 7) ∨ (r = 113 ∧ k = 8) ∨ (r = 113 ∧ k = 9) ∨ (r = 113 ∧ k = 10) ∨ (r = 113 ∧ k = 11) ∨ (r = 113 ∧ k = 12) ∨ (r = 113 ∧ k = 15) ∨ (r = 113 ∧ k = 16) ∨ (r = 113 ∧ k = 17) ∨ (r = 113 ∧ k = 18) ∨ (r = 113 ∧ k = 19) ∨ (r = 113 ∧ k = 20) ∨ (r = 116)) → g17 r k = g r k := fun r k hw => ((qg17) r k (by omega)).trans (Fg13 r k hw)
          refine P1.bd (f_119  g17) ?_
          intro g18 hg18 qg18
          have Fg18 : ∀ r k, ¬ ((r = 113 ∧ k = 5) ∨ (r = 113 ∧ k = 6) ∨ (r = 113 ∧ k = 7) ∨ (r = 113 ∧ k = 8) ∨ (r = 113 ∧ k = 9) ∨ (r = 113 ∧ k = 10) ∨ (r = 113 ∧ k = 11) ∨ (r = 113 ∧ k = 12) ∨ (r = 113 ∧ k = 15) ∨ (r = 113 ∧ k = 16) ∨ (r = 113 ∧ k = 17) ∨ (r = 113 ∧ k = 18) ∨ (r = 113 ∧ k = 19) ∨ (r = 113 ∧ k = 20) ∨ (r = 116)) → g18 r k = g r k := fun r k hw => ((qg18) r k (by omega)).trans (Fg17 r k hw)
          exact P1.ret Fg18
        · skip
          refine P1.lc (f_113 (1 : Int32) (2 : Int32) g13) ?_
          intro g19 hg19 qg19
          have Fg19 : ∀ r k, ¬ ((r = 113 ∧ k = 5) ∨ (r = 113 ∧ k = 6) ∨ (r = 113 ∧ k = 7) ∨ (r = 113 ∧ k = 8) ∨ (r = 113 ∧ k = 9) ∨ (r = 113 ∧ k = 10) ∨ (r = 113 ∧ k = 11) ∨ (r = 113 ∧ k = 12) ∨ (r = 113 ∧ k = 15) ∨ (r = 113 ∧ k = 16) ∨ (r = 113 ∧ k = 17) ∨ (r = 113 ∧ k = 18) ∨ (r = 113 ∧ k = 19) ∨ (r = 113 ∧ k = 20) ∨ (r = 116)) → g19 r k = g r k := fun r k hw => ((qg19) r k (by omega)).trans (Fg13 r k hw)
          refine P1.bd (f_119  g19) ?_
          intro g20 hg20 qg20
          have Fg20 : ∀ r k, ¬ ((r = 113 ∧ k = 5) ∨ (r = 113 ∧ k = 6) ∨ (r = 113 ∧ k = 7) ∨ (r = 113 ∧ k = 8) ∨ (r = 113 ∧ k = 9) ∨ (r = 113 ∧ k = 10) ∨ (r = 113 ∧ k = 11) ∨ (r = 113 ∧ k = 12) ∨ (r = 113 ∧ k = 15) ∨ (r = 113 ∧ k = 16) ∨ (r = 113 ∧ k = 17) ∨ (r = 113 ∧ k = 18) ∨ (r = 113 ∧ k = 19) ∨ (r = 113 ∧ k = 20) ∨ (r = 116)) → g20 r k = g r k := fun r k hw => ((qg20) r k (by omega)).trans (Fg19 r k hw)
          exact P1.ret Fg20
    · skip
      exact P1.ret Fg11
  · skip
    refine P1.ite (fun _ => ?_) (fun _ => ?_)
    · skip
      refine P1.lt ?_
      intro g22 hg22
      have Fg22 : ∀ r k, ¬ ((r = 113 ∧ k = 5) ∨ (r = 113 ∧ k = 6) ∨ (r = 113 ∧ k = 7) ∨ (r = 113 ∧ k = 8) ∨ (r = 113 ∧ k = 9) ∨ (r = 113 ∧ k = 10) ∨ (r = 113 ∧ k = 11) ∨ (r = 113 ∧ k = 12) ∨ (r = 113 ∧ k = 15) ∨ (r = 113 ∧ k = 16) ∨ (r = 113 ∧ k = 17) ∨ (r = 113 ∧ k = 18) ∨ (r = 113 ∧ k = 19) ∨ (r = 113 ∧ k = 20) ∨ (r = 116)) → g22 r k = g r k := fun r k hw => ((zg_fr hg22) r k (by omega)).trans (Fg8 r k hw)
      refine P1.bd (f_119  g22) ?_
      intro g23 hg23 qg23
      have Fg23 : ∀ r k, ¬ ((r = 113 ∧ k = 5) ∨ (r = 113 ∧ k = 6) ∨ (r = 113 ∧ k = 7) ∨ (r = 113 ∧ k = 8) ∨ (r = 113 ∧ k = 9) ∨ (r = 113 ∧ k = 10) ∨ (r = 113 ∧ k = 11) ∨ (r = 113 ∧ k = 12) ∨ (r = 113 ∧ k = 15) ∨ (r = 113 ∧ k = 16) ∨ (r = 113 ∧ k = 17) ∨ (r = 113 ∧ k = 18) ∨ (r = 113 ∧ k = 19) ∨ (r = 113 ∧ k = 20) ∨ (r = 116)) → g23 r k = g r k := fun r k hw => ((qg23) r k (by omega)).trans (Fg22 r k hw)
      refine P1.ite (fun _ => ?_) (fun _ => ?_)
      · skip
        refine P1.bd (f_127 x1 g23) ?_
        intro g25 hg25 qg25
        have Fg25 : ∀ r k, ¬ ((r = 113 ∧ k = 5) ∨ (r = 113 ∧ k = 6) ∨ (r = 113 ∧ k = 7) ∨ (r = 113 ∧ k = 8) ∨ (r = 113 ∧ k = 9) ∨ (r = 113 ∧ k = 10) ∨ (r = 113 ∧ k = 11) ∨ (r = 113 ∧ k = 12) ∨ (r = 113 ∧ k = 15) ∨ (r = 113 ∧ k = 16) ∨ (r = 113 ∧ k = 17) ∨ (r = 113 ∧ k = 18) ∨ (r = 113 ∧ k = 19) ∨ (r = 113 ∧ k = 20) ∨ (r = 116)) → g25 r k = g r k := fun r k hw => ((qg25) r k (by omega)).trans (Fg23 r k hw)
        refine P1.ite (fun _ => ?_) (fun _ => ?_)
        · skip
          refine P1.bd (f_119  g25) ?_
          intro g27 hg27 qg27
          have Fg27 : ∀ r k, ¬ ((r = 113 ∧ k = 5) ∨ (r = 113 ∧ k = 6) ∨ (r = 113 ∧ k = 7) ∨ (r = 113 ∧ k = 8) ∨ (r = 113 ∧ k = 9) ∨ (r = 113 ∧ k = 10) ∨ (r = 113 ∧ k = 11) ∨ (r = 113 ∧ k = 12) ∨ (r = 113 ∧ k = 15) ∨ (r = 113 ∧ k = 16) ∨ (r = 113 ∧ k = 17) ∨ (r = 113 ∧ k = 18) ∨ (r = 113 ∧ k = 19) ∨ (r = 113 ∧ k = 20) ∨ (r = 116)) → g27 r k = g r k := fun r k hw => ((qg27) r k (by omega)).trans (Fg25 r k hw)
          exact P1.ret Fg27
        · skip
          refine P1.ite (fun _ => ?_) (fun _ => ?_)
          · skip
            refine P1.lc (f_113 (0 : Int32) (2 : Int32) g25) ?_
            intro g29 hg29 qg29
            have Fg29 : ∀ r k, ¬ ((r = 113 ∧ k = 5) ∨ (r = 113 ∧ k = 6) ∨ (r = 113 ∧ k = 7) ∨ (r = 113 ∧ k = 8) ∨ (r = 113 ∧ k = 9) ∨ (r = 113 ∧ k = 10) ∨ (r = 113 ∧ k = 11) ∨ (r = 113 ∧ k = 12) ∨ (r = 113 ∧ k = 15) ∨ (r = 113 ∧ k = 16) ∨ (r = 113 ∧ k = 17) ∨ (r = 113 ∧ k = 18) ∨ (r = 113 ∧ k = 19) ∨ (r = 113 ∧ k = 20) ∨ (r = 116)) → g29 r k = g r k := fun r k hw => ((qg29) r k (by omega)).trans (Fg25 r k hw)
            refine P1.bd (f_119  g29) ?_
            intro g30 hg30 qg30
            have Fg30 : ∀ r k, ¬ ((r = 113 ∧ k = 5) ∨ (r = 113 ∧ k = 6) ∨ (r = 113 ∧ k = 7) ∨ (r = 113 ∧ k = 8) ∨ (r = 113 ∧ k = 9) ∨ (r = 113 ∧ k = 10) ∨ (r = 113 ∧ k = 11) ∨ (r = 113 ∧ k = 12) ∨ (r = 113 ∧ k = 15) ∨ (r = 113 ∧ k = 16) ∨ (r = 113 ∧ k = 17) ∨ (r = 113 ∧ k = 18) ∨ (r = 113 ∧ k = 19) ∨ (r = 113 ∧ k = 20) ∨ (r = 116)) → g30 r k = g r k := fun r k hw => ((qg30) r k (by omega)).trans (Fg29 r k hw)
            exact P1.ret Fg30
          · skip
            refine P1.lc (f_113 (1 : Int32) (2 : Int32) g25) ?_
            intro g31 hg31 qg31
            have Fg31 : ∀ r k, ¬ ((r = 113 ∧ k = 5) ∨ (r = 113 ∧ k = 6) ∨ (r = 113 ∧ k = 7) ∨ (r = 113 ∧ k = 8) ∨ (r = 113 ∧ k = 9) ∨ (r = 113 ∧ k = 10) ∨ (r = 113 ∧ k = 11) ∨ (r = 113 ∧ k = 12) ∨ (r = 113 ∧ k = 15) ∨ (r = 113 ∧ k = 16) ∨ (r = 113 ∧ k = 17) ∨ (r = 113 ∧ k = 18) ∨ (r = 113 ∧ k = 19) ∨ (r = 113 ∧ k = 20) ∨ (r = 116)) → g31 r k = g r k := fun r k hw => ((qg31) r k (by omega)).trans (Fg25 r k hw)
            refine P1.bd (f_119  g31) ?_
            intro g32 hg32 qg32
            have Fg32 : ∀ r k, ¬ ((r = 113 ∧ k = 5) ∨ (r = 113 ∧ k = 6) ∨ (r = 113 ∧ k = 7) ∨ (r = 113 ∧ k = 8) ∨ (r = 113 ∧ k = 9) ∨ (r = 113 ∧ k = 10) ∨ (r = 113 ∧ k = 11) ∨ (r = 113 ∧ k = 12) ∨ (r = 113 ∧ k = 15) ∨ (r = 113 ∧ k = 16) ∨ (r = 113 ∧ k = 17) ∨ (r = 113 ∧ k = 18) ∨ (r = 113 ∧ k = 19) ∨ (r = 113 ∧ k = 20) ∨ (r = 116)) → g32 r k = g r k := fun r k hw => ((qg32) r k (by omega)).trans (Fg31 r k hw)
            exact P1.ret Fg32
      · skip
        exact P1.ret Fg23
    · skip
      refine P1.lt ?_
      intro g33 hg33
      have Fg33 : ∀ r k, ¬ ((r = 113 ∧ k = 5) ∨ (r = 113 ∧ k = 6) ∨ (r = 113 ∧ k = 7) ∨ (r = 113 ∧ k = 8) ∨ (r = 113 ∧ k = 9) ∨ (r = 113 ∧ k = 10) ∨ (r = 113 ∧ k = 11) ∨ (r = 113 ∧ k = 12) ∨ (r = 113 ∧ k = 15) ∨ (r = 113 ∧ k = 16) ∨ (r = 113 ∧ k = 17) ∨ (r = 113 ∧ k = 18) ∨ (r = 113 ∧ k = 19) ∨ (r = 113 ∧ k = 20) ∨ (r = 116)) → g33 r k = g r k := fun r k hw => ((zg_fr hg33) r k (by omega)).trans (Fg8 r k hw)
      refine P1.bd (f_119  g33) ?_
      intro g34 hg34 qg34
      have Fg34 : ∀ r k, ¬ ((r = 113 ∧ k = 5) ∨ (r = 113 ∧ k = 6) ∨ (r = 113 ∧ k = 7) ∨ (r = 113 ∧ k = 8) ∨ (r = 113 ∧ k = 9) ∨ (r = 113 ∧ k = 10) ∨ (r = 113 ∧ k = 11) ∨ (r = 113 ∧ k = 12) ∨ (r = 113 ∧ k = 15) ∨ (r = 113 ∧ k = 16) ∨ (r = 113 ∧ k = 17) ∨ (r = 113 ∧ k = 18) ∨ (r = 113 ∧ k = 19) ∨ (r = 113 ∧ k = 20) ∨ (r = 116)) → g34 r k = g r k := fun r k hw => ((qg34) r k (by omega)).trans (Fg33 r k hw)
      refine P1.ite (fun _ => ?_) (fun _ => ?_)
      · skip
        refine P1.bd (f_127 x1 g34) ?_
        intro g36 hg36 qg36
        have Fg36 : ∀ r k, ¬ ((r = 113 ∧ k = 5) ∨ (r = 113 ∧ k = 6) ∨ (r = 113 ∧ k = 7) ∨ (r = 113 ∧ k = 8) ∨ (r = 113 ∧ k = 9) ∨ (r = 113 ∧ k = 10) ∨ (r = 113 ∧ k = 11) ∨ (r = 113 ∧ k = 12) ∨ (r = 113 ∧ k = 15) ∨ (r = 113 ∧ k = 16) ∨ (r = 113 ∧ k = 17) ∨ (r = 113 ∧ k = 18) ∨ (r = 113 ∧ k = 19) ∨ (r = 113 ∧ k = 20) ∨ (r = 116)) → g36 r k = g r k := fun r k hw => ((qg36) r k (by omega)).trans (Fg34 r k hw)
        refine P1.ite (fun _ => ?_) (fun _ => ?_)
        · skip
          refine P1.bd (f_119  g36) ?_
          intro g38 hg38 qg38
          have Fg38 : ∀ r k, ¬ ((r = 113 ∧ k = 5) ∨ (r = 113 ∧ k = 6) ∨ (r = 113 ∧ k = 7) ∨ (r = 113 ∧ k = 8) ∨ (r = 113 ∧ k = 9) ∨ (r = 113 ∧ k = 10) ∨ (r = 113 ∧ k = 11) ∨ (r = 113 ∧ k = 12) ∨ (r = 113 ∧ k = 15) ∨ (r = 113 ∧ k = 16) ∨ (r = 113 ∧ k = 17) ∨ (r = 113 ∧ k = 18) ∨ (r = 113 ∧ k = 19) ∨ (r = 113 ∧ k = 20) ∨ (r = 116)) → g38 r k = g r k := fun r k hw => ((qg38) r k (by omega)).trans (Fg36 r k hw)
          exact P1.ret Fg38
        · skip
          refine P1.ite (fun _ => ?_) (fun _ => ?_)
          · skip
            refine P1.lc (f_113 (0 : Int32) (2 : Int32) g36) ?_
            intro g40 hg40 qg40
            have Fg40 : ∀ r k, ¬ ((r = 113 ∧ k = 5) ∨ (r = 113 ∧ k = 6) ∨ (r = 113 ∧ k = 7) ∨ (r = 113 ∧ k = 8) ∨ (r = 113 ∧ k = 9) ∨ (r = 113 ∧ k = 10) ∨ (r = 113 ∧ k = 11) ∨ (r = 113 ∧ k = 12) ∨ (r = 113 ∧ k = 15) ∨ (r = 113 ∧ k = 16) ∨ (r = 113 ∧ k = 17) ∨ (r = 113 ∧ k = 18) ∨ (r = 113 ∧ k = 19) ∨ (r = 113 ∧ k = 20) ∨ (r = 116)) → g40 r k = g r k := fun r k hw => ((qg40) r k (by omega)).trans (Fg36 r k hw)
            refine P1.bd (f_119  g40) ?_
            intro g41 hg41 qg41
            have Fg41 : ∀ r k, ¬ ((r = 113 ∧ k = 5) ∨ (r = 113 ∧ k = 6) ∨ (r = 113 ∧ k = 7) ∨ (r = 113 ∧ k = 8) ∨ (r = 113 ∧ k = 9) ∨ (r = 113 ∧ k = 10) ∨ (r = 113 ∧ k = 11) ∨ (r = 113 ∧ k = 12) ∨ (r = 113 ∧ k = 15) ∨ (r = 113 ∧ k = 16) ∨ (r = 113 ∧ k = 17) ∨ (r = 113 ∧ k = 18) ∨ (r = 113 ∧ k = 19) ∨ (r = 113 ∧ k = 20) ∨ (r = 116)) → g41 r k = g r k := fun r k hw => ((qg41) r k (by omega)).trans (Fg40 r k hw)
            exact P1.ret Fg41
          · skip
            refine P1.lc (f_113 (1 : Int32) (2 : Int32) g36) ?_
            intro g42 hg42 qg42
            have Fg42 : ∀ r k, ¬ ((r = 113 ∧ k = 5) ∨ (r = 113 ∧ k = 6) ∨ (r = 113 ∧ k = 7) ∨ (r = 113 ∧ k = 8) ∨ (r = 113 ∧ k = 9) ∨ (r = 113 ∧ k = 10) ∨ (r = 113 ∧ k = 11) ∨ (r = 113 ∧ k = 12) ∨ (r = 113 ∧ k = 15) ∨ (r = 113 ∧ k = 16) ∨ (r = 113 ∧ k = 17) ∨ (r = 113 ∧ k = 18) ∨ (r = 113 ∧ k = 19) ∨ (r = 113 ∧ k = 20) ∨ (r = 116)) → g42 r k = g r k := fun r k hw => ((qg42) r k (by omega)).trans (Fg36 r k hw)
            refine P1.bd (f_119  g42) ?_
            intro g43 hg43 qg43
            have Fg43 : ∀ r k, ¬ ((r = 113 ∧ k = 5) ∨ (r = 113 ∧ k = 6) ∨ (r = 113 ∧ k = 7) ∨ (r = 113 ∧ k = 8) ∨ (r = 113 ∧ k = 9) ∨ (r = 113 ∧ k = 10) ∨ (r = 113 ∧ k = 11) ∨ (r = 113 ∧ k = 12) ∨ (r = 113 ∧ k = 15) ∨ (r = 113 ∧ k = 16) ∨ (r = 113 ∧ k = 17) ∨ (r = 113 ∧ k = 18) ∨ (r = 113 ∧ k = 19) ∨ (r = 113 ∧ k = 20) ∨ (r = 116)) → g43 r k = g r k := fun r k hw => ((qg43) r k (by omega)).trans (Fg42 r k hw)
            exact P1.ret Fg43
      · skip
        exact P1.ret Fg34
theorem f_128_48 (x1 : Int32) (g : G) : P1 (d_128_48 x1 g) (fun q : G => ∀ r k, ¬ ((r = 113 ∧ k = 5) ∨ (r = 113 ∧ k = 6) ∨ (r = 113 ∧ k = 7) ∨ (r = 113 ∧ k = 8) ∨ (r = 113 ∧ k = 9) ∨ (r = 113 ∧ k = 10) ∨ (r = 113 ∧ k = 11) ∨ (r = 113 ∧ k = 12) ∨ (r = 113 ∧ k = 15) ∨ (r = 113 ∧ k = 16) ∨ (r = 113 ∧ k = 17) ∨ (r = 113 ∧ k = 18) ∨ (r = 113 ∧ k = 19) ∨ (r = 113 ∧ k = 20) ∨ (r = 116)) → q r k = g r k) := by
  unfold d_128_48
  refine P1.ite (fun _ => ?_) (fun _ => ?_)
  · skip
    refine P1.lc (f_113 (1 : Int32) (5 : Int32) g) ?_
    intro g6 hg6 qg6
    have Fg6 : ∀ r k, ¬ ((r = 113 ∧ k = 5) ∨ (r = 113 ∧ k = 6) ∨ (r = 113 ∧ k = 7) ∨ (r = 113 ∧ k = 8) ∨ (r = 113 ∧ k = 9) ∨ (r = 113 ∧ k = 10) ∨ (r = 113 ∧ k = 11) ∨ (r = 113 ∧ k = 12) ∨ (r = 113 ∧ k = 15) ∨ (r = 113 ∧ k = 16) ∨ (r = 113 ∧ k = 17) ∨ (r = 113 ∧ k = 18) ∨ (r = 113 ∧ k = 19) ∨ (r = 113 ∧ k = 20) ∨ (r = 116)) → g6 r k = g r k := fun r k hw => (qg6) r k (by omega)
    refine P1.ite (fun _ => ?_) (fun _ => ?_)
    · skip
      refine P1.mono (f_128_91 x1 (1 : Int32) g6) ?_
      intro qq hq
      exact (fun r k hw => ((hq r k (by omega)).trans (Fg6 r k hw)))
    · skip
      refine P1.ite (fun _ => ?_) (fun _ => ?_)
      · skip
        refine P1.mono (f_128_91 x1 (0 : Int32) g6) ?_
        intro qq hq
        exact (fun r k hw => ((hq r k (by omega)).trans (Fg6 r k hw)))
      · skip
        refine P1.mono (f_128_91 x1 (1 : Int32) g6) ?_
        intro qq hq
        exact (fun r k hw => ((hq r k (by omega)).trans (Fg6 r k hw)))
  · skip
    refine P1.ite (fun _ => ?_) (fun _ => ?_)
    · skip
      refine P1.lc (f_113 (0 : Int32) (5 : Int32) g) ?_
      intro g46 hg46 qg46
      have Fg46 : ∀ r k, ¬ ((r = 113 ∧ k = 5) ∨ (r = 113 ∧ k = 6) ∨ (r = 113 ∧ k = 7) ∨ (r = 113 ∧ k = 8) ∨ (r = 113 ∧ k = 9) ∨ (r = 113 ∧ k = 10) ∨ (r = 113 ∧ k = 11) ∨ (r = 113 ∧ k = 12) ∨ (r = 113 ∧ k = 15) ∨ (r = 113 ∧ k = 16) ∨ (r = 113 ∧ k = 17) ∨ (r = 113 ∧ k = 18) ∨ (r = 113 ∧ k = 19) ∨ (r = 113 ∧ k = 20) ∨ (r = 116)) → g46 r k = g r k := fun r k hw => (qg46) r k (by omega)
      refine P1.ite (fun _ => ?_) (fun _ => ?_)
      · skip
        refine P1.mono (f_128_91 x1 (1 : Int32) g46) ?_
        intro qq hq
        exact (fun r k hw => ((hq r k (by omega)).trans (Fg46 r k hw)))
      · skip
        refine P1.ite (fun _ => ?_) (fun _ => ?_)
        · skip
          refine P1.mono (f_128_91 x1 (0 : Int32) g46) ?_
          intro qq hq
          exact (fun r k hw => ((hq r k (by omega)).trans (Fg46 r k hw)))
        · skip
          refine P1.mono (f_128_91 x1 (1 : Int32) g46) ?_
          intro qq hq
          exact (fun r k hw => ((hq r k (by omega)).trans (Fg46 r k hw)))
    · skip
      refine P1.lc (f_113 (1 : Int32) (5 : Int32) g) ?_
      intro g49 hg49 qg49
      have Fg49 : ∀ r k, ¬ ((r = 113 ∧ k = 5) ∨ (r = 113 ∧ k = 6) ∨ (r = 113 ∧ k = 7) ∨ (r = 113 ∧ k = 8) ∨ (r = 113 ∧ k = 9) ∨ (r = 113 ∧ k = 10) ∨ (r = 113 ∧ k = 11) ∨ (r = 113 ∧ k = 12) ∨ (r = 113 ∧ k = 15) ∨ (r = 113 ∧ k = 16) ∨ (r = 113 ∧ k = 17) ∨ (r = 113 ∧ k = 18) ∨ (r = 113 ∧ k = 19) ∨ (r = 113 ∧ k = 20) ∨ (r = 116)) → g49 r k = g r k := fun r k hw => (qg49) r k (by omega)
      refine P1.ite (fun _ => ?_) (fun _ => ?_)
      · skip
        refine P1.mono (f_128_91 x1 (1 : Int32) g49) ?_
        intro qq hq
        exact (fun r k hw => ((hq r k (by omega)).trans (Fg49 r k hw)))
      · skip
        refine P1.ite (fun _ => ?_) (fun _ => ?_)
        · skip
          refine P1.mono (f_128_91 x1 (0 : Int32) g49) ?_
          intro qq hq
          exact (fun r k hw => ((hq r k (by omega)).trans (Fg49 r k hw)))
        · skip
          refine P1.mono (f_128_91 x1 (1 : Int32) g49) ?_
          intro qq hq
          exact (fun r k hw => ((hq r k (by omega)).trans (Fg49 r k hw)))
theorem f_128_17 (s0 : Int32) (g : G) : P1 (d_128_17 s0 g) (fun q : G => ∀ r k, ¬ ((r = 113 ∧ k = 5) ∨ (r = 113 ∧ k = 6) ∨ (r = 113 ∧ k = 7) ∨ (r = 113 ∧ k = 8) ∨ (r = 113 ∧ k = 9) ∨ (r = 113 ∧ k = 10) ∨ (r = 113 ∧ k = 11) ∨ (r = 113 ∧ k = 12) ∨ (r = 113 ∧ k = 15) ∨ (r = 113 ∧ k = 16) ∨ (r = 113 ∧ k = 17) ∨ (r = 113 ∧ k = 18) ∨ (r = 113 ∧ k = 19) ∨ (r = 113 ∧ k = 20) ∨ (r = 116)) → q r k = g r k) := by
  unfold d_128_17
  refine P1.ite (fun _ => ?_) (fun _ => ?_)
  · skip
    refine P1.lc (f_113 (0 : Int32) (2 : Int32) g) ?_
    intro g3 hg3 qg3
    have Fg3 : ∀ r k, ¬ ((r = 113 ∧ k = 5) ∨ (r = 113 ∧ k = 6) ∨ (r = 113 ∧ k = 7) ∨ (r = 113 ∧ k = 8) ∨ (r = 113 ∧ k = 9) ∨ (r = 113 ∧ k = 10) ∨ (r = 113 ∧ k = 11) ∨ (r = 113 ∧ k = 12) ∨ (r = 113 ∧ k = 15) ∨ (r = 113 ∧ k = 16) ∨ (r = 113 ∧ k = 17) ∨ (r = 113 ∧ k = 18) ∨ (r = 113 ∧ k = 19) ∨ (r = 113 ∧ k = 20) ∨ (r = 116)) → g3 r k = g r k := fun r k hw => (qg3) r k (by omega)
    refine P1.ite (fun _ => ?_) (fun _ => ?_)
    · skip
      refine P1.mono (f_128_48 s0 g3) ?_
      intro qq hq
      exact (fun r k hw => ((hq r k (by omega)).trans (Fg3 r k hw)))
    · skip
      refine P1.ite (fun _ => ?_) (fun _ => ?_)
      · skip
        refine P1.lc (f_113 (0 : Int32) (5 : Int32) g3) ?_
        intro g53 hg53 qg53
        have Fg53 : ∀ r k, ¬ ((r = 113 ∧ k = 5) ∨ (r = 113 ∧ k = 6) ∨ (r = 113 ∧ k = 7) ∨ (r = 113 ∧ k = 8) ∨ (r = 113 ∧ k = 9) ∨ (r = 113 ∧ k = 10) ∨ (r = 113 ∧ k = 11) ∨ (r = 113 ∧ k = 12) ∨ (r = 113 ∧ k = 15) ∨ (r = 113 ∧ k = 16) ∨ (r = 113 ∧ k = 17) ∨ (r = 113 ∧ k = 18) ∨ (r = 113 ∧ k = 19) ∨ (r = 113 ∧ k = 20) ∨ (r = 116)) → g53 r k = g r k := fun r k hw => ((qg53) r k (by omega)).trans (Fg3 r k hw)
        refine P1.ite (fun _ => ?_) (fun _ => ?_)
        · skip
          refine P1.mono (f_128_91 s0 (1 : Int32) g53) ?_
          intro qq hq
          exact (fun r k hw => ((hq r k (by omega)).trans (Fg53 r k hw)))
        · skip
          refine P1.ite (fun _ => ?_) (fun _ => ?_)
          · skip
            refine P1.mono (f_128_91 s0 (0 : Int32) g53) ?_
            intro qq hq
            exact (fun r k hw => ((hq r k (by omega)).trans (Fg53 r k hw)))
          · skip
            refine P1.mono (f_128_91 s0 (1 : Int32) g53) ?_
            intro qq hq
            exact (fun r k hw => ((hq r k (by omega)).trans (Fg53 r k hw)))
      · skip
        refine P1.mono (f_128_48 s0 g3) ?_
        intro qq hq
        exact (fun r k hw => ((hq r k (by omega)).trans (Fg3 r k hw)))
  · skip
    refine P1.lc (f_113 (1 : Int32) (2 : Int32) g) ?_
    intro g56 hg56 qg56
    have Fg56 : ∀ r k, ¬ ((r = 113 ∧ k = 5) ∨ (r = 113 ∧ k = 6) ∨ (r = 113 ∧ k = 7) ∨ (r = 113 ∧ k = 8) ∨ (r = 113 ∧ k = 9) ∨ (r = 113 ∧ k = 10) ∨ (r = 113 ∧ k = 11) ∨ (r = 113 ∧ k = 12) ∨ (r = 113 ∧ k = 15) ∨ (r = 113 ∧ k = 16) ∨ (r = 113 ∧ k = 17) ∨ (r = 113 ∧ k = 18) ∨ (r = 113 ∧ k = 19) ∨ (r = 113 ∧ k = 20) ∨ (r = 116)) → g56 r k = g r k := fun r k hw => (qg56) r k (by omega)
    refine P1.ite (fun _ => ?_) (fun _ => ?_)
    · skip
      refine P1.mono (f_128_48 s0 g56) ?_
      intro qq hq
      exact (fun r k hw => ((hq r k (by omega)).trans (Fg56 r k hw)))
    · skip
      refine P1.ite (fun _ => ?_) (fun _ => ?_)
      · skip
        refine P1.lc (f_113 (0 : Int32) (5 : Int32) g56) ?_
        intro g59 hg59 qg59
        have Fg59 : ∀ r k, ¬ ((r = 113 ∧ k = 5) ∨ (r = 113 ∧ k = 6) ∨ (r = 113 ∧ k = 7) ∨ (r = 113 ∧ k = 8) ∨ (r = 113 ∧ k = 9) ∨ (r = 113 ∧ k = 10) ∨ (r = 113 ∧ k = 11) ∨ (r = 113 ∧ k = 12) ∨ (r = 113 ∧ k = 15) ∨ (r = 113 ∧ k = 16) ∨ (r = 113 ∧ k = 17) ∨ (r = 113 ∧ k = 18) ∨ (r = 113 ∧ k = 19) ∨ (r = 113 ∧ k = 20) ∨ (r = 116)) → g59 r k = g r k := fun r k hw => ((qg59) r k (by omega)).trans (Fg56 r k hw)
        refine P1.ite (fun _ => ?_) (fun _ => ?_)
        · skip
          refine P1.mono (f_128_91 s0 (1 : Int32) g59) ?_
          intro qq hq
          exact (fun r k hw => ((hq r k (by omega)).trans (Fg59 r k hw)))
        · skip
          refine P1.ite (fun _ => ?_) (fun _ => ?_)
          · skip
            refine P1.mono (f_128_91 s0 (0 : Int32) g59) ?_
            intro qq hq
            exact (fun r k hw => ((hq r k (by omega)).trans (Fg59 r k hw)))
          · skip
            refine P1.mono (f_128_91 s0 (1 : Int32) g59) ?_
            intro qq hq
            exact (fun r k hw => ((hq r k (by omega)).trans (Fg59 r k hw)))
      · skip
        refine P1.mono (f_128_48 s0 g56) ?_
        intro qq hq
        exact (fun r k hw => ((hq r k (by omega)).trans (Fg56 r k hw)))
/-- EveningFirstModel.readLine -/
theorem f_128 (g : G) : P1 (d_128 g) (fun q : G => ∀ r k, ¬ ((r = 113 ∧ k = 5) ∨ (r = 113 ∧ k = 6) ∨ (r = 113 ∧ k = 7) ∨ (r = 113 ∧ k = 8) ∨ (r = 113 ∧ k = 9) ∨ (r = 113 ∧ k = 10) ∨ (r = 113 ∧ k = 11) ∨ (r = 113 ∧ k = 12) ∨ (r = 113 ∧ k = 15) ∨ (r = 113 ∧ k = 16) ∨ (r = 113 ∧ k = 17) ∨ (r = 113 ∧ k = 18) ∨ (r = 113 ∧ k = 19) ∨ (r = 113 ∧ k = 20) ∨ (r = 116)) → q r k = g r k) := by
  unfold d_128
  refine P1.ite (fun _ => ?_) (fun _ => ?_)
  · skip
    refine P1.mono (f_128_17 (-4 : Int32) g) ?_
    intro qq hq
    exact (fun r k hw => hq r k (by omega))
  · skip
    refine P1.bs ?_
    intro v62 _
    refine P1.mono (f_128_17 v62 g) ?_
    intro qq hq
    exact (fun r k hw => hq r k (by omega))
