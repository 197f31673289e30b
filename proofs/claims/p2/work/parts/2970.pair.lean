/-! the lengths alone: one call (printed by wip/tools/law.py) -/
theorem QS.congr {k : Nat} {c m c' m' : G} (h : QS k c m) (hc : ∀ r j, r = 105 + 2 * k ∧ j = 0 → c' r j = c r j) (hm : ∀ r j, (r = 119 ∧ j = k) ∨ (r = 120 ∧ j = k) → m' r j = m r j) : QS k c' m' := by
  unfold QS at *
  rw [hc (105 + 2 * k) 0 (by omega), hm 119 k (by omega), hm 120 k (by omega)]
  exact h
def j3 (g : G) : Prop := g 28 1 = g 113 14 ∧ ∀ k, k < 4 → QS k g g
theorem j3.congr {g g' : G} (h : j3 g) (hs : ∀ r k, (r = 28 ∧ k = 1) ∨ (r = 113 ∧ k = 14) ∨ ((r = 105 ∨ r = 107 ∨ r = 109 ∨ r = 111) ∧ k = 0) ∨ r = 119 ∨ r = 120 → g' r k = g r k) : j3 g' := by
  refine ⟨?_, fun k hk => (h.2 k hk).congr (fun r j hr => hs r j (by omega)) (fun r j hr => hs r j (by omega))⟩
  rw [hs 28 1 (by omega), hs 113 14 (by omega)]
  exact h.1
theorem t_56 {g g' : G} {v : Int32} (e : d_56 g = some (v, g')) : g' 28 1 = 0 := by
  unfold d_56 at e
  obtain ⟨v1, g2, h1, e⟩ := zb_bpair e
  obtain ⟨g3, h3, e⟩ := zb_let e
  have z : g3 28 1 = 0 := by rw [← h3]; rfl
  rcases zb_if e with ⟨_, e⟩ | ⟨_, e⟩
  · obtain ⟨_, e2⟩ := zb_r2 e
    subst e2
    exact z
  · obtain ⟨g5, h5, e⟩ := zb_bind e
    have f5 := f_17 1 30 g3 g5 h5 28 1 (by omega)
    have f6 := f_56_42 v1 300 0 g5 (v, g') e 28 1 (by omega)
    exact f6.trans (f5.trans z)
theorem t_129_t {x y v : Int32} {c : Bool} {g g7 g' : G} (h7 : zg_up g 113 14 0 = g7) (e : (bif c then (Option.bind (d_110 g7) fun g9 => some (x, g9)) else some (y, g7)) = some (v, g')) : g' 113 14 = 0 := by
  have z : g7 113 14 = 0 := by rw [← h7]; rfl
  rcases zb_if e with ⟨_, e⟩ | ⟨_, e⟩
  · obtain ⟨g9, h9, e⟩ := zb_bind e
    obtain ⟨_, e2⟩ := zb_r2 e
    subst e2
    exact (f_110 g7 g9 h9 113 14 (by omega)).trans z
  · obtain ⟨_, e2⟩ := zb_r2 e
    subst e2
    exact z
theorem t_129_44 {x1 v : Int32} {g g' : G} (e : d_129_44 x1 g = some (v, g')) : g' 113 14 = 0 := by
  unfold d_129_44 at e
  rcases zb_if e with ⟨_, e⟩ | ⟨_, e⟩
  · obtain ⟨g7, h7, e⟩ := zb_let e
    exact t_129_t h7 e
  · rcases zb_if e with ⟨_, e⟩ | ⟨_, e⟩
    · obtain ⟨g6, h6, e⟩ := zb_let e
      obtain ⟨g7, h7, e⟩ := zb_let e
      exact t_129_t h7 e
    · rcases zb_if e with ⟨_, e⟩ | ⟨_, e⟩
      · obtain ⟨g6, h6, e⟩ := zb_let e
        obtain ⟨g7, h7, e⟩ := zb_let e
        exact t_129_t h7 e
      · rcases zb_if e with ⟨_, e⟩ | ⟨_, e⟩
        · obtain ⟨g6, h6, e⟩ := zb_let e
          obtain ⟨g7, h7, e⟩ := zb_let e
          exact t_129_t h7 e
        · obtain ⟨g6, h6, e⟩ := zb_let e
          obtain ⟨g7, h7, e⟩ := zb_let e
          exact t_129_t h7 e
theorem t_129_20 : ∀ (f : Nat) (x1 v : Int32) (g g' : G), d_129_20 f x1 g = some (v, g') → g' 113 14 = 0 := by
  intro f
  induction f with
  | zero =>
    intro x1 v g g' e
    rw [d_129_20.eq_1] at e
    cases e
  | succ f ih =>
    intro x1 v g g' e
    rw [d_129_20.eq_2] at e
    rcases zb_if e with ⟨_, e⟩ | ⟨_, e⟩
    · exact t_129_44 e
    · rcases zb_if e with ⟨_, e⟩ | ⟨_, e⟩
      · exact t_129_44 e
      · obtain ⟨g30, _, e⟩ := zb_bind e
        exact ih _ _ _ _ e
theorem t_129 {g g' : G} {v : Int32} (e : d_129 g = some (v, g')) : g' 113 14 = 0 := by
  unfold d_129 at e
  obtain ⟨g1, _, e⟩ := zb_let e
  obtain ⟨g2, _, e⟩ := zb_let e
  obtain ⟨g3, _, e⟩ := zb_bind e
  obtain ⟨g4, _, e⟩ := zb_bind e
  exact t_129_20 _ _ _ _ _ e
/-- EveningFirst.feed -/
theorem pr_54 (x1 : Int32) (g : G) (hI : Inv g) (hJ : j3 g) : ∃ (v : Int32) (g1 : G) (v' : Int32) (g2 : G), d_54 x1 g = some (v, g1) ∧ d_111 x1 g1 = some (v', g2) ∧ Inv g2 ∧ j3 g2 ∧ v = v' := by
  obtain ⟨⟨v, g1⟩, e, h1⟩ := (s_54 x1 g hI trivial)
  have F1 := f_54 x1 g (v, g1) e
  obtain ⟨⟨v', g2⟩, f, h2⟩ := (s_111 x1 g1 h1.1 trivial)
  have F2 := f_111 x1 g1 (v', g2) f
  have q := q_54 hI h1.1 ((hJ.1).trans (F1 113 14 (by omega)).symm) e f
  refine ⟨v, g1, v', g2, e, f, h2.1, ⟨?_, fun k hk => (hJ.2 k hk).congr (fun r j hr => (F2 r j (by omega)).trans (F1 r j (by omega))) (fun r j hr => (F2 r j (by omega)).trans (F1 r j (by omega)))⟩, q.1⟩
  exact (F2 28 1 (by omega)).trans q.2
/-- EveningFirst.end -/
theorem pr_55 (x1 : Int32) (g : G) (hI : Inv g) (hJ : j3 g) : ∃ (v : Int32) (g1 : G) (v' : Int32) (g2 : G), d_55 x1 g = (v, g1) ∧ d_112 x1 g1 = (v', g2) ∧ Inv g2 ∧ j3 g2 ∧ v = v' := by
  obtain ⟨v, g1, e⟩ : ∃ q1 q2, d_55 x1 g = (q1, q2) := ⟨_, _, rfl⟩
  have h1 := (s_55 x1 g hI trivial)
  rw [e] at h1
  have F1 := f_55 x1 g
  rw [e] at F1
  obtain ⟨v', g2, f⟩ : ∃ q1 q2, d_112 x1 g1 = (q1, q2) := ⟨_, _, rfl⟩
  have h2 := (s_112 x1 g1 h1.1 trivial)
  rw [f] at h2
  have F2 := f_112 x1 g1
  rw [f] at F2
  have q := q_55 hI h1.1 ((hJ.1).trans (F1 113 14 (by omega)).symm) e f
  refine ⟨v, g1, v', g2, e, f, h2.1, ⟨?_, fun k hk => (hJ.2 k hk).congr (fun r j hr => (F2 r j (by omega)).trans (F1 r j (by omega))) (fun r j hr => (F2 r j (by omega)).trans (F1 r j (by omega)))⟩, q.1⟩
  exact (F2 28 1 (by omega)).trans q.2
/-- EveningFirst.text -/
theorem pr_56  (g : G) (hI : Inv g) (hJ : j3 g) : ∃ (v : Int32) (g1 : G) (v' : Int32) (g2 : G), d_56 g = some (v, g1) ∧ d_129 g1 = some (v', g2) ∧ Inv g2 ∧ j3 g2 ∧ True := by
  obtain ⟨⟨v, g1⟩, e, h1⟩ := (s_56 g hI trivial)
  have F1 := f_56 g (v, g1) e
  obtain ⟨⟨v', g2⟩, f, h2⟩ := (s_129 g1 h1.1 trivial)
  have F2 := f_129 g1 (v', g2) f
  refine ⟨v, g1, v', g2, e, f, h2.1, ⟨?_, fun k hk => (hJ.2 k hk).congr (fun r j hr => (F2 r j (by omega)).trans (F1 r j (by omega))) (fun r j hr => (F2 r j (by omega)).trans (F1 r j (by omega)))⟩, trivial⟩
  exact ((F2 28 1 (by omega)).trans (t_56 e)).trans (t_129 f).symm
/-- EveningFirst.fault -/
theorem pr_57  (g : G) (hI : Inv g) (hJ : j3 g) : ∃ (v : Int32) (v' : Int32), d_57 g = v ∧ d_130 g = v' ∧ Inv g ∧ j3 g ∧ True := by
  obtain ⟨v, e⟩ : ∃ q1, d_57 g = q1 := ⟨_, rfl⟩
  obtain ⟨v', f⟩ : ∃ q1, d_130 g = q1 := ⟨_, rfl⟩
  exact ⟨v, v', e, f, hI, hJ.congr (fun r k hs => rfl), trivial⟩
/-- EveningFirst.rule -/
theorem pr_58 (x1 : Int32) (g : G) (hI : Inv g) (hJ : j3 g) : ∃ (v : Int32) (v' : Int32), d_58 x1 g = v ∧ d_139 x1 g = v' ∧ Inv g ∧ j3 g ∧ True := by
  obtain ⟨v, e⟩ : ∃ q1, d_58 x1 g = q1 := ⟨_, rfl⟩
  obtain ⟨v', f⟩ : ∃ q1, d_139 x1 g = q1 := ⟨_, rfl⟩
  exact ⟨v, v', e, f, hI, hJ.congr (fun r k hs => rfl), trivial⟩
/-- EveningFirst.one -/
theorem pr_59 (x1 : Int32) (x2 : Int32) (g : G) (hI : Inv g) (hJ : j3 g) : ∃ (v : Int32) (v' : Int32), d_59 x1 x2 g = some v ∧ d_140 x1 x2 g = some v' ∧ Inv g ∧ j3 g ∧ True := by
  obtain ⟨v, e, h1⟩ := (s_59 x1 x2 g hI trivial)
  obtain ⟨v', f, h2⟩ := (s_140 x1 x2 g hI trivial)
  exact ⟨v, v', e, f, hI, hJ.congr (fun r k hs => rfl), trivial⟩
/-- EveningFirst.deed -/
theorem pr_60 (x1 : Int32) (x2 : Int32) (g : G) (hI : Inv g) (hJ : j3 g) : ∃ (v : Int32) (v' : Int32), d_60 x1 x2 g = some v ∧ d_141 x1 x2 g = some v' ∧ Inv g ∧ j3 g ∧ True := by
  obtain ⟨v, e, h1⟩ := (s_60 x1 x2 g hI trivial)
  obtain ⟨v', f, h2⟩ := (s_141 x1 x2 g hI trivial)
  exact ⟨v, v', e, f, hI, hJ.congr (fun r k hs => rfl), trivial⟩
/-- EveningFirst.go -/
theorem pr_61 (x1 : Int32) (x2 : Int32) (g : G) (hI : Inv g) (hJ : j3 g) : ∃ (v : Int32) (g1 : G) (v' : Int32) (g2 : G), d_61 x1 x2 g = some (v, g1) ∧ d_143 x1 x2 g1 = some (v', g2) ∧ Inv g2 ∧ j3 g2 ∧ True := by
  obtain ⟨⟨v, g1⟩, e, h1⟩ := (s_61 x1 x2 g hI trivial)
  have F1 := f_61 x1 x2 g (v, g1) e
  obtain ⟨⟨v', g2⟩, f, h2⟩ := (s_143 x1 x2 g1 h1.1 trivial)
  have F2 := f_143 x1 x2 g1 (v', g2) f
  exact ⟨v, g1, v', g2, e, f, h2.1, hJ.congr (fun r k hs => (F2 r k (by omega)).trans (F1 r k (by omega))), trivial⟩
/-- EveningFirst.birth -/
theorem pr_62 (x1 : Int32) (x2 : Int32) (g : G) (hI : Inv g) (hJ : j3 g) : ∃ (v : Int32) (g1 : G) (v' : Int32) (g2 : G), d_62 x1 x2 g = some (v, g1) ∧ d_145 x1 x2 g1 = some (v', g2) ∧ Inv g2 ∧ j3 g2 ∧ True := by
  obtain ⟨⟨v, g1⟩, e, h1⟩ := (s_62 x1 x2 g hI trivial)
  have F1 := f_62 x1 x2 g (v, g1) e
  obtain ⟨⟨v', g2⟩, f, h2⟩ := (s_145 x1 x2 g1 h1.1 trivial)
  have F2 := f_145 x1 x2 g1 (v', g2) f
  exact ⟨v, g1, v', g2, e, f, h2.1, hJ.congr (fun r k hs => (F2 r k (by omega)).trans (F1 r k (by omega))), trivial⟩
/-- EveningFirst.does -/
theorem pr_63 (x1 : Int32) (x2 : Int32) (x3 : Int32) (x4 : Int32) (x5 : Int32) (g : G) (hI : Inv g) (hJ : j3 g) : ∃ (v : Int32) (g1 : G) (v' : Int32) (g2 : G), d_63 x1 x2 x3 x4 x5 g = some (v, g1) ∧ d_146 x1 x2 x3 x4 x5 g1 = some (v', g2) ∧ Inv g2 ∧ j3 g2 ∧ True := by
  obtain ⟨⟨v, g1⟩, e, h1⟩ := (s_63 x1 x2 x3 x4 x5 g hI trivial)
  have F1 := f_63 x1 x2 x3 x4 x5 g (v, g1) e
  obtain ⟨⟨v', g2⟩, f, h2⟩ := (s_146 x1 x2 x3 x4 x5 g1 h1.1 trivial)
  have F2 := f_146 x1 x2 x3 x4 x5 g1 (v', g2) f
  exact ⟨v, g1, v', g2, e, f, h2.1, hJ.congr (fun r k hs => (F2 r k (by omega)).trans (F1 r k (by omega))), trivial⟩
/-- EveningFirst.shift -/
theorem pr_64 (x1 : Int32) (x2 : Int32) (g : G) (hI : Inv g) (hJ : j3 g) : ∃ (v : Int32) (g1 : G) (v' : Int32) (g2 : G), d_64 x1 x2 g = some (v, g1) ∧ d_147 x1 x2 g1 = some (v', g2) ∧ Inv g2 ∧ j3 g2 ∧ True := by
  obtain ⟨⟨v, g1⟩, e, h1⟩ := (s_64 x1 x2 g hI trivial)
  have F1 := f_64 x1 x2 g (v, g1) e
  obtain ⟨⟨v', g2⟩, f, h2⟩ := (s_147 x1 x2 g1 h1.1 trivial)
  have F2 := f_147 x1 x2 g1 (v', g2) f
  exact ⟨v, g1, v', g2, e, f, h2.1, hJ.congr (fun r k hs => (F2 r k (by omega)).trans (F1 r k (by omega))), trivial⟩
/-- EveningFirst.mark -/
theorem pr_65 (x1 : Int32) (x2 : Int32) (g : G) (hI : Inv g) (hJ : j3 g) : ∃ (v : Int32) (g1 : G) (v' : Int32) (g2 : G), d_65 x1 x2 g = some (v, g1) ∧ d_148 x1 x2 g1 = some (v', g2) ∧ Inv g2 ∧ j3 g2 ∧ True := by
  obtain ⟨⟨v, g1⟩, e, h1⟩ := (s_65 x1 x2 g hI trivial)
  have F1 := f_65 x1 x2 g (v, g1) e
  obtain ⟨⟨v', g2⟩, f, h2⟩ := (s_148 x1 x2 g1 h1.1 trivial)
  have F2 := f_148 x1 x2 g1 (v', g2) f
  exact ⟨v, g1, v', g2, e, f, h2.1, hJ.congr (fun r k hs => (F2 r k (by omega)).trans (F1 r k (by omega))), trivial⟩
/-- EveningFirst.odd -/
theorem pr_66 (x1 : Int32) (x2 : Int32) (g : G) (hI : Inv g) (hJ : j3 g) : ∃ (v : Int32) (g1 : G) (v' : Int32) (g2 : G), d_66 x1 x2 g = some (v, g1) ∧ d_149 x1 x2 g1 = some (v', g2) ∧ Inv g2 ∧ j3 g2 ∧ True := by
  obtain ⟨⟨v, g1⟩, e, h1⟩ := (s_66 x1 x2 g hI trivial)
  have F1 := f_66 x1 x2 g (v, g1) e
  obtain ⟨⟨v', g2⟩, f, h2⟩ := (s_149 x1 x2 g1 h1.1 trivial)
  have F2 := f_149 x1 x2 g1 (v', g2) f
  exact ⟨v, g1, v', g2, e, f, h2.1, hJ.congr (fun r k hs => (F2 r k (by omega)).trans (F1 r k (by omega))), trivial⟩
/-- EveningFirst.has -/
theorem pr_67 (x1 : Int32) (x2 : Int32) (x3 : Int32) (g : G) (hI : Inv g) (hJ : j3 g) : ∃ (v : Int32) (v' : Int32), d_67 x1 x2 x3 g = some v ∧ d_153 x1 x2 x3 g = some v' ∧ Inv g ∧ j3 g ∧ True := by
  obtain ⟨v, e, h1⟩ := (s_67 x1 x2 x3 g hI trivial)
  obtain ⟨v', f, h2⟩ := (s_153 x1 x2 x3 g hI trivial)
  exact ⟨v, v', e, f, hI, hJ.congr (fun r k hs => rfl), trivial⟩
/-- EveningFirst.hangs -/
theorem pr_68 (x1 : Int32) (g : G) (hI : Inv g) (hJ : j3 g) : ∃ (v : Int32) (g1 : G) (v' : Int32), d_68 x1 g = some (v, g1) ∧ d_154 x1 g1 = some v' ∧ Inv g1 ∧ j3 g1 ∧ True := by
  obtain ⟨⟨v, g1⟩, e, h1⟩ := (s_68 x1 g hI trivial)
  have F1 := f_68 x1 g (v, g1) e
  obtain ⟨v', f, h2⟩ := (s_154 x1 g1 h1.1 trivial)
  exact ⟨v, g1, v', e, f, h1.1, hJ.congr (fun r k hs => (F1 r k (by omega))), trivial⟩
/-- EveningFirst.lacks -/
theorem pr_69 (x1 : Int32) (x2 : Int32) (g : G) (hI : Inv g) (hJ : j3 g) : ∃ (v : Int32) (g1 : G) (v' : Int32), d_69 x1 x2 g = some (v, g1) ∧ d_156 x1 x2 g1 = some v' ∧ Inv g1 ∧ j3 g1 ∧ True := by
  obtain ⟨⟨v, g1⟩, e, h1⟩ := (s_69 x1 x2 g hI trivial)
  have F1 := f_69 x1 x2 g (v, g1) e
  obtain ⟨v', f, h2⟩ := (s_156 x1 x2 g1 h1.1 trivial)
  exact ⟨v, g1, v', e, f, h1.1, hJ.congr (fun r k hs => (F1 r k (by omega))), trivial⟩
/-- EveningFirst.days -/
theorem pr_70 (x1 : Int32) (g : G) (hI : Inv g) (hJ : j3 g) : ∃ (v : Int32) (g1 : G) (v' : Int32), d_70 x1 g = some (v, g1) ∧ d_160 x1 g1 = some v' ∧ Inv g1 ∧ j3 g1 ∧ True := by
  obtain ⟨⟨v, g1⟩, e, h1⟩ := (s_70 x1 g hI trivial)
  have F1 := f_70 x1 g (v, g1) e
  obtain ⟨v', f, h2⟩ := (s_160 x1 g1 h1.1 trivial)
  exact ⟨v, g1, v', e, f, h1.1, hJ.congr (fun r k hs => (F1 r k (by omega))), trivial⟩
/-- EveningFirst.greatest -/
theorem pr_71  (g : G) (hI : Inv g) (hJ : j3 g) : ∃ (v : Int32) (g1 : G) (v' : Int32), d_71 g = some (v, g1) ∧ d_162 g1 = some v' ∧ Inv g1 ∧ j3 g1 ∧ True := by
  obtain ⟨⟨v, g1⟩, e, h1⟩ := (s_71 g hI trivial)
  have F1 := f_71 g (v, g1) e
  obtain ⟨v', f, h2⟩ := (s_162 g1 h1.1 trivial)
  exact ⟨v, g1, v', e, f, h1.1, hJ.congr (fun r k hs => (F1 r k (by omega))), trivial⟩
/-- EveningFirst.made -/
theorem pr_72 (x1 : Int32) (g : G) (hI : Inv g) (hJ : j3 g) : ∃ (v : Int32) (g1 : G) (v' : Int32) (g2 : G), d_72 x1 g = some (v, g1) ∧ d_165 x1 g1 = some (v', g2) ∧ Inv g2 ∧ j3 g2 ∧ True := by
  obtain ⟨⟨v, g1⟩, e, h1⟩ := (s_72 x1 g hI trivial)
  have F1 := f_72 x1 g (v, g1) e
  obtain ⟨⟨v', g2⟩, f, h2⟩ := (s_165 x1 g1 h1.1 trivial)
  have F2 := f_165 x1 g1 (v', g2) f
  exact ⟨v, g1, v', g2, e, f, h2.1, hJ.congr (fun r k hs => (F2 r k (by omega)).trans (F1 r k (by omega))), trivial⟩
/-- EveningFirst.stop -/
theorem pr_73 (x1 : Int32) (g : G) (hI : Inv g) (hJ : j3 g) : ∃ (v : Int32) (g1 : G) (v' : Int32) (g2 : G), d_73 x1 g = some (v, g1) ∧ d_167 x1 g1 = some (v', g2) ∧ Inv g2 ∧ j3 g2 ∧ True := by
  obtain ⟨⟨v, g1⟩, e, h1⟩ := (s_73 x1 g hI trivial)
  have F1 := f_73 x1 g (v, g1) e
  obtain ⟨⟨v', g2⟩, f, h2⟩ := (s_167 x1 g1 h1.1 trivial)
  have F2 := f_167 x1 g1 (v', g2) f
  exact ⟨v, g1, v', g2, e, f, h2.1, hJ.congr (fun r k hs => (F2 r k (by omega)).trans (F1 r k (by omega))), trivial⟩
/-- EveningFirst.reach -/
theorem pr_74 (x1 : Int32) (x2 : Int32) (x3 : Int32) (x4 : Int32) (g : G) (hI : Inv g) (hJ : j3 g) : ∃ (v : Int32) (g1 : G) (v' : Int32), d_74 x1 x2 x3 x4 g = some (v, g1) ∧ d_168 x1 x2 x3 x4 g1 = some v' ∧ Inv g1 ∧ j3 g1 ∧ True := by
  obtain ⟨⟨v, g1⟩, e, h1⟩ := (s_74 x1 x2 x3 x4 g hI trivial)
  have F1 := f_74 x1 x2 x3 x4 g (v, g1) e
  obtain ⟨v', f, h2⟩ := (s_168 x1 x2 x3 x4 g1 h1.1 trivial)
  exact ⟨v, g1, v', e, f, h1.1, hJ.congr (fun r k hs => (F1 r k (by omega))), trivial⟩
/-- EveningFirst.better -/
theorem pr_75 (x1 : Int32) (x2 : Int32) (g : G) (hI : Inv g) (hJ : j3 g) : ∃ (v : Int32) (g1 : G) (v' : Int32) (g2 : G), d_75 x1 x2 g = some (v, g1) ∧ d_169 x1 x2 g1 = some (v', g2) ∧ Inv g2 ∧ j3 g2 ∧ True := by
  obtain ⟨⟨v, g1⟩, e, h1⟩ := (s_75 x1 x2 g hI trivial)
  have F1 := f_75 x1 x2 g (v, g1) e
  obtain ⟨⟨v', g2⟩, f, h2⟩ := (s_169 x1 x2 g1 h1.1 trivial)
  have F2 := f_169 x1 x2 g1 (v', g2) f
  exact ⟨v, g1, v', g2, e, f, h2.1, hJ.congr (fun r k hs => (F2 r k (by omega)).trans (F1 r k (by omega))), trivial⟩
/-- EveningFirst.common -/
theorem pr_76 (x1 : Int32) (x2 : Int32) (x3 : Int32) (g : G) (hI : Inv g) (hJ : j3 g) : ∃ (v : Int32) (g1 : G) (v' : Int32), d_76 x1 x2 x3 g = some (v, g1) ∧ d_170 x1 x2 x3 g1 = some v' ∧ Inv g1 ∧ j3 g1 ∧ True := by
  obtain ⟨⟨v, g1⟩, e, h1⟩ := (s_76 x1 x2 x3 g hI trivial)
  have F1 := f_76 x1 x2 x3 g (v, g1) e
  obtain ⟨v', f, h2⟩ := (s_170 x1 x2 x3 g1 h1.1 trivial)
  exact ⟨v, g1, v', e, f, h1.1, hJ.congr (fun r k hs => (F1 r k (by omega))), trivial⟩
/-- EveningFirst.odds -/
theorem pr_77 (x1 : Int32) (g : G) (hI : Inv g) (hJ : j3 g) : ∃ (v : Int64) (g1 : G) (v' : Int64), d_77 x1 g = some (v, g1) ∧ d_173 x1 g1 = some v' ∧ Inv g1 ∧ j3 g1 ∧ True := by
  obtain ⟨⟨v, g1⟩, e, h1⟩ := (s_77 x1 g hI trivial)
  have F1 := f_77 x1 g (v, g1) e
  obtain ⟨v', f, h2⟩ := (s_173 x1 g1 h1.1 trivial)
  exact ⟨v, g1, v', e, f, h1.1, hJ.congr (fun r k hs => (F1 r k (by omega))), trivial⟩
/-- EveningFirst.luck -/
theorem pr_78 (x1 : Int32) (x2 : Int32) (x3 : Int32) (x4 : Int32) (g : G) (hI : Inv g) (hJ : j3 g) : ∃ (v : Int64) (g1 : G) (v' : Int64), d_78 x1 x2 x3 x4 g = some (v, g1) ∧ d_174 x1 x2 x3 x4 g1 = some v' ∧ Inv g1 ∧ j3 g1 ∧ True := by
  obtain ⟨⟨v, g1⟩, e, h1⟩ := (s_78 x1 x2 x3 x4 g hI trivial)
  have F1 := f_78 x1 x2 x3 x4 g (v, g1) e
  obtain ⟨v', f, h2⟩ := (s_174 x1 x2 x3 x4 g1 h1.1 trivial)
  exact ⟨v, g1, v', e, f, h1.1, hJ.congr (fun r k hs => (F1 r k (by omega))), trivial⟩
/-- EveningFirst.see -/
theorem pr_79 (x1 : Int32) (x2 : Int32) (x3 : Int32) (x4 : Int32) (g : G) (hI : Inv g) (hJ : j3 g) (hx4 : x4 = 0 ∨ x4 = 1) : ∃ (v : Int32) (g1 : G) (v' : Int32) (g2 : G), d_79 x1 x2 x3 x4 g = some (v, g1) ∧ d_175 x1 x2 x3 x4 g1 = some (v', g2) ∧ Inv g2 ∧ j3 g2 ∧ True := by
  obtain ⟨⟨v, g1⟩, e, h1⟩ := (s_79 x1 x2 x3 x4 g hI (by rcases hx4 with rfl | rfl <;> decide))
  have F1 := f_79 x1 x2 x3 x4 g (v, g1) e
  obtain ⟨⟨v', g2⟩, f, h2⟩ := (s_175 x1 x2 x3 x4 g1 h1.1 trivial)
  have F2 := f_175 x1 x2 x3 x4 g1 (v', g2) f
  exact ⟨v, g1, v', g2, e, f, h2.1, hJ.congr (fun r k hs => (F2 r k (by omega)).trans (F1 r k (by omega))), trivial⟩
/-- EveningFirst.forget -/
theorem pr_80 (x1 : Int32) (g : G) (hI : Inv g) (hJ : j3 g) : ∃ (v : Int32) (g1 : G) (v' : Int32) (g2 : G), d_80 x1 g = (v, g1) ∧ d_176 x1 g1 = some (v', g2) ∧ Inv g2 ∧ j3 g2 ∧ True := by
  obtain ⟨v, g1, e⟩ : ∃ q1 q2, d_80 x1 g = (q1, q2) := ⟨_, _, rfl⟩
  have h1 := (s_80 x1 g hI trivial)
  rw [e] at h1
  have F1 := f_80 x1 g
  rw [e] at F1
  obtain ⟨⟨v', g2⟩, f, h2⟩ := (s_176 x1 g1 h1.1 trivial)
  have F2 := f_176 x1 g1 (v', g2) f
  exact ⟨v, g1, v', g2, e, f, h2.1, hJ.congr (fun r k hs => (F2 r k (by omega)).trans (F1 r k (by omega))), trivial⟩
/-- EveningFirst.ways -/
theorem pr_81 (x1 : Int32) (g : G) (hI : Inv g) (hJ : j3 g) : ∃ (v : Int32) (g1 : G) (v' : Int32) (g2 : G), d_81 x1 g = some (v, g1) ∧ d_178 x1 g1 = some (v', g2) ∧ Inv g2 ∧ j3 g2 ∧ True := by
  obtain ⟨⟨v, g1⟩, e, h1⟩ := (s_81 x1 g hI trivial)
  have F1 := f_81 x1 g (v, g1) e
  obtain ⟨⟨v', g2⟩, f, h2⟩ := (s_178 x1 g1 h1.1 trivial)
  have F2 := f_178 x1 g1 (v', g2) f
  exact ⟨v, g1, v', g2, e, f, h2.1, hJ.congr (fun r k hs => (F2 r k (by omega)).trans (F1 r k (by omega))), trivial⟩
/-- EveningFirst.walk -/
theorem pr_82 (x1 : Int32) (x2 : Int32) (g : G) (hI : Inv g) (hJ : j3 g) : ∃ (v : Int32) (g1 : G) (v' : Int32), d_82 x1 x2 g = some (v, g1) ∧ d_179 x1 x2 g1 = some v' ∧ Inv g1 ∧ j3 g1 ∧ True := by
  obtain ⟨⟨v, g1⟩, e, h1⟩ := (s_82 x1 x2 g hI trivial)
  have F1 := f_82 x1 x2 g (v, g1) e
  obtain ⟨v', f, h2⟩ := (s_179 x1 x2 g1 h1.1 trivial)
  exact ⟨v, g1, v', e, f, h1.1, hJ.congr (fun r k hs => (F1 r k (by omega))), trivial⟩
/-- EveningFirst.keep -/
theorem pr_83 (x1 : Int32) (g : G) (hI : Inv g) (hJ : j3 g) : ∃ (v : Int32) (g1 : G) (v' : Int32) (g2 : G), d_83 x1 g = some (v, g1) ∧ d_181 x1 g1 = some (v', g2) ∧ Inv g2 ∧ j3 g2 ∧ True := by
  obtain ⟨⟨v, g1⟩, e, h1⟩ := (s_83 x1 g hI trivial)
  have F1 := f_83 x1 g (v, g1) e
  obtain ⟨⟨v', g2⟩, f, h2⟩ := (s_181 x1 g1 h1.1 trivial)
  have F2 := f_181 x1 g1 (v', g2) f
  exact ⟨v, g1, v', g2, e, f, h2.1, hJ.congr (fun r k hs => (F2 r k (by omega)).trans (F1 r k (by omega))), trivial⟩
/-- EveningFirst.back -/
theorem pr_84 (x1 : Int32) (g : G) (hI : Inv g) (hJ : j3 g) : ∃ (v : Int32) (g1 : G) (v' : Int32) (g2 : G), d_84 x1 g = some (v, g1) ∧ d_182 x1 g1 = some (v', g2) ∧ Inv g2 ∧ j3 g2 ∧ True := by
  obtain ⟨⟨v, g1⟩, e, h1⟩ := (s_84 x1 g hI trivial)
  have F1 := f_84 x1 g (v, g1) e
  obtain ⟨⟨v', g2⟩, f, h2⟩ := (s_182 x1 g1 h1.1 trivial)
  have F2 := f_182 x1 g1 (v', g2) f
  exact ⟨v, g1, v', g2, e, f, h2.1, hJ.congr (fun r k hs => (F2 r k (by omega)).trans (F1 r k (by omega))), trivial⟩
/-- EveningFirst.sheet -/
theorem pr_85 (x1 : Int32) (x2 : Int32) (x3 : Int32) (g : G) (hI : Inv g) (hJ : j3 g) : ∃ (v : Int32) (g1 : G) (v' : Int32) (g2 : G), d_85 x1 x2 x3 g = some (v, g1) ∧ d_184 x1 x2 x3 g1 = some (v', g2) ∧ Inv g2 ∧ j3 g2 ∧ v = v' := by
  obtain ⟨⟨v, g1⟩, e, h1⟩ := (s_85 x1 x2 x3 g hI trivial)
  have F1 := f_85 x1 x2 x3 g (v, g1) e
  obtain ⟨⟨v', g2⟩, f, h2⟩ := (s_184 x1 x2 x3 g1 h1.1 trivial)
  have F2 := f_184 x1 x2 x3 g1 (v', g2) f
  have q := q_85 hI h1.1 (fun k hk => (hJ.2 k hk).congr (fun r j hr => rfl) (fun r j hr => F1 r j (by omega))) e f
  refine ⟨v, g1, v', g2, e, f, h2.1, ⟨?_, fun k hk => (q.2 k hk).congr (fun r j hr => F2 r j (by omega)) (fun r j hr => rfl)⟩, q.1⟩
  exact ((F2 28 1 (by omega)).trans (F1 28 1 (by omega))).trans (hJ.1.trans ((F2 113 14 (by omega)).trans (F1 113 14 (by omega))).symm)
/-- EveningFirst.lay -/
theorem pr_86 (x1 : Int32) (x2 : Int32) (x3 : Int32) (g : G) (hI : Inv g) (hJ : j3 g) : ∃ (v : Int32) (g1 : G) (v' : Int32) (g2 : G), d_86 x1 x2 x3 g = some (v, g1) ∧ d_185 x1 x2 x3 g1 = some (v', g2) ∧ Inv g2 ∧ j3 g2 ∧ v = v' := by
  obtain ⟨⟨v, g1⟩, e, h1⟩ := (s_86 x1 x2 x3 g hI trivial)
  have F1 := f_86 x1 x2 x3 g (v, g1) e
  obtain ⟨⟨v', g2⟩, f, h2⟩ := (s_185 x1 x2 x3 g1 h1.1 trivial)
  have F2 := f_185 x1 x2 x3 g1 (v', g2) f
  have q := q_86 hI h1.1 (fun k hk => (hJ.2 k hk).congr (fun r j hr => rfl) (fun r j hr => F1 r j (by omega))) e f
  refine ⟨v, g1, v', g2, e, f, h2.1, ⟨?_, fun k hk => (q.2 k hk).congr (fun r j hr => F2 r j (by omega)) (fun r j hr => rfl)⟩, q.1⟩
  exact ((F2 28 1 (by omega)).trans (F1 28 1 (by omega))).trans (hJ.1.trans ((F2 113 14 (by omega)).trans (F1 113 14 (by omega))).symm)
/-- EveningFirst.read -/
theorem pr_87 (x1 : Int32) (x2 : Int32) (x3 : Int32) (x4 : Int32) (g : G) (hI : Inv g) (hJ : j3 g) : ∃ (v : Int32) (g1 : G) (v' : Int32) (g2 : G), d_87 x1 x2 x3 x4 g = some (v, g1) ∧ d_186 x1 x2 x3 x4 g1 = some (v', g2) ∧ Inv g2 ∧ j3 g2 ∧ True := by
  obtain ⟨⟨v, g1⟩, e, h1⟩ := (s_87 x1 x2 x3 x4 g hI trivial)
  have F1 := f_87 x1 x2 x3 x4 g (v, g1) e
  obtain ⟨⟨v', g2⟩, f, h2⟩ := (s_186 x1 x2 x3 x4 g1 h1.1 trivial)
  have F2 := f_186 x1 x2 x3 x4 g1 (v', g2) f
  exact ⟨v, g1, v', g2, e, f, h2.1, hJ.congr (fun r k hs => (F2 r k (by omega)).trans (F1 r k (by omega))), trivial⟩
/-- EveningFirst.torn -/
theorem pr_88  (g : G) (hI : Inv g) (hJ : j3 g) : ∃ (v : Int32) (v' : Int32), d_88 g = v ∧ d_187 g = v' ∧ Inv g ∧ j3 g ∧ True := by
  obtain ⟨v, e⟩ : ∃ q1, d_88 g = q1 := ⟨_, rfl⟩
  obtain ⟨v', f⟩ : ∃ q1, d_187 g = q1 := ⟨_, rfl⟩
  exact ⟨v, v', e, f, hI, hJ.congr (fun r k hs => rfl), trivial⟩
/-- EveningFirst.count -/
theorem pr_89 (x1 : Int32) (g : G) (hI : Inv g) (hJ : j3 g) : ∃ (v : Int32) (g1 : G) (v' : Int32), d_89 x1 g = some (v, g1) ∧ d_188 x1 g1 = some v' ∧ Inv g1 ∧ j3 g1 ∧ True := by
  obtain ⟨⟨v, g1⟩, e, h1⟩ := (s_89 x1 g hI trivial)
  have F1 := f_89 x1 g (v, g1) e
  obtain ⟨v', f, h2⟩ := (s_188 x1 g1 h1.1 trivial)
  exact ⟨v, g1, v', e, f, h1.1, hJ.congr (fun r k hs => (F1 r k (by omega))), trivial⟩
