/-! one call, on both sides (printed by wip/tools/law.py) -/
def JR (g : G) : Prop := Rel g g
/-- EveningFirst.feed -/
theorem pr_54 (x1 : Int32) (g : G) (hI : Inv g) (hJ : JR g) : ∃ (v : Int32) (g1 : G) (v' : Int32) (g2 : G), d_54 x1 g = some (v, g1) ∧ d_111 x1 g1 = some (v', g2) ∧ Inv g2 ∧ JR g2 ∧ v = v' := by
  obtain ⟨⟨v, g1⟩, e, h1⟩ := (s_54 x1 g hI trivial)
  have F1 := f_54 x1 g (v, g1) e
  obtain ⟨⟨v', g2⟩, f, h2⟩ := (s_111 x1 g1 h1.1 trivial)
  have F2 := f_111 x1 g1 (v', g2) f
  have q := r_54 hI h1.1 (Rel.mo hJ (fun r k hr => F1 r k (by omega))) e f
  exact ⟨v, g1, v', g2, e, f, h2.1, Rel.cl q.2 (fun r k hr => F2 r k (by omega)), q.1⟩
/-- EveningFirst.end -/
theorem pr_55 (x1 : Int32) (g : G) (hI : Inv g) (hJ : JR g) : ∃ (v : Int32) (g1 : G) (v' : Int32) (g2 : G), d_55 x1 g = (v, g1) ∧ d_112 x1 g1 = (v', g2) ∧ Inv g2 ∧ JR g2 ∧ v = v' := by
  obtain ⟨v, g1, e⟩ : ∃ q1 q2, d_55 x1 g = (q1, q2) := ⟨_, _, rfl⟩
  have h1 := (s_55 x1 g hI trivial)
  rw [e] at h1
  have F1 := f_55 x1 g
  rw [e] at F1
  obtain ⟨v', g2, f⟩ : ∃ q1 q2, d_112 x1 g1 = (q1, q2) := ⟨_, _, rfl⟩
  have h2 := (s_112 x1 g1 h1.1 trivial)
  rw [f] at h2
  have F2 := f_112 x1 g1
  rw [f] at F2
  have q := r_55 hI h1.1 (Rel.mo hJ (fun r k hr => F1 r k (by omega))) e f
  exact ⟨v, g1, v', g2, e, f, h2.1, Rel.cl q.2 (fun r k hr => F2 r k (by omega)), q.1⟩
/-- EveningFirst.text -/
theorem pr_56  (g : G) (hI : Inv g) (hJ : JR g) : ∃ (v : Int32) (g1 : G) (v' : Int32) (g2 : G), d_56 g = some (v, g1) ∧ d_129 g1 = some (v', g2) ∧ Inv g2 ∧ JR g2 ∧ v = v' := by
  obtain ⟨⟨v, g1⟩, e, h1⟩ := (s_56 g hI trivial)
  have F1 := f_56 g (v, g1) e
  obtain ⟨⟨v', g2⟩, f, h2⟩ := (s_129 g1 h1.1 trivial)
  have F2 := f_129 g1 (v', g2) f
  have q := r_56 hI h1.1 (Rel.mo hJ (fun r k hr => F1 r k (by omega))) e f
  exact ⟨v, g1, v', g2, e, f, h2.1, Rel.cl q.2 (fun r k hr => F2 r k (by omega)), q.1⟩
/-- EveningFirst.fault -/
theorem pr_57  (g : G) (hI : Inv g) (hJ : JR g) : ∃ (v : Int32) (v' : Int32), d_57 g = v ∧ d_130 g = v' ∧ Inv g ∧ JR g ∧ v = v' := by
  obtain ⟨v, e⟩ : ∃ q1, d_57 g = q1 := ⟨_, rfl⟩
  obtain ⟨v', f⟩ : ∃ q1, d_130 g = q1 := ⟨_, rfl⟩
  have q := r_57 hI hI hJ e f
  exact ⟨v, v', e, f, hI, q.2, q.1⟩
/-- EveningFirst.rule -/
theorem pr_58 (x1 : Int32) (g : G) (hI : Inv g) (hJ : JR g) : ∃ (v : Int32) (v' : Int32), d_58 x1 g = v ∧ d_139 x1 g = v' ∧ Inv g ∧ JR g ∧ v = v' := by
  obtain ⟨v, e⟩ : ∃ q1, d_58 x1 g = q1 := ⟨_, rfl⟩
  obtain ⟨v', f⟩ : ∃ q1, d_139 x1 g = q1 := ⟨_, rfl⟩
  have q := r_58 hI hI hJ e f
  exact ⟨v, v', e, f, hI, q.2, q.1⟩
/-- EveningFirst.one -/
theorem pr_59 (x1 : Int32) (x2 : Int32) (g : G) (hI : Inv g) (hJ : JR g) : ∃ (v : Int32) (v' : Int32), d_59 x1 x2 g = some v ∧ d_140 x1 x2 g = some v' ∧ Inv g ∧ JR g ∧ v = v' := by
  obtain ⟨v, e, h1⟩ := (s_59 x1 x2 g hI trivial)
  obtain ⟨v', f, h2⟩ := (s_140 x1 x2 g hI trivial)
  exact ⟨v, v', e, f, hI, Rel.cg hJ (fun r k hs => rfl) (fun r k hs => rfl), a_59 hI hI hJ e f⟩
/-- EveningFirst.deed -/
theorem pr_60 (x1 : Int32) (x2 : Int32) (g : G) (hI : Inv g) (hJ : JR g) : ∃ (v : Int32) (v' : Int32), d_60 x1 x2 g = some v ∧ d_141 x1 x2 g = some v' ∧ Inv g ∧ JR g ∧ v = v' := by
  obtain ⟨v, e, h1⟩ := (s_60 x1 x2 g hI trivial)
  obtain ⟨v', f, h2⟩ := (s_141 x1 x2 g hI trivial)
  have q := r_60 hI hI hJ e f
  exact ⟨v, v', e, f, hI, q.2, q.1⟩
/-- EveningFirst.go -/
theorem pr_61 (x1 : Int32) (x2 : Int32) (g : G) (hI : Inv g) (hJ : JR g) : ∃ (v : Int32) (g1 : G) (v' : Int32) (g2 : G), d_61 x1 x2 g = some (v, g1) ∧ d_143 x1 x2 g1 = some (v', g2) ∧ Inv g2 ∧ JR g2 ∧ v = v' := by
  obtain ⟨⟨v, g1⟩, e, h1⟩ := (s_61 x1 x2 g hI trivial)
  have F1 := f_61 x1 x2 g (v, g1) e
  obtain ⟨⟨v', g2⟩, f, h2⟩ := (s_143 x1 x2 g1 h1.1 trivial)
  have F2 := f_143 x1 x2 g1 (v', g2) f
  have q := r_61 hI h1.1 (Rel.mo hJ (fun r k hr => F1 r k (by omega))) e f
  exact ⟨v, g1, v', g2, e, f, h2.1, Rel.cl q.2 (fun r k hr => F2 r k (by omega)), q.1⟩
/-- EveningFirst.birth -/
theorem pr_62 (x1 : Int32) (x2 : Int32) (g : G) (hI : Inv g) (hJ : JR g) : ∃ (v : Int32) (g1 : G) (v' : Int32) (g2 : G), d_62 x1 x2 g = some (v, g1) ∧ d_145 x1 x2 g1 = some (v', g2) ∧ Inv g2 ∧ JR g2 ∧ v = v' := by
  obtain ⟨⟨v, g1⟩, e, h1⟩ := (s_62 x1 x2 g hI trivial)
  have F1 := f_62 x1 x2 g (v, g1) e
  obtain ⟨⟨v', g2⟩, f, h2⟩ := (s_145 x1 x2 g1 h1.1 trivial)
  have F2 := f_145 x1 x2 g1 (v', g2) f
  have q := r_62 hI h1.1 (Rel.mo hJ (fun r k hr => F1 r k (by omega))) e f
  exact ⟨v, g1, v', g2, e, f, h2.1, Rel.cl q.2 (fun r k hr => F2 r k (by omega)), q.1⟩
/-- EveningFirst.does -/
theorem pr_63 (x1 : Int32) (x2 : Int32) (x3 : Int32) (x4 : Int32) (x5 : Int32) (g : G) (hI : Inv g) (hJ : JR g) : ∃ (v : Int32) (g1 : G) (v' : Int32) (g2 : G), d_63 x1 x2 x3 x4 x5 g = some (v, g1) ∧ d_146 x1 x2 x3 x4 x5 g1 = some (v', g2) ∧ Inv g2 ∧ JR g2 ∧ v = v' := by
  obtain ⟨⟨v, g1⟩, e, h1⟩ := (s_63 x1 x2 x3 x4 x5 g hI trivial)
  have F1 := f_63 x1 x2 x3 x4 x5 g (v, g1) e
  obtain ⟨⟨v', g2⟩, f, h2⟩ := (s_146 x1 x2 x3 x4 x5 g1 h1.1 trivial)
  have F2 := f_146 x1 x2 x3 x4 x5 g1 (v', g2) f
  have q := r_63 hI h1.1 (Rel.mo hJ (fun r k hr => F1 r k (by omega))) e f
  exact ⟨v, g1, v', g2, e, f, h2.1, Rel.cl q.2 (fun r k hr => F2 r k (by omega)), q.1⟩
/-- EveningFirst.shift -/
theorem pr_64 (x1 : Int32) (x2 : Int32) (g : G) (hI : Inv g) (hJ : JR g) : ∃ (v : Int32) (g1 : G) (v' : Int32) (g2 : G), d_64 x1 x2 g = some (v, g1) ∧ d_147 x1 x2 g1 = some (v', g2) ∧ Inv g2 ∧ JR g2 ∧ v = v' := by
  obtain ⟨⟨v, g1⟩, e, h1⟩ := (s_64 x1 x2 g hI trivial)
  have F1 := f_64 x1 x2 g (v, g1) e
  obtain ⟨⟨v', g2⟩, f, h2⟩ := (s_147 x1 x2 g1 h1.1 trivial)
  have F2 := f_147 x1 x2 g1 (v', g2) f
  have q := r_64 hI h1.1 (Rel.mo hJ (fun r k hr => F1 r k (by omega))) e f
  exact ⟨v, g1, v', g2, e, f, h2.1, Rel.cl q.2 (fun r k hr => F2 r k (by omega)), q.1⟩
/-- EveningFirst.mark -/
theorem pr_65 (x1 : Int32) (x2 : Int32) (g : G) (hI : Inv g) (hJ : JR g) : ∃ (v : Int32) (g1 : G) (v' : Int32) (g2 : G), d_65 x1 x2 g = some (v, g1) ∧ d_148 x1 x2 g1 = some (v', g2) ∧ Inv g2 ∧ JR g2 ∧ v = v' := by
  obtain ⟨⟨v, g1⟩, e, h1⟩ := (s_65 x1 x2 g hI trivial)
  have F1 := f_65 x1 x2 g (v, g1) e
  obtain ⟨⟨v', g2⟩, f, h2⟩ := (s_148 x1 x2 g1 h1.1 trivial)
  have F2 := f_148 x1 x2 g1 (v', g2) f
  have q := r_65 hI h1.1 (Rel.mo hJ (fun r k hr => F1 r k (by omega))) e f
  exact ⟨v, g1, v', g2, e, f, h2.1, Rel.cl q.2 (fun r k hr => F2 r k (by omega)), q.1⟩
/-- EveningFirst.odd -/
theorem pr_66 (x1 : Int32) (x2 : Int32) (g : G) (hI : Inv g) (hJ : JR g) : ∃ (v : Int32) (g1 : G) (v' : Int32) (g2 : G), d_66 x1 x2 g = some (v, g1) ∧ d_149 x1 x2 g1 = some (v', g2) ∧ Inv g2 ∧ JR g2 ∧ v = v' := by
  obtain ⟨⟨v, g1⟩, e, h1⟩ := (s_66 x1 x2 g hI trivial)
  have F1 := f_66 x1 x2 g (v, g1) e
  obtain ⟨⟨v', g2⟩, f, h2⟩ := (s_149 x1 x2 g1 h1.1 trivial)
  have F2 := f_149 x1 x2 g1 (v', g2) f
  have q := r_66 hI h1.1 (Rel.mo hJ (fun r k hr => F1 r k (by omega))) e f
  exact ⟨v, g1, v', g2, e, f, h2.1, Rel.cl q.2 (fun r k hr => F2 r k (by omega)), q.1⟩
/-- EveningFirst.has -/
theorem pr_67 (x1 : Int32) (x2 : Int32) (x3 : Int32) (g : G) (hI : Inv g) (hJ : JR g) : ∃ (v : Int32) (v' : Int32), d_67 x1 x2 x3 g = some v ∧ d_153 x1 x2 x3 g = some v' ∧ Inv g ∧ JR g ∧ v = v' := by
  obtain ⟨v, e, h1⟩ := (s_67 x1 x2 x3 g hI trivial)
  obtain ⟨v', f, h2⟩ := (s_153 x1 x2 x3 g hI trivial)
  exact ⟨v, v', e, f, hI, Rel.cg hJ (fun r k hs => rfl) (fun r k hs => rfl), a_67 hI hI hJ e f⟩
/-- EveningFirst.hangs -/
theorem pr_68 (x1 : Int32) (g : G) (hI : Inv g) (hJ : JR g) : ∃ (v : Int32) (g1 : G) (v' : Int32), d_68 x1 g = some (v, g1) ∧ d_154 x1 g1 = some v' ∧ Inv g1 ∧ JR g1 ∧ v = v' := by
  obtain ⟨⟨v, g1⟩, e, h1⟩ := (s_68 x1 g hI trivial)
  have F1 := f_68 x1 g (v, g1) e
  obtain ⟨v', f, h2⟩ := (s_154 x1 g1 h1.1 trivial)
  exact ⟨v, g1, v', e, f, h1.1, Rel.cg hJ (fun r k hs => (F1 r k (by omega))) (fun r k hs => (F1 r k (by omega))), a_68 hI h1.1 (Rel.mo hJ (fun r k hr => F1 r k (by omega))) e f⟩
/-- EveningFirst.lacks -/
theorem pr_69 (x1 : Int32) (x2 : Int32) (g : G) (hI : Inv g) (hJ : JR g) : ∃ (v : Int32) (g1 : G) (v' : Int32), d_69 x1 x2 g = some (v, g1) ∧ d_156 x1 x2 g1 = some v' ∧ Inv g1 ∧ JR g1 ∧ v = v' := by
  obtain ⟨⟨v, g1⟩, e, h1⟩ := (s_69 x1 x2 g hI trivial)
  have F1 := f_69 x1 x2 g (v, g1) e
  obtain ⟨v', f, h2⟩ := (s_156 x1 x2 g1 h1.1 trivial)
  exact ⟨v, g1, v', e, f, h1.1, Rel.cg hJ (fun r k hs => (F1 r k (by omega))) (fun r k hs => (F1 r k (by omega))), a_69 hI h1.1 (Rel.mo hJ (fun r k hr => F1 r k (by omega))) e f⟩
/-- EveningFirst.days -/
theorem pr_70 (x1 : Int32) (g : G) (hI : Inv g) (hJ : JR g) : ∃ (v : Int32) (g1 : G) (v' : Int32), d_70 x1 g = some (v, g1) ∧ d_160 x1 g1 = some v' ∧ Inv g1 ∧ JR g1 ∧ v = v' := by
  obtain ⟨⟨v, g1⟩, e, h1⟩ := (s_70 x1 g hI trivial)
  have F1 := f_70 x1 g (v, g1) e
  obtain ⟨v', f, h2⟩ := (s_160 x1 g1 h1.1 trivial)
  exact ⟨v, g1, v', e, f, h1.1, Rel.cg hJ (fun r k hs => (F1 r k (by omega))) (fun r k hs => (F1 r k (by omega))), a_70 hI h1.1 (Rel.mo hJ (fun r k hr => F1 r k (by omega))) e f⟩
/-- EveningFirst.greatest -/
theorem pr_71  (g : G) (hI : Inv g) (hJ : JR g) : ∃ (v : Int32) (g1 : G) (v' : Int32), d_71 g = some (v, g1) ∧ d_162 g1 = some v' ∧ Inv g1 ∧ JR g1 ∧ v = v' := by
  obtain ⟨⟨v, g1⟩, e, h1⟩ := (s_71 g hI trivial)
  have F1 := f_71 g (v, g1) e
  obtain ⟨v', f, h2⟩ := (s_162 g1 h1.1 trivial)
  exact ⟨v, g1, v', e, f, h1.1, Rel.cg hJ (fun r k hs => (F1 r k (by omega))) (fun r k hs => (F1 r k (by omega))), a_71 hI h1.1 (Rel.mo hJ (fun r k hr => F1 r k (by omega))) e f⟩
/-- EveningFirst.made -/
theorem pr_72 (x1 : Int32) (g : G) (hI : Inv g) (hJ : JR g) : ∃ (v : Int32) (g1 : G) (v' : Int32) (g2 : G), d_72 x1 g = some (v, g1) ∧ d_165 x1 g1 = some (v', g2) ∧ Inv g2 ∧ JR g2 ∧ v = v' := by
  obtain ⟨⟨v, g1⟩, e, h1⟩ := (s_72 x1 g hI trivial)
  have F1 := f_72 x1 g (v, g1) e
  obtain ⟨⟨v', g2⟩, f, h2⟩ := (s_165 x1 g1 h1.1 trivial)
  have F2 := f_165 x1 g1 (v', g2) f
  exact ⟨v, g1, v', g2, e, f, h2.1, Rel.cg hJ (fun r k hs => (F2 r k (by omega)).trans (F1 r k (by omega))) (fun r k hs => (F2 r k (by omega)).trans (F1 r k (by omega))), a_72 hI h1.1 (Rel.mo hJ (fun r k hr => F1 r k (by omega))) e f⟩
/-- EveningFirst.stop -/
theorem pr_73 (x1 : Int32) (g : G) (hI : Inv g) (hJ : JR g) : ∃ (v : Int32) (g1 : G) (v' : Int32) (g2 : G), d_73 x1 g = some (v, g1) ∧ d_167 x1 g1 = some (v', g2) ∧ Inv g2 ∧ JR g2 ∧ v = v' := by
  obtain ⟨⟨v, g1⟩, e, h1⟩ := (s_73 x1 g hI trivial)
  have F1 := f_73 x1 g (v, g1) e
  obtain ⟨⟨v', g2⟩, f, h2⟩ := (s_167 x1 g1 h1.1 trivial)
  have F2 := f_167 x1 g1 (v', g2) f
  have K2 := k_167 (Inv.m8 h1.1).2 f
  exact ⟨v, g1, v', g2, e, f, h2.1, Rel.cg hJ (fun r k hs => (F2 r k (by omega)).trans (F1 r k (by omega))) (fun r k hs => (K2 r k (by omega)).trans (F1 r k (by omega))), a_73 hI h1.1 (Rel.mo hJ (fun r k hr => F1 r k (by omega))) e f⟩
/-- EveningFirst.reach -/
theorem pr_74 (x1 : Int32) (x2 : Int32) (x3 : Int32) (x4 : Int32) (g : G) (hI : Inv g) (hJ : JR g) : ∃ (v : Int32) (g1 : G) (v' : Int32), d_74 x1 x2 x3 x4 g = some (v, g1) ∧ d_168 x1 x2 x3 x4 g1 = some v' ∧ Inv g1 ∧ JR g1 ∧ v = v' := by
  obtain ⟨⟨v, g1⟩, e, h1⟩ := (s_74 x1 x2 x3 x4 g hI trivial)
  have F1 := f_74 x1 x2 x3 x4 g (v, g1) e
  obtain ⟨v', f, h2⟩ := (s_168 x1 x2 x3 x4 g1 h1.1 trivial)
  exact ⟨v, g1, v', e, f, h1.1, Rel.cg hJ (fun r k hs => (F1 r k (by omega))) (fun r k hs => (F1 r k (by omega))), a_74 hI h1.1 (Rel.mo hJ (fun r k hr => F1 r k (by omega))) e f⟩
/-- EveningFirst.better -/
theorem pr_75 (x1 : Int32) (x2 : Int32) (g : G) (hI : Inv g) (hJ : JR g) : ∃ (v : Int32) (g1 : G) (v' : Int32) (g2 : G), d_75 x1 x2 g = some (v, g1) ∧ d_169 x1 x2 g1 = some (v', g2) ∧ Inv g2 ∧ JR g2 ∧ v = v' := by
  obtain ⟨⟨v, g1⟩, e, h1⟩ := (s_75 x1 x2 g hI trivial)
  have F1 := f_75 x1 x2 g (v, g1) e
  obtain ⟨⟨v', g2⟩, f, h2⟩ := (s_169 x1 x2 g1 h1.1 trivial)
  have F2 := f_169 x1 x2 g1 (v', g2) f
  have K2 := k_169 f
  exact ⟨v, g1, v', g2, e, f, h2.1, Rel.cg hJ (fun r k hs => (F2 r k (by omega)).trans (F1 r k (by omega))) (fun r k hs => (K2 r k).trans (F1 r k (by omega))), a_75 hI h1.1 (Rel.mo hJ (fun r k hr => F1 r k (by omega))) e f⟩
/-- EveningFirst.common -/
theorem pr_76 (x1 : Int32) (x2 : Int32) (x3 : Int32) (g : G) (hI : Inv g) (hJ : JR g) : ∃ (v : Int32) (g1 : G) (v' : Int32), d_76 x1 x2 x3 g = some (v, g1) ∧ d_170 x1 x2 x3 g1 = some v' ∧ Inv g1 ∧ JR g1 ∧ v = v' := by
  obtain ⟨⟨v, g1⟩, e, h1⟩ := (s_76 x1 x2 x3 g hI trivial)
  have F1 := f_76 x1 x2 x3 g (v, g1) e
  obtain ⟨v', f, h2⟩ := (s_170 x1 x2 x3 g1 h1.1 trivial)
  exact ⟨v, g1, v', e, f, h1.1, Rel.cg hJ (fun r k hs => (F1 r k (by omega))) (fun r k hs => (F1 r k (by omega))), a_76 hI h1.1 (Rel.mo hJ (fun r k hr => F1 r k (by omega))) e f⟩
/-- EveningFirst.odds -/
theorem pr_77 (x1 : Int32) (g : G) (hI : Inv g) (hJ : JR g) : ∃ (v : Int64) (g1 : G) (v' : Int64), d_77 x1 g = some (v, g1) ∧ d_173 x1 g1 = some v' ∧ Inv g1 ∧ JR g1 ∧ v = v' := by
  obtain ⟨⟨v, g1⟩, e, h1⟩ := (s_77 x1 g hI trivial)
  have F1 := f_77 x1 g (v, g1) e
  obtain ⟨v', f, h2⟩ := (s_173 x1 g1 h1.1 trivial)
  exact ⟨v, g1, v', e, f, h1.1, Rel.cg hJ (fun r k hs => (F1 r k (by omega))) (fun r k hs => (F1 r k (by omega))), a_77 hI h1.1 (Rel.mo hJ (fun r k hr => F1 r k (by omega))) e f⟩
/-- EveningFirst.luck -/
theorem pr_78 (x1 : Int32) (x2 : Int32) (x3 : Int32) (x4 : Int32) (g : G) (hI : Inv g) (hJ : JR g) : ∃ (v : Int64) (g1 : G) (v' : Int64), d_78 x1 x2 x3 x4 g = some (v, g1) ∧ d_174 x1 x2 x3 x4 g1 = some v' ∧ Inv g1 ∧ JR g1 ∧ v = v' := by
  obtain ⟨⟨v, g1⟩, e, h1⟩ := (s_78 x1 x2 x3 x4 g hI trivial)
  have F1 := f_78 x1 x2 x3 x4 g (v, g1) e
  obtain ⟨v', f, h2⟩ := (s_174 x1 x2 x3 x4 g1 h1.1 trivial)
  exact ⟨v, g1, v', e, f, h1.1, Rel.cg hJ (fun r k hs => (F1 r k (by omega))) (fun r k hs => (F1 r k (by omega))), a_78 hI h1.1 (Rel.mo hJ (fun r k hr => F1 r k (by omega))) e f⟩
/-- EveningFirst.see -/
theorem pr_79 (x1 : Int32) (x2 : Int32) (x3 : Int32) (x4 : Int32) (g : G) (hI : Inv g) (hJ : JR g) (hx4 : x4 = 0 ∨ x4 = 1) : ∃ (v : Int32) (g1 : G) (v' : Int32) (g2 : G), d_79 x1 x2 x3 x4 g = some (v, g1) ∧ d_175 x1 x2 x3 x4 g1 = some (v', g2) ∧ Inv g2 ∧ JR g2 ∧ v = v' := by
  obtain ⟨⟨v, g1⟩, e, h1⟩ := (s_79 x1 x2 x3 x4 g hI (by rcases hx4 with rfl | rfl <;> decide))
  have F1 := f_79 x1 x2 x3 x4 g (v, g1) e
  obtain ⟨⟨v', g2⟩, f, h2⟩ := (s_175 x1 x2 x3 x4 g1 h1.1 trivial)
  have F2 := f_175 x1 x2 x3 x4 g1 (v', g2) f
  have q := r_79 hI h1.1 (Rel.mo hJ (fun r k hr => F1 r k (by omega))) hx4 e f
  exact ⟨v, g1, v', g2, e, f, h2.1, Rel.cl q.2 (fun r k hr => F2 r k (by omega)), q.1⟩
/-- EveningFirst.forget -/
theorem pr_80 (x1 : Int32) (g : G) (hI : Inv g) (hJ : JR g) : ∃ (v : Int32) (g1 : G) (v' : Int32) (g2 : G), d_80 x1 g = (v, g1) ∧ d_176 x1 g1 = some (v', g2) ∧ Inv g2 ∧ JR g2 ∧ v = v' := by
  obtain ⟨v, g1, e⟩ : ∃ q1 q2, d_80 x1 g = (q1, q2) := ⟨_, _, rfl⟩
  have h1 := (s_80 x1 g hI trivial)
  rw [e] at h1
  have F1 := f_80 x1 g
  rw [e] at F1
  obtain ⟨⟨v', g2⟩, f, h2⟩ := (s_176 x1 g1 h1.1 trivial)
  have F2 := f_176 x1 g1 (v', g2) f
  have q := r_80 hI h1.1 (Rel.mo hJ (fun r k hr => F1 r k (by omega))) e f
  exact ⟨v, g1, v', g2, e, f, h2.1, Rel.cl q.2 (fun r k hr => F2 r k (by omega)), q.1⟩
/-- EveningFirst.ways -/
theorem pr_81 (x1 : Int32) (g : G) (hI : Inv g) (hJ : JR g) : ∃ (v : Int32) (g1 : G) (v' : Int32) (g2 : G), d_81 x1 g = some (v, g1) ∧ d_178 x1 g1 = some (v', g2) ∧ Inv g2 ∧ JR g2 ∧ v = v' := by
  obtain ⟨⟨v, g1⟩, e, h1⟩ := (s_81 x1 g hI trivial)
  have F1 := f_81 x1 g (v, g1) e
  obtain ⟨⟨v', g2⟩, f, h2⟩ := (s_178 x1 g1 h1.1 trivial)
  have F2 := f_178 x1 g1 (v', g2) f
  have k3 : 0 ≤ (g1 113 3).toInt ∧ (g1 113 3).toInt ≤ 4 := Inv.rd (r := 113) (c := 8) h1.1 3 rfl
  have K2 := k_178 k3.1 k3.2 f
  exact ⟨v, g1, v', g2, e, f, h2.1, Rel.cg hJ (fun r k hs => (F2 r k (by omega)).trans (F1 r k (by omega))) (fun r k hs => (K2 r k (by omega)).trans (F1 r k (by omega))), a_81 hI h1.1 (Rel.mo hJ (fun r k hr => F1 r k (by omega))) e f⟩
/-- EveningFirst.walk -/
theorem pr_82 (x1 : Int32) (x2 : Int32) (g : G) (hI : Inv g) (hJ : JR g) : ∃ (v : Int32) (g1 : G) (v' : Int32), d_82 x1 x2 g = some (v, g1) ∧ d_179 x1 x2 g1 = some v' ∧ Inv g1 ∧ JR g1 ∧ v = v' := by
  obtain ⟨⟨v, g1⟩, e, h1⟩ := (s_82 x1 x2 g hI trivial)
  have F1 := f_82 x1 x2 g (v, g1) e
  obtain ⟨v', f, h2⟩ := (s_179 x1 x2 g1 h1.1 trivial)
  exact ⟨v, g1, v', e, f, h1.1, Rel.cg hJ (fun r k hs => (F1 r k (by omega))) (fun r k hs => (F1 r k (by omega))), a_82 hI h1.1 (Rel.mo hJ (fun r k hr => F1 r k (by omega))) e f⟩
/-- EveningFirst.keep -/
theorem pr_83 (x1 : Int32) (g : G) (hI : Inv g) (hJ : JR g) : ∃ (v : Int32) (g1 : G) (v' : Int32) (g2 : G), d_83 x1 g = some (v, g1) ∧ d_181 x1 g1 = some (v', g2) ∧ Inv g2 ∧ JR g2 ∧ v = v' := by
  obtain ⟨⟨v, g1⟩, e, h1⟩ := (s_83 x1 g hI trivial)
  have F1 := f_83 x1 g (v, g1) e
  obtain ⟨⟨v', g2⟩, f, h2⟩ := (s_181 x1 g1 h1.1 trivial)
  have F2 := f_181 x1 g1 (v', g2) f
  have q := r_83 hI h1.1 (Rel.mo hJ (fun r k hr => F1 r k (by omega))) e f
  exact ⟨v, g1, v', g2, e, f, h2.1, Rel.cl q.2 (fun r k hr => F2 r k (by omega)), q.1⟩
/-- EveningFirst.back -/
theorem pr_84 (x1 : Int32) (g : G) (hI : Inv g) (hJ : JR g) : ∃ (v : Int32) (g1 : G) (v' : Int32) (g2 : G), d_84 x1 g = some (v, g1) ∧ d_182 x1 g1 = some (v', g2) ∧ Inv g2 ∧ JR g2 ∧ v = v' := by
  obtain ⟨⟨v, g1⟩, e, h1⟩ := (s_84 x1 g hI trivial)
  have F1 := f_84 x1 g (v, g1) e
  obtain ⟨⟨v', g2⟩, f, h2⟩ := (s_182 x1 g1 h1.1 trivial)
  have F2 := f_182 x1 g1 (v', g2) f
  have q := r_84 hI h1.1 (Rel.mo hJ (fun r k hr => F1 r k (by omega))) e f
  exact ⟨v, g1, v', g2, e, f, h2.1, Rel.cl q.2 (fun r k hr => F2 r k (by omega)), q.1⟩
/-- EveningFirst.sheet -/
theorem pr_85 (x1 : Int32) (x2 : Int32) (x3 : Int32) (g : G) (hI : Inv g) (hJ : JR g) : ∃ (v : Int32) (g1 : G) (v' : Int32) (g2 : G), d_85 x1 x2 x3 g = some (v, g1) ∧ d_184 x1 x2 x3 g1 = some (v', g2) ∧ Inv g2 ∧ JR g2 ∧ v = v' := by
  obtain ⟨⟨v, g1⟩, e, h1⟩ := (s_85 x1 x2 x3 g hI trivial)
  have F1 := f_85 x1 x2 x3 g (v, g1) e
  obtain ⟨⟨v', g2⟩, f, h2⟩ := (s_184 x1 x2 x3 g1 h1.1 trivial)
  have F2 := f_184 x1 x2 x3 g1 (v', g2) f
  have q := r_85 hI h1.1 (Rel.mo hJ (fun r k hr => F1 r k (by omega))) e f
  exact ⟨v, g1, v', g2, e, f, h2.1, Rel.cl q.2 (fun r k hr => F2 r k (by omega)), q.1⟩
/-- EveningFirst.lay -/
theorem pr_86 (x1 : Int32) (x2 : Int32) (x3 : Int32) (g : G) (hI : Inv g) (hJ : JR g) : ∃ (v : Int32) (g1 : G) (v' : Int32) (g2 : G), d_86 x1 x2 x3 g = some (v, g1) ∧ d_185 x1 x2 x3 g1 = some (v', g2) ∧ Inv g2 ∧ JR g2 ∧ v = v' := by
  obtain ⟨⟨v, g1⟩, e, h1⟩ := (s_86 x1 x2 x3 g hI trivial)
  have F1 := f_86 x1 x2 x3 g (v, g1) e
  obtain ⟨⟨v', g2⟩, f, h2⟩ := (s_185 x1 x2 x3 g1 h1.1 trivial)
  have F2 := f_185 x1 x2 x3 g1 (v', g2) f
  have q := r_86 hI h1.1 (Rel.mo hJ (fun r k hr => F1 r k (by omega))) e f
  exact ⟨v, g1, v', g2, e, f, h2.1, Rel.cl q.2 (fun r k hr => F2 r k (by omega)), q.1⟩
/-- EveningFirst.read -/
theorem pr_87 (x1 : Int32) (x2 : Int32) (x3 : Int32) (x4 : Int32) (g : G) (hI : Inv g) (hJ : JR g) : ∃ (v : Int32) (g1 : G) (v' : Int32) (g2 : G), d_87 x1 x2 x3 x4 g = some (v, g1) ∧ d_186 x1 x2 x3 x4 g1 = some (v', g2) ∧ Inv g2 ∧ JR g2 ∧ v = v' := by
  obtain ⟨⟨v, g1⟩, e, h1⟩ := (s_87 x1 x2 x3 x4 g hI trivial)
  have F1 := f_87 x1 x2 x3 x4 g (v, g1) e
  obtain ⟨⟨v', g2⟩, f, h2⟩ := (s_186 x1 x2 x3 x4 g1 h1.1 trivial)
  have F2 := f_186 x1 x2 x3 x4 g1 (v', g2) f
  have q := r_87 hI h1.1 (Rel.mo hJ (fun r k hr => F1 r k (by omega))) e f
  exact ⟨v, g1, v', g2, e, f, h2.1, Rel.cl q.2 (fun r k hr => F2 r k (by omega)), q.1⟩
/-- EveningFirst.torn -/
theorem pr_88  (g : G) (hI : Inv g) (hJ : JR g) : ∃ (v : Int32) (v' : Int32), d_88 g = v ∧ d_187 g = v' ∧ Inv g ∧ JR g ∧ True := by
  obtain ⟨v, e⟩ : ∃ q1, d_88 g = q1 := ⟨_, rfl⟩
  obtain ⟨v', f⟩ : ∃ q1, d_187 g = q1 := ⟨_, rfl⟩
  exact ⟨v, v', e, f, hI, Rel.cg hJ (fun r k hs => rfl) (fun r k hs => rfl), trivial⟩
/-- EveningFirst.count -/
theorem pr_89 (x1 : Int32) (g : G) (hI : Inv g) (hJ : JR g) : ∃ (v : Int32) (g1 : G) (v' : Int32), d_89 x1 g = some (v, g1) ∧ d_188 x1 g1 = some v' ∧ Inv g1 ∧ JR g1 ∧ v = v' := by
  obtain ⟨⟨v, g1⟩, e, h1⟩ := (s_89 x1 g hI trivial)
  have F1 := f_89 x1 g (v, g1) e
  obtain ⟨v', f, h2⟩ := (s_188 x1 g1 h1.1 trivial)
  exact ⟨v, g1, v', e, f, h1.1, Rel.cg hJ (fun r k hs => (F1 r k (by omega))) (fun r k hs => (F1 r k (by omega))), a_89 hI h1.1 (Rel.mo hJ (fun r k hr => F1 r k (by omega))) e f⟩
