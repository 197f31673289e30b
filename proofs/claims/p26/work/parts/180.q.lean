/-! helpers of the calls' runs -/
theorem zq_T {c : ClassFile.Cond} {v w : Int32} {x y : Int} (hv : v.toInt = x) (hw : w.toInt = y) (h : match c with | .eq => x = y | .ne => x ≠ y | .lt => x < y | .ge => x ≥ y | .gt => x > y | .le => x ≤ y) : zm_cmp c v w = true := by
  subst hv
  subst hw
  cases c with
  | eq => exact decide_eq_true (Int32.toInt_inj.mp h)
  | ne => exact decide_eq_true (fun q => h (Int32.toInt_inj.mpr q))
  | lt => exact decide_eq_true (Int32.lt_iff_toInt_lt.mpr h)
  | ge => exact decide_eq_true (Int32.le_iff_toInt_le.mpr h)
  | gt => exact decide_eq_true (Int32.lt_iff_toInt_lt.mpr h)
  | le => exact decide_eq_true (Int32.le_iff_toInt_le.mpr h)
theorem zq_F {c : ClassFile.Cond} {v w : Int32} {x y : Int} (hv : v.toInt = x) (hw : w.toInt = y) (h : match c with | .eq => x ≠ y | .ne => x = y | .lt => x ≥ y | .ge => x < y | .gt => x ≤ y | .le => x > y) : zm_cmp c v w = false := by
  subst hv
  subst hw
  cases c with
  | eq => exact decide_eq_false (fun q => h (Int32.toInt_inj.mpr q))
  | ne => exact decide_eq_false (fun q => q (Int32.toInt_inj.mp h))
  | lt => exact decide_eq_false (fun q => by have := Int32.lt_iff_toInt_lt.mp q; have h : v.toInt ≥ w.toInt := h; omega)
  | ge => exact decide_eq_false (fun q => by have := Int32.le_iff_toInt_le.mp q; have h : v.toInt < w.toInt := h; omega)
  | gt => exact decide_eq_false (fun q => by have := Int32.lt_iff_toInt_lt.mp q; have h : v.toInt ≤ w.toInt := h; omega)
  | le => exact decide_eq_false (fun q => by have := Int32.le_iff_toInt_le.mp q; have h : v.toInt > w.toInt := h; omega)
theorem Wp.tabOut {sc : Option (List Int32)} {d j pc : Nat} {lo : LO} {st : List Value} {h : HP} {Q : Nat × List Value × HP → Prop} {n a b : Nat} {dflt l u : Int} {os : Array Int} {v : Int32} (hat : zm_at j pc = some (.tableswitch dflt l u os, n, a, b)) (hc : v.toInt < l ∨ u < v.toInt) (K : Wp sc d j (zm_tg pc dflt) lo st h Q) : Wp sc d j pc lo (.int v :: st) h Q := by
  refine Wp.steps 1 (pc1 := zm_tg pc dflt) (lo1 := lo) (st1 := st) (h1 := h) ?_ K
  unfold zm_steps
  rw [hat]
  have hb : (decide (v.toInt < l) || decide (u < v.toInt)) = true := by simpa using hc
  have ht : zm_tab pc dflt l u os v = some (zm_tg pc dflt) := by unfold zm_tab; rw [hb]; rfl
  show (match ((match zm_tab pc dflt l u os v with
      | some t => some (t, lo, st, h)
      | none => none) : Option ZS) with
      | none => none
      | some (pc1, lo1, st1, h1) => zm_steps sc 0 j pc1 lo1 st1 h1) = _
  rw [ht]
  rfl
theorem zl_cmp {x y : Int64} : (x.toInt < y.toInt → lg_cmp x y = -1) ∧ (y.toInt < x.toInt → lg_cmp x y = 1) ∧ (x.toInt = y.toInt → lg_cmp x y = 0) := by
  refine ⟨fun h => ?_, fun h => ?_, fun h => ?_⟩
  · have h1 : ¬ x > y := fun q => by have := Int64.lt_iff_toInt_lt.mp q; omega
    have h2 : ¬ x = y := fun q => by rw [q] at h; omega
    simp [lg_cmp, h1, h2]
  · have h1 : x > y := Int64.lt_iff_toInt_lt.mpr h
    simp [lg_cmp, h1]
  · have h1 : x = y := Int64.toInt_inj.mp h
    subst h1
    simp [lg_cmp]
section ZIN
variable {sc : Option (List Int32)} {d : Nat} {h : HP} {Q : Nat × List Value × HP → Prop} {v lw hg : Int64} {x y z : Int}
theorem zin_T (hv : v.toInt = x) (hl : lw.toInt = y) (hh : hg.toInt = z) (h1 : y ≤ x) (h2 : x ≤ z) (K : Q (18, [.int 1], h)) : Wp sc d 107 0 (zm_ent (z_L 107) [.long v, .long lw, .long hg]) [] h Q := by
  show Wp sc d 107 0 [some (.long v), none, some (.long lw), none, some (.long hg), none] [] h Q
  have e1 : ¬ lg_cmp v lw < 0 := by
    rcases Int.lt_or_eq_of_le h1 with q | q
    · rw [zl_cmp.2.1 (by omega)]; decide
    · rw [zl_cmp.2.2 (by omega)]; decide
  have e2 : ¬ (0 < lg_cmp v hg) := by
    rcases Int.lt_or_eq_of_le h2 with q | q
    · rw [zl_cmp.1 (by omega)]; decide
    · rw [zl_cmp.2.2 (by omega)]; decide
  refine Wp.steps 3 (pc1 := 3) (lo1 := [some (.long v), none, some (.long lw), none, some (.long hg), none]) (st1 := [.int (lg_cmp v lw)]) (h1 := h) rfl ?_
  refine Wp.ifF (i := .nop) rfl (decide_eq_false e1) ?_
  refine Wp.steps 3 (pc1 := 10) (lo1 := [some (.long v), none, some (.long lw), none, some (.long hg), none]) (st1 := [.int (lg_cmp v hg)]) (h1 := h) rfl ?_
  refine Wp.ifF (i := .nop) rfl (decide_eq_false e2) ?_
  refine Wp.steps 2 (pc1 := 18) (lo1 := [some (.long v), none, some (.long lw), none, some (.long hg), none]) (st1 := [.int 1]) (h1 := h) rfl ?_
  exact Wp.ret rfl rfl rfl K
theorem zin_F (hv : v.toInt = x) (hl : lw.toInt = y) (hh : hg.toInt = z) (h1 : x < y ∨ z < x) (K : Q (18, [.int 0], h)) : Wp sc d 107 0 (zm_ent (z_L 107) [.long v, .long lw, .long hg]) [] h Q := by
  show Wp sc d 107 0 [some (.long v), none, some (.long lw), none, some (.long hg), none] [] h Q
  refine Wp.steps 3 (pc1 := 3) (lo1 := [some (.long v), none, some (.long lw), none, some (.long hg), none]) (st1 := [.int (lg_cmp v lw)]) (h1 := h) rfl ?_
  by_cases q : x < y
  · have e1 : lg_cmp v lw < 0 := by rw [zl_cmp.1 (by omega)]; decide
    refine Wp.ifT (i := .nop) rfl (decide_eq_true e1) ?_
    refine Wp.steps 1 (pc1 := 18) (lo1 := [some (.long v), none, some (.long lw), none, some (.long hg), none]) (st1 := [.int 0]) (h1 := h) rfl ?_
    exact Wp.ret rfl rfl rfl K
  · have e1 : ¬ lg_cmp v lw < 0 := by
      rcases Int.lt_or_eq_of_le (Int.not_lt.mp q) with q | q
      · rw [zl_cmp.2.1 (by omega)]; decide
      · rw [zl_cmp.2.2 (by omega)]; decide
    have e2 : 0 < lg_cmp v hg := by rw [zl_cmp.2.1 (by omega)]; decide
    refine Wp.ifF (i := .nop) rfl (decide_eq_false e1) ?_
    refine Wp.steps 3 (pc1 := 10) (lo1 := [some (.long v), none, some (.long lw), none, some (.long hg), none]) (st1 := [.int (lg_cmp v hg)]) (h1 := h) rfl ?_
    refine Wp.ifT (i := .nop) rfl (decide_eq_true e2) ?_
    refine Wp.steps 1 (pc1 := 18) (lo1 := [some (.long v), none, some (.long lw), none, some (.long hg), none]) (st1 := [.int 0]) (h1 := h) rfl ?_
    exact Wp.ret rfl rfl rfl K
end ZIN
