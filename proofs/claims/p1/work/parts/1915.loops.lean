/-! the two loops that make a sheet's cells 0 -/
section ZLP
variable {sc : Option (List Int32)} {d j pc : Nat} {lo : LO} {st : List Value} {h h1 : HP} {Q : Nat × List Value × HP → Prop}
theorem Wp.iast {n a b r : Nat} {i v : Int32} (hat : zm_at j pc = some (.iastore, n, a, b)) (hs : zm_ast h r 0 0 i v = some h1) (K : Wp sc d j (pc + 1) lo st h1 Q) : Wp sc d j pc lo (.int v :: .int i :: .ref r :: st) h Q := by
  refine Wp.steps 1 (pc1 := pc + 1) (lo1 := lo) (st1 := st) (h1 := h1) ?_ K
  unfold zm_steps
  rw [hat]
  show (match ((match zm_ast h r 0 0 i v with
      | some h1 => some (pc + 1, lo, st, h1)
      | none => none) : Option ZS) with
      | none => none
      | some (pc1, lo1, st1, h1) => zm_steps sc 0 j pc1 lo1 st1 h1) = _
  rw [hs]
  rfl
theorem Wp.getf {n a b r k : Nat} {v : Value} (hat : zm_at j pc = some (.getfield k, n, a, b)) (hs : zm_get h r a b = some v) (K : Wp sc d j (pc + 3) lo (v :: st) h Q) : Wp sc d j pc lo (.ref r :: st) h Q := by
  refine Wp.steps 1 (pc1 := pc + 3) (lo1 := lo) (st1 := v :: st) (h1 := h) ?_ K
  unfold zm_steps
  rw [hat]
  show (match ((match zm_get h r a b with
      | some v => some (pc + 3, lo, v :: st, h)
      | none => none) : Option ZS) with
      | none => none
      | some (pc1, lo1, st1, h1) => zm_steps sc 0 j pc1 lo1 st1 h1) = _
  rw [hs]
  rfl
theorem zm_ix_nI {i N : Nat} (hi : i < N) (hN : N < 2 ^ 31) : zm_ix (nI i) N = some i := by
  have h1 : ¬ nI i < 0 := nI_pos (by omega)
  have h2 : (nI i).toNatClampNeg = i := nI_clamp (by omega)
  unfold zm_ix
  rw [decide_eq_false h1, h2]
  have : Nat.blt i N = true := Nat.ble_eq_true_of_le hi
  rw [this]
  rfl
theorem zm_ast_zero {c i N : Nat} (hc : h[c]? = some (.inl (0, List.replicate N 0))) (hi : i < N) (hN : N < 2 ^ 31) : zm_ast h c 0 0 (nI i) 0 = some h := by
  unfold zm_ast
  rw [hc]
  show (bif true then (match zm_ix (nI i) (List.replicate N (0 : Int32)).length with
    | some k => some (h.set c (.inl (0, (List.replicate N (0 : Int32)).set k (zm_nar 0 0))))
    | none => none) else none) = some h
  rw [List.length_replicate, zm_ix_nI hi hN]
  show some (h.set c (.inl (0, (List.replicate N (0 : Int32)).set i 0))) = some h
  have e : (List.replicate N (0 : Int32)).set i 0 = List.replicate N 0 := by
    apply List.ext_getElem?
    intro k
    rw [List.getElem?_set]
    by_cases q : i = k
    · subst q
      simp [hi]
    · simp [q]
  rw [e]
  congr 1
  apply List.ext_getElem?
  intro k
  rw [List.getElem?_set]
  by_cases q : c = k
  · subst q
    have := (List.getElem?_eq_some_iff.mp hc).1
    rw [if_pos rfl, if_pos this]
    exact hc.symm
  · simp [q]
theorem zlp_x {o c : Nat} {l0 l2 : Value} {a b : Int32} (ho : h[o]? = some (.inr (.inr (5, [l0, .ref c, l2])))) (hc : h[c]? = some (.inl (0, List.replicate 40 0))) (K : Wp sc d 47 31 [some (.ref o), some (.int a), some (.int b), some (.int (nI 40))] [] h Q) :
    ∀ (n i : Nat), i + n = 40 → Wp sc d 47 12 [some (.ref o), some (.int a), some (.int b), some (.int (nI i))] [] h Q := by
  intro n
  induction n with
  | zero =>
    intro i hi
    have hi : i = 40 := by omega
    subst hi
    refine Wp.steps 2 (pc1 := 15) (lo1 := [some (.ref o), some (.int a), some (.int b), some (.int (nI 40))]) (st1 := [.int 40, .int (nI 40)]) (h1 := h) rfl ?_
    refine Wp.icT (i := .nop) rfl (by decide) ?_
    exact K
  | succ n ih =>
    intro i hi
    refine Wp.steps 2 (pc1 := 15) (lo1 := [some (.ref o), some (.int a), some (.int b), some (.int (nI i))]) (st1 := [.int 40, .int (nI i)]) (h1 := h) rfl ?_
    refine Wp.icF (i := .nop) rfl (zq_F (nI_toInt (by omega)) (by decide) (show (i : Int) < 40 by omega)) ?_
    refine Wp.steps 1 (pc1 := 19) (lo1 := [some (.ref o), some (.int a), some (.int b), some (.int (nI i))]) (st1 := [.ref o]) (h1 := h) rfl ?_
    refine Wp.getf (v := .ref c) rfl (by unfold zm_get; rw [ho]; rfl) ?_
    refine Wp.steps 2 (pc1 := 24) (lo1 := [some (.ref o), some (.int a), some (.int b), some (.int (nI i))]) (st1 := [.int 0, .int (nI i), .ref c]) (h1 := h) rfl ?_
    refine Wp.iast rfl (zm_ast_zero hc (by omega) (by decide)) ?_
    refine Wp.steps 2 (pc1 := 12) (lo1 := [some (.ref o), some (.int a), some (.int b), some (.int (nI i + 1))]) (st1 := []) (h1 := h) rfl ?_
    rw [nI_1]
    exact ih (i + 1) (by omega)
theorem zlp_m {o c k : Nat} {a b kk : Int32} {fs : List Value} (hk : k ≤ 3) (ho : h[o]? = some (.inr (.inr (8, fs)))) (hf : fs[25]? = some (.ref c)) (hc : h[c]? = some (.inl (0, List.replicate 160 0))) (hkk : (40 : Int32) * kk = nI (40 * k)) (K : Wp sc d 184 66 [some (.ref o), some (.int kk), some (.int a), some (.int b), some (.int (nI 40))] [] h Q) :
    ∀ (n i : Nat), i + n = 40 → Wp sc d 184 40 [some (.ref o), some (.int kk), some (.int a), some (.int b), some (.int (nI i))] [] h Q := by
  intro n
  induction n with
  | zero =>
    intro i hi
    have hi : i = 40 := by omega
    subst hi
    refine Wp.steps 2 (pc1 := 44) (lo1 := [some (.ref o), some (.int kk), some (.int a), some (.int b), some (.int (nI 40))]) (st1 := [.int 40, .int (nI 40)]) (h1 := h) rfl ?_
    refine Wp.icT (i := .nop) rfl (by decide) ?_
    exact K
  | succ n ih =>
    intro i hi
    refine Wp.steps 2 (pc1 := 44) (lo1 := [some (.ref o), some (.int kk), some (.int a), some (.int b), some (.int (nI i))]) (st1 := [.int 40, .int (nI i)]) (h1 := h) rfl ?_
    refine Wp.icF (i := .nop) rfl (zq_F (nI_toInt (by omega)) (by decide) (show (i : Int) < 40 by omega)) ?_
    refine Wp.steps 1 (pc1 := 48) (lo1 := [some (.ref o), some (.int kk), some (.int a), some (.int b), some (.int (nI i))]) (st1 := [.ref o]) (h1 := h) rfl ?_
    refine Wp.getf (v := .ref c) rfl (by unfold zm_get; rw [ho]; exact hf) ?_
    refine Wp.steps 3 (pc1 := 55) (lo1 := [some (.ref o), some (.int kk), some (.int a), some (.int b), some (.int (nI i))]) (st1 := [.int (40 * kk), .ref c]) (h1 := h) rfl ?_
    rw [hkk]
    refine Wp.steps 2 (pc1 := 58) (lo1 := [some (.ref o), some (.int kk), some (.int a), some (.int b), some (.int (nI i))]) (st1 := [.int (nI (40 * k) + nI i), .ref c]) (h1 := h) rfl ?_
    rw [nI_add]
    refine Wp.steps 1 (pc1 := 59) (lo1 := [some (.ref o), some (.int kk), some (.int a), some (.int b), some (.int (nI i))]) (st1 := [.int 0, .int (nI (40 * k + i)), .ref c]) (h1 := h) rfl ?_
    refine Wp.iast rfl (zm_ast_zero hc (by omega) (by decide)) ?_
    refine Wp.steps 2 (pc1 := 40) (lo1 := [some (.ref o), some (.int kk), some (.int a), some (.int b), some (.int (nI i + 1))]) (st1 := []) (h1 := h) rfl ?_
    rw [nI_1]
    exact ih (i + 1) (by omega)
end ZLP
theorem zv_ls {h : HP} {r : Nat} {c c1 : AC} {A B : Nat} (hr : h[r]? = some c) (e : zm_csz c1 = zm_csz c) (hl : h.length ≤ A ∧ zm_hsz h ≤ B) : (h.set r c1).length ≤ A ∧ zm_hsz (h.set r c1) ≤ B := ⟨by rw [List.length_set]; exact hl.1, by rw [zm_hsz_set _ _ _ _ hr e]; exact hl.2⟩
