/-! what the helpers say when they answer -/
theorem zm_li_s {lo : LO} {k pc : Nat} {st : List Value} {h : HP} {r : ZS} (hs : zm_li lo k pc st h = some r) : ∃ v, zm_lget lo k = some (.int v) ∧ r = (pc, lo, .int v :: st, h) := by
  unfold zm_li at hs
  split at hs
  · exact ⟨_, by assumption, (Option.some.inj hs).symm⟩
  · cases hs
theorem zm_ll_s {lo : LO} {k pc : Nat} {st : List Value} {h : HP} {r : ZS} (hs : zm_ll lo k pc st h = some r) : ∃ v, zm_lget lo k = some (.long v) ∧ r = (pc, lo, .long v :: st, h) := by
  unfold zm_ll at hs
  split at hs
  · exact ⟨_, by assumption, (Option.some.inj hs).symm⟩
  · cases hs
theorem zm_la_s {lo : LO} {k pc : Nat} {st : List Value} {h : HP} {r : ZS} (hs : zm_la lo k pc st h = some r) : ∃ v, zm_lget lo k = some (.ref v) ∧ r = (pc, lo, .ref v :: st, h) := by
  unfold zm_la at hs
  split at hs
  · exact ⟨_, by assumption, (Option.some.inj hs).symm⟩
  · cases hs
theorem zm_if {α : Type} {b : Bool} {x : Option α} {r : α} (h : (bif b then x else none) = some r) : b = true ∧ x = some r := by
  cases b
  · cases h
  · exact ⟨rfl, h⟩
theorem zm_ifn {α : Type} {b : Bool} {x : Option α} {r : α} (h : (bif b then none else x) = some r) : b = false ∧ x = some r := by
  cases b
  · exact ⟨rfl, h⟩
  · cases h
theorem zm_si_s {lo : LO} {k pc : Nat} {st : List Value} {h : HP} {r : ZS} (hs : zm_si lo k pc st h = some r) : ∃ v r0, st = .int v :: r0 ∧ k < lo.length ∧ r = (pc, zm_put1 lo k (.int v), r0, h) := by
  unfold zm_si at hs
  split at hs
  · obtain ⟨h1, h2⟩ := zm_if hs
    exact ⟨_, _, rfl, Nat.le_of_ble_eq_true h1, (Option.some.inj h2).symm⟩
  · cases hs
theorem zm_sl_s {lo : LO} {k pc : Nat} {st : List Value} {h : HP} {r : ZS} (hs : zm_sl lo k pc st h = some r) : ∃ v r0, st = .long v :: r0 ∧ k + 1 < lo.length ∧ r = (pc, zm_put2 lo k (.long v), r0, h) := by
  unfold zm_sl at hs
  split at hs
  · obtain ⟨h1, h2⟩ := zm_if hs
    exact ⟨_, _, rfl, Nat.le_of_ble_eq_true h1, (Option.some.inj h2).symm⟩
  · cases hs
theorem zm_sa_s {lo : LO} {k pc : Nat} {st : List Value} {h : HP} {r : ZS} (hs : zm_sa lo k pc st h = some r) : ∃ v r0, st = .ref v :: r0 ∧ k < lo.length ∧ r = (pc, zm_put1 lo k (.ref v), r0, h) := by
  unfold zm_sa at hs
  split at hs
  · obtain ⟨h1, h2⟩ := zm_if hs
    exact ⟨_, _, rfl, Nat.le_of_ble_eq_true h1, (Option.some.inj h2).symm⟩
  · cases hs
theorem zm_b_s {f : Int32 → Int32 → Int32} {pc : Nat} {lo : LO} {st : List Value} {h : HP} {r : ZS} (hs : zm_b f pc lo st h = some r) : ∃ x y r0, st = .int y :: .int x :: r0 ∧ r = (pc + 1, lo, .int (f x y) :: r0, h) := by
  unfold zm_b at hs
  split at hs
  · exact ⟨_, _, _, rfl, (Option.some.inj hs).symm⟩
  · cases hs
theorem zm_d_s {f : Int32 → Int32 → Int32} {pc : Nat} {lo : LO} {st : List Value} {h : HP} {r : ZS} (hs : zm_d f pc lo st h = some r) : ∃ x y r0, st = .int y :: .int x :: r0 ∧ ¬ y = 0 ∧ r = (pc + 1, lo, .int (f x y) :: r0, h) := by
  unfold zm_d at hs
  split at hs
  · obtain ⟨h1, h2⟩ := zm_ifn hs
    exact ⟨_, _, _, rfl, by simpa using h1, (Option.some.inj h2).symm⟩
  · cases hs
theorem zm_lb_s {f : Int64 → Int64 → Int64} {pc : Nat} {lo : LO} {st : List Value} {h : HP} {r : ZS} (hs : zm_lb f pc lo st h = some r) : ∃ x y r0, st = .long y :: .long x :: r0 ∧ r = (pc + 1, lo, .long (f x y) :: r0, h) := by
  unfold zm_lb at hs
  split at hs
  · exact ⟨_, _, _, rfl, (Option.some.inj hs).symm⟩
  · cases hs
theorem zm_ld_s {f : Int64 → Int64 → Int64} {pc : Nat} {lo : LO} {st : List Value} {h : HP} {r : ZS} (hs : zm_ld f pc lo st h = some r) : ∃ x y r0, st = .long y :: .long x :: r0 ∧ ¬ y = 0 ∧ r = (pc + 1, lo, .long (f x y) :: r0, h) := by
  unfold zm_ld at hs
  split at hs
  · obtain ⟨h1, h2⟩ := zm_ifn hs
    exact ⟨_, _, _, rfl, by simpa using h1, (Option.some.inj h2).symm⟩
  · cases hs
theorem zm_u_s {f : Int32 → Int32} {pc : Nat} {lo : LO} {st : List Value} {h : HP} {r : ZS} (hs : zm_u f pc lo st h = some r) : ∃ x r0, st = .int x :: r0 ∧ r = (pc + 1, lo, .int (f x) :: r0, h) := by
  unfold zm_u at hs
  split at hs
  · exact ⟨_, _, rfl, (Option.some.inj hs).symm⟩
  · cases hs
theorem zm_get_s {h : HP} {r ci k : Nat} {v : Value} (hs : zm_get h r ci k = some v) : ∃ fs, h[r]? = some (.inr (.inr (ci, fs))) ∧ fs[k]? = some v := by
  unfold zm_get at hs
  split at hs
  · obtain ⟨h1, h2⟩ := zm_if hs
    have h1 := Nat.eq_of_beq_eq_true h1
    subst h1
    exact ⟨_, by assumption, h2⟩
  · cases hs
theorem zm_set_s {h h1 : HP} {r ci k : Nat} {v : Value} (hs : zm_set h r ci k v = some h1) : ∃ fs, h[r]? = some (.inr (.inr (ci, fs))) ∧ k < fs.length ∧ h1 = h.set r (.inr (.inr (ci, fs.set k v))) := by
  unfold zm_set at hs
  split at hs
  · obtain ⟨g1, g2⟩ := zm_if hs
    rw [Bool.and_eq_true] at g1
    have g3 := Nat.eq_of_beq_eq_true g1.1
    subst g3
    exact ⟨_, by assumption, Nat.le_of_ble_eq_true g1.2, (Option.some.inj g2).symm⟩
  · cases hs
theorem zm_ix_s {i : Int32} {n k : Nat} (hs : zm_ix i n = some k) : vp_in i n ∧ i.toNatClampNeg = k ∧ k < n := by
  unfold zm_ix at hs
  obtain ⟨h1, h2⟩ := zm_ifn hs
  obtain ⟨h3, h4⟩ := zm_if h2
  have h5 : i.toNatClampNeg < n := Nat.le_of_ble_eq_true h3
  have h6 := Option.some.inj h4
  refine ⟨fun q => ?_, h6, by rw [← h6]; exact h5⟩
  rcases q with q | q
  · simp [q] at h1
  · omega
theorem zm_sld_s {sc : Option (List Int32)} {i v : Int32} (hs : zm_sld sc i = some v) : ∃ l, sc = some l ∧ vp_in i l.length ∧ v = l.getD i.toNatClampNeg 0 := by
  unfold zm_sld at hs
  split at hs
  · next l =>
    split at hs
    · next k hk =>
      obtain ⟨q1, q2, q3⟩ := zm_ix_s hk
      subst q2
      exact ⟨l, rfl, q1, (Option.some.inj hs).symm⟩
    · cases hs
  · cases hs
theorem zm_or_s {t a b : Nat} (h : (Nat.beq t a || Nat.beq t b) = true) : t = a ∨ t = b := by
  rcases Bool.or_eq_true _ _ ▸ h with h | h
  · exact Or.inl (Nat.eq_of_beq_eq_true h)
  · exact Or.inr (Nat.eq_of_beq_eq_true h)
theorem zm_ald_s {h : HP} {r t1 t2 : Nat} {i v : Int32} (hs : zm_ald h r t1 t2 i = some v) : ∃ t xs, h[r]? = some (.inl (t, xs)) ∧ (t = t1 ∨ t = t2) ∧ vp_in i xs.length ∧ v = xs.getD i.toNatClampNeg 0 := by
  unfold zm_ald at hs
  split at hs
  · obtain ⟨g1, g2⟩ := zm_if hs
    split at g2
    · next k hk =>
      obtain ⟨q1, q2, q3⟩ := zm_ix_s hk
      refine ⟨_, _, by assumption, zm_or_s g1, q1, ?_⟩
      rw [q2]
      simp [g2]
    · cases g2
  · cases hs
theorem zm_ast_s {h h1 : HP} {r t1 t2 : Nat} {i x : Int32} (hs : zm_ast h r t1 t2 i x = some h1) : ∃ t xs, h[r]? = some (.inl (t, xs)) ∧ (t = t1 ∨ t = t2) ∧ vp_in i xs.length ∧ h1 = h.set r (.inl (t, xs.set i.toNatClampNeg (zm_nar t x))) := by
  unfold zm_ast at hs
  split at hs
  · obtain ⟨g1, g2⟩ := zm_if hs
    split at g2
    · next k hk =>
      obtain ⟨q1, q2, q3⟩ := zm_ix_s hk
      refine ⟨_, _, by assumption, zm_or_s g1, q1, ?_⟩
      rw [q2]
      exact (Option.some.inj g2).symm
    · cases g2
  · cases hs
theorem zm_aald_s {h : HP} {r : Nat} {i : Int32} {v : Value} (hs : zm_aald h r i = some v) : ∃ t rs, h[r]? = some (.inr (.inl (t, rs))) ∧ zm_rt t = true ∧ vp_in i rs.length ∧ v = va_rf (rs.getD i.toNatClampNeg none) := by
  unfold zm_aald at hs
  split at hs
  · split at hs
    · next k hk =>
      obtain ⟨q1, q2, q3⟩ := zm_ix_s hk
      obtain ⟨g1, hs⟩ := zm_if hs
      refine ⟨_, _, by assumption, g1, q1, ?_⟩
      rw [q2]
      split at hs
      · next hq => cases hs; simp [hq, va_rf]
      · next hq => cases hs; simp [hq, va_rf]
      · cases hs
    · cases hs
  · cases hs
theorem zm_cls_s {h : HP} {r c : Nat} (hs : zm_cls h r = some c) : ∃ fs, h[r]? = some (.inr (.inr (c, fs))) := by
  unfold zm_cls at hs
  split at hs
  · cases hs; exact ⟨_, by assumption⟩
  · cases hs
theorem zm_aast_s {el : Nat → Nat} {h h1 : HP} {r v : Nat} {i : Int32} (hs : zm_aast el h r v i = some h1) : ∃ t rs fs, h[r]? = some (.inr (.inl (t, rs))) ∧ zm_rt t = true ∧ vp_in i rs.length ∧ h[v]? = some (.inr (.inr (el t, fs))) ∧ h1 = h.set r (.inr (.inl (t, rs.set i.toNatClampNeg (some v)))) := by
  unfold zm_aast at hs
  split at hs
  · split at hs
    · next k hk =>
      obtain ⟨q1, q2, q3⟩ := zm_ix_s hk
      obtain ⟨g1, g2⟩ := zm_if hs
      rw [Bool.and_eq_true] at g1
      obtain ⟨g0, g1⟩ := g1
      split at g1
      · next c hc =>
        have g1 := Nat.eq_of_beq_eq_true g1
        subst g1
        obtain ⟨fs, hf⟩ := zm_cls_s hc
        refine ⟨_, _, fs, by assumption, g0, q1, hf, ?_⟩
        rw [q2]
        exact (Option.some.inj g2).symm
      · cases g1
    · cases hs
  · cases hs
theorem zm_len_s {h : HP} {r n : Nat} (hs : zm_len h r = some n) : (∃ t xs, h[r]? = some (.inl (t, xs)) ∧ t < 3 ∧ n = xs.length) ∨ ∃ t rs, h[r]? = some (.inr (.inl (t, rs))) ∧ zm_rt t = true ∧ n = rs.length := by
  unfold zm_len at hs
  split at hs
  · obtain ⟨g1, g2⟩ := zm_if hs
    cases g2; exact Or.inl ⟨_, _, by assumption, Nat.le_of_ble_eq_true g1, rfl⟩
  · obtain ⟨g1, g2⟩ := zm_if hs
    cases g2; exact Or.inr ⟨_, _, by assumption, g1, rfl⟩
  · cases hs
theorem zm_tab_s {pc t : Nat} {dflt lo hi : Int} {offs : Array Int} {x : Int32} (hs : zm_tab pc dflt lo hi offs x = some t) : ((x.toInt < lo ∨ hi < x.toInt) ∧ t = zm_tg pc dflt) ∨ (¬ x.toInt < lo ∧ ¬ hi < x.toInt ∧ ∃ off, offs[(x.toInt - lo).toNat]? = some off ∧ t = zm_tg pc off) := by
  unfold zm_tab at hs
  by_cases h : x.toInt < lo ∨ hi < x.toInt
  · have hb : (decide (x.toInt < lo) || decide (hi < x.toInt)) = true := by simpa using h
    rw [hb] at hs
    cases hs
    exact Or.inl ⟨h, rfl⟩
  · have hb : (decide (x.toInt < lo) || decide (hi < x.toInt)) = false := by simpa using h
    rw [hb] at hs
    refine Or.inr ⟨fun q => h (Or.inl q), fun q => h (Or.inr q), ?_⟩
    have hs : (match offs[(x.toInt - lo).toNat]? with
      | some off => some (zm_tg pc off)
      | none => none) = some t := hs
    split at hs
    · cases hs; exact ⟨_, by assumption, rfl⟩
    · cases hs
def zm_csz : AC → Nat
  | .inl (_, xs) => xs.length
  | .inr (.inl (_, rs)) => rs.length
  | .inr (.inr (_, fs)) => fs.length
def zm_hsz (h : HP) : Nat := (h.map zm_csz).sum
theorem zm_hsz_push (h : HP) (c : AC) : zm_hsz (h ++ [c]) = zm_hsz h + zm_csz c := by simp [zm_hsz]
theorem zm_hsz_set : ∀ (h : HP) (r : Nat) (c c1 : AC), h[r]? = some c → zm_csz c1 = zm_csz c → zm_hsz (h.set r c1) = zm_hsz h
  | [], _, _, _, hr, _ => by simp at hr
  | a :: h, 0, c, c1, hr, e => by
    simp at hr
    subst hr
    simp [zm_hsz, e]
  | a :: h, r + 1, c, c1, hr, e => by
    have := zm_hsz_set h r c c1 (by simpa using hr) e
    simp [zm_hsz] at this ⊢
    exact this
