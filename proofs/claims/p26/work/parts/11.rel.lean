/-! how the real heap holds the small machine's cells: cell i lies at H0.size + i; special references by sa -/
def zx_ad (H0 : Heap) (sa : Nat → Nat) (i : Nat) : Nat := if i < zm_SP then H0.size + i else sa (i - zm_SP)
def zx_cv (f : Nat → Nat) : Value → Value
  | .ref i => .ref (f i)
  | .retAddr _ => if f (zm_SP + 300) = 0 then .null else .ref (f (zm_SP + 301))
  | v => v
theorem zx_cv_int (f : Nat → Nat) (x : Int32) : zx_cv f (.int x) = .int x := rfl
theorem zx_cv_long (f : Nat → Nat) (x : Int64) : zx_cv f (.long x) = .long x := rfl
theorem zx_cv_ref (f : Nat → Nat) (x : Nat) : zx_cv f (.ref x) = .ref (f x) := rfl
theorem zx_cv_cat (f : Nat → Nat) (v : Value) : (zx_cv f v).category = v.category := by
  cases v with
  | retAddr k =>
    show (if f (zm_SP + 300) = 0 then Value.null else .ref (f (zm_SP + 301))).category = 1
    split <;> rfl
  | _ => rfl
def zx_E (f : Nat → Nat) (tyc : Nat → ClassId) : AC → va_E
  | .inl (t, xs) => .inl (tyc t, xs.length, .inl (fun k => xs.getD k 0))
  | .inr (.inl (t, rs)) => .inl (tyc t, rs.length, .inr (.inr (.inr (.inr (fun k => (rs.getD k none).map f)))))
  | .inr (.inr (ci, fs)) => .inr (ci, fs.map (zx_cv f))
def zx_cw (H0 : Heap) (f : Nat → Nat) (tyc : Nat → ClassId) (h : HP) : va_W := h.mapIdx (fun i c => (H0.size + i, zx_E f tyc c))
theorem zx_cw_get {H0 : Heap} {f : Nat → Nat} {tyc : Nat → ClassId} {h : HP} {i : Nat} {c : AC} (hi : h[i]? = some c) : (zx_cw H0 f tyc h)[i]? = some (H0.size + i, zx_E f tyc c) := by
  simp [zx_cw, List.getElem?_mapIdx, hi]
theorem zx_cw_of {H0 : Heap} {f : Nat → Nat} {tyc : Nat → ClassId} {h : HP} {i : Nat} {q : Nat × va_E} (hi : (zx_cw H0 f tyc h)[i]? = some q) : ∃ c, h[i]? = some c ∧ q = (H0.size + i, zx_E f tyc c) := by
  rw [zx_cw, List.getElem?_mapIdx] at hi
  cases hc : h[i]? with
  | none => rw [hc] at hi; cases hi
  | some c => rw [hc] at hi; exact ⟨c, rfl, (Option.some.inj hi).symm⟩
def zx_R (D : va_G) (tyc : Nat → ClassId) (H0 : Heap) (sa : Nat → Nat) (h : HP) (H : Heap) : Prop :=
  H.size = H0.size + h.length ∧ (∀ (i : Nat) (c : AC), h[i]? = some c → va_at D vwCl (H0.size + i, zx_E (zx_ad H0 sa) tyc c) H) ∧ (∀ q : Nat, q < H0.size → H[q]? = H0[q]?) ∧ h.length ≤ 100000
section ZR
variable {D : va_G} {tyc : Nat → ClassId} {H0 : Heap} {sa : Nat → Nat} {h : HP} {H : Heap}
theorem zx_R.P (hR : zx_R D tyc H0 sa h H) : va_P D vwCl (zx_cw H0 (zx_ad H0 sa) tyc h) H := by
  intro k q hq
  obtain ⟨c, hc, rfl⟩ := zx_cw_of hq
  exact hR.2.1 k c hc
theorem zx_ad_lt {i : Nat} (hi : i < 100000) : zx_ad H0 sa i = H0.size + i := by
  have : i < zm_SP := Nat.lt_trans hi (by decide)
  simp [zx_ad, this]
theorem zx_R.ad (hR : zx_R D tyc H0 sa h H) {r : Nat} {c : AC} (hr : h[r]? = some c) : zx_ad H0 sa r = H0.size + r := by
  have h1 : r < h.length := (List.getElem?_eq_some_iff.mp hr).1
  exact zx_ad_lt (Nat.lt_of_lt_of_le h1 hR.2.2.2)
theorem zx_R.lt (hR : zx_R D tyc H0 sa h H) {r : Nat} {c : AC} (hr : h[r]? = some c) : H0.size + r < H.size := by
  have h1 : r < h.length := (List.getElem?_eq_some_iff.mp hr).1
  rw [hR.1]; omega
theorem zx_R.set (hR : zx_R D tyc H0 sa h H) {r : Nat} {c c1 : AC} (hr : h[r]? = some c) {H1 : Heap} (e : va_at D vwCl (H0.size + r, zx_E (zx_ad H0 sa) tyc c1) H1) (z : H1.size = H.size) (o : ∀ q : Nat, q ≠ H0.size + r → H1[q]? = H[q]?) : zx_R D tyc H0 sa (h.set r c1) H1 := by
  have hl : r < h.length := (List.getElem?_eq_some_iff.mp hr).1
  refine ⟨by rw [z, hR.1]; simp, fun i x hi => ?_, fun q hq => ?_, by simpa using hR.2.2.2⟩
  · by_cases hir : i = r
    · subst hir
      rw [List.getElem?_set_self hl] at hi
      cases hi
      exact e
    · rw [List.getElem?_set_ne (Ne.symm hir)] at hi
      exact (hR.2.1 i x hi).kept (o _ (by omega))
  · rw [o q (by omega)]
    exact hR.2.2.1 q hq
theorem zx_R.push (hR : zx_R D tyc H0 sa h H) (hl : h.length < 100000) {c1 : AC} {H1 : Heap} (e : va_at D vwCl (H0.size + h.length, zx_E (zx_ad H0 sa) tyc c1) H1) (z : H1.size = H.size + 1) (o : ∀ q : Nat, q < H.size → H1[q]? = H[q]?) : zx_R D tyc H0 sa (h ++ [c1]) H1 := by
  refine ⟨by rw [z, hR.1]; simp; omega, fun i x hi => ?_, fun q hq => ?_, by simp; omega⟩
  · by_cases hir : i < h.length
    · rw [List.getElem?_append_left hir] at hi
      exact (hR.2.1 i x hi).kept (o _ (by have := hR.1; show H0.size + i < H.size; omega))
    · rw [List.getElem?_append_right (by omega)] at hi
      have hz : i - h.length < 1 := (List.getElem?_eq_some_iff.mp hi).1
      have hi2 : i = h.length := by omega
      subst hi2
      rw [Nat.sub_self] at hi
      cases hi
      exact e
  · rw [o q (by have := hR.1; omega)]
    exact hR.2.2.1 q hq
theorem zx_R.S (hR : zx_R D tyc H0 sa h H) {locs : List Loc} (hl : ∀ q ∈ locs, H0.size ≤ q.base) : va_S (fun q => H0.size ≤ q) H0 H locs :=
  ⟨by have := hR.1; omega, fun q h1 _ => hR.2.2.1 q h1, hl⟩
end ZR
/-! the locals -/
def zx_L (f : Nat → Nat) (lo : LO) (ls : Array Slot) (nL : Nat) : Prop := ls.size = nL ∧ lo.length = nL ∧ lv_wf ls ∧ ∀ (i : Nat) (v : Value), lo[i]? = some (some v) → ls[i]? = some (.val (zx_cv f v))
def zx_lp (f : Nat → Nat) (lo : LO) : List (Nat × Value) := (List.range lo.length).filterMap (fun i => (zm_lget lo i).map (fun v => (i, zx_cv f v)))
theorem zm_lget_some {lo : LO} {i : Nat} {v : Value} : zm_lget lo i = some v ↔ lo[i]? = some (some v) := by
  unfold zm_lget
  cases hq : lo[i]? with
  | none => simp
  | some o => cases o <;> simp
theorem zx_lp_mem {f : Nat → Nat} {lo : LO} {q : Nat × Value} : q ∈ zx_lp f lo ↔ ∃ v, lo[q.1]? = some (some v) ∧ q.2 = zx_cv f v := by
  unfold zx_lp
  constructor
  · intro h
    obtain ⟨i, -, hi⟩ := List.mem_filterMap.mp h
    cases hg : zm_lget lo i with
    | none => rw [hg] at hi; cases hi
    | some v =>
      rw [hg] at hi
      have := Option.some.inj hi
      subst this
      exact ⟨v, zm_lget_some.mp hg, rfl⟩
  · rintro ⟨v, h1, h2⟩
    obtain ⟨i, w⟩ := q
    dsimp only at h1 h2
    subst h2
    refine List.mem_filterMap.mpr ⟨i, List.mem_range.mpr (List.getElem?_eq_some_iff.mp h1).1, ?_⟩
    rw [zm_lget_some.mpr h1]
    rfl
theorem zx_L.has {f : Nat → Nat} {lo : LO} {ls : Array Slot} {nL : Nat} (h : zx_L f lo ls nL) : lv_has ls nL (zx_lp f lo) := by
  refine ⟨h.1, h.2.2.1, fun q hq => ?_⟩
  obtain ⟨v, h1, h2⟩ := zx_lp_mem.mp hq
  rw [h2]
  exact h.2.2.2 q.1 v h1
theorem zx_L.at {f : Nat → Nat} {lo : LO} {ls : Array Slot} {nL : Nat} (h : zx_L f lo ls nL) {i : Nat} {v : Value} (hi : zm_lget lo i = some v) : ls[i]? = some (.val (zx_cv f v)) := h.2.2.2 i v (zm_lget_some.mp hi)
theorem zm_clr_len (lo : LO) (i : Nat) : (zm_clr lo i).length = lo.length := by
  unfold zm_clr
  cases i with
  | zero => rfl
  | succ k =>
    dsimp only
    cases zm_wide (zm_lget lo k) <;> simp
theorem zm_clr_at {lo : LO} {i j : Nat} {v : Value} (h : (zm_clr lo i)[j]? = some (some v)) : lo[j]? = some (some v) ∧ ¬ (j + 1 = i ∧ v.category = 2) := by
  unfold zm_clr at h
  cases i with
  | zero => exact ⟨h, fun q => by omega⟩
  | succ k =>
    dsimp only at h
    cases hw : zm_wide (zm_lget lo k) with
    | false =>
      rw [hw] at h
      have h' : lo[j]? = some (some v) := h
      refine ⟨h', fun q => ?_⟩
      have hj : j = k := by omega
      subst hj
      rw [zm_lget_some.mpr h'] at hw
      cases v <;> simp [zm_wide, Value.category] at hw q
    | true =>
      rw [hw] at h
      have h : (lo.set k none)[j]? = some (some v) := h
      by_cases hj : k = j
      · subst hj
        rw [List.getElem?_set] at h
        simp at h
      · rw [List.getElem?_set_ne hj] at h
        exact ⟨h, fun q => hj (by omega)⟩
theorem zx_L.put1 {f : Nat → Nat} {lo : LO} {ls ls' : Array Slot} {nL i : Nat} {v : Value} (h : zx_L f lo ls nL) (hi : i < nL) (h' : lv_has ls' nL ((i, zx_cv f v) :: (zx_lp f lo).filter (fun q => !(q.1 == i) && !(q.1 + 1 == i && q.2.category == 2)))) : zx_L f (zm_put1 lo i v) ls' nL := by
  refine ⟨h'.1, by simp [zm_put1, zm_clr_len, h.2.1], h'.2.1, fun j w hj => ?_⟩
  unfold zm_put1 at hj
  by_cases hij : i = j
  · subst hij
    rw [List.getElem?_set_self (by rw [zm_clr_len, h.2.1]; exact hi)] at hj
    cases hj
    exact h'.2.2 (i, _) List.mem_cons_self
  · rw [List.getElem?_set_ne hij] at hj
    obtain ⟨h1, h2⟩ := zm_clr_at hj
    refine h'.2.2 (j, zx_cv f w) (List.mem_cons_of_mem _ (List.mem_filter.mpr ⟨zx_lp_mem.mpr ⟨w, h1, rfl⟩, ?_⟩))
    simp only [Bool.and_eq_true, Bool.not_eq_true', beq_eq_false_iff_ne, ne_eq, Bool.and_eq_false_iff, zx_cv_cat]
    refine ⟨fun q => hij q.symm, ?_⟩
    by_cases hq : j + 1 = i
    · exact Or.inr (fun q => h2 ⟨hq, q⟩)
    · exact Or.inl hq
theorem zx_L.put2 {f : Nat → Nat} {lo : LO} {ls ls' : Array Slot} {nL i : Nat} {v : Value} (h : zx_L f lo ls nL) (hi : i + 1 < nL) (h' : lv_has ls' nL ((i, zx_cv f v) :: (zx_lp f lo).filter (fun q => !(q.1 == i) && (!(q.1 == i + 1) && !(q.1 + 1 == i && q.2.category == 2))))) : zx_L f (zm_put2 lo i v) ls' nL := by
  refine ⟨h'.1, by simp [zm_put2, zm_clr_len, h.2.1], h'.2.1, fun j w hj => ?_⟩
  unfold zm_put2 at hj
  by_cases hj1 : i + 1 = j
  · subst hj1
    rw [List.getElem?_set_self (by rw [List.length_set, zm_clr_len, h.2.1]; exact hi)] at hj
    cases hj
  · rw [List.getElem?_set_ne hj1] at hj
    by_cases hij : i = j
    · subst hij
      rw [List.getElem?_set_self (by rw [zm_clr_len, h.2.1]; omega)] at hj
      cases hj
      exact h'.2.2 (i, _) List.mem_cons_self
    · rw [List.getElem?_set_ne hij] at hj
      obtain ⟨h1, h2⟩ := zm_clr_at hj
      refine h'.2.2 (j, zx_cv f w) (List.mem_cons_of_mem _ (List.mem_filter.mpr ⟨zx_lp_mem.mpr ⟨w, h1, rfl⟩, ?_⟩))
      simp only [Bool.and_eq_true, Bool.not_eq_true', beq_eq_false_iff_ne, ne_eq, Bool.and_eq_false_iff, zx_cv_cat]
      refine ⟨fun q => hij q.symm, fun q => hj1 q.symm, ?_⟩
      by_cases hq : j + 1 = i
      · exact Or.inr (fun q => h2 ⟨hq, q⟩)
      · exact Or.inl hq
/-! the locals at a method's entry -/
theorem zm_cat1 {v : Value} (hc : ¬ v.category = 2) : Nat.beq v.category 2 = false := by
  rcases lv_cat v with q | q
  · rw [q]; rfl
  · exact absurd q hc
theorem zm_sl2_len (f : Nat → Nat) (vs : List Value) : (lg_sl (vs.map (zx_cv f))).length = (zm_sl2 vs).length := by
  induction vs with
  | nil => rfl
  | cons v vs ih =>
    rw [List.map_cons]
    unfold zm_sl2
    unfold lg_sl at ih ⊢
    rw [List.flatMap_cons, List.length_append, ih, zx_cv_cat]
    by_cases hc : v.category = 2
    · simp [hc]; omega
    · have hb : Nat.beq v.category 2 = false := zm_cat1 hc
      simp [hc, hb]; omega
theorem zm_sl2_at (f : Nat → Nat) (vs : List Value) : ∀ (i : Nat) (v : Value), (zm_sl2 vs)[i]? = some (some v) → (lg_sl (vs.map (zx_cv f)))[i]? = some (.val (zx_cv f v)) := by
  induction vs with
  | nil => intro i v h; simp [zm_sl2] at h
  | cons w vs ih =>
    intro i v h
    rw [List.map_cons]
    unfold zm_sl2 at h
    unfold lg_sl at ih ⊢
    rw [List.flatMap_cons, zx_cv_cat]
    by_cases hc : w.category = 2
    · rw [hc] at h
      rw [if_pos hc]
      have h : (some w :: none :: zm_sl2 vs)[i]? = some (some v) := h
      match i, h with
      | 0, h => cases h; rfl
      | 1, h => cases h
      | i + 2, h => exact ih i v h
    · have hb : Nat.beq w.category 2 = false := zm_cat1 hc
      rw [hb] at h
      rw [if_neg hc]
      have h : (some w :: zm_sl2 vs)[i]? = some (some v) := h
      match i, h with
      | 0, h => cases h; rfl
      | i + 1, h => exact ih i v h
theorem zx_L_entry (f : Nat → Nat) (vs : List Value) {n : Nat} (h : (zm_sl2 vs).length ≤ n) : zx_L f (zm_ent n vs) ((lg_sl (vs.map (zx_cv f)) ++ List.replicate (n - (lg_sl (vs.map (zx_cv f))).length) Slot.unset).toArray) n := by
  have hl := lv_entry (vs.map (zx_cv f)) (n := n) (by rw [zm_sl2_len]; exact h)
  refine ⟨hl.1, by simp [zm_ent]; omega, hl.2.1, fun i v hi => ?_⟩
  unfold zm_ent at hi
  rw [List.getElem?_toArray]
  by_cases hi2 : i < (zm_sl2 vs).length
  · rw [List.getElem?_append_left hi2] at hi
    rw [List.getElem?_append_left (by rw [zm_sl2_len]; exact hi2)]
    exact zm_sl2_at f vs i v hi
  · rw [List.getElem?_append_right (by omega)] at hi
    have := List.eq_of_mem_replicate (List.mem_of_getElem? hi)
    cases this
