/-! the tables' readers, and what a program decides of them -/
def z_Y (j : Nat) : MethodName := z_Yl.getD j objectInit
def z_B (j : Nat) : ByteArray := z_Bl.getD j ⟨#[]⟩
def z_L (j : Nat) : Nat := z_Ll.getD j 0
def z_R (j : Nat) : Option FieldType := z_Rl.getD j none
def z_O (j : Nat) : Nat := z_Ol.getD j 0
def z_K (j : Nat) : Nat := z_Kl.getD j 0
def z_N (j : Nat) : Nat := z_Nl.getD j 0
def z_cn (o : Nat) : String := z_CNl.getD o ""
def z_F (ci : Nat) : u_T := z_Tl.getD ci TX0
def z_ty (ci k : Nat) : FieldType := (z_tyl.getD ci tyX0) k
def z_dv (ci : Nat) : List Value := z_dvl.getD ci []
def z_el (t : Nat) : Nat := z_ell.getD t 0
def z_host : String := "EveningFirst"
def z_T : List Cond := lw_tbl.filter goodWord
theorem z_T_in {w : Cond} {k : Nat} (h : lw_tbl[k]? = some w) (hg : goodWord w = true) : w ∈ z_T := List.mem_filter.mpr ⟨List.mem_of_getElem? h, hg⟩
theorem z_T_good {w : Cond} (h : w ∈ z_T) : goodWord w = true := (List.mem_filter.mp h).2
theorem z_T_tbl {w : Cond} (h : w ∈ z_T) : w ∈ lw_tbl := (List.mem_filter.mp h).1
def zw_f (q : Nat × Nat × Nat × Nat) : Cond := .fieldLink (z_cn q.1) q.2.1 (z_cn q.2.2.1) (z_F q.2.2.1 q.2.2.2).2.1 (z_F q.2.2.1 q.2.2.2).2.2.1
def zw_m (q : Nat × Nat × Nat) : Cond := .methodLink (z_cn q.1) q.2.1 (z_Y q.2.2)
def zw_mn (q : Nat × Nat × Nat) : Cond := .methodLinkNest (z_cn q.1) q.2.1 (z_Y q.2.2) z_host
def zw_c (q : Nat × Nat × Nat) : Cond := .classLink (z_cn q.1) q.2.1 (z_cn q.2.2)
def zw_q (q : Nat × Nat × Nat) : Cond := .classLink (z_cn q.1) q.2.1 (z_cn (z_el q.2.2))
def zw_kc (q : Nat × Nat × Nat) : Cond := .constant (z_cn q.1) q.2.1 (Int32.ofNat q.2.2)
def zw_kl (q : Nat × Nat × Nat) : Cond := .constantLong (z_cn q.1) q.2.1 (Int64.ofNat q.2.2)
def zw_sf (q : Nat × Nat × Nat) : Cond := .fieldLink (z_cn q.1) q.2.1 "java/lang/String" (if q.2.2 = 0 then "value" else "coder") (if q.2.2 = 0 then "[B" else "B")
def zw_gs (q : Nat × Nat × Nat) : Cond := if q.2.2 = 0 then .fieldLink (z_cn q.1) q.2.1 "java/lang/String" "COMPACT_STRINGS" "Z" else .fieldLink (z_cn q.1) q.2.1 "jdk/internal/util/Preconditions" "SIOOBE_FORMATTER" "Ljava/util/function/BiFunction;"
def z_tx (i : Nat) : String := (z_St.getD i (0, "", [])).2.1
def z_by (i : Nat) : List Int32 := (z_St.getD i (0, "", [])).2.2
def zw_ls (q : Nat × Nat × Nat) : Cond := .stringRef (z_cn q.1) q.2.1 (z_tx q.2.2)
def zw_oi (q : Nat × Nat) : Cond := .methodLink (z_cn q.1) q.2 objectInit
def zk_all {α : Type} (l : List (α × Nat)) (w : α → Cond) : Bool := l.all (fun q => decide (lw_tbl[q.2]? = some (w q.1)))
set_option maxRecDepth 100000 in
theorem zo_f : zk_all z_fl zw_f = true := by decide +kernel
set_option maxRecDepth 100000 in
theorem zo_m : zk_all z_ml zw_m = true := by decide +kernel
set_option maxRecDepth 100000 in
theorem zo_mn : zk_all z_mn zw_mn = true := by decide +kernel
set_option maxRecDepth 100000 in
theorem zo_c : zk_all z_cl zw_c = true := by decide +kernel
set_option maxRecDepth 100000 in
theorem zo_q : zk_all z_aq zw_q = true := by decide +kernel
set_option maxRecDepth 100000 in
theorem zo_kc : zk_all z_kc zw_kc = true := by decide +kernel
set_option maxRecDepth 100000 in
theorem zo_kl : zk_all z_kl zw_kl = true := by decide +kernel
set_option maxRecDepth 100000 in
theorem zo_sf : zk_all z_sf zw_sf = true := by decide +kernel
set_option maxRecDepth 100000 in
theorem zo_gs : zk_all z_gs zw_gs = true := by decide +kernel
set_option maxRecDepth 100000 in
theorem zo_ls : zk_all z_ls zw_ls = true := by decide +kernel
set_option maxRecDepth 100000 in
theorem zo_oi : zk_all z_oi zw_oi = true := by decide +kernel
theorem zk_all_in {α : Type} {l : List (α × Nat)} {w : α → Cond} (h : zk_all l w = true) {q : α × Nat} (hq : q ∈ l) : lw_tbl[q.2]? = some (w q.1) := by
  have := List.all_eq_true.mp h q hq
  simpa using this
def zk_has {α : Type} (eq : α → α → Bool) (l : List (α × Nat)) (x : α) : Bool := l.any (fun q => eq q.1 x)
def zk_e2 (a b : Nat × Nat) : Bool := Nat.beq a.1 b.1 && Nat.beq a.2 b.2
def zk_e3 (a b : Nat × Nat × Nat) : Bool := Nat.beq a.1 b.1 && zk_e2 a.2 b.2
def zk_e4 (a b : Nat × Nat × Nat × Nat) : Bool := Nat.beq a.1 b.1 && zk_e3 a.2 b.2
theorem zk_e2_eq {a b : Nat × Nat} (h : zk_e2 a b = true) : a = b := by
  obtain ⟨a1, a2⟩ := a; obtain ⟨b1, b2⟩ := b
  simp only [zk_e2, Bool.and_eq_true] at h
  rw [Nat.eq_of_beq_eq_true h.1, Nat.eq_of_beq_eq_true h.2]
theorem zk_e3_eq {a b : Nat × Nat × Nat} (h : zk_e3 a b = true) : a = b := by
  obtain ⟨a1, a2⟩ := a; obtain ⟨b1, b2⟩ := b
  simp only [zk_e3, Bool.and_eq_true] at h
  rw [Nat.eq_of_beq_eq_true h.1, zk_e2_eq h.2]
theorem zk_e4_eq {a b : Nat × Nat × Nat × Nat} (h : zk_e4 a b = true) : a = b := by
  obtain ⟨a1, a2⟩ := a; obtain ⟨b1, b2⟩ := b
  simp only [zk_e4, Bool.and_eq_true] at h
  rw [Nat.eq_of_beq_eq_true h.1, zk_e3_eq h.2]
theorem zk_has_in {α : Type} {eq : α → α → Bool} (he : ∀ a b, eq a b = true → a = b) {l : List (α × Nat)} {w : α → Cond} (h : zk_all l w = true) {x : α} (hx : zk_has eq l x = true) : ∃ k : Nat, lw_tbl[k]? = some (w x) := by
  obtain ⟨q, hq, e⟩ := List.any_eq_true.mp hx
  have := zk_all_in h hq
  rw [he _ _ e] at this
  exact ⟨q.2, this⟩
