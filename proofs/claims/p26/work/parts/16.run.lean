/-! the real machine follows the small one: a run, with its calls -/
def zx_lr (d : Nat) : Nat := 12 + 31 * d
def zx_Pc (D : va_G) (tyc : Nat → ClassId) (H0 : Heap) (sa : Nat → Nat) (sc : Option (List Int32)) (as : List Value) (h : HP) : Array Value → State → Prop := va_Pc (as.map (zx_cv (zx_ad H0 sa))) (fun U => zx_R D tyc H0 sa h U.heap ∧ zx_C D tyc U ∧ zx_X sa sc H0 U ∧ zx_Y H0 sa U)
def zx_Qc (D : va_G) (tyc : Nat → ClassId) (H0 : Heap) (sa : Nat → Nat) (st1 : List Value) (h1 : HP) : Array Value → State → Outcome → State → Prop := fun _ _ o t => o = .returned ((st1.map (zx_cv (zx_ad H0 sa))).head?) ∧ zx_R D tyc H0 sa h1 t.heap
theorem zx_X.warm {sa : Nat → Nat} {sc : Option (List Int32)} {H0 : Heap} {s U : State} (hvm : s.vm.Alike U.vm) (h : zx_X sa sc H0 s) : zx_X sa sc H0 U := fun l hl => ⟨va_X.moved hvm (h l hl).1, (h l hl).2⟩
theorem zx_blind (D : va_G) (tyc : Nat → ClassId) (H0 : Heap) (sa : Nat → Nat) (sc : Option (List Int32)) (as : List Value) (h : HP) : FrameBlind (zx_Pc D tyc H0 sa sc as h) := by
  intro a U g mk hq
  exact ⟨hq.1, hq.2.1, zx_C.blind g mk a hq.2.2.1, zx_X.warm (s := U) (U := U.calling g mk a) (Vm.Alike.refl U.vm) hq.2.2.2.1, zx_Y.blind g mk a hq.2.2.2.2⟩
abbrev zx_ws (j : Nat) : List Cond := Cond.code (z_Y j) (z_B j) (z_L j) (z_R j) :: z_T
theorem zx_good {j : Nat} (h0 : 0 < j) (h1 : j < z_nM) (h2 : j ≠ z_law) : GoodIn z_T (zx_ws j) := by
  intro w hw
  rcases List.mem_cons.mp hw with rfl | hw
  · have := zk_code h0 h1 h2
    exact ⟨this, good_of_word (z_T_good this)⟩
  · exact ⟨hw, good_of_word (z_T_good hw)⟩
theorem zm_ret_s {rt : Option FieldType} {i : Instr} {st : List Value} (h : zm_ret rt i st = true) : (i = .ireturn ∧ ∃ v, st = [.int v] ∧ (rt = some .int ∨ ∃ ty, rt = some ty ∧ narrow ty (.int v) = .int v)) ∨ (i = .lreturn ∧ ∃ v, st = [.long v] ∧ rt = some .long) ∨ (i = .return_ ∧ st = [] ∧ rt = none) := by
  unfold zm_ret at h
  split at h
  · exact Or.inl ⟨rfl, _, rfl, Or.inl rfl⟩
  · next v =>
    refine Or.inl ⟨rfl, _, rfl, Or.inr ⟨_, rfl, ?_⟩⟩
    have hv : v = 0 ∨ v = 1 := by
      rcases Bool.or_eq_true _ _ ▸ h with h | h
      · exact Or.inl (beq_iff_eq.mp h)
      · exact Or.inr (beq_iff_eq.mp h)
    rcases hv with rfl | rfl <;> decide
  · exact Or.inl ⟨rfl, _, rfl, Or.inr ⟨_, rfl, of_decide_eq_true h⟩⟩
  · exact Or.inl ⟨rfl, _, rfl, Or.inr ⟨_, rfl, of_decide_eq_true h⟩⟩
  · exact Or.inr (Or.inl ⟨rfl, _, rfl, rfl⟩)
  · exact Or.inr (Or.inr ⟨rfl, rfl, rfl⟩)
  · cases h
theorem zm_run_ret {sc : Option (List Int32)} : ∀ (f d j pc : Nat) (lo : LO) (st : List Value) (h : HP) (r : Nat × List Value × HP), zm_run sc f d j pc lo st h = some r → ∃ x, zm_at j r.1 = some x ∧ zm_ret (z_R j) x.1 r.2.1 = true := by
  intro f
  induction f with
  | zero => intro d j pc lo st h r hr; cases hr
  | succ f ih =>
    intro d j pc lo st h r hr
    unfold zm_run at hr
    split at hr
    · cases hr
    · next x hx =>
      split at hr
      · split at hr
        · cases hr
        · exact ih _ _ _ _ _ _ _ hr
      · obtain ⟨-, hr⟩ := zm_if hr
        split at hr
        · cases hr
        · rcases zm_m1 hr with g | g
          · exact ih _ _ _ _ _ _ _ g
          · obtain ⟨-, g⟩ := zm_if g
            split at g
            · cases g
            · exact ih _ _ _ _ _ _ _ g
      · obtain ⟨g1, g⟩ := zm_if hr
        cases g
        exact ⟨x, hx, g1⟩
def zx_S (D : va_G) (tyc : Nat → ClassId) (H0 : Heap) (sa : Nat → Nat) (sc : Option (List Int32)) (l : Launch) (f : Nat) : Prop :=
  ∀ (d j pc : Nat) (lo : LO) (st : List Value) (h : HP) (r : Nat × List Value × HP), zm_run sc f d j pc lo st h = some r →
  ∀ (p : Program) (e : Env) (R : Room) (s : State) (m : MethodId) (args : Array Value) (below : List Frame) (meth : Method) (c : Code) (H : Heap) (locs : List Loc) (cells slots : Nat) (Q : State → Prop) (ls : Array Slot) (c0 s0 : Nat),
  zx_G D tyc H0 sa sc p s m args meth c j → zx_H H0 s c0 → zx_R D tyc H0 sa h H → (∀ q ∈ locs, H0.size ≤ q.base) → zx_L (zx_ad H0 sa) lo ls (z_L j) → cells + c0 = h.length → slots + s0 = zm_hsz h →
  r.2.2.length ≤ R.cells + c0 → zm_hsz r.2.2 ≤ R.slots + s0 → d ≤ R.frames → zx_lr d ≤ R.locals →
  (∀ (H1 : Heap) (locs1 : List Loc) (ls1 : Array Slot) (cells1 slots1 : Nat), zx_R D tyc H0 sa r.2.2 H1 → (∀ q ∈ locs1, H0.size ≤ q.base) → cells1 + c0 = r.2.2.length → slots1 + s0 = zm_hsz r.2.2 →
    W p l e R s m args below meth c H1 locs1 cells1 slots1 Q (F0 m r.1 ls1 (r.2.1.map (zx_cv (zx_ad H0 sa))))) →
  W p l e R s m args below meth c H locs cells slots Q (F0 m pc ls (st.map (zx_cv (zx_ad H0 sa))))
section ZC
variable {D : va_G} {tyc : Nat → ClassId} {H0 : Heap} {sa : Nat → Nat} {sc : Option (List Int32)} {l : Launch}
set_option maxHeartbeats 4000000 in
/-- a method's contract, out of its run -/
theorem zx_met {f : Nat} (IH : zx_S D tyc H0 sa sc l f) {d j pcR : Nat} {as st1 : List Value} {h h1 : HP} (h0 : 0 < j) (hj : j < z_nM) (hne : j ≠ z_law) (hr : zm_run sc f d j 0 (zm_ent (z_L j) as) [] h = some (pcR, st1, h1)) (hfit : (zm_sl2 as).length ≤ z_L j) :
    Met l (z_Y j) (zx_ws j) ({ frames := d, cells := h1.length - h.length, slots := zm_hsz h1 - zm_hsz h, locals := zx_lr d }) (zx_Pc D tyc H0 sa sc as h) (zx_Qc D tyc H0 sa st1 h1) (h1.length - h.length) (zm_hsz h1 - zm_hsz h) (fun q => H0.size ≤ q) := by
  have hle := zm_run_le _ _ _ _ _ _ _ _ hr
  obtain ⟨x, hx1, hx2⟩ := zm_run_ret _ _ _ _ _ _ _ _ hr
  have hdec := zk_dec hx1
  refine Met.ofW (cc := z_B j) (maxL := z_L j) (ret := z_R j) (zk_mm_s hj h0).2.2.2.1 rfl ?_
  intro p e s m args below meth c s₁ B hml hv
  obtain ⟨rfl, hR, hC, hX, hYY⟩ := hv
  have hts : ∀ w ∈ z_T, w.before _ s = true := fun w hw => atoms_spec (ws := zx_ws j) B.pre w (List.mem_cons_of_mem _ hw)
  have hown : s.vm.findClass (z_Y j).cls = some m.cls := findClass_of_methodNamed B.named
  have hin : (z_Y j).name = "<init>" → meth.name = "<init>" := fun q => (name_of_methodNamed B.named B.method).1.trans q
  rw [lg_entry_eq]
  refine IH d j 0 _ [] h _ hr p e _ s m _ below meth c s.heap [] 0 0 _ _ h.length (zm_hsz h) ⟨B.exec, B.bytes, hml, hown, hts, hin, hC, hX, hYY⟩ ⟨hR.1, hR.2.2.1⟩ hR (fun q hq => by cases hq) (zx_L_entry _ _ hfit) (Nat.zero_add _) (Nat.zero_add _) ?_ ?_ (Nat.le_refl _) (Nat.le_refl _) ?_
  · show h1.length ≤ (h1.length - h.length) + h.length
    omega
  · show zm_hsz h1 ≤ (zm_hsz h1 - zm_hsz h) + zm_hsz h
    omega
  · intro H1 locs1 ls1 cells1 slots1 R1 hl1 e1 e2
    have e1 : cells1 + h.length = h1.length := e1
    have e2 : slots1 + zm_hsz h = zm_hsz h1 := e2
    have q1 : h1.length - h.length = cells1 := by omega
    have q2 : zm_hsz h1 - zm_hsz h = slots1 := by omega
    rw [q1, q2]
    have hre := B.returns
    obtain ⟨i, n, a, b⟩ := x
    have hdec : decode (z_B j) pcR = .ok (i, zk_ln i n) := hdec
    rcases zm_ret_s hx2 with ⟨rfl, v, hst, hrt⟩ | ⟨rfl, v, hst, hrt⟩ | ⟨rfl, hst, hrt⟩
    · have hst : st1 = [.int v] := hst
      subst hst
      rcases hrt with hrt | ⟨ty, hrt, hv⟩
      · exact W.iret B.exec B.bytes (hre.trans hrt) (fun t ht _ => ⟨rfl, by rw [ht]; exact R1⟩) hl1 hdec (hlocks := B.notSynchronized)
      · exact W.zret (ty := ty) B.exec B.bytes (hre.trans hrt) hv (fun t ht _ => ⟨rfl, by rw [ht]; exact R1⟩) hl1 hdec (hlocks := B.notSynchronized)
    · have hst : st1 = [.long v] := hst
      subst hst
      exact W.lret B.exec B.bytes (hre.trans hrt) (fun t ht _ => ⟨rfl, by rw [ht]; exact R1⟩) hl1 hdec (hlocks := B.notSynchronized)
    · have hst : st1 = [] := hst
      subst hst
      exact W.vret B.exec B.bytes (hre.trans hrt) (fun t ht _ => ⟨rfl, by rw [ht]; exact R1⟩) hl1 hdec (hlocks := B.notSynchronized)
variable {p : Program} {e : Env} {R : Room} {s : State} {m : MethodId} {args : Array Value} {below : List Frame} {meth : Method} {c : Code} {H : Heap} {locs : List Loc} {cells slots : Nat} {Q : State → Prop} {ls : Array Slot}
/-- behind a call -/
theorem zx_back {mc ms pc : Nat} {st0 rest st1 : List Value} {h1 : HP} {a : Array Value} (hlen : st1.length ≤ 1) (hlc : ∀ q ∈ locs, H0.size ≤ q.base) (hr : va_Run p l e R s m args below meth c H locs cells slots mc ms (F0 m pc ls st0) rest (zx_Qc D tyc H0 sa st1 h1 a) (fun q => H0.size ≤ q))
    (K : ∀ (H1 : Heap) (locs1 : List Loc), zx_R D tyc H0 sa h1 H1 → (∀ q ∈ locs1, H0.size ≤ q.base) → W p l e R s m args below meth c H1 locs1 (cells + mc) (slots + ms) Q (F0 m (pc + 3) ls (st1.map (zx_cv (zx_ad H0 sa)) ++ rest))) : W p l e R s m args below meth c H locs cells slots Q (F0 m pc ls st0) := by
  intro T hT X
  obtain ⟨v, st₀, t, T', L, h0, X', hL, e1, e2, ⟨hv, hR1⟩, st⟩ := hr T hT X
  have hv : v = (st1.map (zx_cv (zx_ad H0 sa))).head? := by injection hv
  have hvl : v.toList = st1.map (zx_cv (zx_ad H0 sa)) := by
    rw [hv]
    match st1, hlen with
    | [], _ => rfl
    | [y], _ => rfl
  rw [hvl] at st
  obtain ⟨t2, a1, b1⟩ := K T'.heap (locs ++ L) (by rw [e1]; exact hR1) (fun q hq => by
    rcases List.mem_append.mp hq with h | h
    · exact hlc q h
    · exact hL q h) T' rfl X'
  exact ⟨t2, st t2 a1, b1⟩
end ZC
