/-! the real machine follows the small one: one instruction -/
def zx_tys (tyc : Nat → ClassId) : List (ClassId × FieldType) := z_AT.mapIdx (fun t ty => (tyc t, ty))
theorem zx_tys_get {tyc : Nat → ClassId} {t : Nat} {ty : FieldType} (h : z_AT[t]? = some ty) : (zx_tys tyc)[t]? = some (tyc t, ty) := by
  simp [zx_tys, List.getElem?_mapIdx, h]
/-- what the tables say at a state -/
def zx_C (D : va_G) (tyc : Nat → ClassId) (U : State) : Prop := va_K D vwCl (zx_tys tyc) U ∧ (∀ q ∈ z_mn, va_Nw (zw_mn q.1) U) ∧ ∀ C ∈ z_AO, va_AO C U
theorem zx_C.warm {D : va_G} {tyc : Nat → ClassId} {s U : State} (hW : s.WarmedH U.vm) (h : zx_C D tyc s) : zx_C D tyc U :=
  ⟨va_K.moved hW.alike h.1, fun q hq => va_Nw.warmM hW (h.2.1 q hq), fun C hC => va_AO.moved hW.alike (h.2.2 C hC)⟩
theorem zx_C.blind {D : va_G} {tyc : Nat → ClassId} {U : State} (g : JFrame) (mk : MethodId) (a : Array Value) (h : zx_C D tyc U) : zx_C D tyc (U.calling g mk a) :=
  ⟨va_K.moved (u := U) (U := U.calling g mk a) (Vm.Alike.refl U.vm) h.1, fun q hq => va_Nw.same (u := U) (U := U.calling g mk a) rfl rfl (h.2.1 q hq), fun C hC => va_AO.moved (u := U) (U := U.calling g mk a) (Vm.Alike.refl U.vm) (h.2.2 C hC)⟩
def zx_X (sa : Nat → Nat) (sc : Option (List Int32)) (H0 : Heap) (U : State) : Prop := ∀ l, sc = some l → va_X (sa 0) l.length (fun k => l.getD k 0) U H0 ∧ sa 0 < H0.size
abbrev zx_A (H0 : Heap) : Nat → Prop := fun q => H0.size ≤ q
/-- the String constants and two statics, as the cells ahead of H0.size hold them -/
def zx_Y (H0 : Heap) (sa : Nat → Nat) (U : State) : Prop := (∀ q ∈ z_ls, vk_R (z_cn q.1.1) q.1.2.1 (z_tx q.1.2.2) (sa (1 + q.1.2.2)) U) ∧ vk_S 9 (z_St.map (fun q => q.2.2.length)) (z_St.map (fun q => q.2.2)) (fun i => sa (1 + i)) (fun i => sa (101 + i)) (zx_A H0) U H0 ∧
  va_Z "java/lang/String" "COMPACT_STRINGS" "Z" (.int 1) (zx_A H0) U H0 ∧ va_Z "jdk/internal/util/Preconditions" "SIOOBE_FORMATTER" "Ljava/util/function/BiFunction;" (if sa 300 = 0 then .null else .ref (sa 301)) (zx_A H0) U H0
theorem zx_Y.warm {H0 : Heap} {sa : Nat → Nat} {s U : State} (hW : s.WarmedH U.vm) (h : zx_Y H0 sa s) : zx_Y H0 sa U := ⟨fun q hq => vk_R.warm hW (h.1 q hq), vk_S.moved hW.alike h.2.1, va_Z.moved hW.alike h.2.2.1, va_Z.moved hW.alike h.2.2.2⟩
theorem zx_Y.blind {H0 : Heap} {sa : Nat → Nat} {U : State} (g : JFrame) (mk : MethodId) (a : Array Value) (h : zx_Y H0 sa U) : zx_Y H0 sa (U.calling g mk a) := ⟨fun q hq => vk_R.same (u := U) (U := U.calling g mk a) rfl (h.1 q hq), vk_S.moved (u := U) (U := U.calling g mk a) (Vm.Alike.refl U.vm) h.2.1, va_Z.moved (u := U) (U := U.calling g mk a) (Vm.Alike.refl U.vm) h.2.2.1, va_Z.moved (u := U) (U := U.calling g mk a) (Vm.Alike.refl U.vm) h.2.2.2⟩
/-- the heap at a method's entry -/
def zx_H (H0 : Heap) (s : State) (c0 : Nat) : Prop := s.heap.size = H0.size + c0 ∧ ∀ q : Nat, q < H0.size → s.heap[q]? = H0[q]?
def zx_G (D : va_G) (tyc : Nat → ClassId) (H0 : Heap) (sa : Nat → Nat) (sc : Option (List Int32)) (p : Program) (s : State) (m : MethodId) (args : Array Value) (meth : Method) (c : Code) (j : Nat) : Prop :=
  p.tables.exec = Jvm.exec ∧ c.code = z_B j ∧ c.maxLocals = z_L j ∧ s.vm.findClass (z_Y j).cls = some m.cls ∧ (∀ w ∈ z_T, w.before args s = true) ∧ ((z_Y j).name = "<init>" → meth.name = "<init>") ∧ zx_C D tyc s ∧ zx_X sa sc H0 s ∧ zx_Y H0 sa s
def zk_F (j idx ci k : Nat) : Prop := ci < 9 ∧ k < (z_dv ci).length ∧ (z_F ci k).1 = z_cn ci ∧ zw_f (z_O j, idx, ci, k) ∈ z_T ∧ (z_Y j).cls = z_cn (z_O j)
def zk_W (j ci k : Nat) : Prop := (z_F ci k).2.2.2 = true → (z_Y j).name = "<init>" ∧ z_cn ci = (z_Y j).cls
theorem zm_ok_s {ty : FieldType} {v : Value} (f : Nat → Nat) (h : zm_ok ty v = true) : narrow ty (zx_cv f v) = zx_cv f v ∧ fits ty (zx_cv f v) = true := by
  unfold zm_ok at h
  split at h
  · exact ⟨rfl, rfl⟩
  · next x =>
    have h1 : x = 0 ∨ x = 1 := by
      rcases Bool.or_eq_true _ _ ▸ h with h | h
      · exact Or.inl (beq_iff_eq.mp h)
      · exact Or.inr (beq_iff_eq.mp h)
    rcases h1 with rfl | rfl
    · exact ⟨(by decide : narrow .boolean (.int 0) = .int 0), (by decide : fits .boolean (.int 0) = true)⟩
    · exact ⟨(by decide : narrow .boolean (.int 1) = .int 1), (by decide : fits .boolean (.int 1) = true)⟩
  · exact ⟨rfl, rfl⟩
  · exact ⟨rfl, rfl⟩
  · exact ⟨rfl, rfl⟩
  · cases h
theorem zx_map_set (f : Nat → Nat) (fs : List Value) (k : Nat) (v : Value) : (fs.map (zx_cv f)).set k (zx_cv f v) = (fs.set k v).map (zx_cv f) := by simp [List.map_set]
section ZX
variable {p : Program} {l : Launch} {e : Env} {R : Room} {s : State} {m : MethodId} {args : Array Value} {below : List Frame} {meth : Method} {c : Code} {H : Heap} {locs : List Loc} {cells slots : Nat} {Q : State → Prop}
variable {D : va_G} {tyc : Nat → ClassId} {H0 : Heap} {sa : Nat → Nat} {sc : Option (List Int32)} {j pc : Nat} {ls : Array Slot} {rest : List Value} {h : HP}
theorem zx_locs {r i : Nat} (hl : ∀ q ∈ locs, H0.size ≤ q.base) : ∀ q ∈ locs ++ [(⟨H0.size + r, i⟩ : Loc)], H0.size ≤ q.base := by
  intro q hq
  rcases List.mem_append.mp hq with hq | hq
  · exact hl q hq
  · rw [List.mem_singleton.mp hq]
    exact Nat.le_add_right _ _
/-- getfield -/
theorem zx_getf (G : zx_G D tyc H0 sa sc p s m args meth c j) (hR : zx_R D tyc H0 sa h H) {r ci k idx : Nat} {fs : List Value} {v : Value} (hr : h[r]? = some (.inr (.inr (ci, fs)))) (hv : fs[k]? = some v) (hz : zk_F j idx ci k) (hd : decode (z_B j) pc = .ok (.getfield idx, 3))
    (K : W p l e R s m args below meth c H locs cells slots Q (F0 m (pc + 3) ls (zx_cv (zx_ad H0 sa) v :: rest))) : W p l e R s m args below meth c H locs cells slots Q (F0 m pc ls (.ref (zx_ad H0 sa r) :: rest)) := by
  obtain ⟨hx, hb, hml, hown, hts, hin, hC, hX, hYY⟩ := G
  obtain ⟨hci, hk, hdecl, hlk, hcls⟩ := hz
  have hc := zk_vw hci
  obtain ⟨ku, kt, kn, -⟩ := zk_cl hc
  rw [hR.ad hr]
  have he := zx_cw_get (H0 := H0) (f := zx_ad H0 sa) (tyc := tyc) hr
  rw [hcls] at hown
  exact va_get (ref := z_cn ci) hx hb hts ku hown hC.1 hR.P r he hc k hk (hts _ hlk) (fun x hx => by rw [hdecl] at hx; exact hx) (by simp [hv]) hd K
/-- putfield -/
theorem zx_putf (G : zx_G D tyc H0 sa sc p s m args meth c j) (hR : zx_R D tyc H0 sa h H) (hlc : ∀ q ∈ locs, H0.size ≤ q.base) {r ci k idx : Nat} {fs : List Value} {v : Value} (hr : h[r]? = some (.inr (.inr (ci, fs)))) (hl : k < fs.length) (hv : zm_ok (z_ty ci k) v = true) (hz : zk_F j idx ci k) (hzp : zk_W j ci k) (hd : decode (z_B j) pc = .ok (.putfield idx, 3))
    (K : ∀ (H1 : Heap) (locs1 : List Loc), zx_R D tyc H0 sa (h.set r (.inr (.inr (ci, fs.set k v)))) H1 → (∀ q ∈ locs1, H0.size ≤ q.base) → W p l e R s m args below meth c H1 locs1 cells slots Q (F0 m (pc + 3) ls rest)) : W p l e R s m args below meth c H locs cells slots Q (F0 m pc ls (zx_cv (zx_ad H0 sa) v :: .ref (zx_ad H0 sa r) :: rest)) := by
  obtain ⟨hx, hb, hml, hown, hts, hin, hC, hX, hYY⟩ := G
  obtain ⟨hci, hk, hdecl, hlk, hcls⟩ := hz
  have hc := zk_vw hci
  obtain ⟨ku, kt, kn, -⟩ := zk_cl hc
  obtain ⟨hn, hfit⟩ := zm_ok_s (zx_ad H0 sa) hv
  have hty := kt k hk
  rw [hR.ad hr]
  have hap := va_apart (own := z_cn ci) hts ku (z_ty ci) kt kn hC.1 hc
  obtain ⟨rr, h1, cell, q1, q2, q3, q4⟩ := hR.2.1 r _ hr
  have hrr : rr = (z_cn ci, z_F ci, (z_dv ci).length) := Option.some.inj (h1.symm.trans hc)
  subst hrr
  obtain ⟨hS, hfc, kC, hkC, hkind⟩ := hC.1.1 ci _ hc
  obtain ⟨cf, kf, fi, f, hi, hsl⟩ := hS k hk
  have hst := (u_facts hfc hkC (u_lays hts ku hk) hi).1
  have hsame : ∀ x, s.fieldFound? (z_F ci k).1 (z_F ci k).2.1 (z_F ci k).2.2.1 = some x → s.fieldFound? (z_cn ci) (z_F ci k).2.1 (z_F ci k).2.2.1 = some x := fun x hx => by rw [hdecl] at hx; exact hx
  have hl' : k < (fs.map (zx_cv (zx_ad H0 sa))).length := by simpa using hl
  have fin : ∀ H' : Heap, H'[H0.size + r]? = some (cell.setSlot f.slot (zx_cv (zx_ad H0 sa) v)) → H'.size = H.size → (∀ q, q ≠ H0.size + r → H'[q]? = H[q]?) → W p l e R s m args below meth c H' (locs ++ [⟨H0.size + r, f.slot⟩]) cells slots Q (F0 m (pc + 3) ls rest) := by
    intro H' e1 e2 e3
    rw [hsl] at e1 ⊢
    refine K H' _ (hR.set hr ?_ e2 e3) (zx_locs hlc)
    refine ⟨_, hc, ?_⟩
    have := t_OB.to (V := updV (vp_V (fs.map (zx_cv (zx_ad H0 sa)))) k (zx_cv (zx_ad H0 sa) v)) ⟨_, e1, q2, q3, t_set q4 hap hk _⟩ (fun j _ => vp_updV_set hl' _ j)
    rw [zx_map_set] at this
    exact this
  have hlay := hts _ (ku _ (u_in_lay hk))
  unfold u_lay at hlay
  have hw := hzp
  have hown' := hown
  rw [hcls] at hown'
  by_cases hf : (z_F ci k).2.2.2 = true
  · rw [if_pos hf] at hlay
    obtain ⟨w1, w2⟩ := hw hf
    have hcf : m.cls = cf := by
      obtain ⟨_, _, c', _, _, _, -, -, hf', -, -, -, hown2, -⟩ := Cond.laysFinal_spec hlay
      have e1 : c' = cf := by have := hi.symm.trans hf'; simp at this; exact this.1.symm
      rw [hdecl, w2] at hown2
      rw [← e1]; exact Option.some.inj (hown.symm.trans hown2)
    have h6 := u_fits hfc hkC hkind (Or.inr hlay) hi hty hn hfit
    exact W.putFinK hx hb hown' (hts _ hlk) (hsame _ hi) hst hcf (hin w1) (by rw [q2]; exact h6) q1 q3 (by rw [hsl]; exact k2_hasslot (q4 k hk)) rfl rfl hd fin
  · rw [if_neg hf] at hlay
    have h6 := u_store hfc hkC hkind hlay hi hty hn hfit
    exact W.putK hx hb (f := f) ⟨hown', hts _ hlk, ⟨_, _, _, hsame _ hi⟩, hst⟩ (by rw [q2]; exact h6) q1 q3 (by rw [hsl]; exact k2_hasslot (q4 k hk)) rfl rfl hd fin
theorem zx_R.SH {c0 : Nat} (hR : zx_R D tyc H0 sa h H) (hH : zx_H H0 s c0) (hc : c0 ≤ h.length) (hl : ∀ q ∈ locs, H0.size ≤ q.base) : va_S (zx_A H0) s.heap H locs :=
  ⟨by rw [hH.1, hR.1]; omega, fun q h1 h2 => by
    have h2 : ¬ H0.size ≤ q := h2
    rw [hR.2.2.1 q (by omega), hH.2 q (by omega)], hl⟩
theorem zx_kept {c0 : Nat} (hH : zx_H H0 s c0) : ∀ a : Nat, a < H0.size → ¬ zx_A H0 a → s.heap[a]? = H0[a]? := fun a h1 _ => hH.2 a h1
theorem zx_adS {i : Nat} : zx_ad H0 sa (zm_SP + i) = sa i := by
  unfold zx_ad
  rw [if_neg (by omega), Nat.add_sub_cancel_left]
/-- ldc of a text -/
theorem zx_ldcS (G : zx_G D tyc H0 sa sc p s m args meth c j) {i idx : Nat} (hcls : (z_Y j).cls = z_cn (z_O j)) (hz : zk_has zk_e3 z_ls (z_O j, idx, i) = true) (hd : decode (z_B j) pc = .ok (.ldc idx, 2))
    (K : W p l e R s m args below meth c H locs cells slots Q (F0 m (pc + 2) ls (.ref (zx_ad H0 sa (zm_SP + 1 + i)) :: rest))) : W p l e R s m args below meth c H locs cells slots Q (F0 m pc ls rest) := by
  obtain ⟨hx, hb, hml, hown, hts, hin, hC, hX, hYY⟩ := G
  obtain ⟨q, hq, eq⟩ := List.any_eq_true.mp hz
  have hr := hYY.1 q hq
  rw [zk_e3_eq eq] at hr
  rw [show zm_SP + 1 + i = zm_SP + (1 + i) by omega, zx_adS] at K
  rw [hcls] at hown
  exact va_ldcS hx hb hown hr hd K
/-- a String's field -/
theorem zx_sget {c0 : Nat} (G : zx_G D tyc H0 sa sc p s m args meth c j) (hR : zx_R D tyc H0 sa h H) (hH : zx_H H0 s c0) (hc : c0 ≤ h.length) (hlc : ∀ q ∈ locs, H0.size ≤ q.base) {r b idx : Nat} {v : Value} (hcls : (z_Y j).cls = z_cn (z_O j)) (hz : zk_has zk_e3 z_sf (z_O j, idx, b) = true) (hs : zm_sget r b = some v) (hd : decode (z_B j) pc = .ok (.getfield idx, 3))
    (K : W p l e R s m args below meth c H locs cells slots Q (F0 m (pc + 3) ls (zx_cv (zx_ad H0 sa) v :: rest))) : W p l e R s m args below meth c H locs cells slots Q (F0 m pc ls (.ref (zx_ad H0 sa r) :: rest)) := by
  obtain ⟨hx, hb, hml, hown, hts, hin, hC, hX, hYY⟩ := G
  unfold zm_sget at hs
  obtain ⟨g1, g2⟩ := zm_if hs
  simp only [zm_isS, Bool.and_eq_true] at g1
  have q1 : zm_SP < r := Nat.le_of_ble_eq_true g1.1
  have q2 : r ≤ zm_SP + 9 := Nat.le_of_ble_eq_true g1.2
  obtain ⟨i, rfl⟩ : ∃ i, r = zm_SP + (1 + i) := ⟨r - zm_SP - 1, by omega⟩
  have hi : i < 9 := by omega
  obtain ⟨k, hk⟩ := zk_has_in (fun _ _ => zk_e3_eq) zo_sf hz
  have hlink : (zw_sf (z_O j, idx, b)).before args s = true := hts _ (z_T_in hk rfl)
  have hE := (vk_S.kept hYY.2.1 (zx_kept hH)).1 i hi
  rw [hcls] at hown
  rw [zx_adS]
  match b, g2, hlink with
  | 0, g2, hlink =>
    cases g2
    have e : zx_cv (zx_ad H0 sa) (.ref (zm_SP + (1 + i) + 100)) = .ref (sa (101 + i)) := by
      rw [zx_cv_ref, show zm_SP + (1 + i) + 100 = zm_SP + (101 + i) by omega, zx_adS]
    rw [e] at K
    exact vk_getf hx hb hE.2.2.1 (hR.SH hH hc hlc) hown hlink (fun x hx => hx) hd K
  | 1, g2, hlink =>
    cases g2
    exact vk_getf hx hb hE.2.1 (hR.SH hH hc hlc) hown hlink (fun x hx => hx) hd K
  | k + 2, g2, _ => cases g2
/-- a static -/
theorem zx_gets {c0 : Nat} (G : zx_G D tyc H0 sa sc p s m args meth c j) (hR : zx_R D tyc H0 sa h H) (hH : zx_H H0 s c0) (hc : c0 ≤ h.length) (hlc : ∀ q ∈ locs, H0.size ≤ q.base) {a idx : Nat} {v : Value} (hcls : (z_Y j).cls = z_cn (z_O j)) (hz : zk_has zk_e3 z_gs (z_O j, idx, a) = true) (hs : zm_gs a = some v) (hd : decode (z_B j) pc = .ok (.getstatic idx, 3))
    (K : W p l e R s m args below meth c H locs cells slots Q (F0 m (pc + 3) ls (zx_cv (zx_ad H0 sa) v :: rest))) : W p l e R s m args below meth c H locs cells slots Q (F0 m pc ls rest) := by
  obtain ⟨hx, hb, hml, hown, hts, hin, hC, hX, hYY⟩ := G
  obtain ⟨k, hk⟩ := zk_has_in (fun _ _ => zk_e3_eq) zo_gs hz
  rw [hcls] at hown
  match a, hs, hk with
  | 0, hs, hk =>
    cases hs
    have hlink : (zw_gs (z_O j, idx, 0)).before args s = true := hts _ (z_T_in hk rfl)
    exact va_gets hx hb (va_Z.kept hYY.2.2.1 (zx_kept hH)) (hR.SH hH hc hlc) hown hlink (fun x hx => hx) hd K
  | 1, hs, hk =>
    cases hs
    have hlink : (zw_gs (z_O j, idx, 1)).before args s = true := hts _ (z_T_in hk rfl)
    have e : zx_cv (zx_ad H0 sa) (.retAddr 0) = if sa 300 = 0 then .null else .ref (sa 301) := by
      show (if zx_ad H0 sa (zm_SP + 300) = 0 then Value.null else .ref (zx_ad H0 sa (zm_SP + 301))) = _
      rw [zx_adS, zx_adS]
    rw [e] at K
    exact va_gets hx hb (va_Z.kept hYY.2.2.2 (zx_kept hH)) (hR.SH hH hc hlc) hown hlink (fun x hx => hx) hd K
  | k + 2, hs, _ => cases hs
theorem zx_isB {r : Nat} (h : zm_isB r = true) : ∃ i, i < 9 ∧ r = zm_SP + (101 + i) ∧ zm_sby r = z_by i := by
  simp only [zm_isB, Bool.and_eq_true] at h
  have q1 : zm_SP + 100 < r := Nat.le_of_ble_eq_true h.1
  have q2 : r ≤ zm_SP + 109 := Nat.le_of_ble_eq_true h.2
  refine ⟨r - (zm_SP + 101), by omega, by omega, rfl⟩
theorem zx_byL {i : Nat} (hi : i < 9) : (z_St.map (fun q => q.2.2.length)).getD i 0 = (z_by i).length ∧ (z_St.map (fun q => q.2.2)).getD i [] = z_by i := by
  match i, hi with
  | 0, _ => exact ⟨rfl, rfl⟩
  | 1, _ => exact ⟨rfl, rfl⟩
  | 2, _ => exact ⟨rfl, rfl⟩
  | 3, _ => exact ⟨rfl, rfl⟩
  | 4, _ => exact ⟨rfl, rfl⟩
  | 5, _ => exact ⟨rfl, rfl⟩
  | 6, _ => exact ⟨rfl, rfl⟩
  | 7, _ => exact ⟨rfl, rfl⟩
  | 8, _ => exact ⟨rfl, rfl⟩
/-- a String's bytes -/
theorem zx_sbald {c0 : Nat} (G : zx_G D tyc H0 sa sc p s m args meth c j) (hR : zx_R D tyc H0 sa h H) (hH : zx_H H0 s c0) (hc : c0 ≤ h.length) (hlc : ∀ q ∈ locs, H0.size ≤ q.base) {r : Nat} {i : Int32} (hB : zm_isB r = true) (hi : vp_in i (zm_sby r).length) (hd : decode (z_B j) pc = .ok (.baload, 1))
    (K : W p l e R s m args below meth c H locs cells slots Q (F0 m (pc + 1) ls (.int ((zm_sby r).getD i.toNatClampNeg 0) :: rest))) : W p l e R s m args below meth c H locs cells slots Q (F0 m pc ls (.int i :: .ref (zx_ad H0 sa r) :: rest)) := by
  obtain ⟨hx, hb, hml, hown, hts, hin, hC, hX, hYY⟩ := G
  obtain ⟨k, hk, rfl, e⟩ := zx_isB hB
  have hE := (vk_S.kept hYY.2.1 (zx_kept hH)).1 k hk
  obtain ⟨e1, e2⟩ := zx_byL hk
  rw [zx_adS]
  rw [e] at hi K
  have hT := hE.2.2.2
  rw [e1] at hT
  refine va_tb hx hb hT (hR.SH hH hc hlc) hi ?_ hd K
  show Value.int _ = _
  rw [e2]
theorem zx_salen {c0 : Nat} (G : zx_G D tyc H0 sa sc p s m args meth c j) (hR : zx_R D tyc H0 sa h H) (hH : zx_H H0 s c0) (hc : c0 ≤ h.length) (hlc : ∀ q ∈ locs, H0.size ≤ q.base) {r : Nat} (hB : zm_isB r = true) (hd : decode (z_B j) pc = .ok (.arraylength, 1))
    (K : W p l e R s m args below meth c H locs cells slots Q (F0 m (pc + 1) ls (.int (Int32.ofNat (zm_sby r).length) :: rest))) : W p l e R s m args below meth c H locs cells slots Q (F0 m pc ls (.ref (zx_ad H0 sa r) :: rest)) := by
  obtain ⟨hx, hb, hml, hown, hts, hin, hC, hX, hYY⟩ := G
  obtain ⟨k, hk, rfl, e⟩ := zx_isB hB
  have hE := (vk_S.kept hYY.2.1 (zx_kept hH)).1 k hk
  obtain ⟨e1, e2⟩ := zx_byL hk
  rw [zx_adS]
  rw [e] at K
  have hT := hE.2.2.2
  rw [e1] at hT
  exact va_tlen hx hb hT (hR.SH hH hc hlc) rfl hd K
end ZX
