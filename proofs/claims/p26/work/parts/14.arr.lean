/-! arrays and new cells -/
def zk_N (j idx ci : Nat) : Prop := ci < 9 ∧ zw_c (z_O j, idx, ci) ∈ z_T ∧ (z_Y j).cls = z_cn (z_O j)
def zk_Q (j idx t : Nat) : Prop := zm_rt t = true ∧ zw_q (z_O j, idx, t) ∈ z_T ∧ (z_Y j).cls = z_cn (z_O j)
section ZA
variable {p : Program} {l : Launch} {e : Env} {R : Room} {s : State} {m : MethodId} {args : Array Value} {below : List Frame} {meth : Method} {c : Code} {H : Heap} {locs : List Loc} {cells slots : Nat} {Q : State → Prop}
variable {D : va_G} {tyc : Nat → ClassId} {H0 : Heap} {sa : Nat → Nat} {sc : Option (List Int32)} {j pc : Nat} {ls : Array Slot} {rest : List Value} {h : HP}
theorem zx_upd (xs : List Int32) {k : Nat} (hk : k < xs.length) (x : Int32) : upd (fun q => xs.getD q 0) k x = fun q => (xs.set k x).getD q 0 := by
  funext q
  by_cases hq : q = k
  · subst hq
    simp [upd, hk]
  · simp [upd, hq, List.getElem?_set_ne (Ne.symm hq)]
theorem zx_updq (f : Nat → Nat) (rs : List (Option Nat)) {k : Nat} (hk : k < rs.length) (a : Nat) : va_up (fun q => (rs.getD q none).map f) k (some (f a)) = fun q => ((rs.set k (some a)).getD q none).map f := by
  funext q
  by_cases hq : q = k
  · subst hq
    simp [va_up, hk]
  · simp [va_up, hq, List.getElem?_set_ne (Ne.symm hq)]
theorem zx_inlt {i : Int32} {n : Nat} (h : vp_in i n) : i.toNatClampNeg < n := Nat.not_le.mp fun q => h (Or.inr q)
theorem zx_iald (G : zx_G D tyc H0 sa sc p s m args meth c j) (hR : zx_R D tyc H0 sa h H) {r : Nat} {i : Int32} {xs : List Int32} (hr : h[r]? = some (.inl (0, xs))) (hi : vp_in i xs.length) (hd : decode (z_B j) pc = .ok (.iaload, 1))
    (K : W p l e R s m args below meth c H locs cells slots Q (F0 m (pc + 1) ls (.int (xs.getD i.toNatClampNeg 0) :: rest))) : W p l e R s m args below meth c H locs cells slots Q (F0 m pc ls (.int i :: .ref (zx_ad H0 sa r) :: rest)) := by
  obtain ⟨hx, hb, hml, hown, hts, hin, hC, hX, hYY⟩ := G
  rw [hR.ad hr]
  exact va_iald hx hb hC.1 hR.P r 0 (zx_cw_get (H0 := H0) (f := zx_ad H0 sa) (tyc := tyc) hr) (zx_tys_get zk_at0) hi hd K
theorem zx_bald (G : zx_G D tyc H0 sa sc p s m args meth c j) (hR : zx_R D tyc H0 sa h H) {r t : Nat} {i : Int32} {xs : List Int32} (ht : t = 1 ∨ t = 2) (hr : h[r]? = some (.inl (t, xs))) (hi : vp_in i xs.length) (hd : decode (z_B j) pc = .ok (.baload, 1))
    (K : W p l e R s m args below meth c H locs cells slots Q (F0 m (pc + 1) ls (.int (xs.getD i.toNatClampNeg 0) :: rest))) : W p l e R s m args below meth c H locs cells slots Q (F0 m pc ls (.int i :: .ref (zx_ad H0 sa r) :: rest)) := by
  obtain ⟨hx, hb, hml, hown, hts, hin, hC, hX, hYY⟩ := G
  rw [hR.ad hr]
  rcases ht with rfl | rfl
  · exact va_bald hx hb hC.1 hR.P r 1 (zx_cw_get (H0 := H0) (f := zx_ad H0 sa) (tyc := tyc) hr) (zx_tys_get zk_at1) hi hd K
  · exact va_zald hx hb hC.1 hR.P r 2 (zx_cw_get (H0 := H0) (f := zx_ad H0 sa) (tyc := tyc) hr) (zx_tys_get zk_at2) hi hd K
theorem zx_iast (G : zx_G D tyc H0 sa sc p s m args meth c j) (hR : zx_R D tyc H0 sa h H) (hlc : ∀ q ∈ locs, H0.size ≤ q.base) {r : Nat} {i x : Int32} {xs : List Int32} (hr : h[r]? = some (.inl (0, xs))) (hi : vp_in i xs.length) (hd : decode (z_B j) pc = .ok (.iastore, 1))
    (K : ∀ (H1 : Heap) (locs1 : List Loc), zx_R D tyc H0 sa (h.set r (.inl (0, xs.set i.toNatClampNeg x))) H1 → (∀ q ∈ locs1, H0.size ≤ q.base) → W p l e R s m args below meth c H1 locs1 cells slots Q (F0 m (pc + 1) ls rest)) : W p l e R s m args below meth c H locs cells slots Q (F0 m pc ls (.int x :: .int i :: .ref (zx_ad H0 sa r) :: rest)) := by
  obtain ⟨hx, hb, hml, hown, hts, hin, hC, hX, hYY⟩ := G
  rw [hR.ad hr]
  have hc := hR.2.1 r _ hr
  refine W.iast hx hb hc ((hC.1.2 0 _ (zx_tys_get zk_at0)).1 xs.length (fun j => .int (xs.getD j 0))) (fun q => by cases q) (by show ¬ (i < 0 ∨ (arrV _ _ _).slots.size ≤ _); rw [arrV_size]; exact hi) rfl rfl hd fun H1 e1 z oq => ?_
  refine K H1 _ (hR.set hr ?_ z oq) (zx_locs hlc)
  show H1[H0.size + r]? = some (vp_cell (tyc 0) ((xs.set i.toNatClampNeg x).length, .inl (fun k => (xs.set i.toNatClampNeg x).getD k 0)))
  rw [e1]
  rw [← zx_upd xs (zx_inlt hi) x, List.length_set]
  show some ((vp_cell (tyc 0) (xs.length, .inl (fun k => xs.getD k 0))).setSlot _ _) = _
  rw [vp_cell_i, vp_cell_i, arrV_store]
  congr 2
  funext q
  by_cases hq : q = i.toNatClampNeg
  · subst hq
    simp [updV, upd]
  · simp [updV, upd, hq]
theorem zx_bast (G : zx_G D tyc H0 sa sc p s m args meth c j) (hR : zx_R D tyc H0 sa h H) (hlc : ∀ q ∈ locs, H0.size ≤ q.base) {r t : Nat} {i x : Int32} {xs : List Int32} (ht : t = 1 ∨ t = 2) (hr : h[r]? = some (.inl (t, xs))) (hi : vp_in i xs.length) (hd : decode (z_B j) pc = .ok (.bastore, 1))
    (K : ∀ (H1 : Heap) (locs1 : List Loc), zx_R D tyc H0 sa (h.set r (.inl (t, xs.set i.toNatClampNeg (zm_nar t x)))) H1 → (∀ q ∈ locs1, H0.size ≤ q.base) → W p l e R s m args below meth c H1 locs1 cells slots Q (F0 m (pc + 1) ls rest)) : W p l e R s m args below meth c H locs cells slots Q (F0 m pc ls (.int x :: .int i :: .ref (zx_ad H0 sa r) :: rest)) := by
  obtain ⟨hx, hb, hml, hown, hts, hin, hC, hX, hYY⟩ := G
  rw [hR.ad hr]
  have hc := hR.2.1 r _ hr
  have fin : ∀ (y : Int32) (H1 : Heap), zm_nar t x = y → H1[H0.size + r]? = some ((vp_cell (tyc t) (xs.length, .inl (fun k => xs.getD k 0))).setSlot i.toNatClampNeg (.int y)) → H1.size = H.size → (∀ q, q ≠ H0.size + r → H1[q]? = H[q]?) → W p l e R s m args below meth c H1 (locs ++ [⟨H0.size + r, i.toNatClampNeg⟩]) cells slots Q (F0 m (pc + 1) ls rest) := by
    intro y H1 hy e1 z oq
    refine K H1 _ (hR.set hr ?_ z oq) (zx_locs hlc)
    rw [hy]
    show H1[H0.size + r]? = some (vp_cell (tyc t) ((xs.set i.toNatClampNeg y).length, .inl (fun k => (xs.set i.toNatClampNeg y).getD k 0)))
    rw [e1]
    rw [← zx_upd xs (zx_inlt hi) y, List.length_set]
    rw [vp_cell_i, vp_cell_i, arrV_store]
    congr 2
    funext q
    by_cases hq : q = i.toNatClampNeg
    · subst hq
      simp [updV, upd]
    · simp [updV, upd, hq]
  rcases ht with rfl | rfl
  · refine W.bast hx hb hc ((hC.1.2 1 _ (zx_tys_get zk_at1)).1 xs.length (fun j => .int (xs.getD j 0))) (fun q => by cases q) (by show ¬ (i < 0 ∨ (arrV _ _ _).slots.size ≤ _); rw [arrV_size]; exact hi) rfl rfl hd fun H1 e1 z oq => ?_
    exact fin _ H1 rfl e1 z oq
  · refine W.zast hx hb hc ((hC.1.2 2 _ (zx_tys_get zk_at2)).1 xs.length (fun j => .int (xs.getD j 0))) (fun q => by cases q) (by show ¬ (i < 0 ∨ (arrV _ _ _).slots.size ≤ _); rw [arrV_size]; exact hi) rfl rfl hd fun H1 e1 z oq => ?_
    exact fin (vp_nar .boolean x) H1 rfl (by rw [e1]; rfl) z oq
theorem zx_aald (G : zx_G D tyc H0 sa sc p s m args meth c j) (hR : zx_R D tyc H0 sa h H) {r t : Nat} {i : Int32} {rs : List (Option Nat)} (hr : h[r]? = some (.inr (.inl (t, rs)))) (hrt : zm_rt t = true) (hi : vp_in i rs.length) (hd : decode (z_B j) pc = .ok (.aaload, 1))
    (K : W p l e R s m args below meth c H locs cells slots Q (F0 m (pc + 1) ls (zx_cv (zx_ad H0 sa) (va_rf (rs.getD i.toNatClampNeg none)) :: rest))) : W p l e R s m args below meth c H locs cells slots Q (F0 m pc ls (.int i :: .ref (zx_ad H0 sa r) :: rest)) := by
  obtain ⟨hx, hb, hml, hown, hts, hin, hC, hX, hYY⟩ := G
  rw [hR.ad hr]
  have ht := (zm_rt_s hrt).1
  refine va_aldq hx hb hC.1 hR.P r t (zx_cw_get (H0 := H0) (f := zx_ad H0 sa) (tyc := tyc) hr) (zx_tys_get ht) hi hd ?_
  have : va_rf ((rs.getD i.toNatClampNeg none).map (zx_ad H0 sa)) = zx_cv (zx_ad H0 sa) (va_rf (rs.getD i.toNatClampNeg none)) := by
    cases rs.getD i.toNatClampNeg none <;> rfl
  rw [this]
  exact K
theorem zx_aast (G : zx_G D tyc H0 sa sc p s m args meth c j) (hR : zx_R D tyc H0 sa h H) (hlc : ∀ q ∈ locs, H0.size ≤ q.base) {r t v : Nat} {i : Int32} {rs : List (Option Nat)} {fs : List Value} (hr : h[r]? = some (.inr (.inl (t, rs)))) (hrt : zm_rt t = true) (hi : vp_in i rs.length) (hv : h[v]? = some (.inr (.inr (z_el t, fs)))) (hd : decode (z_B j) pc = .ok (.aastore, 1))
    (K : ∀ (H1 : Heap) (locs1 : List Loc), zx_R D tyc H0 sa (h.set r (.inr (.inl (t, rs.set i.toNatClampNeg (some v))))) H1 → (∀ q ∈ locs1, H0.size ≤ q.base) → W p l e R s m args below meth c H1 locs1 cells slots Q (F0 m (pc + 1) ls rest)) : W p l e R s m args below meth c H locs cells slots Q (F0 m pc ls (.ref (zx_ad H0 sa v) :: .int i :: .ref (zx_ad H0 sa r) :: rest)) := by
  obtain ⟨hx, hb, hml, hown, hts, hin, hC, hX, hYY⟩ := G
  rw [hR.ad hr, hR.ad hv]
  obtain ⟨ht, hci, -⟩ := zm_rt_s hrt
  have hc := zk_vw hci
  have hlt := zx_inlt hi
  have h0 : ¬ i < 0 := fun q => hi (Or.inl q)
  obtain ⟨r', hr', cellV, g1, g2, g3, -⟩ := hR.2.1 v _ hv
  have hcls := (hC.1.1 (z_el t) _ hc).2
  obtain ⟨kA, comp, k1, k2, k3, -⟩ := (hC.1.2 t _ (zx_tys_get ht)).2
  have hcomp : comp = D.1 (z_el t) := Option.some.inj (k3.symm.trans hcls.1)
  subst hcomp
  obtain ⟨kC, hkC, -⟩ := hcls.2
  have ha := hR.2.1 r _ hr
  refine W.aast hx hb ha (fun q h => by cases h) (fun h => by cases h) k1 k2 rfl hkC ⟨h0, by show _ < (arrV _ _ _).slots.size; rw [arrV_size]; exact hlt⟩ g1 (fun q h => by rw [g3] at h; cases h) (by rw [g2]; exact hkC) (by rw [g2]; exact va_assign hcls) rfl rfl hd fun H1 e1 z oq => ?_
  refine K H1 _ (hR.set hr ?_ z oq) (zx_locs hlc)
  show H1[H0.size + r]? = some (vp_cell (tyc t) ((rs.set i.toNatClampNeg (some v)).length, .inr (.inr (.inr (.inr (fun k => ((rs.set i.toNatClampNeg (some v)).getD k none).map (zx_ad H0 sa)))))))
  rw [e1, ← zx_updq (zx_ad H0 sa) rs hlt v, List.length_set]
  show some ((vp_cell (tyc t) (rs.length, .inr (.inr (.inr (.inr (fun k => (rs.getD k none).map (zx_ad H0 sa))))))).setSlot _ _) = _
  rw [vp_cell_q, vp_cell_q, arrV_store]
  congr 2
  funext q
  by_cases hq : q = i.toNatClampNeg
  · subst hq
    simp [updV, va_up, va_rf, hR.ad hv]
  · simp [updV, va_up, hq]
theorem zx_alen (G : zx_G D tyc H0 sa sc p s m args meth c j) (hR : zx_R D tyc H0 sa h H) {r n : Nat} (hr : zm_len h r = some n) (hd : decode (z_B j) pc = .ok (.arraylength, 1))
    (K : W p l e R s m args below meth c H locs cells slots Q (F0 m (pc + 1) ls (.int (Int32.ofNat n) :: rest))) : W p l e R s m args below meth c H locs cells slots Q (F0 m pc ls (.ref (zx_ad H0 sa r) :: rest)) := by
  obtain ⟨hx, hb, hml, hown, hts, hin, hC, hX, hYY⟩ := G
  rcases zm_len_s hr with ⟨t, xs, h1, h3, rfl⟩ | ⟨t, rs, h1, h3, rfl⟩
  · obtain ⟨ty, ht⟩ : ∃ ty, z_AT[t]? = some ty := by
      match t, h3 with
      | 0, _ => exact ⟨_, rfl⟩
      | 1, _ => exact ⟨_, rfl⟩
      | 2, _ => exact ⟨_, rfl⟩
    rw [hR.ad h1]
    exact va_alen hx hb hC.1 hR.P r t (zx_cw_get (H0 := H0) (f := zx_ad H0 sa) (tyc := tyc) h1) (zx_tys_get ht) rfl hd K
  · have ht := (zm_rt_s h3).1
    rw [hR.ad h1]
    exact va_alen hx hb hC.1 hR.P r t (zx_cw_get (H0 := H0) (f := zx_ad H0 sa) (tyc := tyc) h1) (zx_tys_get ht) rfl hd K
theorem zx_new (G : zx_G D tyc H0 sa sc p s m args meth c j) (hR : zx_R D tyc H0 sa h H) {ci idx : Nat} (hl : h.length < 100000) (hz : zk_N j idx ci) (rc : cells + 1 ≤ R.cells) (rs : slots + (z_dv ci).length ≤ R.slots) (hd : decode (z_B j) pc = .ok (.new idx, 3))
    (K : ∀ H1 : Heap, zx_R D tyc H0 sa (h ++ [.inr (.inr (ci, z_dv ci))]) H1 → W p l e R s m args below meth c H1 locs (cells + 1) (slots + (z_dv ci).length) Q (F0 m (pc + 3) ls (.ref (zx_ad H0 sa h.length) :: rest))) : W p l e R s m args below meth c H locs cells slots Q (F0 m pc ls rest) := by
  obtain ⟨hx, hb, hml, hown, hts, hin, hC, hX, hYY⟩ := G
  obtain ⟨hci, hlink, hcls⟩ := hz
  have hc := zk_vw hci
  obtain ⟨ku, kt, kn, ki, kz, kl, kv, -⟩ := zk_cl hc
  have hKn := hC.1.1 ci _ hc
  rw [hcls] at hown
  refine W.newcK hx hb hown (hts _ hlink) (hts _ ki) (hts _ kz) rfl hd rc rs hKn.2.1 rfl fun H1 kC hkC e1 z1 o1 => ?_
  have := K H1 (hR.push hl ?_ z1 o1)
  · rw [zx_ad_lt hl, ← hR.1] at this
    exact this
  · rw [hR.1] at e1
    refine ⟨_, hc, (u_born (z_ty ci) hts ku hKn hkC e1 kt).to (fun k hk => ?_)⟩
    rw [vp_V, List.getD_eq_getElem?_getD, List.getElem?_map, kv k hk]
    cases z_ty ci k <;> rfl
theorem zx_newa (G : zx_G D tyc H0 sa sc p s m args meth c j) (hR : zx_R D tyc H0 sa h H) {t : Nat} {a : ClassFile.ArrayType} {n : Int32} (ha : zm_aty a = some t) (hl : h.length < 100000) (hn : ¬ n < 0) (hN : n.toNatClampNeg ≤ 10000) (rc : cells + 1 ≤ R.cells) (rs : slots + n.toNatClampNeg ≤ R.slots) (hd : decode (z_B j) pc = .ok (.newarray a, 2))
    (K : ∀ H1 : Heap, zx_R D tyc H0 sa (h ++ [.inl (t, List.replicate n.toNatClampNeg 0)]) H1 → W p l e R s m args below meth c H1 locs (cells + 1) (slots + n.toNatClampNeg) Q (F0 m (pc + 2) ls (.ref (zx_ad H0 sa h.length) :: rest))) : W p l e R s m args below meth c H locs cells slots Q (F0 m pc ls (.int n :: rest)) := by
  obtain ⟨hx, hb, hml, hown, hts, hin, hC, hX, hYY⟩ := G
  have key : ∀ (ty : FieldType), newarray.typeOf a = ty → z_AT[t]? = some ty → Cond.arrayClass ty ∈ z_T → defaultValue ty = .int 0 → componentBytes ty ≤ 4 → (∀ U cA, va_RA U cA ty → U.vm.findClass ("[" ++ ty.toString) = some cA) → W p l e R s m args below meth c H locs cells slots Q (F0 m pc ls (.int n :: rest)) := by
    intro ty hty hat hw hdf hcb hra
    subst hty
    refine va_newaK hx hb (hts _ hw) rfl hd rfl hn rfl (Nat.le_trans (Nat.mul_le_mul hN hcb) (by decide)) rc rs rfl fun H1 cA e1 z1 o1 hAr hNm => ?_
    have hcA : cA = tyc t := Option.some.inj (hNm.symm.trans (hra _ _ (hC.1.2 t _ (zx_tys_get hat)).2))
    subst hcA
    have := K H1 (hR.push hl ?_ z1 o1)
    · rw [zx_ad_lt hl, ← hR.1] at this
      exact this
    · rw [hR.1] at e1
      show H1[H0.size + h.length]? = some (vp_cell (tyc t) ((List.replicate n.toNatClampNeg (0 : Int32)).length, .inl (fun k => (List.replicate n.toNatClampNeg (0 : Int32)).getD k 0)))
      rw [e1, vp_cell_i, List.length_replicate, hdf]
      congr 2
      funext k
      congr 1
      rw [List.getD_eq_getElem?_getD, List.getElem?_replicate]
      split <;> rfl
  cases a <;> simp only [zm_aty] at ha <;> first | (cases ha; done) | skip
  · cases ha; exact key .boolean rfl zk_at2 zk_ac2 rfl (by decide) (fun U cA h => h)
  · cases ha; exact key .byte rfl zk_at1 zk_ac1 rfl (by decide) (fun U cA h => h)
  · cases ha; exact key .int rfl zk_at0 zk_ac0 rfl (by decide) (fun U cA h => h)
theorem zx_newq (G : zx_G D tyc H0 sa sc p s m args meth c j) (hR : zx_R D tyc H0 sa h H) {t idx : Nat} {n : Int32} (hz : zk_Q j idx t) (hl : h.length < 100000) (hn : ¬ n < 0) (hN : n.toNatClampNeg ≤ 10000) (rc : cells + 1 ≤ R.cells) (rs : slots + n.toNatClampNeg ≤ R.slots) (hd : decode (z_B j) pc = .ok (.anewarray idx, 3))
    (K : ∀ H1 : Heap, zx_R D tyc H0 sa (h ++ [.inr (.inl (t, List.replicate n.toNatClampNeg none))]) H1 → W p l e R s m args below meth c H1 locs (cells + 1) (slots + n.toNatClampNeg) Q (F0 m (pc + 3) ls (.ref (zx_ad H0 sa h.length) :: rest))) : W p l e R s m args below meth c H locs cells slots Q (F0 m pc ls (.int n :: rest)) := by
  obtain ⟨hx, hb, hml, hown, hts, hin, hC, hX, hYY⟩ := G
  obtain ⟨hrt, hlink, hcls⟩ := hz
  obtain ⟨hat, -, hao⟩ := zm_rt_s hrt
  rw [hcls] at hown
  refine W.anew hx hb hown (hts _ hlink) (va_AO.use (hC.2.2 _ hao)) rfl hd rfl hn (by omega) rc rs fun cA kA comp f1 f2 f3 f4 => ?_
  generalize hH1 : H.push ({ cls := cA, slots := Array.replicate n.toNatClampNeg .null, vm := .none } : Cell) = H1
  have z1 : H1.size = H.size + 1 := by rw [← hH1, Array.size_push]
  have e1 : H1[H.size]? = some (arrV cA n.toNatClampNeg (fun _ => .null)) := by rw [← hH1, Array.getElem?_push_size, ← arrV_new]
  have o1 : ∀ q : Nat, q < H.size → H1[q]? = H[q]? := fun q hq => by rw [← hH1, Array.getElem?_push, if_neg (Nat.ne_of_lt hq)]
  obtain ⟨kA', comp', k1, k2, k3, k4⟩ := (hC.1.2 t _ (zx_tys_get hat)).2
  have hcA : cA = tyc t := Option.some.inj (f1.symm.trans k4)
  subst hcA
  have := K H1 (hR.push hl ?_ z1 o1)
  · rw [zx_ad_lt hl, ← hR.1] at this
    exact this
  · rw [hR.1] at e1
    show H1[H0.size + h.length]? = some (vp_cell (tyc t) ((List.replicate n.toNatClampNeg (none : Option Nat)).length, .inr (.inr (.inr (.inr (fun k => ((List.replicate n.toNatClampNeg (none : Option Nat)).getD k none).map (zx_ad H0 sa)))))))
    rw [e1, vp_cell_q, List.length_replicate]
    congr 2
    funext k
    rw [List.getD_eq_getElem?_getD, List.getElem?_replicate]
    split <;> rfl
end ZA
