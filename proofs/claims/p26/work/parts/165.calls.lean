section ZK
variable {D : va_G} {tyc : Nat → ClassId} {H0 : Heap} {sa : Nat → Nat} {sc : Option (List Int32)} {l : Launch}
variable {p : Program} {e : Env} {R : Room} {s : State} {m : MethodId} {args : Array Value} {below : List Frame} {meth : Method} {c : Code} {H : Heap} {locs : List Loc} {cells slots : Nat} {Q : State → Prop} {ls : Array Slot}
theorem zx_mw {j : Nat} (h0 : 0 < j) (hj : j < z_nM) (hne : j ≠ z_law) : (z_K j = 0 → Cond.static (z_Y j) ∈ z_T) ∧ (z_K j ≠ 0 → Cond.instanceMethod (z_Y j) ∈ z_T) ∧ (z_K j = 1 → Cond.selects (z_Y j).cls (z_Y j) (z_Y j) ∈ z_T) := by
  have hm := zo_mw hj
  have b0 : Nat.beq j 0 = false := by
    cases hq : Nat.beq j 0 with
    | false => rfl
    | true => have := Nat.eq_of_beq_eq_true hq; omega
  have b1 : Nat.beq j z_law = false := by
    cases hq : Nat.beq j z_law with
    | false => rfl
    | true => exact absurd (Nat.eq_of_beq_eq_true hq) hne
  simp only [zk_mw, b0, b1, Bool.false_or, Bool.and_eq_true, decide_eq_true_eq] at hm
  refine ⟨fun hk => ?_, fun hk => ?_, fun hk => ?_⟩
  · have := hm.1
    rw [if_pos hk] at this
    exact z_T_in this rfl
  · have := hm.1
    rw [if_neg hk] at this
    exact z_T_in this rfl
  · have := hm.2
    rw [hk] at this
    simp at this
    exact z_T_in this rfl
theorem zx_lrS (d : Nat) : zx_lr (d + 1) = zx_lr d + 31 := by unfold zx_lr; omega
theorem zx_beqF {a b : Nat} (h : (!Nat.beq a b) = true) : a ≠ b := by
  intro e
  subst e
  have : Nat.beq a a = true := Nat.beq_refl a
  rw [this] at h
  cases h
set_option maxHeartbeats 8000000 in
/-- a call of a static method -/
theorem zx_callS {f : Nat} (IH : zx_S D tyc H0 sa sc l f) {n0 d j j1 idx pc pcR : Nat} {as st1 rest : List Value} {h h1 : HP} (G : zx_G D tyc H0 sa sc p s m args meth c j) (hat : zm_at j pc = some (.invokestatic idx, n0, j1, as.length)) (hR : zx_R D tyc H0 sa h H) (hlc : ∀ q ∈ locs, H0.size ≤ q.base) (hsz : ls.size = z_L j)
    (hr : zm_run sc f d j1 0 (zm_ent (z_L j1) as) [] h = some (pcR, st1, h1)) (hfit : (zm_sl2 as).length ≤ z_L j1) (hcat : zm_cat rest ≤ 8) (hfr : d + 1 ≤ R.frames) (hlo : zx_lr (d + 1) ≤ R.locals) (hcc : cells + (h1.length - h.length) ≤ R.cells) (hss : slots + (zm_hsz h1 - zm_hsz h) ≤ R.slots)
    (K : ∀ (H1 : Heap) (locs1 : List Loc), zx_R D tyc H0 sa h1 H1 → (∀ q ∈ locs1, H0.size ≤ q.base) → W p l e R s m args below meth c H1 locs1 (cells + (h1.length - h.length)) (slots + (zm_hsz h1 - zm_hsz h)) Q (F0 m (pc + 3) ls ((st1 ++ rest).map (zx_cv (zx_ad H0 sa))))) :
    W p l e R s m args below meth c H locs cells slots Q (F0 m pc ls ((as.reverse ++ rest).map (zx_cv (zx_ad H0 sa)))) := by
  have hb := zk_bb hat
  simp only [zk_b, Bool.and_eq_true] at hb
  obtain ⟨⟨⟨⟨⟨k1, k2⟩, k3⟩, k4⟩, k5⟩, k6⟩ := hb
  have hk := Nat.eq_of_beq_eq_true k1
  have hn := Nat.eq_of_beq_eq_true k2
  have h0 : 0 < j1 := Nat.le_of_ble_eq_true k3
  have hj1 : j1 < z_nM := Nat.le_of_ble_eq_true k4
  have hne : j1 ≠ z_law := zx_beqF k5
  have hdec := zk_dec hat
  have hcls := zk_own hat
  obtain ⟨hx, hbb, hml, hown, hts, hin, hC, hX, hYY⟩ := G
  have hM := zx_met IH h0 hj1 hne hr hfit
  obtain ⟨hd, hL12, hoc, hpl, hkk, ho11⟩ := zk_mm_s hj1 h0
  have hini : (Cond.initialized (z_Y j1).cls).before args s = true := by rw [hoc]; exact hts _ (zk_z ho11)
  have hst := hts _ ((zx_mw h0 hj1 hne).1 hk)
  have hroom : d + 1 ≤ R.frames ∧ 8 + (z_L j1 + 11) + zx_lr d ≤ R.locals := ⟨hfr, by rw [zx_lrS] at hlo; omega⟩
  have hP : PreS s H (zx_Pc D tyc H0 sa sc as h) (as.map (zx_cv (zx_ad H0 sa))) := ⟨zx_blind _ _ _ _ _ _ _, fun U hU hW => ⟨rfl, by rw [hU]; exact hR, hC.warm hW, zx_X.warm hW.alike hX, hYY.warm hW⟩⟩
  have hlen : st1.length ≤ 1 := by
    obtain ⟨x, -, hx2⟩ := zm_run_ret _ _ _ _ _ _ _ _ hr
    rcases zm_ret_s hx2 with ⟨-, v, hst, -⟩ | ⟨-, v, hst, -⟩ | ⟨-, hst, -⟩ <;> (have hst : st1 = _ := hst; rw [hst]; simp)
  have hstk : (as.reverse ++ rest).map (zx_cv (zx_ad H0 sa)) = (as.map (zx_cv (zx_ad H0 sa))).reverse ++ rest.map (zx_cv (zx_ad H0 sa)) := by simp
  have hcat' : ((rest.map (zx_cv (zx_ad H0 sa))).map fun v => v.category).sum ≤ 8 := by
    rw [List.map_map]
    have : ((fun v => Value.category v) ∘ zx_cv (zx_ad H0 sa)) = fun v => v.category := by funext v; exact zx_cv_cat _ v
    rw [this]; exact hcat
  have K' : ∀ (H1 : Heap) (locs1 : List Loc), zx_R D tyc H0 sa h1 H1 → (∀ q ∈ locs1, H0.size ≤ q.base) → W p l e R s m args below meth c H1 locs1 (cells + (h1.length - h.length)) (slots + (zm_hsz h1 - zm_hsz h)) Q (F0 m (pc + 3) ls (st1.map (zx_cv (zx_ad H0 sa)) ++ rest.map (zx_cv (zx_ad H0 sa)))) := by
    intro H1 locs1 a1 a2
    rw [← List.map_append]
    exact K H1 locs1 a1 a2
  rw [hstk]
  rw [hcls] at hown
  rcases Bool.or_eq_true _ _ ▸ k6 with k6 | k6
  · obtain ⟨q, hq⟩ := zk_has_in (fun _ _ => zk_e3_eq) zo_m k6
    have hl : (Cond.methodLink (z_cn (z_O j)) idx (z_Y j1)).before args s = true := hts _ (z_T_in (w := zw_m (z_O j, idx, j1)) hq rfl)
    exact zx_back hlen hlc (va_runS ⟨hx, hbb, hml, hown, hts⟩ hM ⟨callB_of (z_N j1) hts (zx_good h0 hj1 hne) rfl rfl rfl hini hl hd hroom, hst⟩ hP rfl (by rw [List.length_map]; exact hn) hsz rfl (lv_room hcat') hdec ⟨hcc, hss⟩) K'
  · obtain ⟨q, hq, eq⟩ := List.any_eq_true.mp k6
    have hl := hC.2.1 q hq
    rw [zk_e3_eq eq] at hl
    exact zx_back hlen hlc (va_runSN ⟨hx, hbb, hml, hown, hts⟩ hM ⟨va_cnB (z_N j1) hts (zx_good h0 hj1 hne) rfl rfl rfl hl hini hd hroom, hst, trivial⟩ hP rfl (by rw [List.length_map]; exact hn) hsz rfl (lv_room hcat') hdec ⟨hcc, hss⟩) K'
/-- the receiver -/
theorem zx_recv {c0 j j1 r : Nat} {h : HP} (G : zx_G D tyc H0 sa sc p s m args meth c j) (hR : zx_R D tyc H0 sa h H) (hH : zx_H H0 s c0) (hc : c0 ≤ h.length) (hlc : ∀ q ∈ locs, H0.size ≤ q.base) (h0 : 0 < j1) (hj1 : j1 < z_nM) (hz : (bif Nat.beq (z_O j1) 11 then zm_isS r else (match zm_cls h r with
    | some c => Nat.beq c (z_O j1)
    | none => false)) = true) : ∃ cellB : Cell, H[zx_ad H0 sa r]? = some cellB ∧ cellB.vm.isStatics = false ∧ s.vm.findClass (z_Y j1).cls = some cellB.cls := by
  obtain ⟨hx, hbb, hml, hown, hts, hin, hC, hX, hYY⟩ := G
  have hoc := (zk_mm_s hj1 h0).2.2.1
  cases hq : Nat.beq (z_O j1) 11 with
  | true =>
    rw [hq, cond_true] at hz
    simp only [zm_isS, Bool.and_eq_true] at hz
    have q1 : zm_SP < r := Nat.le_of_ble_eq_true hz.1
    have q2 : r ≤ zm_SP + 9 := Nat.le_of_ble_eq_true hz.2
    obtain ⟨i, rfl⟩ : ∃ i, r = zm_SP + (1 + i) := ⟨r - zm_SP - 1, by omega⟩
    rw [zx_adS, hoc, Nat.eq_of_beq_eq_true hq]
    have hi : i < 9 := by omega
    exact vk_recv (i := i) (vk_S.kept hYY.2.1 (zx_kept hH)) hi (hR.SH hH hc hlc)
  | false =>
    rw [hq, cond_false] at hz
    split at hz
    · next cc hcc =>
      have e3 := Nat.eq_of_beq_eq_true hz
      subst e3
      obtain ⟨fs, hrc⟩ := zm_cls_s hcc
      obtain ⟨rr, hvw, hob⟩ := hR.2.1 r _ hrc
      have ho9 : z_O j1 < 9 := by
        have := (List.getElem?_eq_some_iff.mp hvw).1
        simpa [vwCl] using this
      rw [hR.ad hrc, hoc]
      exact va_recv hC.1 hR.P (zk_vw ho9) (zx_cw_get (H0 := H0) (f := zx_ad H0 sa) (tyc := tyc) hrc)
    · cases hz
set_option maxHeartbeats 8000000 in
/-- a call on an object -/
theorem zx_callV {f : Nat} (IH : zx_S D tyc H0 sa sc l f) {n0 d j j1 idx pc pcR r : Nat} {as st1 rest : List Value} {h h1 : HP} (G : zx_G D tyc H0 sa sc p s m args meth c j) (hat : zm_at j pc = some (.invokevirtual idx, n0, j1, (Value.ref r :: as).length)) (hR : zx_R D tyc H0 sa h H) (hlc : ∀ q ∈ locs, H0.size ≤ q.base) (hsz : ls.size = z_L j)
    (hrc : ∃ cellB : Cell, H[zx_ad H0 sa r]? = some cellB ∧ cellB.vm.isStatics = false ∧ s.vm.findClass (z_Y j1).cls = some cellB.cls) (hr : zm_run sc f d j1 0 (zm_ent (z_L j1) (.ref r :: as)) [] h = some (pcR, st1, h1)) (hfit : (zm_sl2 (.ref r :: as)).length ≤ z_L j1) (hcat : zm_cat rest ≤ 8) (hfr : d + 1 ≤ R.frames) (hlo : zx_lr (d + 1) ≤ R.locals) (hcc : cells + (h1.length - h.length) ≤ R.cells) (hss : slots + (zm_hsz h1 - zm_hsz h) ≤ R.slots)
    (K : ∀ (H1 : Heap) (locs1 : List Loc), zx_R D tyc H0 sa h1 H1 → (∀ q ∈ locs1, H0.size ≤ q.base) → W p l e R s m args below meth c H1 locs1 (cells + (h1.length - h.length)) (slots + (zm_hsz h1 - zm_hsz h)) Q (F0 m (pc + 3) ls ((st1 ++ rest).map (zx_cv (zx_ad H0 sa))))) :
    W p l e R s m args below meth c H locs cells slots Q (F0 m pc ls (((Value.ref r :: as).reverse ++ rest).map (zx_cv (zx_ad H0 sa)))) := by
  have hb := zk_bb hat
  simp only [zk_b, Bool.and_eq_true] at hb
  obtain ⟨⟨⟨⟨⟨k1, k2⟩, k3⟩, k4⟩, k5⟩, k6⟩ := hb
  have hk := Nat.eq_of_beq_eq_true k1
  have hn := Nat.eq_of_beq_eq_true k2
  have h0 : 0 < j1 := Nat.le_of_ble_eq_true k3
  have hj1 : j1 < z_nM := Nat.le_of_ble_eq_true k4
  have hne : j1 ≠ z_law := zx_beqF k5
  have hdec := zk_dec hat
  have hcls := zk_own hat
  obtain ⟨hx, hbb, hml, hown, hts, hin, hC, hX, hYY⟩ := G
  have hM := zx_met IH h0 hj1 hne hr hfit
  obtain ⟨hd, hL12, hoc, hpl, hkk, ho11⟩ := zk_mm_s hj1 h0
  have hini : (Cond.initialized (z_Y j1).cls).before args s = true := by rw [hoc]; exact hts _ (zk_z ho11)
  have hst := hts _ ((zx_mw h0 hj1 hne).2.1 (by rw [hk]; decide))
  have hse := hts _ ((zx_mw h0 hj1 hne).2.2 hk)
  have hroom : d + 1 ≤ R.frames ∧ 8 + (z_L j1 + 11) + zx_lr d ≤ R.locals := ⟨hfr, by rw [zx_lrS] at hlo; omega⟩
  have hrecv := hrc
  have hP : PreV s H (z_Y j1).cls (zx_ad H0 sa r) (zx_Pc D tyc H0 sa sc (.ref r :: as) h) (as.map (zx_cv (zx_ad H0 sa))) := ⟨zx_blind _ _ _ _ _ _ _, hrecv, fun U hU hW => ⟨rfl, by rw [hU]; exact hR, hC.warm hW, zx_X.warm hW.alike hX, hYY.warm hW⟩⟩
  have hlen : st1.length ≤ 1 := by
    obtain ⟨x, -, hx2⟩ := zm_run_ret _ _ _ _ _ _ _ _ hr
    rcases zm_ret_s hx2 with ⟨-, v, hst, -⟩ | ⟨-, v, hst, -⟩ | ⟨-, hst, -⟩ <;> (have hst : st1 = _ := hst; rw [hst]; simp)
  have hstk : ((Value.ref r :: as).reverse ++ rest).map (zx_cv (zx_ad H0 sa)) = (as.map (zx_cv (zx_ad H0 sa))).reverse ++ .ref (zx_ad H0 sa r) :: rest.map (zx_cv (zx_ad H0 sa)) := by simp [zx_cv]
  have hcat' : ((rest.map (zx_cv (zx_ad H0 sa))).map fun v => v.category).sum ≤ 8 := by
    rw [List.map_map]
    have : ((fun v => Value.category v) ∘ zx_cv (zx_ad H0 sa)) = fun v => v.category := by funext v; exact zx_cv_cat _ v
    rw [this]; exact hcat
  have K' : ∀ (H1 : Heap) (locs1 : List Loc), zx_R D tyc H0 sa h1 H1 → (∀ q ∈ locs1, H0.size ≤ q.base) → W p l e R s m args below meth c H1 locs1 (cells + (h1.length - h.length)) (slots + (zm_hsz h1 - zm_hsz h)) Q (F0 m (pc + 3) ls (st1.map (zx_cv (zx_ad H0 sa)) ++ rest.map (zx_cv (zx_ad H0 sa)))) := by
    intro H1 locs1 a1 a2
    rw [← List.map_append]
    exact K H1 locs1 a1 a2
  have hn' : (as.map (zx_cv (zx_ad H0 sa))).length = z_N j1 := by
    rw [List.length_map]
    have : as.length + 1 = z_N j1 + 1 := by simpa using hn
    omega
  rw [hstk]
  rw [hcls] at hown
  rcases Bool.or_eq_true _ _ ▸ k6 with k6 | k6
  · obtain ⟨q, hq⟩ := zk_has_in (fun _ _ => zk_e3_eq) zo_m k6
    have hl : (Cond.methodLink (z_cn (z_O j)) idx (z_Y j1)).before args s = true := hts _ (z_T_in (w := zw_m (z_O j, idx, j1)) hq rfl)
    exact zx_back hlen hlc (va_runV ⟨hx, hbb, hml, hown, hts⟩ hM ⟨callB_of (z_N j1) hts (zx_good h0 hj1 hne) rfl rfl rfl hini hl hd hroom, hst, hse⟩ hP rfl hn' hsz rfl (lv_room hcat') hdec ⟨hcc, hss⟩) K'
  · obtain ⟨q, hq, eq⟩ := List.any_eq_true.mp k6
    have hl := hC.2.1 q hq
    rw [zk_e3_eq eq] at hl
    exact zx_back hlen hlc (va_runVN ⟨hx, hbb, hml, hown, hts⟩ hM ⟨va_cnB (z_N j1) hts (zx_good h0 hj1 hne) rfl rfl rfl hl hini hd hroom, hst, hse⟩ hP rfl hn' hsz rfl (lv_room hcat') hdec ⟨hcc, hss⟩) K'
set_option maxHeartbeats 8000000 in
/-- a constructor -/
theorem zx_callI {f : Nat} (IH : zx_S D tyc H0 sa sc l f) {n0 d j j1 idx pc pcR r : Nat} {as st1 rest : List Value} {h h1 : HP} (G : zx_G D tyc H0 sa sc p s m args meth c j) (hat : zm_at j pc = some (.invokespecial idx, n0, j1, (Value.ref r :: as).length)) (h0 : 0 < j1) (hR : zx_R D tyc H0 sa h H) (hlc : ∀ q ∈ locs, H0.size ≤ q.base) (hsz : ls.size = z_L j)
    (hr : zm_run sc f d j1 0 (zm_ent (z_L j1) (.ref r :: as)) [] h = some (pcR, st1, h1)) (hfit : (zm_sl2 (.ref r :: as)).length ≤ z_L j1) (hcat : zm_cat rest ≤ 8) (hfr : d + 1 ≤ R.frames) (hlo : zx_lr (d + 1) ≤ R.locals) (hcc : cells + (h1.length - h.length) ≤ R.cells) (hss : slots + (zm_hsz h1 - zm_hsz h) ≤ R.slots)
    (K : ∀ (H1 : Heap) (locs1 : List Loc), zx_R D tyc H0 sa h1 H1 → (∀ q ∈ locs1, H0.size ≤ q.base) → W p l e R s m args below meth c H1 locs1 (cells + (h1.length - h.length)) (slots + (zm_hsz h1 - zm_hsz h)) Q (F0 m (pc + 3) ls ((st1 ++ rest).map (zx_cv (zx_ad H0 sa))))) :
    W p l e R s m args below meth c H locs cells slots Q (F0 m pc ls (((Value.ref r :: as).reverse ++ rest).map (zx_cv (zx_ad H0 sa)))) := by
  have hb := zk_bb hat
  have hb0 : Nat.beq j1 0 = false := by
    cases hq : Nat.beq j1 0 with
    | false => rfl
    | true => have := Nat.eq_of_beq_eq_true hq; omega
  simp only [zk_b, hb0, cond_false, Bool.and_eq_true] at hb
  obtain ⟨⟨⟨⟨k1, k2⟩, k4⟩, k5⟩, k6⟩ := hb
  have hk := Nat.eq_of_beq_eq_true k1
  have hn := Nat.eq_of_beq_eq_true k2
  have hj1 : j1 < z_nM := Nat.le_of_ble_eq_true k4
  have hne : j1 ≠ z_law := zx_beqF k5
  have hdec := zk_dec hat
  have hcls := zk_own hat
  obtain ⟨hx, hbb, hml, hown, hts, hin, hC, hX, hYY⟩ := G
  have hM := zx_met IH h0 hj1 hne hr hfit
  obtain ⟨hd, hL12, hoc, hpl, hkk, ho11⟩ := zk_mm_s hj1 h0
  obtain ⟨hnm, hrn⟩ := hkk hk
  have hini : (Cond.initialized (z_Y j1).cls).before args s = true := by rw [hoc]; exact hts _ (zk_z ho11)
  have hst := hts _ ((zx_mw h0 hj1 hne).2.1 (by rw [hk]; decide))
  have hroom : d + 1 ≤ R.frames ∧ 8 + (z_L j1 + 11) + zx_lr d ≤ R.locals := ⟨hfr, by rw [zx_lrS] at hlo; omega⟩
  have hP : PreS s H (zx_Pc D tyc H0 sa sc (.ref r :: as) h) (.ref (zx_ad H0 sa r) :: as.map (zx_cv (zx_ad H0 sa))) := ⟨zx_blind _ _ _ _ _ _ _, fun U hU hW => ⟨rfl, by rw [hU]; exact hR, hC.warm hW, zx_X.warm hW.alike hX, hYY.warm hW⟩⟩
  have hlen : st1.length ≤ 1 := by
    obtain ⟨x, -, hx2⟩ := zm_run_ret _ _ _ _ _ _ _ _ hr
    rcases zm_ret_s hx2 with ⟨-, v, hst, -⟩ | ⟨-, v, hst, -⟩ | ⟨-, hst, -⟩ <;> (have hst : st1 = _ := hst; rw [hst]; simp)
  have hstk : ((Value.ref r :: as).reverse ++ rest).map (zx_cv (zx_ad H0 sa)) = (as.map (zx_cv (zx_ad H0 sa))).reverse ++ .ref (zx_ad H0 sa r) :: rest.map (zx_cv (zx_ad H0 sa)) := by simp [zx_cv]
  have hcat' : ((rest.map (zx_cv (zx_ad H0 sa))).map fun v => v.category).sum ≤ 8 := by
    rw [List.map_map]
    have : ((fun v => Value.category v) ∘ zx_cv (zx_ad H0 sa)) = fun v => v.category := by funext v; exact zx_cv_cat _ v
    rw [this]; exact hcat
  have K' : ∀ (H1 : Heap) (locs1 : List Loc), zx_R D tyc H0 sa h1 H1 → (∀ q ∈ locs1, H0.size ≤ q.base) → W p l e R s m args below meth c H1 locs1 (cells + (h1.length - h.length)) (slots + (zm_hsz h1 - zm_hsz h)) Q (F0 m (pc + 3) ls (st1.map (zx_cv (zx_ad H0 sa)) ++ rest.map (zx_cv (zx_ad H0 sa)))) := by
    intro H1 locs1 a1 a2
    rw [← List.map_append]
    exact K H1 locs1 a1 a2
  have hn' : (as.map (zx_cv (zx_ad H0 sa))).length = z_N j1 := by
    rw [List.length_map]
    have : as.length + 1 = z_N j1 + 1 := by simpa using hn
    omega
  rw [hstk]
  rw [hcls] at hown
  have hwe : zx_ws j1 = Cond.code (z_Y j1) (z_B j1) (z_L j1) none :: z_T := by unfold zx_ws; rw [hrn]
  rcases Bool.or_eq_true _ _ ▸ k6 with k6 | k6
  · obtain ⟨q, hq⟩ := zk_has_in (fun _ _ => zk_e3_eq) zo_m k6
    have hl : (Cond.methodLink (z_cn (z_O j)) idx (z_Y j1)).before args s = true := hts _ (z_T_in (w := zw_m (z_O j, idx, j1)) hq rfl)
    exact zx_back hlen hlc (va_runI ⟨hx, hbb, hml, hown, hts⟩ hM ⟨callB_of (z_N j1) hts (zx_good h0 hj1 hne) hwe rfl rfl hini hl hd hroom, hnm, hst⟩ hP rfl hn' hsz rfl (lv_room hcat') hdec ⟨hcc, hss⟩) K'
  · obtain ⟨q, hq, eq⟩ := List.any_eq_true.mp k6
    have hl := hC.2.1 q hq
    rw [zk_e3_eq eq] at hl
    exact zx_back hlen hlc (va_runIN ⟨hx, hbb, hml, hown, hts⟩ hM ⟨va_cnB (z_N j1) hts (zx_good h0 hj1 hne) hwe rfl rfl hl hini hd hroom, hnm, hst⟩ hP rfl hn' hsz rfl (lv_room hcat') hdec ⟨hcc, hss⟩) K'
end ZK
