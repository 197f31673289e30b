/-! from the law's entry: the tables' knowledge, then the run -/
theorem zs_K {s : State} {args : Array Value} (hts : ∀ w ∈ lw_tbl, w.before args s = true) : ∃ (D : va_G) (tyc : Nat → ClassId), zx_C D tyc s := by
  have htz : ∀ w ∈ z_T, w.before args s = true := fun w hw => hts w (z_T_tbl hw)
  have hcls : ∀ ci : Nat, ∃ (cC : ClassId) (iS : Nat → Nat), ci < 9 → u_Kn s (z_cn ci) (z_F ci) (z_dv ci).length cC iS := by
    intro ci
    by_cases h : ci < 9
    · obtain ⟨ku, kt, kn, ki, -⟩ := zk_cl (zk_vw h)
      obtain ⟨cC, iS, hk⟩ := u_known (n := (z_dv ci).length) htz ku (htz _ ki)
      exact ⟨cC, iS, fun _ => hk⟩
    · exact ⟨0, fun _ => 0, fun q => absurd q h⟩
  have hao : ∀ C ∈ z_AO, va_AO C s := by
    intro C hC
    obtain ⟨k, hk⟩ := List.getElem?_of_mem hC
    have hlt : k < 5 := (List.getElem?_eq_some_iff.mp hk).1
    have := List.all_eq_true.mp zo_ao k (List.mem_range.mpr hlt)
    simp only [decide_eq_true_eq] at this
    have e : z_AO.getD k "" = C := by rw [List.getD_eq_getElem?_getD, hk]; rfl
    rw [e] at this
    exact va_AO.of (hts _ (List.mem_of_getElem? this))
  have harr : ∀ t : Nat, ∃ cA : ClassId, ∀ ty, z_AT[t]? = some ty → ArrOfT s cA ty ∧ va_RA s cA ty := by
    intro t
    by_cases h3 : t < 3
    · have key : ∀ ty : FieldType, z_AT[t]? = some ty → Cond.arrayClass ty ∈ z_T → (∀ cA, s.vm.findClass ("[" ++ ty.toString) = some cA → va_RA s cA ty) → ∃ cA : ClassId, ∀ ty', z_AT[t]? = some ty' → ArrOfT s cA ty' ∧ va_RA s cA ty' := by
        intro ty h1 h2 h3
        obtain ⟨cA, k, comp, f1, f2, f3⟩ := Cond.arrayClass_spec (htz _ h2)
        refine ⟨cA, fun ty' h' => ?_⟩
        have : ty' = ty := Option.some.inj (h'.symm.trans h1)
        subst this
        exact ⟨fun n z => ⟨(fun k h => by cases h), k, f2, comp, f3⟩, h3 cA f1⟩
      match t, h3 with
      | 0, _ => exact key .int rfl zk_ac0 (fun _ h => h)
      | 1, _ => exact key .byte rfl zk_ac1 (fun _ h => h)
      | 2, _ => exact key .boolean rfl zk_ac2 (fun _ h => h)
    · by_cases h8 : t < 8
      · have hrt : zm_rt t = true := by
          unfold zm_rt
          rw [Bool.and_eq_true]
          exact ⟨Nat.ble_eq_true_of_le (by omega), Nat.ble_eq_true_of_le h8⟩
        obtain ⟨r1, r2, r3⟩ := zm_rt_s hrt
        obtain ⟨comp, cA, k, f1, f2, f3, f4, f5⟩ := Cond.arrayOver_spec (hao _ r3)
        refine ⟨cA, fun ty' h' => ?_⟩
        have : ty' = .object (z_cn (z_el t)) := Option.some.inj (h'.symm.trans r1)
        subst this
        exact ⟨fun n z => ⟨(fun k h => by cases h), k, f3, comp, f4⟩, k, comp, f3, f4, f1, f5⟩
      · refine ⟨0, fun ty h => ?_⟩
        have : t < 8 := (List.getElem?_eq_some_iff.mp h).1
        omega
  refine ⟨(fun ci => Classical.choose (hcls ci), fun ci => Classical.choose (Classical.choose_spec (hcls ci))), fun t => Classical.choose (harr t), ⟨fun ci q hq => ?_, fun t q hq => ?_⟩, fun q hq => ?_, hao⟩
  · have hlt : ci < 9 := (List.getElem?_eq_some_iff.mp hq).1
    have := Classical.choose_spec (Classical.choose_spec (hcls ci)) hlt
    have e := zk_vw hlt
    rw [hq] at e
    have e := Option.some.inj e
    subst e
    exact this
  · unfold zx_tys at hq
    rw [List.getElem?_mapIdx] at hq
    cases hz : z_AT[t]? with
    | none => rw [hz] at hq; cases hq
    | some ty =>
      rw [hz] at hq
      have := Option.some.inj hq
      subst this
      exact Classical.choose_spec (harr t) ty hz
  · exact va_Nw.of rfl (hts _ (List.mem_of_getElem? (zk_all_in zo_mn hq)))
def zs_Q (r : Nat × List Value × HP) : Prop := r.2.1 = [.int 1] ∧ r.2.2.length ≤ 600000 ∧ zm_hsz r.2.2 ≤ 7302250
theorem zs_list (L : Nat) (xs : Nat → Int32) : ∀ k, k < L → ((List.range L).map xs).getD k 0 = xs k := by
  intro k hk
  simp [List.getD_eq_getElem?_getD, hk]
set_option maxHeartbeats 4000000 in
theorem zs_start (B : Nat) (hall : ∀ sc : List Int32, sc.length ≤ B → Wp (some sc) 12 z_law 0 (zm_ent (z_L z_law) [.ref zm_SP]) [] [] zs_Q)
    {p : Program} {e : Env} {s : State} {m : MethodId} {below : List Frame} {meth : Method} {c : Code} (l : Launch) {b L : Nat} {xs : Nat → Int32} (hL : L ≤ B) (C0 : lw_At p s m meth c b L xs) : W p l e room_1 s m #[Value.ref b] below meth c s.heap [] 0 0 (lw_Z below #[Value.ref b] s) (entryFrame m ([Value.ref b] : List Value).toArray (z_L z_law)) := by
  obtain ⟨hx, hb, hr, hml, hown, hts, hX, hbl, hlocks, hgv⟩ := C0
  obtain ⟨D, tyc, hC⟩ := zs_K hts
  have hlen : ((List.range L).map xs).length = L := by simp
  obtain ⟨f, r, hrun, hq1, hq2, hq3⟩ := hall ((List.range L).map xs) (by rw [hlen]; exact hL)
  have hXX : zx_X (fun _ => b) (some ((List.range L).map xs)) s.heap s := by
    intro sl hsl
    have := Option.some.inj hsl
    subst this
    refine ⟨?_, hbl⟩
    rw [hlen]
    obtain ⟨scr, a1, a2, a3, a4, a5⟩ := hX
    exact ⟨scr, a1, a2, a3, a4, fun k hk => by rw [a5 k hk]; show _ = some (Value.int (((List.range L).map xs).getD k 0)); rw [zs_list L xs k hk]⟩
  have hfit : (zm_sl2 [Value.ref zm_SP]).length ≤ z_L z_law := by decide +kernel
  have hE := zx_L_entry (zx_ad s.heap (fun _ => b)) [.ref zm_SP] hfit
  have hav : [Value.ref zm_SP].map (zx_cv (zx_ad s.heap (fun _ => b))) = [Value.ref b] := by
    simp [zx_cv, zx_sp]
  rw [hav] at hE
  rw [lg_entry_eq]
  have hRR : zx_R D tyc s.heap (fun _ => b) [] s.heap := ⟨by simp, fun i c h => by simp at h, fun q _ => rfl, by simp⟩
  obtain ⟨x, hx1, hx2⟩ := zm_run_ret _ _ _ _ _ _ _ _ hrun
  have hdec := zk_dec hx1
  refine zx_run_ok (D := D) (tyc := tyc) (H0 := s.heap) (sa := fun _ => b) f 12 z_law 0 _ [] [] r hrun p e room_1 s m _ below meth c s.heap [] 0 0 _ _ 0 0 ⟨hx, hb, hml, hown, fun w hw => hts w (z_T_tbl hw), fun q => absurd q (by decide +kernel), hC, hXX⟩ hRR (fun q hq => by cases hq) hE rfl rfl (by show _ ≤ 600000 + 0; omega) (by show _ ≤ 7302250 + 0; omega) (by decide) (by decide) ?_
  intro H1 locs1 ls1 cells1 slots1 a1 a2 a3 a4
  refine va_forget a2 ?_
  refine W.widen (k := 600000) (n := 7302250) (by omega) (by omega) ?_
  rw [hq1]
  obtain ⟨i, n, a0, b0⟩ := x
  rw [hq1] at hx2
  rcases zm_ret_s hx2 with ⟨rfl, v, hst, hrt⟩ | ⟨rfl, v, hst, hrt⟩ | ⟨rfl, hst, hrt⟩
  · exact lw_ret hx hb hr hlocks hdec
  · cases hst
  · cases hst
