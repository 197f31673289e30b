/-! from the law's entry: the tables' knowledge, then the run -/
theorem zs_K {s : State} {args : Array Value} (hts : ∀ w ∈ lw_tbl, w.before args s = true) : ∃ (D : va_G) (tyc : Nat → ClassId), zx_C D tyc s := by
  have htz : ∀ w ∈ z_T, w.before args s = true := fun w hw => hts w (z_T_tbl hw)
  have hcls : ∀ ci : Nat, ∃ (cC : ClassId) (iS : Nat → Nat), ci < 9 → u_Kn s (z_cn ci) (z_F ci) (z_dv ci).length cC iS := by
    intro ci
    by_cases h : ci < 9
    · obtain ⟨ku, kt, kn, ki, -⟩ := zk_cl (zk_vw h)
      obtain ⟨cC, iS, hk⟩ := u_known (n := (z_dv ci).length) htz ku (htz _ ki)
      exact ⟨cC, iS, fun _ => hk⟩
    · exact ⟨0, fun _ => 0, fun q => absurd q h⟩
  have hao : ∀ C ∈ z_AO, va_AO C s := by
    intro C hC
    obtain ⟨k, hk⟩ := List.getElem?_of_mem hC
    have hlt : k < 5 := (List.getElem?_eq_some_iff.mp hk).1
    have := List.all_eq_true.mp zo_ao k (List.mem_range.mpr hlt)
    simp only [decide_eq_true_eq] at this
    have e : z_AO.getD k "" = C := by rw [List.getD_eq_getElem?_getD, hk]; rfl
    rw [e] at this
    exact va_AO.of (hts _ (List.mem_of_getElem? this))
  have harr : ∀ t : Nat, ∃ cA : ClassId, ∀ ty, z_AT[t]? = some ty → ArrOfT s cA ty ∧ va_RA s cA ty := by
    intro t
    by_cases h3 : t < 3
    · have key : ∀ ty : FieldType, z_AT[t]? = some ty → Cond.arrayClass ty ∈ z_T → (∀ cA, s.vm.findClass ("[" ++ ty.toString) = some cA → va_RA s cA ty) → ∃ cA : ClassId, ∀ ty', z_AT[t]? = some ty' → ArrOfT s cA ty' ∧ va_RA s cA ty' := by
        intro ty h1 h2 h3
        obtain ⟨cA, k, comp, f1, f2, f3⟩ := Cond.arrayClass_spec (htz _ h2)
        refine ⟨cA, fun ty' h' => ?_⟩
        have : ty' = ty := Option.some.inj (h'.symm.trans h1)
        subst this
        exact ⟨fun n z => ⟨(fun k h => by cases h), k, f2, comp, f3⟩, h3 cA f1⟩
      match t, h3 with
      | 0, _ => exact key .int rfl zk_ac0 (fun _ h => h)
      | 1, _ => exact key .byte rfl zk_ac1 (fun _ h => h)
      | 2, _ => exact key .boolean rfl zk_ac2 (fun _ h => h)
    · by_cases h8 : t < 8
      · have hrt : zm_rt t = true := by
          unfold zm_rt
          rw [Bool.and_eq_true]
          exact ⟨Nat.ble_eq_true_of_le (by omega), Nat.ble_eq_true_of_le h8⟩
        obtain ⟨r1, r2, r3⟩ := zm_rt_s hrt
        obtain ⟨comp, cA, k, f1, f2, f3, f4, f5⟩ := Cond.arrayOver_spec (hao _ r3)
        refine ⟨cA, fun ty' h' => ?_⟩
        have : ty' = .object (z_cn (z_el t)) := Option.some.inj (h'.symm.trans r1)
        subst this
        exact ⟨fun n z => ⟨(fun k h => by cases h), k, f3, comp, f4⟩, k, comp, f3, f4, f1, f5⟩
      · refine ⟨0, fun ty h => ?_⟩
        have : t < 8 := (List.getElem?_eq_some_iff.mp h).1
        omega
  refine ⟨(fun ci => Classical.choose (hcls ci), fun ci => Classical.choose (Classical.choose_spec (hcls ci))), fun t => Classical.choose (harr t), ⟨fun ci q hq => ?_, fun t q hq => ?_⟩, fun q hq => ?_, hao⟩
  · have hlt : ci < 9 := (List.getElem?_eq_some_iff.mp hq).1
    have := Classical.choose_spec (Classical.choose_spec (hcls ci)) hlt
    have e := zk_vw hlt
    rw [hq] at e
    have e := Option.some.inj e
    subst e
    exact this
  · unfold zx_tys at hq
    rw [List.getElem?_mapIdx] at hq
    cases hz : z_AT[t]? with
    | none => rw [hz] at hq; cases hq
    | some ty =>
      rw [hz] at hq
      have := Option.some.inj hq
      subst this
      exact Classical.choose_spec (harr t) ty hz
  · exact va_Nw.of rfl (hts _ (List.mem_of_getElem? (zk_all_in zo_mn hq)))
def zs_tm (i : Nat) : Term := .string "EveningFirst$Reader" (z_St.getD i (0, "", [])).1
def zs_len : List Nat := z_St.map (fun q => q.2.2.length)
def zs_byt : List (List Int32) := z_St.map (fun q => q.2.2)
def zs_fl : List Cond := flatC (Jvm.Cond.and given_1 narrow_1)
set_option maxRecDepth 100000 in
theorem zs_c1 : (List.range 9).all (fun i => decide (Cond.exactly (zs_tm i) "java/lang/String" ∈ zs_fl) && decide (Cond.eq (.field (zs_tm i) "java/lang/String" "coder" "B") (.int 0) ∈ zs_fl) && decide (Cond.arrayOf (.field (zs_tm i) "java/lang/String" "value" "[B") .byte ∈ zs_fl) && decide (Cond.eq (.length (.field (zs_tm i) "java/lang/String" "value" "[B")) (.int (Int32.ofNat (zs_len.getD i 0))) ∈ zs_fl)) = true := by decide +kernel
set_option maxRecDepth 100000 in
theorem zs_c2 : (List.range 9).all (fun i => (List.range (zs_len.getD i 0)).all (fun j => decide (Cond.eq (.elem (.field (zs_tm i) "java/lang/String" "value" "[B") (.int (Int32.ofNat j))) (.int ((zs_byt.getD i []).getD j 0)) ∈ zs_fl))) = true := by decide +kernel
set_option maxRecDepth 100000 in
theorem zs_c3 : (List.range 9).all (fun i => (List.range 9).all (fun j => Nat.beq i j || decide (Cond.not (Cond.eq (zs_tm i) (zs_tm j)) ∈ zs_fl) || decide (Cond.not (Cond.eq (zs_tm j) (zs_tm i)) ∈ zs_fl))) = true := by decide +kernel
set_option maxRecDepth 100000 in
theorem zs_c4 : Cond.eq (.static "java/lang/String" "COMPACT_STRINGS" "Z") (.int 1) ∈ zs_fl ∧ Cond.isRef (.static "jdk/internal/util/Preconditions" "SIOOBE_FORMATTER" "Ljava/util/function/BiFunction;") ∈ zs_fl ∧ Cond.laysStatic "java/lang/String" "COMPACT_STRINGS" "Z" ∈ lw_tbl ∧ Cond.laysStatic "jdk/internal/util/Preconditions" "SIOOBE_FORMATTER" "Ljava/util/function/BiFunction;" ∈ lw_tbl ∧ (∀ i, i < 9 → zs_len.getD i 0 < 2 ^ 31) := by decide +kernel
set_option maxRecDepth 100000 in
theorem zs_c5 : z_ls.all (fun q => decide (z_cn q.1.1 = "EveningFirst$Reader") && decide (q.1.2.1 = (z_St.getD q.1.2.2 (0, "", [])).1) && Nat.blt q.1.2.2 9) = true := by decide +kernel
theorem zs_Y {s : State} {args : Array Value} (b : Nat) (hts : ∀ w ∈ lw_tbl, w.before args s = true) (hgv : (Jvm.Cond.and given_1 narrow_1).before args s = true) : ∃ sa : Nat → Nat, sa 0 = b ∧ zx_Y s.heap sa s := by
  have hs : ∀ w ∈ zs_fl, w.before args s = true := flat_of_before _ hgv
  have hA : ∀ a : Nat, a < s.heap.size → ¬ zx_A s.heap a := fun a h q => by have q : s.heap.size ≤ a := q; omega
  have k1 : ∀ i : Nat, i < 9 → ((Cond.exactly (zs_tm i) "java/lang/String" ∈ zs_fl ∧ Cond.eq (.field (zs_tm i) "java/lang/String" "coder" "B") (.int 0) ∈ zs_fl) ∧ Cond.arrayOf (.field (zs_tm i) "java/lang/String" "value" "[B") .byte ∈ zs_fl) ∧ Cond.eq (.length (.field (zs_tm i) "java/lang/String" "value" "[B")) (.int (Int32.ofNat (zs_len.getD i 0))) ∈ zs_fl := by
    intro i hi
    have := List.all_eq_true.mp zs_c1 i (List.mem_range.mpr hi)
    simpa only [Bool.and_eq_true, decide_eq_true_eq] using this
  obtain ⟨adK, adV, hS, hK⟩ := vk_Sof (N := 9) (tm := zs_tm) (len := zs_len) (byt := zs_byt) (A := zx_A s.heap) zs_c4.2.2.2.2 (fun i hi => hs _ (k1 i hi).1.1.1) (fun i hi => hs _ (k1 i hi).1.1.2) (fun i hi => hs _ (k1 i hi).1.2) (fun i hi => hs _ (k1 i hi).2)
    (fun i hi j hj => hs _ (by
      have := List.all_eq_true.mp (List.all_eq_true.mp zs_c2 i (List.mem_range.mpr hi)) j (List.mem_range.mpr hj)
      simpa using this))
    (fun i j hi hj hij => by
      have := List.all_eq_true.mp (List.all_eq_true.mp zs_c3 i (List.mem_range.mpr hi)) j (List.mem_range.mpr hj)
      have hb : Nat.beq i j = false := by
        cases hq : Nat.beq i j with
        | false => rfl
        | true => exact absurd (Nat.eq_of_beq_eq_true hq) hij
      simp only [hb, Bool.false_or, Bool.or_eq_true, decide_eq_true_eq] at this
      rcases this with q | q
      · exact Or.inl (hs _ q)
      · exact Or.inr (hs _ q)) hA
  have hZ := va_Zof (hts _ zs_c4.2.2.1) (hts _ (z_T_tbl (zk_z (o := 11) (by decide)))) (va_eqi (hs _ zs_c4.1)) hA
  have hF := va_Zqof (hts _ zs_c4.2.2.2.1) (hts _ (z_T_tbl (zk_z (o := 13) (by decide)))) (hs _ zs_c4.2.1) hA
  obtain ⟨c1, c2, hcc⟩ : ∃ c1 c2 : Nat, va_Z "jdk/internal/util/Preconditions" "SIOOBE_FORMATTER" "Ljava/util/function/BiFunction;" (if c1 = 0 then .null else .ref c2) (zx_A s.heap) s s.heap := by
    rcases hF with q | ⟨t, q⟩
    · exact ⟨0, 0, q⟩
    · exact ⟨1, t, q⟩
  refine ⟨fun k => if k = 0 then b else if k < 100 then adK (k - 1) else if k < 200 then adV (k - 101) else if k = 300 then c1 else c2, rfl, fun q hq => ?_, ?_, hZ, hcc⟩
  · have := List.all_eq_true.mp zs_c5 q hq
    simp only [Bool.and_eq_true, decide_eq_true_eq] at this
    obtain ⟨⟨e1, e2⟩, e3⟩ := this
    have e3 : q.1.2.2 < 9 := Nat.le_of_ble_eq_true e3
    have hw := hts _ (List.mem_of_getElem? (zk_all_in zo_ls hq))
    refine vk_R.of hw ?_
    have := hK q.1.2.2 e3
    show (Term.string (z_cn q.1.1) q.1.2.1).eval _ s none [] s = some (.ref (if 1 + q.1.2.2 = 0 then b else if 1 + q.1.2.2 < 100 then adK (1 + q.1.2.2 - 1) else _))
    rw [if_neg (by omega), if_pos (by omega), Nat.add_sub_cancel_left, e1, e2]
    exact this
  · refine ⟨fun i hi => ?_, fun i j hi hj he => ?_⟩
    · have := hS.1 i hi
      show va_O "java/lang/String" (if 1 + i = 0 then b else if 1 + i < 100 then adK (1 + i - 1) else _) _ _ _ ∧ va_OF _ _ _ _ (if 1 + i = 0 then b else if 1 + i < 100 then adK (1 + i - 1) else _) _ _ _ ∧ va_OF _ _ _ (.ref (if 101 + i = 0 then b else if 101 + i < 100 then _ else if 101 + i < 200 then adV (101 + i - 101) else _)) (if 1 + i = 0 then b else if 1 + i < 100 then adK (1 + i - 1) else _) _ _ _ ∧ va_T _ (if 101 + i = 0 then b else if 101 + i < 100 then _ else if 101 + i < 200 then adV (101 + i - 101) else _) _ _ _ _ _
      rw [if_neg (show ¬ 1 + i = 0 by omega), if_pos (show 1 + i < 100 by omega), Nat.add_sub_cancel_left, if_neg (show ¬ 101 + i = 0 by omega), if_neg (show ¬ 101 + i < 100 by omega), if_pos (show 101 + i < 200 by omega), Nat.add_sub_cancel_left]
      exact this
    · have he : (if 1 + i = 0 then b else if 1 + i < 100 then adK (1 + i - 1) else _) = (if 1 + j = 0 then b else if 1 + j < 100 then adK (1 + j - 1) else _) := he
      rw [if_neg (show ¬ 1 + i = 0 by omega), if_pos (show 1 + i < 100 by omega), Nat.add_sub_cancel_left, if_neg (show ¬ 1 + j = 0 by omega), if_pos (show 1 + j < 100 by omega), Nat.add_sub_cancel_left] at he
      exact hS.2 i j hi hj he
def zs_Q (r : Nat × List Value × HP) : Prop := r.2.1 = [.int 1] ∧ r.2.2.length ≤ 600000 ∧ zm_hsz r.2.2 ≤ 7302250
theorem zs_list (L : Nat) (xs : Nat → Int32) : ∀ k, k < L → ((List.range L).map xs).getD k 0 = xs k := by
  intro k hk
  simp [List.getD_eq_getElem?_getD, hk]
set_option maxHeartbeats 4000000 in
theorem zs_start (B : Nat) (hall : ∀ sc : List Int32, sc.length ≤ B → Wp (some sc) 12 z_law 0 (zm_ent (z_L z_law) [.ref zm_SP]) [] [] zs_Q)
    {p : Program} {e : Env} {s : State} {m : MethodId} {below : List Frame} {meth : Method} {c : Code} (l : Launch) {b L : Nat} {xs : Nat → Int32} (hL : L ≤ B) (C0 : lw_At p s m meth c b L xs) : W p l e room_1 s m #[Value.ref b] below meth c s.heap [] 0 0 (lw_Z below #[Value.ref b] s) (entryFrame m ([Value.ref b] : List Value).toArray (z_L z_law)) := by
  obtain ⟨hx, hb, hr, hml, hown, hts, hX, hbl, hlocks, hgv⟩ := C0
  obtain ⟨D, tyc, hC⟩ := zs_K hts
  obtain ⟨sa, hsa, hYY⟩ := zs_Y b hts hgv
  have hlen : ((List.range L).map xs).length = L := by simp
  obtain ⟨f, r, hrun, hq1, hq2, hq3⟩ := hall ((List.range L).map xs) (by rw [hlen]; exact hL)
  have hXX : zx_X sa (some ((List.range L).map xs)) s.heap s := by
    intro sl hsl
    have := Option.some.inj hsl
    subst this
    rw [hsa]
    refine ⟨?_, hbl⟩
    rw [hlen]
    obtain ⟨scr, a1, a2, a3, a4, a5⟩ := hX
    exact ⟨scr, a1, a2, a3, a4, fun k hk => by rw [a5 k hk]; show _ = some (Value.int (((List.range L).map xs).getD k 0)); rw [zs_list L xs k hk]⟩
  have hfit : (zm_sl2 [Value.ref zm_SP]).length ≤ z_L z_law := by decide +kernel
  have hE := zx_L_entry (zx_ad s.heap sa) [.ref zm_SP] hfit
  have hav : [Value.ref zm_SP].map (zx_cv (zx_ad s.heap sa)) = [Value.ref b] := by
    simp [zx_cv, zx_sp, hsa]
  rw [hav] at hE
  rw [lg_entry_eq]
  have hRR : zx_R D tyc s.heap sa [] s.heap := ⟨by simp, fun i c h => by simp at h, fun q _ => rfl, by simp⟩
  obtain ⟨x, hx1, hx2⟩ := zm_run_ret _ _ _ _ _ _ _ _ hrun
  have hdec := zk_dec hx1
  refine zx_run_ok (D := D) (tyc := tyc) (H0 := s.heap) (sa := sa) f 12 z_law 0 _ [] [] r hrun p e room_1 s m _ below meth c s.heap [] 0 0 _ _ 0 0 ⟨hx, hb, hml, hown, fun w hw => hts w (z_T_tbl hw), fun q => absurd q (by decide +kernel), hC, hXX, hYY⟩ ⟨rfl, fun _ _ => rfl⟩ hRR (fun q hq => by cases hq) hE rfl rfl (by show _ ≤ 600000 + 0; omega) (by show _ ≤ 7302250 + 0; omega) (by decide) (by decide) ?_
  intro H1 locs1 ls1 cells1 slots1 a1 a2 a3 a4
  refine va_forget a2 ?_
  refine W.widen (k := 600000) (n := 7302250) (by omega) (by omega) ?_
  rw [hq1]
  obtain ⟨i, n, a0, b0⟩ := x
  rw [hq1] at hx2
  rcases zm_ret_s hx2 with ⟨rfl, v, hst, hrt⟩ | ⟨rfl, v, hst, hrt⟩ | ⟨rfl, hst, hrt⟩
  · exact lw_ret hx hb hr hlocks hdec
  · cases hst
  · cases hst
