/-! the classes -/
set_option maxRecDepth 100000 in
theorem zo_u0 : (u_ws RX0 TX0 6).all (fun w => decide (w ∈ lw_tbl) && goodWord w) = true := by decide +kernel
set_option maxRecDepth 100000 in
theorem zo_u1 : (u_ws RX1 TX1 7).all (fun w => decide (w ∈ lw_tbl) && goodWord w) = true := by decide +kernel
set_option maxRecDepth 100000 in
theorem zo_u2 : (u_ws RX2 TX2 7).all (fun w => decide (w ∈ lw_tbl) && goodWord w) = true := by decide +kernel
set_option maxRecDepth 100000 in
theorem zo_u3 : (u_ws RX3 TX3 2).all (fun w => decide (w ∈ lw_tbl) && goodWord w) = true := by decide +kernel
set_option maxRecDepth 100000 in
theorem zo_u4 : (u_ws RX4 TX4 12).all (fun w => decide (w ∈ lw_tbl) && goodWord w) = true := by decide +kernel
set_option maxRecDepth 100000 in
theorem zo_u5 : (u_ws RX5 TX5 3).all (fun w => decide (w ∈ lw_tbl) && goodWord w) = true := by decide +kernel
set_option maxRecDepth 100000 in
theorem zo_u6 : (u_ws RX6 TX6 4).all (fun w => decide (w ∈ lw_tbl) && goodWord w) = true := by decide +kernel
set_option maxRecDepth 100000 in
theorem zo_u7 : (u_ws RX7 TX7 8).all (fun w => decide (w ∈ lw_tbl) && goodWord w) = true := by decide +kernel
set_option maxRecDepth 100000 in
theorem zo_u8 : (u_ws RX8 TX8 28).all (fun w => decide (w ∈ lw_tbl) && goodWord w) = true := by decide +kernel
set_option maxRecDepth 100000 in
theorem zo_t : (List.range 9).all (fun ci => decide (lw_tbl[z_Tp.getD ci 0]? = some (.instantiable (z_cn ci) (z_dv ci).length))) = true := by decide +kernel
theorem zk_z {o : Nat} (h : o < 14) : Cond.initialized (z_cn o) ∈ z_T := by
  have := List.all_eq_true.mp zo_z o (List.mem_range.mpr h)
  exact z_T_in (by simpa using this) rfl
theorem zk_t {ci : Nat} (h : ci < 9) : Cond.instantiable (z_cn ci) (z_dv ci).length ∈ z_T := by
  have := List.all_eq_true.mp zo_t ci (List.mem_range.mpr h)
  exact z_T_in (by simpa using this) rfl
theorem zk_u {ws : List Cond} (h : ws.all (fun w => decide (w ∈ lw_tbl) && goodWord w) = true) : ∀ w ∈ ws, w ∈ z_T := by
  intro w hw
  have := List.all_eq_true.mp h w hw
  rw [Bool.and_eq_true, decide_eq_true_eq] at this
  exact List.mem_filter.mpr this
def zk_CL (ci : Nat) (C : String) (T : u_T) (N : Nat) : Prop := (∀ w ∈ u_ws C T N, w ∈ z_T) ∧ (∀ k, k < N → parseFieldDescriptor (T k).2.2.1 = some (z_ty ci k)) ∧ (∀ a, a < N → ∀ b, b < N → a ≠ b → (T a).2.1 ≠ (T b).2.1) ∧ Cond.instantiable C N ∈ z_T ∧ Cond.initialized C ∈ z_T ∧ (z_dv ci).length = N ∧ (∀ k, k < N → (z_dv ci)[k]? = some (defaultValue (z_ty ci k))) ∧ C = z_cn ci ∧ T = z_F ci
theorem zk_cl {ci : Nat} {C : String} {T : u_T} {N : Nat} (h : vwCl[ci]? = some (C, T, N)) : zk_CL ci C T N := by
  match ci, h with
  | 0, h => cases h; exact ⟨zk_u zo_u0, tyX0_ok, nmX0, zk_t (ci := 0) (by decide), zk_z (o := 0) (by decide), rfl, by decide +kernel, rfl, rfl⟩
  | 1, h => cases h; exact ⟨zk_u zo_u1, tyX1_ok, nmX1, zk_t (ci := 1) (by decide), zk_z (o := 1) (by decide), rfl, by decide +kernel, rfl, rfl⟩
  | 2, h => cases h; exact ⟨zk_u zo_u2, tyX2_ok, nmX2, zk_t (ci := 2) (by decide), zk_z (o := 2) (by decide), rfl, by decide +kernel, rfl, rfl⟩
  | 3, h => cases h; exact ⟨zk_u zo_u3, tyX3_ok, nmX3, zk_t (ci := 3) (by decide), zk_z (o := 3) (by decide), rfl, by decide +kernel, rfl, rfl⟩
  | 4, h => cases h; exact ⟨zk_u zo_u4, tyX4_ok, nmX4, zk_t (ci := 4) (by decide), zk_z (o := 4) (by decide), rfl, by decide +kernel, rfl, rfl⟩
  | 5, h => cases h; exact ⟨zk_u zo_u5, tyX5_ok, nmX5, zk_t (ci := 5) (by decide), zk_z (o := 5) (by decide), rfl, by decide +kernel, rfl, rfl⟩
  | 6, h => cases h; exact ⟨zk_u zo_u6, tyX6_ok, nmX6, zk_t (ci := 6) (by decide), zk_z (o := 6) (by decide), rfl, by decide +kernel, rfl, rfl⟩
  | 7, h => cases h; exact ⟨zk_u zo_u7, tyX7_ok, nmX7, zk_t (ci := 7) (by decide), zk_z (o := 7) (by decide), rfl, by decide +kernel, rfl, rfl⟩
  | 8, h => cases h; exact ⟨zk_u zo_u8, tyX8_ok, nmX8, zk_t (ci := 8) (by decide), zk_z (o := 8) (by decide), rfl, by decide +kernel, rfl, rfl⟩
  | k + 9, h => simp [vwCl] at h
theorem zk_vw {ci : Nat} (h : ci < 9) : vwCl[ci]? = some (z_cn ci, z_F ci, (z_dv ci).length) := by
  match ci, h with
  | 0, _ => rfl
  | 1, _ => rfl
  | 2, _ => rfl
  | 3, _ => rfl
  | 4, _ => rfl
  | 5, _ => rfl
  | 6, _ => rfl
  | 7, _ => rfl
  | 8, _ => rfl
  | k + 9, h => omega
theorem zk_at0 : z_AT[0]? = some .int := rfl
theorem zk_at1 : z_AT[1]? = some .byte := rfl
theorem zk_at2 : z_AT[2]? = some .boolean := rfl
set_option maxRecDepth 100000 in
theorem zk_ac0 : Cond.arrayClass .int ∈ z_T := z_T_in (k := z_ACp.getD 0 0) (by decide +kernel) rfl
set_option maxRecDepth 100000 in
theorem zk_ac1 : Cond.arrayClass .byte ∈ z_T := z_T_in (k := z_ACp.getD 1 0) (by decide +kernel) rfl
set_option maxRecDepth 100000 in
theorem zk_ac2 : Cond.arrayClass .boolean ∈ z_T := z_T_in (k := z_ACp.getD 2 0) (by decide +kernel) rfl
def zm_rt (t : Nat) : Bool := Nat.ble 3 t && Nat.blt t z_AT.length
theorem zm_rt_s {t : Nat} (h : zm_rt t = true) : z_AT[t]? = some (.object (z_cn (z_el t))) ∧ z_el t < 9 ∧ z_cn (z_el t) ∈ z_AO := by
  have h1 : t < 8 := by simp only [zm_rt, Bool.and_eq_true] at h; exact Nat.le_of_ble_eq_true h.2
  have h2 : 3 ≤ t := by simp only [zm_rt, Bool.and_eq_true] at h; exact Nat.le_of_ble_eq_true h.1
  match t, h1, h2 with
  | 3, _, _ => exact ⟨rfl, by decide, by decide +kernel⟩
  | 4, _, _ => exact ⟨rfl, by decide, by decide +kernel⟩
  | 5, _, _ => exact ⟨rfl, by decide, by decide +kernel⟩
  | 6, _, _ => exact ⟨rfl, by decide, by decide +kernel⟩
  | 7, _, _ => exact ⟨rfl, by decide, by decide +kernel⟩
set_option maxRecDepth 100000 in
theorem zo_ao : (List.range 5).all (fun k => decide (lw_tbl[z_AOp.getD k 0]? = some (.arrayOver (.object (z_AO.getD k ""))))) = true := by decide +kernel
