section ZM
variable {D : va_G} {tyc : Nat → ClassId} {H0 : Heap} {sa : Nat → Nat} {sc : Option (List Int32)} {l : Launch}
theorem zx_kd1 {i : Instr} (h : zm_kd i = 1) : (∃ k, i = .invokevirtual k) ∨ (∃ k, i = .invokespecial k) ∨ ∃ k, i = .invokestatic k := by
  unfold zm_kd at h
  split at h
  · cases h
  · cases h
  · cases h
  · exact Or.inl ⟨_, rfl⟩
  · exact Or.inr (Or.inl ⟨_, rfl⟩)
  · exact Or.inr (Or.inr ⟨_, rfl⟩)
  · cases h
set_option maxHeartbeats 8000000 in
theorem zx_run_ok : ∀ f, zx_S D tyc H0 sa sc l f := by
  intro f
  induction f with
  | zero => intro d j pc lo st h r hr; cases hr
  | succ f IH =>
    intro d j pc lo st h r hr p e R s m args below meth c H locs cells slots Q ls c0 s0 G hH hR hlc hL hc0 hs0 rc rs hfr hlo K
    unfold zm_run at hr
    split at hr
    · cases hr
    · next x hx =>
      split at hr
      · split at hr
        · cases hr
        · next pc1 lo1 st1 h1 hs =>
          have hle := zm_run_le _ _ _ _ _ _ _ _ hr
          refine zx_st (c0 := c0) (s0 := s0) G hx hs hR hlc hL hH hc0 hs0 (Nat.le_trans hle.1 rc) (Nat.le_trans hle.2 rs) (fun H1 locs1 ls1 cells1 slots1 a1 a2 a3 a4 a5 => ?_)
          exact IH d j pc1 lo1 st1 h1 r hr p e R s m args below meth c H1 locs1 cells1 slots1 Q ls1 c0 s0 G hH a1 a2 a3 a4 a5 rc rs hfr hlo K
      · next hkd =>
        obtain ⟨i, n, j1, na⟩ := x
        obtain ⟨g0, hr2⟩ := zm_if hr
        clear hr
        have hr := hr2
        clear hr2
        simp only [Bool.and_eq_true] at g0
        obtain ⟨⟨g1, g2⟩, g3⟩ := g0
        have hna : na ≤ st.length := Nat.le_of_ble_eq_true g1
        have hcat : zm_cat (st.drop na) ≤ 8 := Nat.le_of_ble_eq_true g2
        have hst : st = (st.take na).reverse.reverse ++ st.drop na := by rw [List.reverse_reverse, List.take_append_drop]
        have hal : (st.take na).reverse.length = na := by rw [List.length_reverse, List.length_take]; omega
        generalize (st.take na).reverse = as at hr g3 hst hal
        generalize st.drop na = rest at hr hst hcat
        subst hal
        subst hst
        cases d with
        | zero => exact absurd (show (none : Option (Nat × List Value × HP)) = some r from hr) (by simp)
        | succ d1 =>
          have hfr1 : d1 + 1 ≤ R.frames := hfr
          have hr : (bif Nat.beq j1 0 then zm_run sc f (d1 + 1) j (pc + 3) lo rest h else
            bif Nat.ble (zm_sl2 as).length (z_L j1) then (match zm_run sc f d1 j1 0 (zm_ent (z_L j1) as) [] h with
              | none => none
              | some (_, st1, h1) => zm_run sc f (d1 + 1) j (pc + 3) lo (st1 ++ rest) h1) else none) = some r := hr
          cases hj0 : Nat.beq j1 0 with
          | true =>
            rw [hj0] at hr
            have hr : zm_run sc f (d1 + 1) j (pc + 3) lo rest h = some r := hr
            have e0 := Nat.eq_of_beq_eq_true hj0
            subst e0
            have hb := zk_bb hx
            rcases zx_kd1 hkd with ⟨k, rfl⟩ | ⟨k, rfl⟩ | ⟨k, rfl⟩
            · simp [zk_b] at hb
            · simp only [zk_b, Nat.beq, cond_true, Bool.and_eq_true] at hb
              have hn := Nat.eq_of_beq_eq_true hb.1
              obtain ⟨q, hq⟩ := zk_has_in (fun _ _ => zk_e2_eq) zo_oi hb.2
              match as, hn, g3 with
              | [.ref r0], _, _ =>
                have hdec := zk_dec hx
                have hcls := zk_own hx
                have hown := G.2.2.2.1
                rw [hcls] at hown
                have hts := G.2.2.2.2.1
                have hlk : (Cond.methodLink (z_cn (z_O j)) k Lib.objectInit).before args s = true := hts _ (z_T_in (w := zw_oi (z_O j, k)) hq rfl)
                have K2 := IH (d1 + 1) j (pc + 3) lo rest h r hr p e R s m args below meth c H locs cells slots Q ls c0 s0 G hH hR hlc hL hc0 hs0 rc rs hfr hlo K
                have hcat' : ((rest.map (zx_cv (zx_ad H0 sa))).map fun v => v.category).sum ≤ 8 := by
                  rw [List.map_map]
                  have : ((fun v => Value.category v) ∘ zx_cv (zx_ad H0 sa)) = fun v => v.category := by funext v; exact zx_cv_cat _ v
                  rw [this]; exact hcat
                refine W.objInit G.1 G.2.1 hown hlk (hts _ (z_T_in zo_obi rfl)) (hts _ (z_T_in zo_ob rfl)) (g := F0 m pc ls _) rfl (hL.1.trans G.2.2.1.symm) (a := zx_ad H0 sa r0) (rest := rest.map (zx_cv (zx_ad H0 sa))) rfl hdec (by omega) ?_ K2
                have := lv_room (m := m) (pc := pc) (ls := ls) (rest := []) hcat'
                have h3 : zx_lr (d1 + 1) = 12 + 31 * (d1 + 1) := rfl
                show 2 * 0 + ((rest.map (zx_cv (zx_ad H0 sa))).map fun v => v.category).sum + 12 ≤ R.locals
                omega
              | [.int _], _, g3 => simp [zm_rok] at g3
              | [.long _], _, g3 => simp [zm_rok] at g3
              | [.float _], _, g3 => simp [zm_rok] at g3
              | [.double _], _, g3 => simp [zm_rok] at g3
              | [.null], _, g3 => simp [zm_rok] at g3
              | [.retAddr _], _, g3 => simp [zm_rok] at g3
            · simp [zk_b] at hb
          | false =>
            rw [hj0] at hr
            have h0 : 0 < j1 := by
              rcases Nat.eq_zero_or_pos j1 with q | q
              · rw [q] at hj0; cases hj0
              · exact q
            obtain ⟨g4, hr⟩ := zm_if (show (bif Nat.ble (zm_sl2 as).length (z_L j1) then (match zm_run sc f d1 j1 0 (zm_ent (z_L j1) as) [] h with
              | none => none
              | some (_, st1, h1) => zm_run sc f (d1 + 1) j (pc + 3) lo (st1 ++ rest) h1) else none) = some r from hr)
            have hfit : (zm_sl2 as).length ≤ z_L j1 := Nat.le_of_ble_eq_true g4
            split at hr
            · cases hr
            · next pcR st1 h1 hr1 =>
              have hle := zm_run_le _ _ _ _ _ _ _ _ hr
              have hle1 := zm_run_le _ _ _ _ _ _ _ _ hr1
              have hle1a : h.length ≤ h1.length := hle1.1
              have hle1b : zm_hsz h ≤ zm_hsz h1 := hle1.2
              have hlea : h1.length ≤ r.2.2.length := hle.1
              have hleb : zm_hsz h1 ≤ zm_hsz r.2.2 := hle.2
              have K2 : ∀ (H1 : Heap) (locs1 : List Loc), zx_R D tyc H0 sa h1 H1 → (∀ q ∈ locs1, H0.size ≤ q.base) → W p l e R s m args below meth c H1 locs1 (cells + (h1.length - h.length)) (slots + (zm_hsz h1 - zm_hsz h)) Q (F0 m (pc + 3) ls ((st1 ++ rest).map (zx_cv (zx_ad H0 sa)))) := by
                intro H1 locs1 a1 a2
                exact IH (d1 + 1) j (pc + 3) lo (st1 ++ rest) h1 r hr p e R s m args below meth c H1 locs1 _ _ Q ls c0 s0 G hH a1 a2 hL (by omega) (by omega) rc rs hfr hlo K
              rcases zx_kd1 hkd with ⟨k, rfl⟩ | ⟨k, rfl⟩ | ⟨k, rfl⟩
              · match as, g3 with
                | .ref r0 :: as1, g3 =>
                  have hb := zk_bb hx
                  simp only [zk_b, Bool.and_eq_true] at hb
                  have hj1 : j1 < z_nM := Nat.le_of_ble_eq_true hb.1.1.2
                  exact zx_callV IH G hx hR hlc hL.1 (zx_recv G hR hH (by omega) hlc h0 hj1 g3) hr1 hfit hcat hfr1 hlo (by omega) (by omega) K2
                | [], g3 => simp [zm_rok] at g3
                | .int _ :: _, g3 => simp [zm_rok] at g3
                | .long _ :: _, g3 => simp [zm_rok] at g3
                | .float _ :: _, g3 => simp [zm_rok] at g3
                | .double _ :: _, g3 => simp [zm_rok] at g3
                | .null :: _, g3 => simp [zm_rok] at g3
                | .retAddr _ :: _, g3 => simp [zm_rok] at g3
              · match as, g3 with
                | .ref r0 :: as1, g3 =>
                  exact zx_callI IH G hx h0 hR hlc hL.1 hr1 hfit hcat hfr1 hlo (by omega) (by omega) K2
                | [], g3 => simp [zm_rok] at g3
                | .int _ :: _, g3 => simp [zm_rok] at g3
                | .long _ :: _, g3 => simp [zm_rok] at g3
                | .float _ :: _, g3 => simp [zm_rok] at g3
                | .double _ :: _, g3 => simp [zm_rok] at g3
                | .null :: _, g3 => simp [zm_rok] at g3
                | .retAddr _ :: _, g3 => simp [zm_rok] at g3
              · exact zx_callS IH G hx hR hlc hL.1 hr1 hfit hcat hfr1 hlo (by omega) (by omega) K2
      · obtain ⟨g1, g⟩ := zm_if hr
        cases g
        exact K H locs ls cells slots hR hlc hc0 hs0
end ZM
