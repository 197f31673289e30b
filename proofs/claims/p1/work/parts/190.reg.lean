set_option maxRecDepth 100000 in
theorem zt_0_0 : (List.range 128).all (fun n0 => zv_bi 54 111 [.int (nI n0)]) = true := by decide +kernel
set_option maxRecDepth 100000 in
set_option maxHeartbeats 4000000 in
theorem zr_0 (a1 : Int32) : zv_Pi 54 111 [.int a1] := by
  rcases (by omega : (a1.toInt ≤ -1) ∨ (128 ≤ a1.toInt) ∨ (0 ≤ a1.toInt ∧ a1.toInt ≤ 127)) with h0 | h0 | h0
  · skip
    refine ⟨(-1), zv_h0, zv_h0, ?_, rfl, ?_, zv_len⟩
    · show Wp _ _ 54 0 [some (.ref 0), some (.int a1)] [] zv_h0 _
      refine Wp.steps 1 (pc1 := 1) (lo1 := [some (.ref 0), some (.int a1)]) (st1 := [.int a1]) (h1 := zv_h0) rfl ?_
      refine Wp.ifT (i := .nop) rfl (zq_T rfl (by decide) (show a1.toInt < 0 by omega)) ?_
      show Wp _ _ 54 10 [some (.ref 0), some (.int a1)] [] zv_h0 _
      refine Wp.steps 1 (pc1 := 11) (lo1 := [some (.ref 0), some (.int a1)]) (st1 := [.int (-1)]) (h1 := zv_h0) rfl ?_
      exact Wp.ret rfl rfl rfl ⟨rfl, rfl⟩
    · show Wp _ _ 111 0 [some (.ref 113), some (.int a1)] [] zv_h0 _
      refine Wp.steps 4 (pc1 := 6) (lo1 := [some (.ref 113), some (.int a1)]) (st1 := [.long 127, .long 0, .long (a1).toInt64]) (h1 := zv_h0) rfl ?_
      refine Wp.call (as := [.long (a1).toInt64, .long 0, .long 127]) (rest := []) rfl rfl rfl rfl rfl rfl rfl rfl rfl ?_
      refine zin_F (Int32.toInt_toInt64 _) (by decide) (by decide) (show a1.toInt < (0 : Int) ∨ (127 : Int) < a1.toInt by omega) ?_
      show Wp _ _ 111 9 [some (.ref 113), some (.int a1)] [.int 0] zv_h0 _
      refine Wp.steps 2 (pc1 := 13) (lo1 := [some (.ref 113), some (.int a1)]) (st1 := [.int (-1)]) (h1 := zv_h0) rfl ?_
      exact Wp.ret rfl rfl rfl ⟨rfl, rfl⟩
  · skip
    refine ⟨(-1), zv_h0, zv_h0, ?_, rfl, ?_, zv_len⟩
    · show Wp _ _ 54 0 [some (.ref 0), some (.int a1)] [] zv_h0 _
      refine Wp.steps 1 (pc1 := 1) (lo1 := [some (.ref 0), some (.int a1)]) (st1 := [.int a1]) (h1 := zv_h0) rfl ?_
      refine Wp.ifF (i := .nop) rfl (zq_F rfl (by decide) (show a1.toInt ≥ 0 by omega)) ?_
      show Wp _ _ 54 4 [some (.ref 0), some (.int a1)] [] zv_h0 _
      refine Wp.steps 2 (pc1 := 7) (lo1 := [some (.ref 0), some (.int a1)]) (st1 := [.int 127, .int a1]) (h1 := zv_h0) rfl ?_
      refine Wp.icF (i := .nop) rfl (zq_F rfl (by decide) (show a1.toInt > 127 by omega)) ?_
      show Wp _ _ 54 10 [some (.ref 0), some (.int a1)] [] zv_h0 _
      refine Wp.steps 1 (pc1 := 11) (lo1 := [some (.ref 0), some (.int a1)]) (st1 := [.int (-1)]) (h1 := zv_h0) rfl ?_
      exact Wp.ret rfl rfl rfl ⟨rfl, rfl⟩
    · show Wp _ _ 111 0 [some (.ref 113), some (.int a1)] [] zv_h0 _
      refine Wp.steps 4 (pc1 := 6) (lo1 := [some (.ref 113), some (.int a1)]) (st1 := [.long 127, .long 0, .long (a1).toInt64]) (h1 := zv_h0) rfl ?_
      refine Wp.call (as := [.long (a1).toInt64, .long 0, .long 127]) (rest := []) rfl rfl rfl rfl rfl rfl rfl rfl rfl ?_
      refine zin_F (Int32.toInt_toInt64 _) (by decide) (by decide) (show a1.toInt < (0 : Int) ∨ (127 : Int) < a1.toInt by omega) ?_
      show Wp _ _ 111 9 [some (.ref 113), some (.int a1)] [.int 0] zv_h0 _
      refine Wp.steps 2 (pc1 := 13) (lo1 := [some (.ref 113), some (.int a1)]) (st1 := [.int (-1)]) (h1 := zv_h0) rfl ?_
      exact Wp.ret rfl rfl rfl ⟨rfl, rfl⟩
  · skip
    obtain ⟨n0, hn0, rfl⟩ : ∃ n : Nat, n ≤ 127 ∧ a1 = nI n := nI_of2 (M := 127) (by decide) (fun q => by have := Int32.lt_iff_toInt_lt.mp q; simp at this; omega) (Int32.le_iff_toInt_le.mpr (by simp; omega))
    exact zv_Pi_of (List.all_eq_true.mp zt_0_0 n0 (List.mem_range.mpr (by omega)))
set_option maxRecDepth 100000 in
set_option maxHeartbeats 4000000 in
theorem zr_1 (a1 : Int32) : zv_Pi 55 112 [.int a1] := by
  rcases (by omega : (a1.toInt ≤ -1) ∨ (1 ≤ a1.toInt) ∨ (a1.toInt = 0)) with h0 | h0 | h0
  · skip
    refine ⟨(-1), zv_h0, zv_h0, ?_, rfl, ?_, zv_len⟩
    · show Wp _ _ 55 0 [some (.ref 0), some (.int a1), none] [] zv_h0 _
      refine Wp.steps 5 (pc1 := 9) (lo1 := [some (.ref 0), some (.int a1), some (.int 0)]) (st1 := [.int a1]) (h1 := zv_h0) rfl ?_
      refine Wp.ifT (i := .nop) rfl (zq_T rfl (by decide) (show a1.toInt < 0 by omega)) ?_
      show Wp _ _ 55 17 [some (.ref 0), some (.int a1), some (.int 0)] [] zv_h0 _
      refine Wp.steps 1 (pc1 := 18) (lo1 := [some (.ref 0), some (.int a1), some (.int 0)]) (st1 := [.int (-1)]) (h1 := zv_h0) rfl ?_
      exact Wp.ret rfl rfl rfl ⟨rfl, rfl⟩
    · show Wp _ _ 112 0 [some (.ref 113), some (.int a1), none] [] zv_h0 _
      refine Wp.steps 6 (pc1 := 8) (lo1 := [some (.ref 113), some (.int a1), none]) (st1 := [.long 0, .long 0, .long (a1).toInt64]) (h1 := zv_h0) rfl ?_
      refine Wp.call (as := [.long (a1).toInt64, .long 0, .long 0]) (rest := []) rfl rfl rfl rfl rfl rfl rfl rfl rfl ?_
      refine zin_F (Int32.toInt_toInt64 _) (by decide) (by decide) (show a1.toInt < (0 : Int) ∨ (0 : Int) < a1.toInt by omega) ?_
      show Wp _ _ 112 11 [some (.ref 113), some (.int a1), none] [.int 0] zv_h0 _
      refine Wp.steps 2 (pc1 := 15) (lo1 := [some (.ref 113), some (.int a1), none]) (st1 := [.int (-1)]) (h1 := zv_h0) rfl ?_
      exact Wp.ret rfl rfl rfl ⟨rfl, rfl⟩
  · skip
    refine ⟨(-1), zv_h0, zv_h0, ?_, rfl, ?_, zv_len⟩
    · show Wp _ _ 55 0 [some (.ref 0), some (.int a1), none] [] zv_h0 _
      refine Wp.steps 5 (pc1 := 9) (lo1 := [some (.ref 0), some (.int a1), some (.int 0)]) (st1 := [.int a1]) (h1 := zv_h0) rfl ?_
      refine Wp.ifF (i := .nop) rfl (zq_F rfl (by decide) (show a1.toInt ≥ 0 by omega)) ?_
      show Wp _ _ 55 12 [some (.ref 0), some (.int a1), some (.int 0)] [] zv_h0 _
      refine Wp.steps 2 (pc1 := 14) (lo1 := [some (.ref 0), some (.int a1), some (.int 0)]) (st1 := [.int 0, .int a1]) (h1 := zv_h0) rfl ?_
      refine Wp.icF (i := .nop) rfl (zq_F rfl (by decide) (show a1.toInt > 0 by omega)) ?_
      show Wp _ _ 55 17 [some (.ref 0), some (.int a1), some (.int 0)] [] zv_h0 _
      refine Wp.steps 1 (pc1 := 18) (lo1 := [some (.ref 0), some (.int a1), some (.int 0)]) (st1 := [.int (-1)]) (h1 := zv_h0) rfl ?_
      exact Wp.ret rfl rfl rfl ⟨rfl, rfl⟩
    · show Wp _ _ 112 0 [some (.ref 113), some (.int a1), none] [] zv_h0 _
      refine Wp.steps 6 (pc1 := 8) (lo1 := [some (.ref 113), some (.int a1), none]) (st1 := [.long 0, .long 0, .long (a1).toInt64]) (h1 := zv_h0) rfl ?_
      refine Wp.call (as := [.long (a1).toInt64, .long 0, .long 0]) (rest := []) rfl rfl rfl rfl rfl rfl rfl rfl rfl ?_
      refine zin_F (Int32.toInt_toInt64 _) (by decide) (by decide) (show a1.toInt < (0 : Int) ∨ (0 : Int) < a1.toInt by omega) ?_
      show Wp _ _ 112 11 [some (.ref 113), some (.int a1), none] [.int 0] zv_h0 _
      refine Wp.steps 2 (pc1 := 15) (lo1 := [some (.ref 113), some (.int a1), none]) (st1 := [.int (-1)]) (h1 := zv_h0) rfl ?_
      exact Wp.ret rfl rfl rfl ⟨rfl, rfl⟩
  · skip
    obtain rfl : a1 = 0 := Int32.toInt_inj.mp (h0.trans (by decide))
    exact zv_Pi_of (by decide +kernel)
set_option maxRecDepth 100000 in
set_option maxHeartbeats 4000000 in
theorem zr_2 : zv_Pi 56 129 [] := by
  exact zv_Pi_of (by decide +kernel)
set_option maxRecDepth 100000 in
set_option maxHeartbeats 4000000 in
theorem zr_3 : zv_Pi 57 130 [] := by
  exact zv_Pi_of (by decide +kernel)
set_option maxRecDepth 100000 in
set_option maxHeartbeats 4000000 in
theorem zr_4 (a1 : Int32) : zv_Pi 58 139 [.int a1] := by
  rcases (by omega : (a1.toInt ≤ -1) ∨ (3 ≤ a1.toInt) ∨ (a1.toInt = 0) ∨ (a1.toInt = 1) ∨ (a1.toInt = 2)) with h0 | h0 | h0 | h0 | h0
  · skip
    refine ⟨(-1), zv_h0, zv_h0, ?_, rfl, ?_, zv_len⟩
    · show Wp _ _ 58 0 [some (.ref 0), some (.int a1)] [] zv_h0 _
      refine Wp.steps 1 (pc1 := 1) (lo1 := [some (.ref 0), some (.int a1)]) (st1 := [.int a1]) (h1 := zv_h0) rfl ?_
      refine Wp.tabOut rfl (Or.inl (show a1.toInt < 0 by omega)) ?_
      show Wp _ _ 58 52 [some (.ref 0), some (.int a1)] [] zv_h0 _
      refine Wp.steps 1 (pc1 := 53) (lo1 := [some (.ref 0), some (.int a1)]) (st1 := [.int (-1)]) (h1 := zv_h0) rfl ?_
      exact Wp.ret rfl rfl rfl ⟨rfl, rfl⟩
    · show Wp _ _ 139 0 [some (.ref 113), some (.int a1)] [] zv_h0 _
      refine Wp.steps 1 (pc1 := 1) (lo1 := [some (.ref 113), some (.int a1)]) (st1 := [.int a1]) (h1 := zv_h0) rfl ?_
      refine Wp.tabOut rfl (Or.inl (show a1.toInt < 0 by omega)) ?_
      show Wp _ _ 139 46 [some (.ref 113), some (.int a1)] [] zv_h0 _
      refine Wp.steps 1 (pc1 := 47) (lo1 := [some (.ref 113), some (.int a1)]) (st1 := [.int (-1)]) (h1 := zv_h0) rfl ?_
      exact Wp.ret rfl rfl rfl ⟨rfl, rfl⟩
  · skip
    refine ⟨(-1), zv_h0, zv_h0, ?_, rfl, ?_, zv_len⟩
    · show Wp _ _ 58 0 [some (.ref 0), some (.int a1)] [] zv_h0 _
      refine Wp.steps 1 (pc1 := 1) (lo1 := [some (.ref 0), some (.int a1)]) (st1 := [.int a1]) (h1 := zv_h0) rfl ?_
      refine Wp.tabOut rfl (Or.inr (show (2 : Int) < a1.toInt by omega)) ?_
      show Wp _ _ 58 52 [some (.ref 0), some (.int a1)] [] zv_h0 _
      refine Wp.steps 1 (pc1 := 53) (lo1 := [some (.ref 0), some (.int a1)]) (st1 := [.int (-1)]) (h1 := zv_h0) rfl ?_
      exact Wp.ret rfl rfl rfl ⟨rfl, rfl⟩
    · show Wp _ _ 139 0 [some (.ref 113), some (.int a1)] [] zv_h0 _
      refine Wp.steps 1 (pc1 := 1) (lo1 := [some (.ref 113), some (.int a1)]) (st1 := [.int a1]) (h1 := zv_h0) rfl ?_
      refine Wp.tabOut rfl (Or.inr (show (2 : Int) < a1.toInt by omega)) ?_
      show Wp _ _ 139 46 [some (.ref 113), some (.int a1)] [] zv_h0 _
      refine Wp.steps 1 (pc1 := 47) (lo1 := [some (.ref 113), some (.int a1)]) (st1 := [.int (-1)]) (h1 := zv_h0) rfl ?_
      exact Wp.ret rfl rfl rfl ⟨rfl, rfl⟩
  · skip
    obtain rfl : a1 = 0 := Int32.toInt_inj.mp (h0.trans (by decide))
    exact zv_Pi_of (by decide +kernel)
  · skip
    obtain rfl : a1 = 1 := Int32.toInt_inj.mp (h0.trans (by decide))
    exact zv_Pi_of (by decide +kernel)
  · skip
    obtain rfl : a1 = 2 := Int32.toInt_inj.mp (h0.trans (by decide))
    exact zv_Pi_of (by decide +kernel)
set_option maxRecDepth 100000 in
set_option maxHeartbeats 4000000 in
theorem zr_5 (a1 a2 : Int32) : zv_Pi 59 140 [.int a1, .int a2] := by
  rcases (by omega : (a1.toInt ≤ -1) ∨ (0 ≤ a1.toInt)) with h0 | h0
  · skip
    refine ⟨(-1), zv_h0, zv_h0, ?_, rfl, ?_, zv_len⟩
    · show Wp _ _ 59 0 [some (.ref 0), some (.int a1), some (.int a2), none] [] zv_h0 _
      refine Wp.steps 3 (pc1 := 5) (lo1 := [some (.ref 0), some (.int a1), some (.int a2), none]) (st1 := [.int a1, .ref 1]) (h1 := zv_h0) rfl ?_
      refine Wp.call (as := [.ref 1, .int a1]) (rest := []) rfl rfl rfl rfl rfl rfl rfl rfl rfl ?_
      show Wp _ _ 18 0 [some (.ref 1), some (.int a1)] [] zv_h0 _
      refine Wp.steps 1 (pc1 := 1) (lo1 := [some (.ref 1), some (.int a1)]) (st1 := [.int a1]) (h1 := zv_h0) rfl ?_
      refine Wp.ifT (i := .nop) rfl (zq_T rfl (by decide) (show a1.toInt < 0 by omega)) ?_
      show Wp _ _ 18 16 [some (.ref 1), some (.int a1)] [] zv_h0 _
      refine Wp.steps 1 (pc1 := 17) (lo1 := [some (.ref 1), some (.int a1)]) (st1 := [.int 0]) (h1 := zv_h0) rfl ?_
      refine Wp.ret rfl rfl rfl ?_
      show Wp _ _ 59 8 [some (.ref 0), some (.int a1), some (.int a2), none] [.int 0] zv_h0 _
      refine Wp.steps 2 (pc1 := 12) (lo1 := [some (.ref 0), some (.int a1), some (.int a2), none]) (st1 := [.int (-1)]) (h1 := zv_h0) rfl ?_
      exact Wp.ret rfl rfl rfl ⟨rfl, rfl⟩
    · show Wp _ _ 140 0 [some (.ref 113), some (.int a1), some (.int a2)] [] zv_h0 _
      refine Wp.steps 2 (pc1 := 2) (lo1 := [some (.ref 113), some (.int a1), some (.int a2)]) (st1 := [.int a1, .ref 113]) (h1 := zv_h0) rfl ?_
      refine Wp.call (as := [.ref 113, .int a1]) (rest := []) rfl rfl rfl rfl rfl rfl rfl rfl rfl ?_
      show Wp _ _ 131 0 [some (.ref 113), some (.int a1)] [] zv_h0 _
      refine Wp.steps 8 (pc1 := 10) (lo1 := [some (.ref 113), some (.int a1)]) (st1 := [.long (-1), .long 0, .long (a1).toInt64]) (h1 := zv_h0) rfl ?_
      refine Wp.call (as := [.long (a1).toInt64, .long 0, .long (-1)]) (rest := []) rfl rfl rfl rfl rfl rfl rfl rfl rfl ?_
      refine zin_F (Int32.toInt_toInt64 _) (by decide) (by decide) (show a1.toInt < (0 : Int) ∨ (-1 : Int) < a1.toInt by omega) ?_
      show Wp _ _ 131 13 [some (.ref 113), some (.int a1)] [.int 0] zv_h0 _
      refine Wp.ret rfl rfl rfl ?_
      show Wp _ _ 140 5 [some (.ref 113), some (.int a1), some (.int a2)] [.int 0] zv_h0 _
      refine Wp.steps 2 (pc1 := 9) (lo1 := [some (.ref 113), some (.int a1), some (.int a2)]) (st1 := [.int (-1)]) (h1 := zv_h0) rfl ?_
      exact Wp.ret rfl rfl rfl ⟨rfl, rfl⟩
  · skip
    refine ⟨(-1), zv_h0, zv_h0, ?_, rfl, ?_, zv_len⟩
    · show Wp _ _ 59 0 [some (.ref 0), some (.int a1), some (.int a2), none] [] zv_h0 _
      refine Wp.steps 3 (pc1 := 5) (lo1 := [some (.ref 0), some (.int a1), some (.int a2), none]) (st1 := [.int a1, .ref 1]) (h1 := zv_h0) rfl ?_
      refine Wp.call (as := [.ref 1, .int a1]) (rest := []) rfl rfl rfl rfl rfl rfl rfl rfl rfl ?_
      show Wp _ _ 18 0 [some (.ref 1), some (.int a1)] [] zv_h0 _
      refine Wp.steps 1 (pc1 := 1) (lo1 := [some (.ref 1), some (.int a1)]) (st1 := [.int a1]) (h1 := zv_h0) rfl ?_
      refine Wp.ifF (i := .nop) rfl (zq_F rfl (by decide) (show a1.toInt ≥ 0 by omega)) ?_
      show Wp _ _ 18 4 [some (.ref 1), some (.int a1)] [] zv_h0 _
      refine Wp.steps 3 (pc1 := 9) (lo1 := [some (.ref 1), some (.int a1)]) (st1 := [.int 0, .int a1]) (h1 := zv_h0) rfl ?_
      refine Wp.icT (i := .nop) rfl (zq_T rfl (by decide) (show a1.toInt ≥ 0 by omega)) ?_
      show Wp _ _ 18 16 [some (.ref 1), some (.int a1)] [] zv_h0 _
      refine Wp.steps 1 (pc1 := 17) (lo1 := [some (.ref 1), some (.int a1)]) (st1 := [.int 0]) (h1 := zv_h0) rfl ?_
      refine Wp.ret rfl rfl rfl ?_
      show Wp _ _ 59 8 [some (.ref 0), some (.int a1), some (.int a2), none] [.int 0] zv_h0 _
      refine Wp.steps 2 (pc1 := 12) (lo1 := [some (.ref 0), some (.int a1), some (.int a2), none]) (st1 := [.int (-1)]) (h1 := zv_h0) rfl ?_
      exact Wp.ret rfl rfl rfl ⟨rfl, rfl⟩
    · show Wp _ _ 140 0 [some (.ref 113), some (.int a1), some (.int a2)] [] zv_h0 _
      refine Wp.steps 2 (pc1 := 2) (lo1 := [some (.ref 113), some (.int a1), some (.int a2)]) (st1 := [.int a1, .ref 113]) (h1 := zv_h0) rfl ?_
      refine Wp.call (as := [.ref 113, .int a1]) (rest := []) rfl rfl rfl rfl rfl rfl rfl rfl rfl ?_
      show Wp _ _ 131 0 [some (.ref 113), some (.int a1)] [] zv_h0 _
      refine Wp.steps 8 (pc1 := 10) (lo1 := [some (.ref 113), some (.int a1)]) (st1 := [.long (-1), .long 0, .long (a1).toInt64]) (h1 := zv_h0) rfl ?_
      refine Wp.call (as := [.long (a1).toInt64, .long 0, .long (-1)]) (rest := []) rfl rfl rfl rfl rfl rfl rfl rfl rfl ?_
      refine zin_F (Int32.toInt_toInt64 _) (by decide) (by decide) (show a1.toInt < (0 : Int) ∨ (-1 : Int) < a1.toInt by omega) ?_
      show Wp _ _ 131 13 [some (.ref 113), some (.int a1)] [.int 0] zv_h0 _
      refine Wp.ret rfl rfl rfl ?_
      show Wp _ _ 140 5 [some (.ref 113), some (.int a1), some (.int a2)] [.int 0] zv_h0 _
      refine Wp.steps 2 (pc1 := 9) (lo1 := [some (.ref 113), some (.int a1), some (.int a2)]) (st1 := [.int (-1)]) (h1 := zv_h0) rfl ?_
      exact Wp.ret rfl rfl rfl ⟨rfl, rfl⟩
set_option maxRecDepth 100000 in
set_option maxHeartbeats 4000000 in
theorem zr_6 (a1 a2 : Int32) : zv_Pi 60 141 [.int a1, .int a2] := by
  rcases (by omega : (a1.toInt ≤ -1) ∨ (0 ≤ a1.toInt)) with h0 | h0
  · skip
    refine ⟨(-1), zv_h0, zv_h0, ?_, rfl, ?_, zv_len⟩
    · show Wp _ _ 60 0 [some (.ref 0), some (.int a1), some (.int a2), none] [] zv_h0 _
      refine Wp.steps 3 (pc1 := 5) (lo1 := [some (.ref 0), some (.int a1), some (.int a2), none]) (st1 := [.int a1, .ref 1]) (h1 := zv_h0) rfl ?_
      refine Wp.call (as := [.ref 1, .int a1]) (rest := []) rfl rfl rfl rfl rfl rfl rfl rfl rfl ?_
      show Wp _ _ 20 0 [some (.ref 1), some (.int a1)] [] zv_h0 _
      refine Wp.steps 1 (pc1 := 1) (lo1 := [some (.ref 1), some (.int a1)]) (st1 := [.int a1]) (h1 := zv_h0) rfl ?_
      refine Wp.ifT (i := .nop) rfl (zq_T rfl (by decide) (show a1.toInt < 0 by omega)) ?_
      show Wp _ _ 20 16 [some (.ref 1), some (.int a1)] [] zv_h0 _
      refine Wp.steps 1 (pc1 := 17) (lo1 := [some (.ref 1), some (.int a1)]) (st1 := [.int 0]) (h1 := zv_h0) rfl ?_
      refine Wp.ret rfl rfl rfl ?_
      show Wp _ _ 60 8 [some (.ref 0), some (.int a1), some (.int a2), none] [.int 0] zv_h0 _
      refine Wp.steps 2 (pc1 := 12) (lo1 := [some (.ref 0), some (.int a1), some (.int a2), none]) (st1 := [.int (-1)]) (h1 := zv_h0) rfl ?_
      exact Wp.ret rfl rfl rfl ⟨rfl, rfl⟩
    · show Wp _ _ 141 0 [some (.ref 113), some (.int a1), some (.int a2)] [] zv_h0 _
      refine Wp.steps 2 (pc1 := 2) (lo1 := [some (.ref 113), some (.int a1), some (.int a2)]) (st1 := [.int a1, .ref 113]) (h1 := zv_h0) rfl ?_
      refine Wp.call (as := [.ref 113, .int a1]) (rest := []) rfl rfl rfl rfl rfl rfl rfl rfl rfl ?_
      show Wp _ _ 132 0 [some (.ref 113), some (.int a1)] [] zv_h0 _
      refine Wp.steps 8 (pc1 := 11) (lo1 := [some (.ref 113), some (.int a1)]) (st1 := [.int 1, .int 0, .long 0, .long (a1).toInt64]) (h1 := zv_h0) rfl ?_
      refine Wp.steps 2 (pc1 := 13) (lo1 := [some (.ref 113), some (.int a1)]) (st1 := [.long (-1), .long 0, .long (a1).toInt64]) (h1 := zv_h0) rfl ?_
      refine Wp.call (as := [.long (a1).toInt64, .long 0, .long (-1)]) (rest := []) rfl rfl rfl rfl rfl rfl rfl rfl rfl ?_
      refine zin_F (Int32.toInt_toInt64 _) (by decide) (by decide) (show a1.toInt < (0 : Int) ∨ (-1 : Int) < a1.toInt by omega) ?_
      show Wp _ _ 132 16 [some (.ref 113), some (.int a1)] [.int 0] zv_h0 _
      refine Wp.ret rfl rfl rfl ?_
      show Wp _ _ 141 5 [some (.ref 113), some (.int a1), some (.int a2)] [.int 0] zv_h0 _
      refine Wp.steps 2 (pc1 := 30) (lo1 := [some (.ref 113), some (.int a1), some (.int a2)]) (st1 := [.int (-1)]) (h1 := zv_h0) rfl ?_
      exact Wp.ret rfl rfl rfl ⟨rfl, rfl⟩
  · skip
    refine ⟨(-1), zv_h0, zv_h0, ?_, rfl, ?_, zv_len⟩
    · show Wp _ _ 60 0 [some (.ref 0), some (.int a1), some (.int a2), none] [] zv_h0 _
      refine Wp.steps 3 (pc1 := 5) (lo1 := [some (.ref 0), some (.int a1), some (.int a2), none]) (st1 := [.int a1, .ref 1]) (h1 := zv_h0) rfl ?_
      refine Wp.call (as := [.ref 1, .int a1]) (rest := []) rfl rfl rfl rfl rfl rfl rfl rfl rfl ?_
      show Wp _ _ 20 0 [some (.ref 1), some (.int a1)] [] zv_h0 _
      refine Wp.steps 1 (pc1 := 1) (lo1 := [some (.ref 1), some (.int a1)]) (st1 := [.int a1]) (h1 := zv_h0) rfl ?_
      refine Wp.ifF (i := .nop) rfl (zq_F rfl (by decide) (show a1.toInt ≥ 0 by omega)) ?_
      show Wp _ _ 20 4 [some (.ref 1), some (.int a1)] [] zv_h0 _
      refine Wp.steps 3 (pc1 := 9) (lo1 := [some (.ref 1), some (.int a1)]) (st1 := [.int 0, .int a1]) (h1 := zv_h0) rfl ?_
      refine Wp.icT (i := .nop) rfl (zq_T rfl (by decide) (show a1.toInt ≥ 0 by omega)) ?_
      show Wp _ _ 20 16 [some (.ref 1), some (.int a1)] [] zv_h0 _
      refine Wp.steps 1 (pc1 := 17) (lo1 := [some (.ref 1), some (.int a1)]) (st1 := [.int 0]) (h1 := zv_h0) rfl ?_
      refine Wp.ret rfl rfl rfl ?_
      show Wp _ _ 60 8 [some (.ref 0), some (.int a1), some (.int a2), none] [.int 0] zv_h0 _
      refine Wp.steps 2 (pc1 := 12) (lo1 := [some (.ref 0), some (.int a1), some (.int a2), none]) (st1 := [.int (-1)]) (h1 := zv_h0) rfl ?_
      exact Wp.ret rfl rfl rfl ⟨rfl, rfl⟩
    · show Wp _ _ 141 0 [some (.ref 113), some (.int a1), some (.int a2)] [] zv_h0 _
      refine Wp.steps 2 (pc1 := 2) (lo1 := [some (.ref 113), some (.int a1), some (.int a2)]) (st1 := [.int a1, .ref 113]) (h1 := zv_h0) rfl ?_
      refine Wp.call (as := [.ref 113, .int a1]) (rest := []) rfl rfl rfl rfl rfl rfl rfl rfl rfl ?_
      show Wp _ _ 132 0 [some (.ref 113), some (.int a1)] [] zv_h0 _
      refine Wp.steps 8 (pc1 := 11) (lo1 := [some (.ref 113), some (.int a1)]) (st1 := [.int 1, .int 0, .long 0, .long (a1).toInt64]) (h1 := zv_h0) rfl ?_
      refine Wp.steps 2 (pc1 := 13) (lo1 := [some (.ref 113), some (.int a1)]) (st1 := [.long (-1), .long 0, .long (a1).toInt64]) (h1 := zv_h0) rfl ?_
      refine Wp.call (as := [.long (a1).toInt64, .long 0, .long (-1)]) (rest := []) rfl rfl rfl rfl rfl rfl rfl rfl rfl ?_
      refine zin_F (Int32.toInt_toInt64 _) (by decide) (by decide) (show a1.toInt < (0 : Int) ∨ (-1 : Int) < a1.toInt by omega) ?_
      show Wp _ _ 132 16 [some (.ref 113), some (.int a1)] [.int 0] zv_h0 _
      refine Wp.ret rfl rfl rfl ?_
      show Wp _ _ 141 5 [some (.ref 113), some (.int a1), some (.int a2)] [.int 0] zv_h0 _
      refine Wp.steps 2 (pc1 := 30) (lo1 := [some (.ref 113), some (.int a1), some (.int a2)]) (st1 := [.int (-1)]) (h1 := zv_h0) rfl ?_
      exact Wp.ret rfl rfl rfl ⟨rfl, rfl⟩
set_option maxRecDepth 100000 in
set_option maxHeartbeats 4000000 in
theorem zr_7 (a1 a2 : Int32) : zv_Pi 61 143 [.int a1, .int a2] := by
  rcases (by omega : (a1.toInt ≤ -1) ∨ (0 ≤ a1.toInt)) with h0 | h0
  · skip
    refine ⟨(-1), zv_h0, zv_h0, ?_, rfl, ?_, zv_len⟩
    · show Wp _ _ 61 0 [some (.ref 0), some (.int a1), some (.int a2), none] [] zv_h0 _
      refine Wp.steps 3 (pc1 := 5) (lo1 := [some (.ref 0), some (.int a1), some (.int a2), none]) (st1 := [.int a1, .ref 1]) (h1 := zv_h0) rfl ?_
      refine Wp.call (as := [.ref 1, .int a1]) (rest := []) rfl rfl rfl rfl rfl rfl rfl rfl rfl ?_
      show Wp _ _ 18 0 [some (.ref 1), some (.int a1)] [] zv_h0 _
      refine Wp.steps 1 (pc1 := 1) (lo1 := [some (.ref 1), some (.int a1)]) (st1 := [.int a1]) (h1 := zv_h0) rfl ?_
      refine Wp.ifT (i := .nop) rfl (zq_T rfl (by decide) (show a1.toInt < 0 by omega)) ?_
      show Wp _ _ 18 16 [some (.ref 1), some (.int a1)] [] zv_h0 _
      refine Wp.steps 1 (pc1 := 17) (lo1 := [some (.ref 1), some (.int a1)]) (st1 := [.int 0]) (h1 := zv_h0) rfl ?_
      refine Wp.ret rfl rfl rfl ?_
      show Wp _ _ 61 8 [some (.ref 0), some (.int a1), some (.int a2), none] [.int 0] zv_h0 _
      refine Wp.steps 2 (pc1 := 21) (lo1 := [some (.ref 0), some (.int a1), some (.int a2), none]) (st1 := [.int (-1)]) (h1 := zv_h0) rfl ?_
      exact Wp.ret rfl rfl rfl ⟨rfl, rfl⟩
    · show Wp _ _ 143 0 [some (.ref 113), some (.int a1), some (.int a2)] [] zv_h0 _
      refine Wp.steps 2 (pc1 := 2) (lo1 := [some (.ref 113), some (.int a1), some (.int a2)]) (st1 := [.int a1, .ref 113]) (h1 := zv_h0) rfl ?_
      refine Wp.call (as := [.ref 113, .int a1]) (rest := []) rfl rfl rfl rfl rfl rfl rfl rfl rfl ?_
      show Wp _ _ 131 0 [some (.ref 113), some (.int a1)] [] zv_h0 _
      refine Wp.steps 8 (pc1 := 10) (lo1 := [some (.ref 113), some (.int a1)]) (st1 := [.long (-1), .long 0, .long (a1).toInt64]) (h1 := zv_h0) rfl ?_
      refine Wp.call (as := [.long (a1).toInt64, .long 0, .long (-1)]) (rest := []) rfl rfl rfl rfl rfl rfl rfl rfl rfl ?_
      refine zin_F (Int32.toInt_toInt64 _) (by decide) (by decide) (show a1.toInt < (0 : Int) ∨ (-1 : Int) < a1.toInt by omega) ?_
      show Wp _ _ 131 13 [some (.ref 113), some (.int a1)] [.int 0] zv_h0 _
      refine Wp.ret rfl rfl rfl ?_
      show Wp _ _ 143 5 [some (.ref 113), some (.int a1), some (.int a2)] [.int 0] zv_h0 _
      refine Wp.steps 2 (pc1 := 32) (lo1 := [some (.ref 113), some (.int a1), some (.int a2)]) (st1 := [.int (-1)]) (h1 := zv_h0) rfl ?_
      exact Wp.ret rfl rfl rfl ⟨rfl, rfl⟩
  · skip
    refine ⟨(-1), zv_h0, zv_h0, ?_, rfl, ?_, zv_len⟩
    · show Wp _ _ 61 0 [some (.ref 0), some (.int a1), some (.int a2), none] [] zv_h0 _
      refine Wp.steps 3 (pc1 := 5) (lo1 := [some (.ref 0), some (.int a1), some (.int a2), none]) (st1 := [.int a1, .ref 1]) (h1 := zv_h0) rfl ?_
      refine Wp.call (as := [.ref 1, .int a1]) (rest := []) rfl rfl rfl rfl rfl rfl rfl rfl rfl ?_
      show Wp _ _ 18 0 [some (.ref 1), some (.int a1)] [] zv_h0 _
      refine Wp.steps 1 (pc1 := 1) (lo1 := [some (.ref 1), some (.int a1)]) (st1 := [.int a1]) (h1 := zv_h0) rfl ?_
      refine Wp.ifF (i := .nop) rfl (zq_F rfl (by decide) (show a1.toInt ≥ 0 by omega)) ?_
      show Wp _ _ 18 4 [some (.ref 1), some (.int a1)] [] zv_h0 _
      refine Wp.steps 3 (pc1 := 9) (lo1 := [some (.ref 1), some (.int a1)]) (st1 := [.int 0, .int a1]) (h1 := zv_h0) rfl ?_
      refine Wp.icT (i := .nop) rfl (zq_T rfl (by decide) (show a1.toInt ≥ 0 by omega)) ?_
      show Wp _ _ 18 16 [some (.ref 1), some (.int a1)] [] zv_h0 _
      refine Wp.steps 1 (pc1 := 17) (lo1 := [some (.ref 1), some (.int a1)]) (st1 := [.int 0]) (h1 := zv_h0) rfl ?_
      refine Wp.ret rfl rfl rfl ?_
      show Wp _ _ 61 8 [some (.ref 0), some (.int a1), some (.int a2), none] [.int 0] zv_h0 _
      refine Wp.steps 2 (pc1 := 21) (lo1 := [some (.ref 0), some (.int a1), some (.int a2), none]) (st1 := [.int (-1)]) (h1 := zv_h0) rfl ?_
      exact Wp.ret rfl rfl rfl ⟨rfl, rfl⟩
    · show Wp _ _ 143 0 [some (.ref 113), some (.int a1), some (.int a2)] [] zv_h0 _
      refine Wp.steps 2 (pc1 := 2) (lo1 := [some (.ref 113), some (.int a1), some (.int a2)]) (st1 := [.int a1, .ref 113]) (h1 := zv_h0) rfl ?_
      refine Wp.call (as := [.ref 113, .int a1]) (rest := []) rfl rfl rfl rfl rfl rfl rfl rfl rfl ?_
      show Wp _ _ 131 0 [some (.ref 113), some (.int a1)] [] zv_h0 _
      refine Wp.steps 8 (pc1 := 10) (lo1 := [some (.ref 113), some (.int a1)]) (st1 := [.long (-1), .long 0, .long (a1).toInt64]) (h1 := zv_h0) rfl ?_
      refine Wp.call (as := [.long (a1).toInt64, .long 0, .long (-1)]) (rest := []) rfl rfl rfl rfl rfl rfl rfl rfl rfl ?_
      refine zin_F (Int32.toInt_toInt64 _) (by decide) (by decide) (show a1.toInt < (0 : Int) ∨ (-1 : Int) < a1.toInt by omega) ?_
      show Wp _ _ 131 13 [some (.ref 113), some (.int a1)] [.int 0] zv_h0 _
      refine Wp.ret rfl rfl rfl ?_
      show Wp _ _ 143 5 [some (.ref 113), some (.int a1), some (.int a2)] [.int 0] zv_h0 _
      refine Wp.steps 2 (pc1 := 32) (lo1 := [some (.ref 113), some (.int a1), some (.int a2)]) (st1 := [.int (-1)]) (h1 := zv_h0) rfl ?_
      exact Wp.ret rfl rfl rfl ⟨rfl, rfl⟩
set_option maxRecDepth 100000 in
set_option maxHeartbeats 4000000 in
theorem zr_8 (a1 a2 : Int32) : zv_Pi 62 145 [.int a1, .int a2] := by
  rcases (by omega : (a1.toInt ≤ -1) ∨ (0 ≤ a1.toInt)) with h0 | h0
  · skip
    refine ⟨(-1), zv_h0, zv_h0, ?_, rfl, ?_, zv_len⟩
    · show Wp _ _ 62 0 [some (.ref 0), some (.int a1), some (.int a2), none] [] zv_h0 _
      refine Wp.steps 3 (pc1 := 5) (lo1 := [some (.ref 0), some (.int a1), some (.int a2), none]) (st1 := [.int a1, .ref 1]) (h1 := zv_h0) rfl ?_
      refine Wp.call (as := [.ref 1, .int a1]) (rest := []) rfl rfl rfl rfl rfl rfl rfl rfl rfl ?_
      show Wp _ _ 18 0 [some (.ref 1), some (.int a1)] [] zv_h0 _
      refine Wp.steps 1 (pc1 := 1) (lo1 := [some (.ref 1), some (.int a1)]) (st1 := [.int a1]) (h1 := zv_h0) rfl ?_
      refine Wp.ifT (i := .nop) rfl (zq_T rfl (by decide) (show a1.toInt < 0 by omega)) ?_
      show Wp _ _ 18 16 [some (.ref 1), some (.int a1)] [] zv_h0 _
      refine Wp.steps 1 (pc1 := 17) (lo1 := [some (.ref 1), some (.int a1)]) (st1 := [.int 0]) (h1 := zv_h0) rfl ?_
      refine Wp.ret rfl rfl rfl ?_
      show Wp _ _ 62 8 [some (.ref 0), some (.int a1), some (.int a2), none] [.int 0] zv_h0 _
      refine Wp.steps 2 (pc1 := 19) (lo1 := [some (.ref 0), some (.int a1), some (.int a2), none]) (st1 := [.int (-1)]) (h1 := zv_h0) rfl ?_
      exact Wp.ret rfl rfl rfl ⟨rfl, rfl⟩
    · show Wp _ _ 145 0 [some (.ref 113), some (.int a1), some (.int a2)] [] zv_h0 _
      refine Wp.steps 2 (pc1 := 2) (lo1 := [some (.ref 113), some (.int a1), some (.int a2)]) (st1 := [.int a1, .ref 113]) (h1 := zv_h0) rfl ?_
      refine Wp.call (as := [.ref 113, .int a1]) (rest := []) rfl rfl rfl rfl rfl rfl rfl rfl rfl ?_
      show Wp _ _ 131 0 [some (.ref 113), some (.int a1)] [] zv_h0 _
      refine Wp.steps 8 (pc1 := 10) (lo1 := [some (.ref 113), some (.int a1)]) (st1 := [.long (-1), .long 0, .long (a1).toInt64]) (h1 := zv_h0) rfl ?_
      refine Wp.call (as := [.long (a1).toInt64, .long 0, .long (-1)]) (rest := []) rfl rfl rfl rfl rfl rfl rfl rfl rfl ?_
      refine zin_F (Int32.toInt_toInt64 _) (by decide) (by decide) (show a1.toInt < (0 : Int) ∨ (-1 : Int) < a1.toInt by omega) ?_
      show Wp _ _ 131 13 [some (.ref 113), some (.int a1)] [.int 0] zv_h0 _
      refine Wp.ret rfl rfl rfl ?_
      show Wp _ _ 145 5 [some (.ref 113), some (.int a1), some (.int a2)] [.int 0] zv_h0 _
      refine Wp.steps 2 (pc1 := 27) (lo1 := [some (.ref 113), some (.int a1), some (.int a2)]) (st1 := [.int (-1)]) (h1 := zv_h0) rfl ?_
      exact Wp.ret rfl rfl rfl ⟨rfl, rfl⟩
  · skip
    refine ⟨(-1), zv_h0, zv_h0, ?_, rfl, ?_, zv_len⟩
    · show Wp _ _ 62 0 [some (.ref 0), some (.int a1), some (.int a2), none] [] zv_h0 _
      refine Wp.steps 3 (pc1 := 5) (lo1 := [some (.ref 0), some (.int a1), some (.int a2), none]) (st1 := [.int a1, .ref 1]) (h1 := zv_h0) rfl ?_
      refine Wp.call (as := [.ref 1, .int a1]) (rest := []) rfl rfl rfl rfl rfl rfl rfl rfl rfl ?_
      show Wp _ _ 18 0 [some (.ref 1), some (.int a1)] [] zv_h0 _
      refine Wp.steps 1 (pc1 := 1) (lo1 := [some (.ref 1), some (.int a1)]) (st1 := [.int a1]) (h1 := zv_h0) rfl ?_
      refine Wp.ifF (i := .nop) rfl (zq_F rfl (by decide) (show a1.toInt ≥ 0 by omega)) ?_
      show Wp _ _ 18 4 [some (.ref 1), some (.int a1)] [] zv_h0 _
      refine Wp.steps 3 (pc1 := 9) (lo1 := [some (.ref 1), some (.int a1)]) (st1 := [.int 0, .int a1]) (h1 := zv_h0) rfl ?_
      refine Wp.icT (i := .nop) rfl (zq_T rfl (by decide) (show a1.toInt ≥ 0 by omega)) ?_
      show Wp _ _ 18 16 [some (.ref 1), some (.int a1)] [] zv_h0 _
      refine Wp.steps 1 (pc1 := 17) (lo1 := [some (.ref 1), some (.int a1)]) (st1 := [.int 0]) (h1 := zv_h0) rfl ?_
      refine Wp.ret rfl rfl rfl ?_
      show Wp _ _ 62 8 [some (.ref 0), some (.int a1), some (.int a2), none] [.int 0] zv_h0 _
      refine Wp.steps 2 (pc1 := 19) (lo1 := [some (.ref 0), some (.int a1), some (.int a2), none]) (st1 := [.int (-1)]) (h1 := zv_h0) rfl ?_
      exact Wp.ret rfl rfl rfl ⟨rfl, rfl⟩
    · show Wp _ _ 145 0 [some (.ref 113), some (.int a1), some (.int a2)] [] zv_h0 _
      refine Wp.steps 2 (pc1 := 2) (lo1 := [some (.ref 113), some (.int a1), some (.int a2)]) (st1 := [.int a1, .ref 113]) (h1 := zv_h0) rfl ?_
      refine Wp.call (as := [.ref 113, .int a1]) (rest := []) rfl rfl rfl rfl rfl rfl rfl rfl rfl ?_
      show Wp _ _ 131 0 [some (.ref 113), some (.int a1)] [] zv_h0 _
      refine Wp.steps 8 (pc1 := 10) (lo1 := [some (.ref 113), some (.int a1)]) (st1 := [.long (-1), .long 0, .long (a1).toInt64]) (h1 := zv_h0) rfl ?_
      refine Wp.call (as := [.long (a1).toInt64, .long 0, .long (-1)]) (rest := []) rfl rfl rfl rfl rfl rfl rfl rfl rfl ?_
      refine zin_F (Int32.toInt_toInt64 _) (by decide) (by decide) (show a1.toInt < (0 : Int) ∨ (-1 : Int) < a1.toInt by omega) ?_
      show Wp _ _ 131 13 [some (.ref 113), some (.int a1)] [.int 0] zv_h0 _
      refine Wp.ret rfl rfl rfl ?_
      show Wp _ _ 145 5 [some (.ref 113), some (.int a1), some (.int a2)] [.int 0] zv_h0 _
      refine Wp.steps 2 (pc1 := 27) (lo1 := [some (.ref 113), some (.int a1), some (.int a2)]) (st1 := [.int (-1)]) (h1 := zv_h0) rfl ?_
      exact Wp.ret rfl rfl rfl ⟨rfl, rfl⟩
set_option maxRecDepth 100000 in
set_option maxHeartbeats 4000000 in
theorem zr_9 (a1 a2 a3 a4 a5 : Int32) : zv_Pi 63 146 [.int a1, .int a2, .int a3, .int a4, .int a5] := by
  rcases (by omega : (a1.toInt ≤ -1) ∨ (4 ≤ a1.toInt) ∨ (0 ≤ a1.toInt ∧ a1.toInt ≤ 3)) with h0 | h0 | h0
  · skip
    refine ⟨(-1), zv_h0, zv_h0, ?_, rfl, ?_, zv_len⟩
    · show Wp _ _ 63 0 [some (.ref 0), some (.int a1), some (.int a2), some (.int a3), some (.int a4), some (.int a5), none] [] zv_h0 _
      refine Wp.steps 3 (pc1 := 5) (lo1 := [some (.ref 0), some (.int a1), some (.int a2), some (.int a3), some (.int a4), some (.int a5), none]) (st1 := [.int a1, .ref 1]) (h1 := zv_h0) rfl ?_
      refine Wp.call (as := [.ref 1, .int a1]) (rest := []) rfl rfl rfl rfl rfl rfl rfl rfl rfl ?_
      show Wp _ _ 19 0 [some (.ref 1), some (.int a1)] [] zv_h0 _
      refine Wp.steps 1 (pc1 := 1) (lo1 := [some (.ref 1), some (.int a1)]) (st1 := [.int a1]) (h1 := zv_h0) rfl ?_
      refine Wp.ifT (i := .nop) rfl (zq_T rfl (by decide) (show a1.toInt < 0 by omega)) ?_
      show Wp _ _ 19 16 [some (.ref 1), some (.int a1)] [] zv_h0 _
      refine Wp.steps 1 (pc1 := 17) (lo1 := [some (.ref 1), some (.int a1)]) (st1 := [.int 0]) (h1 := zv_h0) rfl ?_
      refine Wp.ret rfl rfl rfl ?_
      show Wp _ _ 63 8 [some (.ref 0), some (.int a1), some (.int a2), some (.int a3), some (.int a4), some (.int a5), none] [.int 0] zv_h0 _
      refine Wp.steps 2 (pc1 := 50) (lo1 := [some (.ref 0), some (.int a1), some (.int a2), some (.int a3), some (.int a4), some (.int a5), none]) (st1 := [.int (-1)]) (h1 := zv_h0) rfl ?_
      exact Wp.ret rfl rfl rfl ⟨rfl, rfl⟩
    · show Wp _ _ 146 0 [some (.ref 113), some (.int a1), some (.int a2), some (.int a3), some (.int a4), some (.int a5), none] [] zv_h0 _
      refine Wp.steps 2 (pc1 := 2) (lo1 := [some (.ref 113), some (.int a1), some (.int a2), some (.int a3), some (.int a4), some (.int a5), none]) (st1 := [.int a1, .ref 113]) (h1 := zv_h0) rfl ?_
      refine Wp.call (as := [.ref 113, .int a1]) (rest := []) rfl rfl rfl rfl rfl rfl rfl rfl rfl ?_
      show Wp _ _ 133 0 [some (.ref 113), some (.int a1)] [] zv_h0 _
      refine Wp.steps 8 (pc1 := 10) (lo1 := [some (.ref 113), some (.int a1)]) (st1 := [.long 3, .long 0, .long (a1).toInt64]) (h1 := zv_h0) rfl ?_
      refine Wp.call (as := [.long (a1).toInt64, .long 0, .long 3]) (rest := []) rfl rfl rfl rfl rfl rfl rfl rfl rfl ?_
      refine zin_F (Int32.toInt_toInt64 _) (by decide) (by decide) (show a1.toInt < (0 : Int) ∨ (3 : Int) < a1.toInt by omega) ?_
      show Wp _ _ 133 13 [some (.ref 113), some (.int a1)] [.int 0] zv_h0 _
      refine Wp.ret rfl rfl rfl ?_
      show Wp _ _ 146 5 [some (.ref 113), some (.int a1), some (.int a2), some (.int a3), some (.int a4), some (.int a5), none] [.int 0] zv_h0 _
      refine Wp.steps 2 (pc1 := 41) (lo1 := [some (.ref 113), some (.int a1), some (.int a2), some (.int a3), some (.int a4), some (.int a5), none]) (st1 := [.int (-1)]) (h1 := zv_h0) rfl ?_
      exact Wp.ret rfl rfl rfl ⟨rfl, rfl⟩
  · skip
    refine ⟨(-1), zv_h0, zv_h0, ?_, rfl, ?_, zv_len⟩
    · show Wp _ _ 63 0 [some (.ref 0), some (.int a1), some (.int a2), some (.int a3), some (.int a4), some (.int a5), none] [] zv_h0 _
      refine Wp.steps 3 (pc1 := 5) (lo1 := [some (.ref 0), some (.int a1), some (.int a2), some (.int a3), some (.int a4), some (.int a5), none]) (st1 := [.int a1, .ref 1]) (h1 := zv_h0) rfl ?_
      refine Wp.call (as := [.ref 1, .int a1]) (rest := []) rfl rfl rfl rfl rfl rfl rfl rfl rfl ?_
      show Wp _ _ 19 0 [some (.ref 1), some (.int a1)] [] zv_h0 _
      refine Wp.steps 1 (pc1 := 1) (lo1 := [some (.ref 1), some (.int a1)]) (st1 := [.int a1]) (h1 := zv_h0) rfl ?_
      refine Wp.ifF (i := .nop) rfl (zq_F rfl (by decide) (show a1.toInt ≥ 0 by omega)) ?_
      show Wp _ _ 19 4 [some (.ref 1), some (.int a1)] [] zv_h0 _
      refine Wp.steps 3 (pc1 := 9) (lo1 := [some (.ref 1), some (.int a1)]) (st1 := [.int 4, .int a1]) (h1 := zv_h0) rfl ?_
      refine Wp.icT (i := .nop) rfl (zq_T rfl (by decide) (show a1.toInt ≥ 4 by omega)) ?_
      show Wp _ _ 19 16 [some (.ref 1), some (.int a1)] [] zv_h0 _
      refine Wp.steps 1 (pc1 := 17) (lo1 := [some (.ref 1), some (.int a1)]) (st1 := [.int 0]) (h1 := zv_h0) rfl ?_
      refine Wp.ret rfl rfl rfl ?_
      show Wp _ _ 63 8 [some (.ref 0), some (.int a1), some (.int a2), some (.int a3), some (.int a4), some (.int a5), none] [.int 0] zv_h0 _
      refine Wp.steps 2 (pc1 := 50) (lo1 := [some (.ref 0), some (.int a1), some (.int a2), some (.int a3), some (.int a4), some (.int a5), none]) (st1 := [.int (-1)]) (h1 := zv_h0) rfl ?_
      exact Wp.ret rfl rfl rfl ⟨rfl, rfl⟩
    · show Wp _ _ 146 0 [some (.ref 113), some (.int a1), some (.int a2), some (.int a3), some (.int a4), some (.int a5), none] [] zv_h0 _
      refine Wp.steps 2 (pc1 := 2) (lo1 := [some (.ref 113), some (.int a1), some (.int a2), some (.int a3), some (.int a4), some (.int a5), none]) (st1 := [.int a1, .ref 113]) (h1 := zv_h0) rfl ?_
      refine Wp.call (as := [.ref 113, .int a1]) (rest := []) rfl rfl rfl rfl rfl rfl rfl rfl rfl ?_
      show Wp _ _ 133 0 [some (.ref 113), some (.int a1)] [] zv_h0 _
      refine Wp.steps 8 (pc1 := 10) (lo1 := [some (.ref 113), some (.int a1)]) (st1 := [.long 3, .long 0, .long (a1).toInt64]) (h1 := zv_h0) rfl ?_
      refine Wp.call (as := [.long (a1).toInt64, .long 0, .long 3]) (rest := []) rfl rfl rfl rfl rfl rfl rfl rfl rfl ?_
      refine zin_F (Int32.toInt_toInt64 _) (by decide) (by decide) (show a1.toInt < (0 : Int) ∨ (3 : Int) < a1.toInt by omega) ?_
      show Wp _ _ 133 13 [some (.ref 113), some (.int a1)] [.int 0] zv_h0 _
      refine Wp.ret rfl rfl rfl ?_
      show Wp _ _ 146 5 [some (.ref 113), some (.int a1), some (.int a2), some (.int a3), some (.int a4), some (.int a5), none] [.int 0] zv_h0 _
      refine Wp.steps 2 (pc1 := 41) (lo1 := [some (.ref 113), some (.int a1), some (.int a2), some (.int a3), some (.int a4), some (.int a5), none]) (st1 := [.int (-1)]) (h1 := zv_h0) rfl ?_
      exact Wp.ret rfl rfl rfl ⟨rfl, rfl⟩
  · skip
    rcases (by omega : (a2.toInt ≤ -1) ∨ (0 ≤ a2.toInt)) with h1 | h1
    · skip
      refine ⟨(-1), zv_h0, zv_h0, ?_, rfl, ?_, zv_len⟩
      · show Wp _ _ 63 0 [some (.ref 0), some (.int a1), some (.int a2), some (.int a3), some (.int a4), some (.int a5), none] [] zv_h0 _
        refine Wp.steps 3 (pc1 := 5) (lo1 := [some (.ref 0), some (.int a1), some (.int a2), some (.int a3), some (.int a4), some (.int a5), none]) (st1 := [.int a1, .ref 1]) (h1 := zv_h0) rfl ?_
        refine Wp.call (as := [.ref 1, .int a1]) (rest := []) rfl rfl rfl rfl rfl rfl rfl rfl rfl ?_
        show Wp _ _ 19 0 [some (.ref 1), some (.int a1)] [] zv_h0 _
        refine Wp.steps 1 (pc1 := 1) (lo1 := [some (.ref 1), some (.int a1)]) (st1 := [.int a1]) (h1 := zv_h0) rfl ?_
        refine Wp.ifF (i := .nop) rfl (zq_F rfl (by decide) (show a1.toInt ≥ 0 by omega)) ?_
        show Wp _ _ 19 4 [some (.ref 1), some (.int a1)] [] zv_h0 _
        refine Wp.steps 3 (pc1 := 9) (lo1 := [some (.ref 1), some (.int a1)]) (st1 := [.int 4, .int a1]) (h1 := zv_h0) rfl ?_
        refine Wp.icF (i := .nop) rfl (zq_F rfl (by decide) (show a1.toInt < 4 by omega)) ?_
        show Wp _ _ 19 12 [some (.ref 1), some (.int a1)] [] zv_h0 _
        refine Wp.steps 2 (pc1 := 17) (lo1 := [some (.ref 1), some (.int a1)]) (st1 := [.int 1]) (h1 := zv_h0) rfl ?_
        refine Wp.ret rfl rfl rfl ?_
        show Wp _ _ 63 8 [some (.ref 0), some (.int a1), some (.int a2), some (.int a3), some (.int a4), some (.int a5), none] [.int 1] zv_h0 _
        refine Wp.steps 4 (pc1 := 16) (lo1 := [some (.ref 0), some (.int a1), some (.int a2), some (.int a3), some (.int a4), some (.int a5), none]) (st1 := [.int a2, .ref 1]) (h1 := zv_h0) rfl ?_
        refine Wp.call (as := [.ref 1, .int a2]) (rest := []) rfl rfl rfl rfl rfl rfl rfl rfl rfl ?_
        show Wp _ _ 18 0 [some (.ref 1), some (.int a2)] [] zv_h0 _
        refine Wp.steps 1 (pc1 := 1) (lo1 := [some (.ref 1), some (.int a2)]) (st1 := [.int a2]) (h1 := zv_h0) rfl ?_
        refine Wp.ifT (i := .nop) rfl (zq_T rfl (by decide) (show a2.toInt < 0 by omega)) ?_
        show Wp _ _ 18 16 [some (.ref 1), some (.int a2)] [] zv_h0 _
        refine Wp.steps 1 (pc1 := 17) (lo1 := [some (.ref 1), some (.int a2)]) (st1 := [.int 0]) (h1 := zv_h0) rfl ?_
        refine Wp.ret rfl rfl rfl ?_
        show Wp _ _ 63 19 [some (.ref 0), some (.int a1), some (.int a2), some (.int a3), some (.int a4), some (.int a5), none] [.int 0] zv_h0 _
        refine Wp.steps 2 (pc1 := 50) (lo1 := [some (.ref 0), some (.int a1), some (.int a2), some (.int a3), some (.int a4), some (.int a5), none]) (st1 := [.int (-1)]) (h1 := zv_h0) rfl ?_
        exact Wp.ret rfl rfl rfl ⟨rfl, rfl⟩
      · show Wp _ _ 146 0 [some (.ref 113), some (.int a1), some (.int a2), some (.int a3), some (.int a4), some (.int a5), none] [] zv_h0 _
        refine Wp.steps 2 (pc1 := 2) (lo1 := [some (.ref 113), some (.int a1), some (.int a2), some (.int a3), some (.int a4), some (.int a5), none]) (st1 := [.int a1, .ref 113]) (h1 := zv_h0) rfl ?_
        refine Wp.call (as := [.ref 113, .int a1]) (rest := []) rfl rfl rfl rfl rfl rfl rfl rfl rfl ?_
        show Wp _ _ 133 0 [some (.ref 113), some (.int a1)] [] zv_h0 _
        refine Wp.steps 8 (pc1 := 10) (lo1 := [some (.ref 113), some (.int a1)]) (st1 := [.long 3, .long 0, .long (a1).toInt64]) (h1 := zv_h0) rfl ?_
        refine Wp.call (as := [.long (a1).toInt64, .long 0, .long 3]) (rest := []) rfl rfl rfl rfl rfl rfl rfl rfl rfl ?_
        refine zin_T (Int32.toInt_toInt64 _) (by decide) (by decide) (show (0 : Int) ≤ a1.toInt by omega) (show a1.toInt ≤ (3 : Int) by omega) ?_
        show Wp _ _ 133 13 [some (.ref 113), some (.int a1)] [.int 1] zv_h0 _
        refine Wp.ret rfl rfl rfl ?_
        show Wp _ _ 146 5 [some (.ref 113), some (.int a1), some (.int a2), some (.int a3), some (.int a4), some (.int a5), none] [.int 1] zv_h0 _
        refine Wp.steps 3 (pc1 := 10) (lo1 := [some (.ref 113), some (.int a1), some (.int a2), some (.int a3), some (.int a4), some (.int a5), none]) (st1 := [.int a2, .ref 113]) (h1 := zv_h0) rfl ?_
        refine Wp.call (as := [.ref 113, .int a2]) (rest := []) rfl rfl rfl rfl rfl rfl rfl rfl rfl ?_
        show Wp _ _ 131 0 [some (.ref 113), some (.int a2)] [] zv_h0 _
        refine Wp.steps 8 (pc1 := 10) (lo1 := [some (.ref 113), some (.int a2)]) (st1 := [.long (-1), .long 0, .long (a2).toInt64]) (h1 := zv_h0) rfl ?_
        refine Wp.call (as := [.long (a2).toInt64, .long 0, .long (-1)]) (rest := []) rfl rfl rfl rfl rfl rfl rfl rfl rfl ?_
        refine zin_F (Int32.toInt_toInt64 _) (by decide) (by decide) (show a2.toInt < (0 : Int) ∨ (-1 : Int) < a2.toInt by omega) ?_
        show Wp _ _ 131 13 [some (.ref 113), some (.int a2)] [.int 0] zv_h0 _
        refine Wp.ret rfl rfl rfl ?_
        show Wp _ _ 146 13 [some (.ref 113), some (.int a1), some (.int a2), some (.int a3), some (.int a4), some (.int a5), none] [.int 0] zv_h0 _
        refine Wp.steps 2 (pc1 := 41) (lo1 := [some (.ref 113), some (.int a1), some (.int a2), some (.int a3), some (.int a4), some (.int a5), none]) (st1 := [.int (-1)]) (h1 := zv_h0) rfl ?_
        exact Wp.ret rfl rfl rfl ⟨rfl, rfl⟩
    · skip
      refine ⟨(-1), zv_h0, zv_h0, ?_, rfl, ?_, zv_len⟩
      · show Wp _ _ 63 0 [some (.ref 0), some (.int a1), some (.int a2), some (.int a3), some (.int a4), some (.int a5), none] [] zv_h0 _
        refine Wp.steps 3 (pc1 := 5) (lo1 := [some (.ref 0), some (.int a1), some (.int a2), some (.int a3), some (.int a4), some (.int a5), none]) (st1 := [.int a1, .ref 1]) (h1 := zv_h0) rfl ?_
        refine Wp.call (as := [.ref 1, .int a1]) (rest := []) rfl rfl rfl rfl rfl rfl rfl rfl rfl ?_
        show Wp _ _ 19 0 [some (.ref 1), some (.int a1)] [] zv_h0 _
        refine Wp.steps 1 (pc1 := 1) (lo1 := [some (.ref 1), some (.int a1)]) (st1 := [.int a1]) (h1 := zv_h0) rfl ?_
        refine Wp.ifF (i := .nop) rfl (zq_F rfl (by decide) (show a1.toInt ≥ 0 by omega)) ?_
        show Wp _ _ 19 4 [some (.ref 1), some (.int a1)] [] zv_h0 _
        refine Wp.steps 3 (pc1 := 9) (lo1 := [some (.ref 1), some (.int a1)]) (st1 := [.int 4, .int a1]) (h1 := zv_h0) rfl ?_
        refine Wp.icF (i := .nop) rfl (zq_F rfl (by decide) (show a1.toInt < 4 by omega)) ?_
        show Wp _ _ 19 12 [some (.ref 1), some (.int a1)] [] zv_h0 _
        refine Wp.steps 2 (pc1 := 17) (lo1 := [some (.ref 1), some (.int a1)]) (st1 := [.int 1]) (h1 := zv_h0) rfl ?_
        refine Wp.ret rfl rfl rfl ?_
        show Wp _ _ 63 8 [some (.ref 0), some (.int a1), some (.int a2), some (.int a3), some (.int a4), some (.int a5), none] [.int 1] zv_h0 _
        refine Wp.steps 4 (pc1 := 16) (lo1 := [some (.ref 0), some (.int a1), some (.int a2), some (.int a3), some (.int a4), some (.int a5), none]) (st1 := [.int a2, .ref 1]) (h1 := zv_h0) rfl ?_
        refine Wp.call (as := [.ref 1, .int a2]) (rest := []) rfl rfl rfl rfl rfl rfl rfl rfl rfl ?_
        show Wp _ _ 18 0 [some (.ref 1), some (.int a2)] [] zv_h0 _
        refine Wp.steps 1 (pc1 := 1) (lo1 := [some (.ref 1), some (.int a2)]) (st1 := [.int a2]) (h1 := zv_h0) rfl ?_
        refine Wp.ifF (i := .nop) rfl (zq_F rfl (by decide) (show a2.toInt ≥ 0 by omega)) ?_
        show Wp _ _ 18 4 [some (.ref 1), some (.int a2)] [] zv_h0 _
        refine Wp.steps 3 (pc1 := 9) (lo1 := [some (.ref 1), some (.int a2)]) (st1 := [.int 0, .int a2]) (h1 := zv_h0) rfl ?_
        refine Wp.icT (i := .nop) rfl (zq_T rfl (by decide) (show a2.toInt ≥ 0 by omega)) ?_
        show Wp _ _ 18 16 [some (.ref 1), some (.int a2)] [] zv_h0 _
        refine Wp.steps 1 (pc1 := 17) (lo1 := [some (.ref 1), some (.int a2)]) (st1 := [.int 0]) (h1 := zv_h0) rfl ?_
        refine Wp.ret rfl rfl rfl ?_
        show Wp _ _ 63 19 [some (.ref 0), some (.int a1), some (.int a2), some (.int a3), some (.int a4), some (.int a5), none] [.int 0] zv_h0 _
        refine Wp.steps 2 (pc1 := 50) (lo1 := [some (.ref 0), some (.int a1), some (.int a2), some (.int a3), some (.int a4), some (.int a5), none]) (st1 := [.int (-1)]) (h1 := zv_h0) rfl ?_
        exact Wp.ret rfl rfl rfl ⟨rfl, rfl⟩
      · show Wp _ _ 146 0 [some (.ref 113), some (.int a1), some (.int a2), some (.int a3), some (.int a4), some (.int a5), none] [] zv_h0 _
        refine Wp.steps 2 (pc1 := 2) (lo1 := [some (.ref 113), some (.int a1), some (.int a2), some (.int a3), some (.int a4), some (.int a5), none]) (st1 := [.int a1, .ref 113]) (h1 := zv_h0) rfl ?_
        refine Wp.call (as := [.ref 113, .int a1]) (rest := []) rfl rfl rfl rfl rfl rfl rfl rfl rfl ?_
        show Wp _ _ 133 0 [some (.ref 113), some (.int a1)] [] zv_h0 _
        refine Wp.steps 8 (pc1 := 10) (lo1 := [some (.ref 113), some (.int a1)]) (st1 := [.long 3, .long 0, .long (a1).toInt64]) (h1 := zv_h0) rfl ?_
        refine Wp.call (as := [.long (a1).toInt64, .long 0, .long 3]) (rest := []) rfl rfl rfl rfl rfl rfl rfl rfl rfl ?_
        refine zin_T (Int32.toInt_toInt64 _) (by decide) (by decide) (show (0 : Int) ≤ a1.toInt by omega) (show a1.toInt ≤ (3 : Int) by omega) ?_
        show Wp _ _ 133 13 [some (.ref 113), some (.int a1)] [.int 1] zv_h0 _
        refine Wp.ret rfl rfl rfl ?_
        show Wp _ _ 146 5 [some (.ref 113), some (.int a1), some (.int a2), some (.int a3), some (.int a4), some (.int a5), none] [.int 1] zv_h0 _
        refine Wp.steps 3 (pc1 := 10) (lo1 := [some (.ref 113), some (.int a1), some (.int a2), some (.int a3), some (.int a4), some (.int a5), none]) (st1 := [.int a2, .ref 113]) (h1 := zv_h0) rfl ?_
        refine Wp.call (as := [.ref 113, .int a2]) (rest := []) rfl rfl rfl rfl rfl rfl rfl rfl rfl ?_
        show Wp _ _ 131 0 [some (.ref 113), some (.int a2)] [] zv_h0 _
        refine Wp.steps 8 (pc1 := 10) (lo1 := [some (.ref 113), some (.int a2)]) (st1 := [.long (-1), .long 0, .long (a2).toInt64]) (h1 := zv_h0) rfl ?_
        refine Wp.call (as := [.long (a2).toInt64, .long 0, .long (-1)]) (rest := []) rfl rfl rfl rfl rfl rfl rfl rfl rfl ?_
        refine zin_F (Int32.toInt_toInt64 _) (by decide) (by decide) (show a2.toInt < (0 : Int) ∨ (-1 : Int) < a2.toInt by omega) ?_
        show Wp _ _ 131 13 [some (.ref 113), some (.int a2)] [.int 0] zv_h0 _
        refine Wp.ret rfl rfl rfl ?_
        show Wp _ _ 146 13 [some (.ref 113), some (.int a1), some (.int a2), some (.int a3), some (.int a4), some (.int a5), none] [.int 0] zv_h0 _
        refine Wp.steps 2 (pc1 := 41) (lo1 := [some (.ref 113), some (.int a1), some (.int a2), some (.int a3), some (.int a4), some (.int a5), none]) (st1 := [.int (-1)]) (h1 := zv_h0) rfl ?_
        exact Wp.ret rfl rfl rfl ⟨rfl, rfl⟩
set_option maxRecDepth 100000 in
set_option maxHeartbeats 4000000 in
theorem zr_10 (a1 a2 : Int32) : zv_Pi 64 147 [.int a1, .int a2] := by
  rcases (by omega : (a1.toInt ≤ -1) ∨ (0 ≤ a1.toInt)) with h0 | h0
  · skip
    refine ⟨(-1), zv_h0, zv_h0, ?_, rfl, ?_, zv_len⟩
    · show Wp _ _ 64 0 [some (.ref 0), some (.int a1), some (.int a2), none] [] zv_h0 _
      refine Wp.steps 3 (pc1 := 5) (lo1 := [some (.ref 0), some (.int a1), some (.int a2), none]) (st1 := [.int a1, .ref 1]) (h1 := zv_h0) rfl ?_
      refine Wp.call (as := [.ref 1, .int a1]) (rest := []) rfl rfl rfl rfl rfl rfl rfl rfl rfl ?_
      show Wp _ _ 20 0 [some (.ref 1), some (.int a1)] [] zv_h0 _
      refine Wp.steps 1 (pc1 := 1) (lo1 := [some (.ref 1), some (.int a1)]) (st1 := [.int a1]) (h1 := zv_h0) rfl ?_
      refine Wp.ifT (i := .nop) rfl (zq_T rfl (by decide) (show a1.toInt < 0 by omega)) ?_
      show Wp _ _ 20 16 [some (.ref 1), some (.int a1)] [] zv_h0 _
      refine Wp.steps 1 (pc1 := 17) (lo1 := [some (.ref 1), some (.int a1)]) (st1 := [.int 0]) (h1 := zv_h0) rfl ?_
      refine Wp.ret rfl rfl rfl ?_
      show Wp _ _ 64 8 [some (.ref 0), some (.int a1), some (.int a2), none] [.int 0] zv_h0 _
      refine Wp.steps 2 (pc1 := 23) (lo1 := [some (.ref 0), some (.int a1), some (.int a2), none]) (st1 := [.int (-1)]) (h1 := zv_h0) rfl ?_
      exact Wp.ret rfl rfl rfl ⟨rfl, rfl⟩
    · show Wp _ _ 147 0 [some (.ref 113), some (.int a1), some (.int a2)] [] zv_h0 _
      refine Wp.steps 2 (pc1 := 2) (lo1 := [some (.ref 113), some (.int a1), some (.int a2)]) (st1 := [.int a1, .ref 113]) (h1 := zv_h0) rfl ?_
      refine Wp.call (as := [.ref 113, .int a1]) (rest := []) rfl rfl rfl rfl rfl rfl rfl rfl rfl ?_
      show Wp _ _ 132 0 [some (.ref 113), some (.int a1)] [] zv_h0 _
      refine Wp.steps 8 (pc1 := 11) (lo1 := [some (.ref 113), some (.int a1)]) (st1 := [.int 1, .int 0, .long 0, .long (a1).toInt64]) (h1 := zv_h0) rfl ?_
      refine Wp.steps 2 (pc1 := 13) (lo1 := [some (.ref 113), some (.int a1)]) (st1 := [.long (-1), .long 0, .long (a1).toInt64]) (h1 := zv_h0) rfl ?_
      refine Wp.call (as := [.long (a1).toInt64, .long 0, .long (-1)]) (rest := []) rfl rfl rfl rfl rfl rfl rfl rfl rfl ?_
      refine zin_F (Int32.toInt_toInt64 _) (by decide) (by decide) (show a1.toInt < (0 : Int) ∨ (-1 : Int) < a1.toInt by omega) ?_
      show Wp _ _ 132 16 [some (.ref 113), some (.int a1)] [.int 0] zv_h0 _
      refine Wp.ret rfl rfl rfl ?_
      show Wp _ _ 147 5 [some (.ref 113), some (.int a1), some (.int a2)] [.int 0] zv_h0 _
      refine Wp.steps 2 (pc1 := 34) (lo1 := [some (.ref 113), some (.int a1), some (.int a2)]) (st1 := [.int (-1)]) (h1 := zv_h0) rfl ?_
      exact Wp.ret rfl rfl rfl ⟨rfl, rfl⟩
  · skip
    refine ⟨(-1), zv_h0, zv_h0, ?_, rfl, ?_, zv_len⟩
    · show Wp _ _ 64 0 [some (.ref 0), some (.int a1), some (.int a2), none] [] zv_h0 _
      refine Wp.steps 3 (pc1 := 5) (lo1 := [some (.ref 0), some (.int a1), some (.int a2), none]) (st1 := [.int a1, .ref 1]) (h1 := zv_h0) rfl ?_
      refine Wp.call (as := [.ref 1, .int a1]) (rest := []) rfl rfl rfl rfl rfl rfl rfl rfl rfl ?_
      show Wp _ _ 20 0 [some (.ref 1), some (.int a1)] [] zv_h0 _
      refine Wp.steps 1 (pc1 := 1) (lo1 := [some (.ref 1), some (.int a1)]) (st1 := [.int a1]) (h1 := zv_h0) rfl ?_
      refine Wp.ifF (i := .nop) rfl (zq_F rfl (by decide) (show a1.toInt ≥ 0 by omega)) ?_
      show Wp _ _ 20 4 [some (.ref 1), some (.int a1)] [] zv_h0 _
      refine Wp.steps 3 (pc1 := 9) (lo1 := [some (.ref 1), some (.int a1)]) (st1 := [.int 0, .int a1]) (h1 := zv_h0) rfl ?_
      refine Wp.icT (i := .nop) rfl (zq_T rfl (by decide) (show a1.toInt ≥ 0 by omega)) ?_
      show Wp _ _ 20 16 [some (.ref 1), some (.int a1)] [] zv_h0 _
      refine Wp.steps 1 (pc1 := 17) (lo1 := [some (.ref 1), some (.int a1)]) (st1 := [.int 0]) (h1 := zv_h0) rfl ?_
      refine Wp.ret rfl rfl rfl ?_
      show Wp _ _ 64 8 [some (.ref 0), some (.int a1), some (.int a2), none] [.int 0] zv_h0 _
      refine Wp.steps 2 (pc1 := 23) (lo1 := [some (.ref 0), some (.int a1), some (.int a2), none]) (st1 := [.int (-1)]) (h1 := zv_h0) rfl ?_
      exact Wp.ret rfl rfl rfl ⟨rfl, rfl⟩
    · show Wp _ _ 147 0 [some (.ref 113), some (.int a1), some (.int a2)] [] zv_h0 _
      refine Wp.steps 2 (pc1 := 2) (lo1 := [some (.ref 113), some (.int a1), some (.int a2)]) (st1 := [.int a1, .ref 113]) (h1 := zv_h0) rfl ?_
      refine Wp.call (as := [.ref 113, .int a1]) (rest := []) rfl rfl rfl rfl rfl rfl rfl rfl rfl ?_
      show Wp _ _ 132 0 [some (.ref 113), some (.int a1)] [] zv_h0 _
      refine Wp.steps 8 (pc1 := 11) (lo1 := [some (.ref 113), some (.int a1)]) (st1 := [.int 1, .int 0, .long 0, .long (a1).toInt64]) (h1 := zv_h0) rfl ?_
      refine Wp.steps 2 (pc1 := 13) (lo1 := [some (.ref 113), some (.int a1)]) (st1 := [.long (-1), .long 0, .long (a1).toInt64]) (h1 := zv_h0) rfl ?_
      refine Wp.call (as := [.long (a1).toInt64, .long 0, .long (-1)]) (rest := []) rfl rfl rfl rfl rfl rfl rfl rfl rfl ?_
      refine zin_F (Int32.toInt_toInt64 _) (by decide) (by decide) (show a1.toInt < (0 : Int) ∨ (-1 : Int) < a1.toInt by omega) ?_
      show Wp _ _ 132 16 [some (.ref 113), some (.int a1)] [.int 0] zv_h0 _
      refine Wp.ret rfl rfl rfl ?_
      show Wp _ _ 147 5 [some (.ref 113), some (.int a1), some (.int a2)] [.int 0] zv_h0 _
      refine Wp.steps 2 (pc1 := 34) (lo1 := [some (.ref 113), some (.int a1), some (.int a2)]) (st1 := [.int (-1)]) (h1 := zv_h0) rfl ?_
      exact Wp.ret rfl rfl rfl ⟨rfl, rfl⟩
set_option maxRecDepth 100000 in
set_option maxHeartbeats 4000000 in
theorem zr_11 (a1 a2 : Int32) : zv_Pi 65 148 [.int a1, .int a2] := by
  rcases (by omega : (a1.toInt ≤ -1) ∨ (0 ≤ a1.toInt)) with h0 | h0
  · skip
    refine ⟨(-1), zv_h0, zv_h0, ?_, rfl, ?_, zv_len⟩
    · show Wp _ _ 65 0 [some (.ref 0), some (.int a1), some (.int a2), none] [] zv_h0 _
      refine Wp.steps 4 (pc1 := 6) (lo1 := [some (.ref 0), some (.int a1), some (.int a2), none]) (st1 := [.int a2, .int a1, .ref 1]) (h1 := zv_h0) rfl ?_
      refine Wp.call (as := [.ref 1, .int a1, .int a2]) (rest := []) rfl rfl rfl rfl rfl rfl rfl rfl rfl ?_
      show Wp _ _ 22 0 [some (.ref 1), some (.int a1), some (.int a2)] [] zv_h0 _
      refine Wp.steps 2 (pc1 := 2) (lo1 := [some (.ref 1), some (.int a1), some (.int a2)]) (st1 := [.int a1, .ref 1]) (h1 := zv_h0) rfl ?_
      refine Wp.call (as := [.ref 1, .int a1]) (rest := []) rfl rfl rfl rfl rfl rfl rfl rfl rfl ?_
      show Wp _ _ 20 0 [some (.ref 1), some (.int a1)] [] zv_h0 _
      refine Wp.steps 1 (pc1 := 1) (lo1 := [some (.ref 1), some (.int a1)]) (st1 := [.int a1]) (h1 := zv_h0) rfl ?_
      refine Wp.ifT (i := .nop) rfl (zq_T rfl (by decide) (show a1.toInt < 0 by omega)) ?_
      show Wp _ _ 20 16 [some (.ref 1), some (.int a1)] [] zv_h0 _
      refine Wp.steps 1 (pc1 := 17) (lo1 := [some (.ref 1), some (.int a1)]) (st1 := [.int 0]) (h1 := zv_h0) rfl ?_
      refine Wp.ret rfl rfl rfl ?_
      show Wp _ _ 22 5 [some (.ref 1), some (.int a1), some (.int a2)] [.int 0] zv_h0 _
      refine Wp.steps 2 (pc1 := 22) (lo1 := [some (.ref 1), some (.int a1), some (.int a2)]) (st1 := [.int 0]) (h1 := zv_h0) rfl ?_
      refine Wp.ret rfl rfl rfl ?_
      show Wp _ _ 65 9 [some (.ref 0), some (.int a1), some (.int a2), none] [.int 0] zv_h0 _
      refine Wp.steps 2 (pc1 := 13) (lo1 := [some (.ref 0), some (.int a1), some (.int a2), none]) (st1 := [.int (-1)]) (h1 := zv_h0) rfl ?_
      exact Wp.ret rfl rfl rfl ⟨rfl, rfl⟩
    · show Wp _ _ 148 0 [some (.ref 113), some (.int a1), some (.int a2)] [] zv_h0 _
      refine Wp.steps 2 (pc1 := 2) (lo1 := [some (.ref 113), some (.int a1), some (.int a2)]) (st1 := [.int a1, .ref 113]) (h1 := zv_h0) rfl ?_
      refine Wp.call (as := [.ref 113, .int a1]) (rest := []) rfl rfl rfl rfl rfl rfl rfl rfl rfl ?_
      show Wp _ _ 132 0 [some (.ref 113), some (.int a1)] [] zv_h0 _
      refine Wp.steps 8 (pc1 := 11) (lo1 := [some (.ref 113), some (.int a1)]) (st1 := [.int 1, .int 0, .long 0, .long (a1).toInt64]) (h1 := zv_h0) rfl ?_
      refine Wp.steps 2 (pc1 := 13) (lo1 := [some (.ref 113), some (.int a1)]) (st1 := [.long (-1), .long 0, .long (a1).toInt64]) (h1 := zv_h0) rfl ?_
      refine Wp.call (as := [.long (a1).toInt64, .long 0, .long (-1)]) (rest := []) rfl rfl rfl rfl rfl rfl rfl rfl rfl ?_
      refine zin_F (Int32.toInt_toInt64 _) (by decide) (by decide) (show a1.toInt < (0 : Int) ∨ (-1 : Int) < a1.toInt by omega) ?_
      show Wp _ _ 132 16 [some (.ref 113), some (.int a1)] [.int 0] zv_h0 _
      refine Wp.ret rfl rfl rfl ?_
      show Wp _ _ 148 5 [some (.ref 113), some (.int a1), some (.int a2)] [.int 0] zv_h0 _
      refine Wp.steps 2 (pc1 := 38) (lo1 := [some (.ref 113), some (.int a1), some (.int a2)]) (st1 := [.int (-1)]) (h1 := zv_h0) rfl ?_
      exact Wp.ret rfl rfl rfl ⟨rfl, rfl⟩
  · skip
    refine ⟨(-1), zv_h0, zv_h0, ?_, rfl, ?_, zv_len⟩
    · show Wp _ _ 65 0 [some (.ref 0), some (.int a1), some (.int a2), none] [] zv_h0 _
      refine Wp.steps 4 (pc1 := 6) (lo1 := [some (.ref 0), some (.int a1), some (.int a2), none]) (st1 := [.int a2, .int a1, .ref 1]) (h1 := zv_h0) rfl ?_
      refine Wp.call (as := [.ref 1, .int a1, .int a2]) (rest := []) rfl rfl rfl rfl rfl rfl rfl rfl rfl ?_
      show Wp _ _ 22 0 [some (.ref 1), some (.int a1), some (.int a2)] [] zv_h0 _
      refine Wp.steps 2 (pc1 := 2) (lo1 := [some (.ref 1), some (.int a1), some (.int a2)]) (st1 := [.int a1, .ref 1]) (h1 := zv_h0) rfl ?_
      refine Wp.call (as := [.ref 1, .int a1]) (rest := []) rfl rfl rfl rfl rfl rfl rfl rfl rfl ?_
      show Wp _ _ 20 0 [some (.ref 1), some (.int a1)] [] zv_h0 _
      refine Wp.steps 1 (pc1 := 1) (lo1 := [some (.ref 1), some (.int a1)]) (st1 := [.int a1]) (h1 := zv_h0) rfl ?_
      refine Wp.ifF (i := .nop) rfl (zq_F rfl (by decide) (show a1.toInt ≥ 0 by omega)) ?_
      show Wp _ _ 20 4 [some (.ref 1), some (.int a1)] [] zv_h0 _
      refine Wp.steps 3 (pc1 := 9) (lo1 := [some (.ref 1), some (.int a1)]) (st1 := [.int 0, .int a1]) (h1 := zv_h0) rfl ?_
      refine Wp.icT (i := .nop) rfl (zq_T rfl (by decide) (show a1.toInt ≥ 0 by omega)) ?_
      show Wp _ _ 20 16 [some (.ref 1), some (.int a1)] [] zv_h0 _
      refine Wp.steps 1 (pc1 := 17) (lo1 := [some (.ref 1), some (.int a1)]) (st1 := [.int 0]) (h1 := zv_h0) rfl ?_
      refine Wp.ret rfl rfl rfl ?_
      show Wp _ _ 22 5 [some (.ref 1), some (.int a1), some (.int a2)] [.int 0] zv_h0 _
      refine Wp.steps 2 (pc1 := 22) (lo1 := [some (.ref 1), some (.int a1), some (.int a2)]) (st1 := [.int 0]) (h1 := zv_h0) rfl ?_
      refine Wp.ret rfl rfl rfl ?_
      show Wp _ _ 65 9 [some (.ref 0), some (.int a1), some (.int a2), none] [.int 0] zv_h0 _
      refine Wp.steps 2 (pc1 := 13) (lo1 := [some (.ref 0), some (.int a1), some (.int a2), none]) (st1 := [.int (-1)]) (h1 := zv_h0) rfl ?_
      exact Wp.ret rfl rfl rfl ⟨rfl, rfl⟩
    · show Wp _ _ 148 0 [some (.ref 113), some (.int a1), some (.int a2)] [] zv_h0 _
      refine Wp.steps 2 (pc1 := 2) (lo1 := [some (.ref 113), some (.int a1), some (.int a2)]) (st1 := [.int a1, .ref 113]) (h1 := zv_h0) rfl ?_
      refine Wp.call (as := [.ref 113, .int a1]) (rest := []) rfl rfl rfl rfl rfl rfl rfl rfl rfl ?_
      show Wp _ _ 132 0 [some (.ref 113), some (.int a1)] [] zv_h0 _
      refine Wp.steps 8 (pc1 := 11) (lo1 := [some (.ref 113), some (.int a1)]) (st1 := [.int 1, .int 0, .long 0, .long (a1).toInt64]) (h1 := zv_h0) rfl ?_
      refine Wp.steps 2 (pc1 := 13) (lo1 := [some (.ref 113), some (.int a1)]) (st1 := [.long (-1), .long 0, .long (a1).toInt64]) (h1 := zv_h0) rfl ?_
      refine Wp.call (as := [.long (a1).toInt64, .long 0, .long (-1)]) (rest := []) rfl rfl rfl rfl rfl rfl rfl rfl rfl ?_
      refine zin_F (Int32.toInt_toInt64 _) (by decide) (by decide) (show a1.toInt < (0 : Int) ∨ (-1 : Int) < a1.toInt by omega) ?_
      show Wp _ _ 132 16 [some (.ref 113), some (.int a1)] [.int 0] zv_h0 _
      refine Wp.ret rfl rfl rfl ?_
      show Wp _ _ 148 5 [some (.ref 113), some (.int a1), some (.int a2)] [.int 0] zv_h0 _
      refine Wp.steps 2 (pc1 := 38) (lo1 := [some (.ref 113), some (.int a1), some (.int a2)]) (st1 := [.int (-1)]) (h1 := zv_h0) rfl ?_
      exact Wp.ret rfl rfl rfl ⟨rfl, rfl⟩
