set_option maxRecDepth 100000 in
set_option maxHeartbeats 4000000 in
theorem zr_12 (a1 a2 : Int32) : zv_Pi 66 149 [.int a1, .int a2] := by
  rcases (by omega : (a1.toInt ≤ -1) ∨ (0 ≤ a1.toInt)) with h0 | h0
  · skip
    refine ⟨(-1), zv_h0, zv_h0, ?_, rfl, ?_, zv_len⟩
    · show Wp _ _ 66 0 [some (.ref 0), some (.int a1), some (.int a2), none] [] zv_h0 _
      refine Wp.steps 3 (pc1 := 5) (lo1 := [some (.ref 0), some (.int a1), some (.int a2), none]) (st1 := [.int a1, .ref 1]) (h1 := zv_h0) rfl ?_
      refine Wp.call (as := [.ref 1, .int a1]) (rest := []) rfl rfl rfl rfl rfl rfl rfl rfl rfl ?_
      show Wp _ _ 20 0 [some (.ref 1), some (.int a1)] [] zv_h0 _
      refine Wp.steps 1 (pc1 := 1) (lo1 := [some (.ref 1), some (.int a1)]) (st1 := [.int a1]) (h1 := zv_h0) rfl ?_
      refine Wp.ifT (i := .nop) rfl (zq_T rfl (by decide) (show a1.toInt < 0 by omega)) ?_
      show Wp _ _ 20 16 [some (.ref 1), some (.int a1)] [] zv_h0 _
      refine Wp.steps 1 (pc1 := 17) (lo1 := [some (.ref 1), some (.int a1)]) (st1 := [.int 0]) (h1 := zv_h0) rfl ?_
      refine Wp.ret rfl rfl rfl ?_
      show Wp _ _ 66 8 [some (.ref 0), some (.int a1), some (.int a2), none] [.int 0] zv_h0 _
      refine Wp.steps 2 (pc1 := 22) (lo1 := [some (.ref 0), some (.int a1), some (.int a2), none]) (st1 := [.int (-1)]) (h1 := zv_h0) rfl ?_
      exact Wp.ret rfl rfl rfl ⟨rfl, rfl⟩
    · show Wp _ _ 149 0 [some (.ref 113), some (.int a1), some (.int a2)] [] zv_h0 _
      refine Wp.steps 2 (pc1 := 2) (lo1 := [some (.ref 113), some (.int a1), some (.int a2)]) (st1 := [.int a1, .ref 113]) (h1 := zv_h0) rfl ?_
      refine Wp.call (as := [.ref 113, .int a1]) (rest := []) rfl rfl rfl rfl rfl rfl rfl rfl rfl ?_
      show Wp _ _ 132 0 [some (.ref 113), some (.int a1)] [] zv_h0 _
      refine Wp.steps 8 (pc1 := 11) (lo1 := [some (.ref 113), some (.int a1)]) (st1 := [.int 1, .int 0, .long 0, .long (a1).toInt64]) (h1 := zv_h0) rfl ?_
      refine Wp.steps 2 (pc1 := 13) (lo1 := [some (.ref 113), some (.int a1)]) (st1 := [.long (-1), .long 0, .long (a1).toInt64]) (h1 := zv_h0) rfl ?_
      refine Wp.call (as := [.long (a1).toInt64, .long 0, .long (-1)]) (rest := []) rfl rfl rfl rfl rfl rfl rfl rfl rfl ?_
      refine zin_F (Int32.toInt_toInt64 _) (by decide) (by decide) (show a1.toInt < (0 : Int) ∨ (-1 : Int) < a1.toInt by omega) ?_
      show Wp _ _ 132 16 [some (.ref 113), some (.int a1)] [.int 0] zv_h0 _
      refine Wp.ret rfl rfl rfl ?_
      show Wp _ _ 149 5 [some (.ref 113), some (.int a1), some (.int a2)] [.int 0] zv_h0 _
      refine Wp.steps 2 (pc1 := 39) (lo1 := [some (.ref 113), some (.int a1), some (.int a2)]) (st1 := [.int (-1)]) (h1 := zv_h0) rfl ?_
      exact Wp.ret rfl rfl rfl ⟨rfl, rfl⟩
  · skip
    refine ⟨(-1), zv_h0, zv_h0, ?_, rfl, ?_, zv_len⟩
    · show Wp _ _ 66 0 [some (.ref 0), some (.int a1), some (.int a2), none] [] zv_h0 _
      refine Wp.steps 3 (pc1 := 5) (lo1 := [some (.ref 0), some (.int a1), some (.int a2), none]) (st1 := [.int a1, .ref 1]) (h1 := zv_h0) rfl ?_
      refine Wp.call (as := [.ref 1, .int a1]) (rest := []) rfl rfl rfl rfl rfl rfl rfl rfl rfl ?_
      show Wp _ _ 20 0 [some (.ref 1), some (.int a1)] [] zv_h0 _
      refine Wp.steps 1 (pc1 := 1) (lo1 := [some (.ref 1), some (.int a1)]) (st1 := [.int a1]) (h1 := zv_h0) rfl ?_
      refine Wp.ifF (i := .nop) rfl (zq_F rfl (by decide) (show a1.toInt ≥ 0 by omega)) ?_
      show Wp _ _ 20 4 [some (.ref 1), some (.int a1)] [] zv_h0 _
      refine Wp.steps 3 (pc1 := 9) (lo1 := [some (.ref 1), some (.int a1)]) (st1 := [.int 0, .int a1]) (h1 := zv_h0) rfl ?_
      refine Wp.icT (i := .nop) rfl (zq_T rfl (by decide) (show a1.toInt ≥ 0 by omega)) ?_
      show Wp _ _ 20 16 [some (.ref 1), some (.int a1)] [] zv_h0 _
      refine Wp.steps 1 (pc1 := 17) (lo1 := [some (.ref 1), some (.int a1)]) (st1 := [.int 0]) (h1 := zv_h0) rfl ?_
      refine Wp.ret rfl rfl rfl ?_
      show Wp _ _ 66 8 [some (.ref 0), some (.int a1), some (.int a2), none] [.int 0] zv_h0 _
      refine Wp.steps 2 (pc1 := 22) (lo1 := [some (.ref 0), some (.int a1), some (.int a2), none]) (st1 := [.int (-1)]) (h1 := zv_h0) rfl ?_
      exact Wp.ret rfl rfl rfl ⟨rfl, rfl⟩
    · show Wp _ _ 149 0 [some (.ref 113), some (.int a1), some (.int a2)] [] zv_h0 _
      refine Wp.steps 2 (pc1 := 2) (lo1 := [some (.ref 113), some (.int a1), some (.int a2)]) (st1 := [.int a1, .ref 113]) (h1 := zv_h0) rfl ?_
      refine Wp.call (as := [.ref 113, .int a1]) (rest := []) rfl rfl rfl rfl rfl rfl rfl rfl rfl ?_
      show Wp _ _ 132 0 [some (.ref 113), some (.int a1)] [] zv_h0 _
      refine Wp.steps 8 (pc1 := 11) (lo1 := [some (.ref 113), some (.int a1)]) (st1 := [.int 1, .int 0, .long 0, .long (a1).toInt64]) (h1 := zv_h0) rfl ?_
      refine Wp.steps 2 (pc1 := 13) (lo1 := [some (.ref 113), some (.int a1)]) (st1 := [.long (-1), .long 0, .long (a1).toInt64]) (h1 := zv_h0) rfl ?_
      refine Wp.call (as := [.long (a1).toInt64, .long 0, .long (-1)]) (rest := []) rfl rfl rfl rfl rfl rfl rfl rfl rfl ?_
      refine zin_F (Int32.toInt_toInt64 _) (by decide) (by decide) (show a1.toInt < (0 : Int) ∨ (-1 : Int) < a1.toInt by omega) ?_
      show Wp _ _ 132 16 [some (.ref 113), some (.int a1)] [.int 0] zv_h0 _
      refine Wp.ret rfl rfl rfl ?_
      show Wp _ _ 149 5 [some (.ref 113), some (.int a1), some (.int a2)] [.int 0] zv_h0 _
      refine Wp.steps 2 (pc1 := 39) (lo1 := [some (.ref 113), some (.int a1), some (.int a2)]) (st1 := [.int (-1)]) (h1 := zv_h0) rfl ?_
      exact Wp.ret rfl rfl rfl ⟨rfl, rfl⟩
set_option maxRecDepth 100000 in
set_option maxHeartbeats 4000000 in
theorem zr_13 (a1 a2 a3 : Int32) : zv_Pi 67 153 [.int a1, .int a2, .int a3] := by
  rcases (by omega : (a1.toInt ≤ -1) ∨ (0 ≤ a1.toInt)) with h0 | h0
  · skip
    refine ⟨(-1), zv_h0, zv_h0, ?_, rfl, ?_, zv_len⟩
    · show Wp _ _ 67 0 [some (.ref 0), some (.int a1), some (.int a2), some (.int a3)] [] zv_h0 _
      refine Wp.steps 3 (pc1 := 5) (lo1 := [some (.ref 0), some (.int a1), some (.int a2), some (.int a3)]) (st1 := [.int a1, .ref 1]) (h1 := zv_h0) rfl ?_
      refine Wp.call (as := [.ref 1, .int a1]) (rest := []) rfl rfl rfl rfl rfl rfl rfl rfl rfl ?_
      show Wp _ _ 18 0 [some (.ref 1), some (.int a1)] [] zv_h0 _
      refine Wp.steps 1 (pc1 := 1) (lo1 := [some (.ref 1), some (.int a1)]) (st1 := [.int a1]) (h1 := zv_h0) rfl ?_
      refine Wp.ifT (i := .nop) rfl (zq_T rfl (by decide) (show a1.toInt < 0 by omega)) ?_
      show Wp _ _ 18 16 [some (.ref 1), some (.int a1)] [] zv_h0 _
      refine Wp.steps 1 (pc1 := 17) (lo1 := [some (.ref 1), some (.int a1)]) (st1 := [.int 0]) (h1 := zv_h0) rfl ?_
      refine Wp.ret rfl rfl rfl ?_
      show Wp _ _ 67 8 [some (.ref 0), some (.int a1), some (.int a2), some (.int a3)] [.int 0] zv_h0 _
      refine Wp.steps 2 (pc1 := 34) (lo1 := [some (.ref 0), some (.int a1), some (.int a2), some (.int a3)]) (st1 := [.int (-1)]) (h1 := zv_h0) rfl ?_
      exact Wp.ret rfl rfl rfl ⟨rfl, rfl⟩
    · show Wp _ _ 153 0 [some (.ref 113), some (.int a1), some (.int a2), some (.int a3)] [] zv_h0 _
      refine Wp.steps 2 (pc1 := 2) (lo1 := [some (.ref 113), some (.int a1), some (.int a2), some (.int a3)]) (st1 := [.int a1, .ref 113]) (h1 := zv_h0) rfl ?_
      refine Wp.call (as := [.ref 113, .int a1]) (rest := []) rfl rfl rfl rfl rfl rfl rfl rfl rfl ?_
      show Wp _ _ 131 0 [some (.ref 113), some (.int a1)] [] zv_h0 _
      refine Wp.steps 8 (pc1 := 10) (lo1 := [some (.ref 113), some (.int a1)]) (st1 := [.long (-1), .long 0, .long (a1).toInt64]) (h1 := zv_h0) rfl ?_
      refine Wp.call (as := [.long (a1).toInt64, .long 0, .long (-1)]) (rest := []) rfl rfl rfl rfl rfl rfl rfl rfl rfl ?_
      refine zin_F (Int32.toInt_toInt64 _) (by decide) (by decide) (show a1.toInt < (0 : Int) ∨ (-1 : Int) < a1.toInt by omega) ?_
      show Wp _ _ 131 13 [some (.ref 113), some (.int a1)] [.int 0] zv_h0 _
      refine Wp.ret rfl rfl rfl ?_
      show Wp _ _ 153 5 [some (.ref 113), some (.int a1), some (.int a2), some (.int a3)] [.int 0] zv_h0 _
      refine Wp.steps 2 (pc1 := 35) (lo1 := [some (.ref 113), some (.int a1), some (.int a2), some (.int a3)]) (st1 := [.int (-1)]) (h1 := zv_h0) rfl ?_
      exact Wp.ret rfl rfl rfl ⟨rfl, rfl⟩
  · skip
    refine ⟨(-1), zv_h0, zv_h0, ?_, rfl, ?_, zv_len⟩
    · show Wp _ _ 67 0 [some (.ref 0), some (.int a1), some (.int a2), some (.int a3)] [] zv_h0 _
      refine Wp.steps 3 (pc1 := 5) (lo1 := [some (.ref 0), some (.int a1), some (.int a2), some (.int a3)]) (st1 := [.int a1, .ref 1]) (h1 := zv_h0) rfl ?_
      refine Wp.call (as := [.ref 1, .int a1]) (rest := []) rfl rfl rfl rfl rfl rfl rfl rfl rfl ?_
      show Wp _ _ 18 0 [some (.ref 1), some (.int a1)] [] zv_h0 _
      refine Wp.steps 1 (pc1 := 1) (lo1 := [some (.ref 1), some (.int a1)]) (st1 := [.int a1]) (h1 := zv_h0) rfl ?_
      refine Wp.ifF (i := .nop) rfl (zq_F rfl (by decide) (show a1.toInt ≥ 0 by omega)) ?_
      show Wp _ _ 18 4 [some (.ref 1), some (.int a1)] [] zv_h0 _
      refine Wp.steps 3 (pc1 := 9) (lo1 := [some (.ref 1), some (.int a1)]) (st1 := [.int 0, .int a1]) (h1 := zv_h0) rfl ?_
      refine Wp.icT (i := .nop) rfl (zq_T rfl (by decide) (show a1.toInt ≥ 0 by omega)) ?_
      show Wp _ _ 18 16 [some (.ref 1), some (.int a1)] [] zv_h0 _
      refine Wp.steps 1 (pc1 := 17) (lo1 := [some (.ref 1), some (.int a1)]) (st1 := [.int 0]) (h1 := zv_h0) rfl ?_
      refine Wp.ret rfl rfl rfl ?_
      show Wp _ _ 67 8 [some (.ref 0), some (.int a1), some (.int a2), some (.int a3)] [.int 0] zv_h0 _
      refine Wp.steps 2 (pc1 := 34) (lo1 := [some (.ref 0), some (.int a1), some (.int a2), some (.int a3)]) (st1 := [.int (-1)]) (h1 := zv_h0) rfl ?_
      exact Wp.ret rfl rfl rfl ⟨rfl, rfl⟩
    · show Wp _ _ 153 0 [some (.ref 113), some (.int a1), some (.int a2), some (.int a3)] [] zv_h0 _
      refine Wp.steps 2 (pc1 := 2) (lo1 := [some (.ref 113), some (.int a1), some (.int a2), some (.int a3)]) (st1 := [.int a1, .ref 113]) (h1 := zv_h0) rfl ?_
      refine Wp.call (as := [.ref 113, .int a1]) (rest := []) rfl rfl rfl rfl rfl rfl rfl rfl rfl ?_
      show Wp _ _ 131 0 [some (.ref 113), some (.int a1)] [] zv_h0 _
      refine Wp.steps 8 (pc1 := 10) (lo1 := [some (.ref 113), some (.int a1)]) (st1 := [.long (-1), .long 0, .long (a1).toInt64]) (h1 := zv_h0) rfl ?_
      refine Wp.call (as := [.long (a1).toInt64, .long 0, .long (-1)]) (rest := []) rfl rfl rfl rfl rfl rfl rfl rfl rfl ?_
      refine zin_F (Int32.toInt_toInt64 _) (by decide) (by decide) (show a1.toInt < (0 : Int) ∨ (-1 : Int) < a1.toInt by omega) ?_
      show Wp _ _ 131 13 [some (.ref 113), some (.int a1)] [.int 0] zv_h0 _
      refine Wp.ret rfl rfl rfl ?_
      show Wp _ _ 153 5 [some (.ref 113), some (.int a1), some (.int a2), some (.int a3)] [.int 0] zv_h0 _
      refine Wp.steps 2 (pc1 := 35) (lo1 := [some (.ref 113), some (.int a1), some (.int a2), some (.int a3)]) (st1 := [.int (-1)]) (h1 := zv_h0) rfl ?_
      exact Wp.ret rfl rfl rfl ⟨rfl, rfl⟩
set_option maxRecDepth 100000 in
set_option maxHeartbeats 4000000 in
theorem zr_14 (a1 : Int32) : zv_Pi 68 154 [.int a1] := by
  rcases (by omega : (a1.toInt ≤ -1) ∨ (1 ≤ a1.toInt) ∨ (a1.toInt = 0)) with h0 | h0 | h0
  · skip
    refine ⟨(-1), zv_h0, zv_h0, ?_, rfl, ?_, zv_len⟩
    · show Wp _ _ 68 0 [some (.ref 0), some (.int a1)] [] zv_h0 _
      refine Wp.steps 3 (pc1 := 5) (lo1 := [some (.ref 0), some (.int a1)]) (st1 := [.int a1, .ref 1]) (h1 := zv_h0) rfl ?_
      refine Wp.call (as := [.ref 1, .int a1]) (rest := []) rfl rfl rfl rfl rfl rfl rfl rfl rfl ?_
      show Wp _ _ 21 0 [some (.ref 1), some (.int a1)] [] zv_h0 _
      refine Wp.steps 1 (pc1 := 1) (lo1 := [some (.ref 1), some (.int a1)]) (st1 := [.int a1]) (h1 := zv_h0) rfl ?_
      refine Wp.ifT (i := .nop) rfl (zq_T rfl (by decide) (show a1.toInt < 0 by omega)) ?_
      show Wp _ _ 21 18 [some (.ref 1), some (.int a1)] [] zv_h0 _
      refine Wp.steps 1 (pc1 := 19) (lo1 := [some (.ref 1), some (.int a1)]) (st1 := [.int 0]) (h1 := zv_h0) rfl ?_
      refine Wp.ret rfl rfl rfl ?_
      show Wp _ _ 68 8 [some (.ref 0), some (.int a1)] [.int 0] zv_h0 _
      refine Wp.steps 2 (pc1 := 12) (lo1 := [some (.ref 0), some (.int a1)]) (st1 := [.int (-1)]) (h1 := zv_h0) rfl ?_
      exact Wp.ret rfl rfl rfl ⟨rfl, rfl⟩
    · show Wp _ _ 154 0 [some (.ref 113), some (.int a1)] [] zv_h0 _
      refine Wp.steps 2 (pc1 := 2) (lo1 := [some (.ref 113), some (.int a1)]) (st1 := [.int a1, .ref 113]) (h1 := zv_h0) rfl ?_
      refine Wp.call (as := [.ref 113, .int a1]) (rest := []) rfl rfl rfl rfl rfl rfl rfl rfl rfl ?_
      show Wp _ _ 135 0 [some (.ref 113), some (.int a1)] [] zv_h0 _
      refine Wp.steps 8 (pc1 := 11) (lo1 := [some (.ref 113), some (.int a1)]) (st1 := [.int 0, .int 1, .long 0, .long (a1).toInt64]) (h1 := zv_h0) rfl ?_
      refine Wp.steps 4 (pc1 := 15) (lo1 := [some (.ref 113), some (.int a1)]) (st1 := [.long 0, .long 0, .long (a1).toInt64]) (h1 := zv_h0) rfl ?_
      refine Wp.call (as := [.long (a1).toInt64, .long 0, .long 0]) (rest := []) rfl rfl rfl rfl rfl rfl rfl rfl rfl ?_
      refine zin_F (Int32.toInt_toInt64 _) (by decide) (by decide) (show a1.toInt < (0 : Int) ∨ (0 : Int) < a1.toInt by omega) ?_
      show Wp _ _ 135 18 [some (.ref 113), some (.int a1)] [.int 0] zv_h0 _
      refine Wp.ret rfl rfl rfl ?_
      show Wp _ _ 154 5 [some (.ref 113), some (.int a1)] [.int 0] zv_h0 _
      refine Wp.steps 2 (pc1 := 20) (lo1 := [some (.ref 113), some (.int a1)]) (st1 := [.int (-1)]) (h1 := zv_h0) rfl ?_
      exact Wp.ret rfl rfl rfl ⟨rfl, rfl⟩
  · skip
    refine ⟨(-1), zv_h0, zv_h0, ?_, rfl, ?_, zv_len⟩
    · show Wp _ _ 68 0 [some (.ref 0), some (.int a1)] [] zv_h0 _
      refine Wp.steps 3 (pc1 := 5) (lo1 := [some (.ref 0), some (.int a1)]) (st1 := [.int a1, .ref 1]) (h1 := zv_h0) rfl ?_
      refine Wp.call (as := [.ref 1, .int a1]) (rest := []) rfl rfl rfl rfl rfl rfl rfl rfl rfl ?_
      show Wp _ _ 21 0 [some (.ref 1), some (.int a1)] [] zv_h0 _
      refine Wp.steps 1 (pc1 := 1) (lo1 := [some (.ref 1), some (.int a1)]) (st1 := [.int a1]) (h1 := zv_h0) rfl ?_
      refine Wp.ifF (i := .nop) rfl (zq_F rfl (by decide) (show a1.toInt ≥ 0 by omega)) ?_
      show Wp _ _ 21 4 [some (.ref 1), some (.int a1)] [] zv_h0 _
      refine Wp.steps 5 (pc1 := 11) (lo1 := [some (.ref 1), some (.int a1)]) (st1 := [.int 1, .int a1]) (h1 := zv_h0) rfl ?_
      refine Wp.icT (i := .nop) rfl (zq_T rfl (by decide) (show a1.toInt ≥ 1 by omega)) ?_
      show Wp _ _ 21 18 [some (.ref 1), some (.int a1)] [] zv_h0 _
      refine Wp.steps 1 (pc1 := 19) (lo1 := [some (.ref 1), some (.int a1)]) (st1 := [.int 0]) (h1 := zv_h0) rfl ?_
      refine Wp.ret rfl rfl rfl ?_
      show Wp _ _ 68 8 [some (.ref 0), some (.int a1)] [.int 0] zv_h0 _
      refine Wp.steps 2 (pc1 := 12) (lo1 := [some (.ref 0), some (.int a1)]) (st1 := [.int (-1)]) (h1 := zv_h0) rfl ?_
      exact Wp.ret rfl rfl rfl ⟨rfl, rfl⟩
    · show Wp _ _ 154 0 [some (.ref 113), some (.int a1)] [] zv_h0 _
      refine Wp.steps 2 (pc1 := 2) (lo1 := [some (.ref 113), some (.int a1)]) (st1 := [.int a1, .ref 113]) (h1 := zv_h0) rfl ?_
      refine Wp.call (as := [.ref 113, .int a1]) (rest := []) rfl rfl rfl rfl rfl rfl rfl rfl rfl ?_
      show Wp _ _ 135 0 [some (.ref 113), some (.int a1)] [] zv_h0 _
      refine Wp.steps 8 (pc1 := 11) (lo1 := [some (.ref 113), some (.int a1)]) (st1 := [.int 0, .int 1, .long 0, .long (a1).toInt64]) (h1 := zv_h0) rfl ?_
      refine Wp.steps 4 (pc1 := 15) (lo1 := [some (.ref 113), some (.int a1)]) (st1 := [.long 0, .long 0, .long (a1).toInt64]) (h1 := zv_h0) rfl ?_
      refine Wp.call (as := [.long (a1).toInt64, .long 0, .long 0]) (rest := []) rfl rfl rfl rfl rfl rfl rfl rfl rfl ?_
      refine zin_F (Int32.toInt_toInt64 _) (by decide) (by decide) (show a1.toInt < (0 : Int) ∨ (0 : Int) < a1.toInt by omega) ?_
      show Wp _ _ 135 18 [some (.ref 113), some (.int a1)] [.int 0] zv_h0 _
      refine Wp.ret rfl rfl rfl ?_
      show Wp _ _ 154 5 [some (.ref 113), some (.int a1)] [.int 0] zv_h0 _
      refine Wp.steps 2 (pc1 := 20) (lo1 := [some (.ref 113), some (.int a1)]) (st1 := [.int (-1)]) (h1 := zv_h0) rfl ?_
      exact Wp.ret rfl rfl rfl ⟨rfl, rfl⟩
  · skip
    obtain rfl : a1 = 0 := Int32.toInt_inj.mp (h0.trans (by decide))
    exact zv_Pi_of (by decide +kernel)
set_option maxRecDepth 100000 in
set_option maxHeartbeats 4000000 in
theorem zr_15 (a1 a2 : Int32) : zv_Pi 69 156 [.int a1, .int a2] := by
  rcases (by omega : (a1.toInt ≤ -1) ∨ (1 ≤ a1.toInt) ∨ (a1.toInt = 0)) with h0 | h0 | h0
  · skip
    refine ⟨(-1), zv_h0, zv_h0, ?_, rfl, ?_, zv_len⟩
    · show Wp _ _ 69 0 [some (.ref 0), some (.int a1), some (.int a2), none, none] [] zv_h0 _
      refine Wp.steps 3 (pc1 := 5) (lo1 := [some (.ref 0), some (.int a1), some (.int a2), none, none]) (st1 := [.int a1, .ref 1]) (h1 := zv_h0) rfl ?_
      refine Wp.call (as := [.ref 1, .int a1]) (rest := []) rfl rfl rfl rfl rfl rfl rfl rfl rfl ?_
      show Wp _ _ 21 0 [some (.ref 1), some (.int a1)] [] zv_h0 _
      refine Wp.steps 1 (pc1 := 1) (lo1 := [some (.ref 1), some (.int a1)]) (st1 := [.int a1]) (h1 := zv_h0) rfl ?_
      refine Wp.ifT (i := .nop) rfl (zq_T rfl (by decide) (show a1.toInt < 0 by omega)) ?_
      show Wp _ _ 21 18 [some (.ref 1), some (.int a1)] [] zv_h0 _
      refine Wp.steps 1 (pc1 := 19) (lo1 := [some (.ref 1), some (.int a1)]) (st1 := [.int 0]) (h1 := zv_h0) rfl ?_
      refine Wp.ret rfl rfl rfl ?_
      show Wp _ _ 69 8 [some (.ref 0), some (.int a1), some (.int a2), none, none] [.int 0] zv_h0 _
      refine Wp.steps 2 (pc1 := 19) (lo1 := [some (.ref 0), some (.int a1), some (.int a2), none, none]) (st1 := [.int (-1)]) (h1 := zv_h0) rfl ?_
      exact Wp.ret rfl rfl rfl ⟨rfl, rfl⟩
    · show Wp _ _ 156 0 [some (.ref 113), some (.int a1), some (.int a2), none, none] [] zv_h0 _
      refine Wp.steps 2 (pc1 := 2) (lo1 := [some (.ref 113), some (.int a1), some (.int a2), none, none]) (st1 := [.int a1, .ref 113]) (h1 := zv_h0) rfl ?_
      refine Wp.call (as := [.ref 113, .int a1]) (rest := []) rfl rfl rfl rfl rfl rfl rfl rfl rfl ?_
      show Wp _ _ 135 0 [some (.ref 113), some (.int a1)] [] zv_h0 _
      refine Wp.steps 8 (pc1 := 11) (lo1 := [some (.ref 113), some (.int a1)]) (st1 := [.int 0, .int 1, .long 0, .long (a1).toInt64]) (h1 := zv_h0) rfl ?_
      refine Wp.steps 4 (pc1 := 15) (lo1 := [some (.ref 113), some (.int a1)]) (st1 := [.long 0, .long 0, .long (a1).toInt64]) (h1 := zv_h0) rfl ?_
      refine Wp.call (as := [.long (a1).toInt64, .long 0, .long 0]) (rest := []) rfl rfl rfl rfl rfl rfl rfl rfl rfl ?_
      refine zin_F (Int32.toInt_toInt64 _) (by decide) (by decide) (show a1.toInt < (0 : Int) ∨ (0 : Int) < a1.toInt by omega) ?_
      show Wp _ _ 135 18 [some (.ref 113), some (.int a1)] [.int 0] zv_h0 _
      refine Wp.ret rfl rfl rfl ?_
      show Wp _ _ 156 5 [some (.ref 113), some (.int a1), some (.int a2), none, none] [.int 0] zv_h0 _
      refine Wp.steps 2 (pc1 := 19) (lo1 := [some (.ref 113), some (.int a1), some (.int a2), none, none]) (st1 := [.int (-1)]) (h1 := zv_h0) rfl ?_
      exact Wp.ret rfl rfl rfl ⟨rfl, rfl⟩
  · skip
    refine ⟨(-1), zv_h0, zv_h0, ?_, rfl, ?_, zv_len⟩
    · show Wp _ _ 69 0 [some (.ref 0), some (.int a1), some (.int a2), none, none] [] zv_h0 _
      refine Wp.steps 3 (pc1 := 5) (lo1 := [some (.ref 0), some (.int a1), some (.int a2), none, none]) (st1 := [.int a1, .ref 1]) (h1 := zv_h0) rfl ?_
      refine Wp.call (as := [.ref 1, .int a1]) (rest := []) rfl rfl rfl rfl rfl rfl rfl rfl rfl ?_
      show Wp _ _ 21 0 [some (.ref 1), some (.int a1)] [] zv_h0 _
      refine Wp.steps 1 (pc1 := 1) (lo1 := [some (.ref 1), some (.int a1)]) (st1 := [.int a1]) (h1 := zv_h0) rfl ?_
      refine Wp.ifF (i := .nop) rfl (zq_F rfl (by decide) (show a1.toInt ≥ 0 by omega)) ?_
      show Wp _ _ 21 4 [some (.ref 1), some (.int a1)] [] zv_h0 _
      refine Wp.steps 5 (pc1 := 11) (lo1 := [some (.ref 1), some (.int a1)]) (st1 := [.int 1, .int a1]) (h1 := zv_h0) rfl ?_
      refine Wp.icT (i := .nop) rfl (zq_T rfl (by decide) (show a1.toInt ≥ 1 by omega)) ?_
      show Wp _ _ 21 18 [some (.ref 1), some (.int a1)] [] zv_h0 _
      refine Wp.steps 1 (pc1 := 19) (lo1 := [some (.ref 1), some (.int a1)]) (st1 := [.int 0]) (h1 := zv_h0) rfl ?_
      refine Wp.ret rfl rfl rfl ?_
      show Wp _ _ 69 8 [some (.ref 0), some (.int a1), some (.int a2), none, none] [.int 0] zv_h0 _
      refine Wp.steps 2 (pc1 := 19) (lo1 := [some (.ref 0), some (.int a1), some (.int a2), none, none]) (st1 := [.int (-1)]) (h1 := zv_h0) rfl ?_
      exact Wp.ret rfl rfl rfl ⟨rfl, rfl⟩
    · show Wp _ _ 156 0 [some (.ref 113), some (.int a1), some (.int a2), none, none] [] zv_h0 _
      refine Wp.steps 2 (pc1 := 2) (lo1 := [some (.ref 113), some (.int a1), some (.int a2), none, none]) (st1 := [.int a1, .ref 113]) (h1 := zv_h0) rfl ?_
      refine Wp.call (as := [.ref 113, .int a1]) (rest := []) rfl rfl rfl rfl rfl rfl rfl rfl rfl ?_
      show Wp _ _ 135 0 [some (.ref 113), some (.int a1)] [] zv_h0 _
      refine Wp.steps 8 (pc1 := 11) (lo1 := [some (.ref 113), some (.int a1)]) (st1 := [.int 0, .int 1, .long 0, .long (a1).toInt64]) (h1 := zv_h0) rfl ?_
      refine Wp.steps 4 (pc1 := 15) (lo1 := [some (.ref 113), some (.int a1)]) (st1 := [.long 0, .long 0, .long (a1).toInt64]) (h1 := zv_h0) rfl ?_
      refine Wp.call (as := [.long (a1).toInt64, .long 0, .long 0]) (rest := []) rfl rfl rfl rfl rfl rfl rfl rfl rfl ?_
      refine zin_F (Int32.toInt_toInt64 _) (by decide) (by decide) (show a1.toInt < (0 : Int) ∨ (0 : Int) < a1.toInt by omega) ?_
      show Wp _ _ 135 18 [some (.ref 113), some (.int a1)] [.int 0] zv_h0 _
      refine Wp.ret rfl rfl rfl ?_
      show Wp _ _ 156 5 [some (.ref 113), some (.int a1), some (.int a2), none, none] [.int 0] zv_h0 _
      refine Wp.steps 2 (pc1 := 19) (lo1 := [some (.ref 113), some (.int a1), some (.int a2), none, none]) (st1 := [.int (-1)]) (h1 := zv_h0) rfl ?_
      exact Wp.ret rfl rfl rfl ⟨rfl, rfl⟩
  · skip
    obtain rfl : a1 = 0 := Int32.toInt_inj.mp (h0.trans (by decide))
    rcases (by omega : (a2.toInt ≤ -1) ∨ (2 ≤ a2.toInt) ∨ (a2.toInt = 0) ∨ (a2.toInt = 1)) with h1 | h1 | h1 | h1
    · skip
      refine ⟨(-1), zv_h0, zv_h0, ?_, rfl, ?_, zv_len⟩
      · show Wp _ _ 69 0 [some (.ref 0), some (.int 0), some (.int a2), none, none] [] zv_h0 _
        refine Wp.steps 3 (pc1 := 5) (lo1 := [some (.ref 0), some (.int 0), some (.int a2), none, none]) (st1 := [.int 0, .ref 1]) (h1 := zv_h0) rfl ?_
        refine Wp.call (as := [.ref 1, .int 0]) (rest := []) rfl rfl rfl rfl rfl rfl rfl rfl rfl ?_
        show Wp _ _ 21 0 [some (.ref 1), some (.int 0)] [] zv_h0 _
        refine Wp.steps 9 (pc1 := 15) (lo1 := [some (.ref 1), some (.int 0)]) (st1 := [.int 1]) (h1 := zv_h0) rfl ?_
        refine Wp.steps 1 (pc1 := 19) (lo1 := [some (.ref 1), some (.int 0)]) (st1 := [.int 1]) (h1 := zv_h0) rfl ?_
        refine Wp.ret rfl rfl rfl ?_
        show Wp _ _ 69 8 [some (.ref 0), some (.int 0), some (.int a2), none, none] [.int 1] zv_h0 _
        refine Wp.steps 2 (pc1 := 12) (lo1 := [some (.ref 0), some (.int 0), some (.int a2), none, none]) (st1 := [.int a2]) (h1 := zv_h0) rfl ?_
        refine Wp.call (as := [.int a2]) (rest := []) rfl rfl rfl rfl rfl rfl rfl rfl rfl ?_
        show Wp _ _ 95 0 [some (.int a2)] [] zv_h0 _
        refine Wp.steps 1 (pc1 := 1) (lo1 := [some (.int a2)]) (st1 := [.int a2]) (h1 := zv_h0) rfl ?_
        refine Wp.ifF (i := .nop) rfl (zq_F rfl (by decide) (show a2.toInt ≠ 0 by omega)) ?_
        show Wp _ _ 95 4 [some (.int a2)] [] zv_h0 _
        refine Wp.steps 2 (pc1 := 6) (lo1 := [some (.int a2)]) (st1 := [.int 1, .int a2]) (h1 := zv_h0) rfl ?_
        refine Wp.icF (i := .nop) rfl (zq_F rfl (by decide) (show a2.toInt ≠ 1 by omega)) ?_
        show Wp _ _ 95 9 [some (.int a2)] [] zv_h0 _
        refine Wp.steps 2 (pc1 := 14) (lo1 := [some (.int a2)]) (st1 := [.int 1]) (h1 := zv_h0) rfl ?_
        refine Wp.ret rfl rfl rfl ?_
        show Wp _ _ 69 15 [some (.ref 0), some (.int 0), some (.int a2), none, none] [.int 1] zv_h0 _
        refine Wp.steps 2 (pc1 := 19) (lo1 := [some (.ref 0), some (.int 0), some (.int a2), none, none]) (st1 := [.int (-1)]) (h1 := zv_h0) rfl ?_
        exact Wp.ret rfl rfl rfl ⟨rfl, rfl⟩
      · show Wp _ _ 156 0 [some (.ref 113), some (.int 0), some (.int a2), none, none] [] zv_h0 _
        refine Wp.steps 2 (pc1 := 2) (lo1 := [some (.ref 113), some (.int 0), some (.int a2), none, none]) (st1 := [.int 0, .ref 113]) (h1 := zv_h0) rfl ?_
        refine Wp.call (as := [.ref 113, .int 0]) (rest := []) rfl rfl rfl rfl rfl rfl rfl rfl rfl ?_
        show Wp _ _ 135 0 [some (.ref 113), some (.int 0)] [] zv_h0 _
        refine Wp.steps 8 (pc1 := 11) (lo1 := [some (.ref 113), some (.int 0)]) (st1 := [.int 0, .int 1, .long 0, .long 0]) (h1 := zv_h0) rfl ?_
        refine Wp.steps 4 (pc1 := 15) (lo1 := [some (.ref 113), some (.int 0)]) (st1 := [.long 0, .long 0, .long 0]) (h1 := zv_h0) rfl ?_
        refine Wp.call (as := [.long 0, .long 0, .long 0]) (rest := []) rfl rfl rfl rfl rfl rfl rfl rfl rfl ?_
        show Wp _ _ 107 0 [some (.long 0), none, some (.long 0), none, some (.long 0), none] [] zv_h0 _
        refine Wp.steps 9 (pc1 := 14) (lo1 := [some (.long 0), none, some (.long 0), none, some (.long 0), none]) (st1 := [.int 1]) (h1 := zv_h0) rfl ?_
        refine Wp.steps 1 (pc1 := 18) (lo1 := [some (.long 0), none, some (.long 0), none, some (.long 0), none]) (st1 := [.int 1]) (h1 := zv_h0) rfl ?_
        refine Wp.ret rfl rfl rfl ?_
        show Wp _ _ 135 18 [some (.ref 113), some (.int 0)] [.int 1] zv_h0 _
        refine Wp.ret rfl rfl rfl ?_
        show Wp _ _ 156 5 [some (.ref 113), some (.int 0), some (.int a2), none, none] [.int 1] zv_h0 _
        refine Wp.steps 5 (pc1 := 12) (lo1 := [some (.ref 113), some (.int 0), some (.int a2), none, none]) (st1 := [.long 1, .long 0, .long (a2).toInt64]) (h1 := zv_h0) rfl ?_
        refine Wp.call (as := [.long (a2).toInt64, .long 0, .long 1]) (rest := []) rfl rfl rfl rfl rfl rfl rfl rfl rfl ?_
        refine zin_F (Int32.toInt_toInt64 _) (by decide) (by decide) (show a2.toInt < (0 : Int) ∨ (1 : Int) < a2.toInt by omega) ?_
        show Wp _ _ 156 15 [some (.ref 113), some (.int 0), some (.int a2), none, none] [.int 0] zv_h0 _
        refine Wp.steps 2 (pc1 := 19) (lo1 := [some (.ref 113), some (.int 0), some (.int a2), none, none]) (st1 := [.int (-1)]) (h1 := zv_h0) rfl ?_
        exact Wp.ret rfl rfl rfl ⟨rfl, rfl⟩
    · skip
      refine ⟨(-1), zv_h0, zv_h0, ?_, rfl, ?_, zv_len⟩
      · show Wp _ _ 69 0 [some (.ref 0), some (.int 0), some (.int a2), none, none] [] zv_h0 _
        refine Wp.steps 3 (pc1 := 5) (lo1 := [some (.ref 0), some (.int 0), some (.int a2), none, none]) (st1 := [.int 0, .ref 1]) (h1 := zv_h0) rfl ?_
        refine Wp.call (as := [.ref 1, .int 0]) (rest := []) rfl rfl rfl rfl rfl rfl rfl rfl rfl ?_
        show Wp _ _ 21 0 [some (.ref 1), some (.int 0)] [] zv_h0 _
        refine Wp.steps 9 (pc1 := 15) (lo1 := [some (.ref 1), some (.int 0)]) (st1 := [.int 1]) (h1 := zv_h0) rfl ?_
        refine Wp.steps 1 (pc1 := 19) (lo1 := [some (.ref 1), some (.int 0)]) (st1 := [.int 1]) (h1 := zv_h0) rfl ?_
        refine Wp.ret rfl rfl rfl ?_
        show Wp _ _ 69 8 [some (.ref 0), some (.int 0), some (.int a2), none, none] [.int 1] zv_h0 _
        refine Wp.steps 2 (pc1 := 12) (lo1 := [some (.ref 0), some (.int 0), some (.int a2), none, none]) (st1 := [.int a2]) (h1 := zv_h0) rfl ?_
        refine Wp.call (as := [.int a2]) (rest := []) rfl rfl rfl rfl rfl rfl rfl rfl rfl ?_
        show Wp _ _ 95 0 [some (.int a2)] [] zv_h0 _
        refine Wp.steps 1 (pc1 := 1) (lo1 := [some (.int a2)]) (st1 := [.int a2]) (h1 := zv_h0) rfl ?_
        refine Wp.ifF (i := .nop) rfl (zq_F rfl (by decide) (show a2.toInt ≠ 0 by omega)) ?_
        show Wp _ _ 95 4 [some (.int a2)] [] zv_h0 _
        refine Wp.steps 2 (pc1 := 6) (lo1 := [some (.int a2)]) (st1 := [.int 1, .int a2]) (h1 := zv_h0) rfl ?_
        refine Wp.icF (i := .nop) rfl (zq_F rfl (by decide) (show a2.toInt ≠ 1 by omega)) ?_
        show Wp _ _ 95 9 [some (.int a2)] [] zv_h0 _
        refine Wp.steps 2 (pc1 := 14) (lo1 := [some (.int a2)]) (st1 := [.int 1]) (h1 := zv_h0) rfl ?_
        refine Wp.ret rfl rfl rfl ?_
        show Wp _ _ 69 15 [some (.ref 0), some (.int 0), some (.int a2), none, none] [.int 1] zv_h0 _
        refine Wp.steps 2 (pc1 := 19) (lo1 := [some (.ref 0), some (.int 0), some (.int a2), none, none]) (st1 := [.int (-1)]) (h1 := zv_h0) rfl ?_
        exact Wp.ret rfl rfl rfl ⟨rfl, rfl⟩
      · show Wp _ _ 156 0 [some (.ref 113), some (.int 0), some (.int a2), none, none] [] zv_h0 _
        refine Wp.steps 2 (pc1 := 2) (lo1 := [some (.ref 113), some (.int 0), some (.int a2), none, none]) (st1 := [.int 0, .ref 113]) (h1 := zv_h0) rfl ?_
        refine Wp.call (as := [.ref 113, .int 0]) (rest := []) rfl rfl rfl rfl rfl rfl rfl rfl rfl ?_
        show Wp _ _ 135 0 [some (.ref 113), some (.int 0)] [] zv_h0 _
        refine Wp.steps 8 (pc1 := 11) (lo1 := [some (.ref 113), some (.int 0)]) (st1 := [.int 0, .int 1, .long 0, .long 0]) (h1 := zv_h0) rfl ?_
        refine Wp.steps 4 (pc1 := 15) (lo1 := [some (.ref 113), some (.int 0)]) (st1 := [.long 0, .long 0, .long 0]) (h1 := zv_h0) rfl ?_
        refine Wp.call (as := [.long 0, .long 0, .long 0]) (rest := []) rfl rfl rfl rfl rfl rfl rfl rfl rfl ?_
        show Wp _ _ 107 0 [some (.long 0), none, some (.long 0), none, some (.long 0), none] [] zv_h0 _
        refine Wp.steps 9 (pc1 := 14) (lo1 := [some (.long 0), none, some (.long 0), none, some (.long 0), none]) (st1 := [.int 1]) (h1 := zv_h0) rfl ?_
        refine Wp.steps 1 (pc1 := 18) (lo1 := [some (.long 0), none, some (.long 0), none, some (.long 0), none]) (st1 := [.int 1]) (h1 := zv_h0) rfl ?_
        refine Wp.ret rfl rfl rfl ?_
        show Wp _ _ 135 18 [some (.ref 113), some (.int 0)] [.int 1] zv_h0 _
        refine Wp.ret rfl rfl rfl ?_
        show Wp _ _ 156 5 [some (.ref 113), some (.int 0), some (.int a2), none, none] [.int 1] zv_h0 _
        refine Wp.steps 5 (pc1 := 12) (lo1 := [some (.ref 113), some (.int 0), some (.int a2), none, none]) (st1 := [.long 1, .long 0, .long (a2).toInt64]) (h1 := zv_h0) rfl ?_
        refine Wp.call (as := [.long (a2).toInt64, .long 0, .long 1]) (rest := []) rfl rfl rfl rfl rfl rfl rfl rfl rfl ?_
        refine zin_F (Int32.toInt_toInt64 _) (by decide) (by decide) (show a2.toInt < (0 : Int) ∨ (1 : Int) < a2.toInt by omega) ?_
        show Wp _ _ 156 15 [some (.ref 113), some (.int 0), some (.int a2), none, none] [.int 0] zv_h0 _
        refine Wp.steps 2 (pc1 := 19) (lo1 := [some (.ref 113), some (.int 0), some (.int a2), none, none]) (st1 := [.int (-1)]) (h1 := zv_h0) rfl ?_
        exact Wp.ret rfl rfl rfl ⟨rfl, rfl⟩
    · skip
      obtain rfl : a2 = 0 := Int32.toInt_inj.mp (h1.trans (by decide))
      exact zv_Pi_of (by decide +kernel)
    · skip
      obtain rfl : a2 = 1 := Int32.toInt_inj.mp (h1.trans (by decide))
      exact zv_Pi_of (by decide +kernel)
set_option maxRecDepth 100000 in
set_option maxHeartbeats 4000000 in
theorem zr_16 (a1 : Int32) : zv_Pi 70 160 [.int a1] := by
  rcases (by omega : (a1.toInt ≤ -1) ∨ (5 ≤ a1.toInt) ∨ (a1.toInt = 0) ∨ (a1.toInt = 1) ∨ (a1.toInt = 2) ∨ (a1.toInt = 3) ∨ (a1.toInt = 4)) with h0 | h0 | h0 | h0 | h0 | h0 | h0
  · skip
    refine ⟨(-1), zv_h0, zv_h0, ?_, rfl, ?_, zv_len⟩
    · show Wp _ _ 70 0 [some (.ref 0), some (.int a1), none, none, none, none, none, none] [] zv_h0 _
      refine Wp.steps 1 (pc1 := 1) (lo1 := [some (.ref 0), some (.int a1), none, none, none, none, none, none]) (st1 := [.int a1]) (h1 := zv_h0) rfl ?_
      refine Wp.ifT (i := .nop) rfl (zq_T rfl (by decide) (show a1.toInt < 0 by omega)) ?_
      show Wp _ _ 70 9 [some (.ref 0), some (.int a1), none, none, none, none, none, none] [] zv_h0 _
      refine Wp.steps 1 (pc1 := 10) (lo1 := [some (.ref 0), some (.int a1), none, none, none, none, none, none]) (st1 := [.int (-1)]) (h1 := zv_h0) rfl ?_
      exact Wp.ret rfl rfl rfl ⟨rfl, rfl⟩
    · show Wp _ _ 160 0 [some (.ref 113), some (.int a1), none, none, none, none, none, none] [] zv_h0 _
      refine Wp.steps 4 (pc1 := 6) (lo1 := [some (.ref 113), some (.int a1), none, none, none, none, none, none]) (st1 := [.long 4, .long 0, .long (a1).toInt64]) (h1 := zv_h0) rfl ?_
      refine Wp.call (as := [.long (a1).toInt64, .long 0, .long 4]) (rest := []) rfl rfl rfl rfl rfl rfl rfl rfl rfl ?_
      refine zin_F (Int32.toInt_toInt64 _) (by decide) (by decide) (show a1.toInt < (0 : Int) ∨ (4 : Int) < a1.toInt by omega) ?_
      show Wp _ _ 160 9 [some (.ref 113), some (.int a1), none, none, none, none, none, none] [.int 0] zv_h0 _
      refine Wp.steps 2 (pc1 := 13) (lo1 := [some (.ref 113), some (.int a1), none, none, none, none, none, none]) (st1 := [.int (-1)]) (h1 := zv_h0) rfl ?_
      exact Wp.ret rfl rfl rfl ⟨rfl, rfl⟩
  · skip
    refine ⟨(-1), zv_h0, zv_h0, ?_, rfl, ?_, zv_len⟩
    · show Wp _ _ 70 0 [some (.ref 0), some (.int a1), none, none, none, none, none, none] [] zv_h0 _
      refine Wp.steps 1 (pc1 := 1) (lo1 := [some (.ref 0), some (.int a1), none, none, none, none, none, none]) (st1 := [.int a1]) (h1 := zv_h0) rfl ?_
      refine Wp.ifF (i := .nop) rfl (zq_F rfl (by decide) (show a1.toInt ≥ 0 by omega)) ?_
      show Wp _ _ 70 4 [some (.ref 0), some (.int a1), none, none, none, none, none, none] [] zv_h0 _
      refine Wp.steps 2 (pc1 := 6) (lo1 := [some (.ref 0), some (.int a1), none, none, none, none, none, none]) (st1 := [.int 4, .int a1]) (h1 := zv_h0) rfl ?_
      refine Wp.icF (i := .nop) rfl (zq_F rfl (by decide) (show a1.toInt > 4 by omega)) ?_
      show Wp _ _ 70 9 [some (.ref 0), some (.int a1), none, none, none, none, none, none] [] zv_h0 _
      refine Wp.steps 1 (pc1 := 10) (lo1 := [some (.ref 0), some (.int a1), none, none, none, none, none, none]) (st1 := [.int (-1)]) (h1 := zv_h0) rfl ?_
      exact Wp.ret rfl rfl rfl ⟨rfl, rfl⟩
    · show Wp _ _ 160 0 [some (.ref 113), some (.int a1), none, none, none, none, none, none] [] zv_h0 _
      refine Wp.steps 4 (pc1 := 6) (lo1 := [some (.ref 113), some (.int a1), none, none, none, none, none, none]) (st1 := [.long 4, .long 0, .long (a1).toInt64]) (h1 := zv_h0) rfl ?_
      refine Wp.call (as := [.long (a1).toInt64, .long 0, .long 4]) (rest := []) rfl rfl rfl rfl rfl rfl rfl rfl rfl ?_
      refine zin_F (Int32.toInt_toInt64 _) (by decide) (by decide) (show a1.toInt < (0 : Int) ∨ (4 : Int) < a1.toInt by omega) ?_
      show Wp _ _ 160 9 [some (.ref 113), some (.int a1), none, none, none, none, none, none] [.int 0] zv_h0 _
      refine Wp.steps 2 (pc1 := 13) (lo1 := [some (.ref 113), some (.int a1), none, none, none, none, none, none]) (st1 := [.int (-1)]) (h1 := zv_h0) rfl ?_
      exact Wp.ret rfl rfl rfl ⟨rfl, rfl⟩
  · skip
    obtain rfl : a1 = 0 := Int32.toInt_inj.mp (h0.trans (by decide))
    exact zv_Pi_of (by decide +kernel)
  · skip
    obtain rfl : a1 = 1 := Int32.toInt_inj.mp (h0.trans (by decide))
    exact zv_Pi_of (by decide +kernel)
  · skip
    obtain rfl : a1 = 2 := Int32.toInt_inj.mp (h0.trans (by decide))
    exact zv_Pi_of (by decide +kernel)
  · skip
    obtain rfl : a1 = 3 := Int32.toInt_inj.mp (h0.trans (by decide))
    exact zv_Pi_of (by decide +kernel)
  · skip
    obtain rfl : a1 = 4 := Int32.toInt_inj.mp (h0.trans (by decide))
    exact zv_Pi_of (by decide +kernel)
set_option maxRecDepth 100000 in
set_option maxHeartbeats 4000000 in
theorem zr_17 : zv_Pi 71 162 [] := by
  exact zv_Pi_of (by decide +kernel)
set_option maxRecDepth 100000 in
set_option maxHeartbeats 4000000 in
theorem zr_18 (a1 : Int32) : zv_Pi 72 165 [.int a1] := by
  rcases (by omega : (a1.toInt ≤ -1) ∨ (3 ≤ a1.toInt) ∨ (a1.toInt = 0) ∨ (a1.toInt = 1) ∨ (a1.toInt = 2)) with h0 | h0 | h0 | h0 | h0
  · skip
    refine ⟨(-1), zv_h0, zv_h0, ?_, rfl, ?_, zv_len⟩
    · show Wp _ _ 72 0 [some (.ref 0), some (.int a1), none] [] zv_h0 _
      refine Wp.steps 1 (pc1 := 1) (lo1 := [some (.ref 0), some (.int a1), none]) (st1 := [.int a1]) (h1 := zv_h0) rfl ?_
      refine Wp.ifT (i := .nop) rfl (zq_T rfl (by decide) (show a1.toInt < 0 by omega)) ?_
      show Wp _ _ 72 9 [some (.ref 0), some (.int a1), none] [] zv_h0 _
      refine Wp.steps 1 (pc1 := 10) (lo1 := [some (.ref 0), some (.int a1), none]) (st1 := [.int (-1)]) (h1 := zv_h0) rfl ?_
      exact Wp.ret rfl rfl rfl ⟨rfl, rfl⟩
    · show Wp _ _ 165 0 [some (.ref 113), some (.int a1), none, none] [] zv_h0 _
      refine Wp.steps 4 (pc1 := 6) (lo1 := [some (.ref 113), some (.int a1), none, none]) (st1 := [.long 2, .long 0, .long (a1).toInt64]) (h1 := zv_h0) rfl ?_
      refine Wp.call (as := [.long (a1).toInt64, .long 0, .long 2]) (rest := []) rfl rfl rfl rfl rfl rfl rfl rfl rfl ?_
      refine zin_F (Int32.toInt_toInt64 _) (by decide) (by decide) (show a1.toInt < (0 : Int) ∨ (2 : Int) < a1.toInt by omega) ?_
      show Wp _ _ 165 9 [some (.ref 113), some (.int a1), none, none] [.int 0] zv_h0 _
      refine Wp.steps 2 (pc1 := 13) (lo1 := [some (.ref 113), some (.int a1), none, none]) (st1 := [.int (-1)]) (h1 := zv_h0) rfl ?_
      exact Wp.ret rfl rfl rfl ⟨rfl, rfl⟩
  · skip
    refine ⟨(-1), zv_h0, zv_h0, ?_, rfl, ?_, zv_len⟩
    · show Wp _ _ 72 0 [some (.ref 0), some (.int a1), none] [] zv_h0 _
      refine Wp.steps 1 (pc1 := 1) (lo1 := [some (.ref 0), some (.int a1), none]) (st1 := [.int a1]) (h1 := zv_h0) rfl ?_
      refine Wp.ifF (i := .nop) rfl (zq_F rfl (by decide) (show a1.toInt ≥ 0 by omega)) ?_
      show Wp _ _ 72 4 [some (.ref 0), some (.int a1), none] [] zv_h0 _
      refine Wp.steps 2 (pc1 := 6) (lo1 := [some (.ref 0), some (.int a1), none]) (st1 := [.int 2, .int a1]) (h1 := zv_h0) rfl ?_
      refine Wp.icF (i := .nop) rfl (zq_F rfl (by decide) (show a1.toInt > 2 by omega)) ?_
      show Wp _ _ 72 9 [some (.ref 0), some (.int a1), none] [] zv_h0 _
      refine Wp.steps 1 (pc1 := 10) (lo1 := [some (.ref 0), some (.int a1), none]) (st1 := [.int (-1)]) (h1 := zv_h0) rfl ?_
      exact Wp.ret rfl rfl rfl ⟨rfl, rfl⟩
    · show Wp _ _ 165 0 [some (.ref 113), some (.int a1), none, none] [] zv_h0 _
      refine Wp.steps 4 (pc1 := 6) (lo1 := [some (.ref 113), some (.int a1), none, none]) (st1 := [.long 2, .long 0, .long (a1).toInt64]) (h1 := zv_h0) rfl ?_
      refine Wp.call (as := [.long (a1).toInt64, .long 0, .long 2]) (rest := []) rfl rfl rfl rfl rfl rfl rfl rfl rfl ?_
      refine zin_F (Int32.toInt_toInt64 _) (by decide) (by decide) (show a1.toInt < (0 : Int) ∨ (2 : Int) < a1.toInt by omega) ?_
      show Wp _ _ 165 9 [some (.ref 113), some (.int a1), none, none] [.int 0] zv_h0 _
      refine Wp.steps 2 (pc1 := 13) (lo1 := [some (.ref 113), some (.int a1), none, none]) (st1 := [.int (-1)]) (h1 := zv_h0) rfl ?_
      exact Wp.ret rfl rfl rfl ⟨rfl, rfl⟩
  · skip
    obtain rfl : a1 = 0 := Int32.toInt_inj.mp (h0.trans (by decide))
    exact zv_Pi_of (by decide +kernel)
  · skip
    obtain rfl : a1 = 1 := Int32.toInt_inj.mp (h0.trans (by decide))
    exact zv_Pi_of (by decide +kernel)
  · skip
    obtain rfl : a1 = 2 := Int32.toInt_inj.mp (h0.trans (by decide))
    exact zv_Pi_of (by decide +kernel)
set_option maxRecDepth 100000 in
set_option maxHeartbeats 4000000 in
theorem zr_19 (a1 : Int32) : zv_Pi 73 167 [.int a1] := by
  rcases (by omega : (a1.toInt ≤ -1) ∨ (2 ≤ a1.toInt) ∨ (a1.toInt = 0) ∨ (a1.toInt = 1)) with h0 | h0 | h0 | h0
  · skip
    refine ⟨(-1), zv_h0, zv_h0, ?_, rfl, ?_, zv_len⟩
    · show Wp _ _ 73 0 [some (.ref 0), some (.int a1), none, none, none, none] [] zv_h0 _
      refine Wp.steps 1 (pc1 := 1) (lo1 := [some (.ref 0), some (.int a1), none, none, none, none]) (st1 := [.int a1]) (h1 := zv_h0) rfl ?_
      refine Wp.call (as := [.int a1]) (rest := []) rfl rfl rfl rfl rfl rfl rfl rfl rfl ?_
      show Wp _ _ 95 0 [some (.int a1)] [] zv_h0 _
      refine Wp.steps 1 (pc1 := 1) (lo1 := [some (.int a1)]) (st1 := [.int a1]) (h1 := zv_h0) rfl ?_
      refine Wp.ifF (i := .nop) rfl (zq_F rfl (by decide) (show a1.toInt ≠ 0 by omega)) ?_
      show Wp _ _ 95 4 [some (.int a1)] [] zv_h0 _
      refine Wp.steps 2 (pc1 := 6) (lo1 := [some (.int a1)]) (st1 := [.int 1, .int a1]) (h1 := zv_h0) rfl ?_
      refine Wp.icF (i := .nop) rfl (zq_F rfl (by decide) (show a1.toInt ≠ 1 by omega)) ?_
      show Wp _ _ 95 9 [some (.int a1)] [] zv_h0 _
      refine Wp.steps 2 (pc1 := 14) (lo1 := [some (.int a1)]) (st1 := [.int 1]) (h1 := zv_h0) rfl ?_
      refine Wp.ret rfl rfl rfl ?_
      show Wp _ _ 73 4 [some (.ref 0), some (.int a1), none, none, none, none] [.int 1] zv_h0 _
      refine Wp.steps 2 (pc1 := 8) (lo1 := [some (.ref 0), some (.int a1), none, none, none, none]) (st1 := [.int (-1)]) (h1 := zv_h0) rfl ?_
      exact Wp.ret rfl rfl rfl ⟨rfl, rfl⟩
    · show Wp _ _ 167 0 [some (.ref 113), some (.int a1), none, none, none, none, none, none] [] zv_h0 _
      refine Wp.steps 4 (pc1 := 4) (lo1 := [some (.ref 113), some (.int a1), none, none, none, none, none, none]) (st1 := [.long 1, .long 0, .long (a1).toInt64]) (h1 := zv_h0) rfl ?_
      refine Wp.call (as := [.long (a1).toInt64, .long 0, .long 1]) (rest := []) rfl rfl rfl rfl rfl rfl rfl rfl rfl ?_
      refine zin_F (Int32.toInt_toInt64 _) (by decide) (by decide) (show a1.toInt < (0 : Int) ∨ (1 : Int) < a1.toInt by omega) ?_
      show Wp _ _ 167 7 [some (.ref 113), some (.int a1), none, none, none, none, none, none] [.int 0] zv_h0 _
      refine Wp.steps 2 (pc1 := 11) (lo1 := [some (.ref 113), some (.int a1), none, none, none, none, none, none]) (st1 := [.int (-1)]) (h1 := zv_h0) rfl ?_
      exact Wp.ret rfl rfl rfl ⟨rfl, rfl⟩
  · skip
    refine ⟨(-1), zv_h0, zv_h0, ?_, rfl, ?_, zv_len⟩
    · show Wp _ _ 73 0 [some (.ref 0), some (.int a1), none, none, none, none] [] zv_h0 _
      refine Wp.steps 1 (pc1 := 1) (lo1 := [some (.ref 0), some (.int a1), none, none, none, none]) (st1 := [.int a1]) (h1 := zv_h0) rfl ?_
      refine Wp.call (as := [.int a1]) (rest := []) rfl rfl rfl rfl rfl rfl rfl rfl rfl ?_
      show Wp _ _ 95 0 [some (.int a1)] [] zv_h0 _
      refine Wp.steps 1 (pc1 := 1) (lo1 := [some (.int a1)]) (st1 := [.int a1]) (h1 := zv_h0) rfl ?_
      refine Wp.ifF (i := .nop) rfl (zq_F rfl (by decide) (show a1.toInt ≠ 0 by omega)) ?_
      show Wp _ _ 95 4 [some (.int a1)] [] zv_h0 _
      refine Wp.steps 2 (pc1 := 6) (lo1 := [some (.int a1)]) (st1 := [.int 1, .int a1]) (h1 := zv_h0) rfl ?_
      refine Wp.icF (i := .nop) rfl (zq_F rfl (by decide) (show a1.toInt ≠ 1 by omega)) ?_
      show Wp _ _ 95 9 [some (.int a1)] [] zv_h0 _
      refine Wp.steps 2 (pc1 := 14) (lo1 := [some (.int a1)]) (st1 := [.int 1]) (h1 := zv_h0) rfl ?_
      refine Wp.ret rfl rfl rfl ?_
      show Wp _ _ 73 4 [some (.ref 0), some (.int a1), none, none, none, none] [.int 1] zv_h0 _
      refine Wp.steps 2 (pc1 := 8) (lo1 := [some (.ref 0), some (.int a1), none, none, none, none]) (st1 := [.int (-1)]) (h1 := zv_h0) rfl ?_
      exact Wp.ret rfl rfl rfl ⟨rfl, rfl⟩
    · show Wp _ _ 167 0 [some (.ref 113), some (.int a1), none, none, none, none, none, none] [] zv_h0 _
      refine Wp.steps 4 (pc1 := 4) (lo1 := [some (.ref 113), some (.int a1), none, none, none, none, none, none]) (st1 := [.long 1, .long 0, .long (a1).toInt64]) (h1 := zv_h0) rfl ?_
      refine Wp.call (as := [.long (a1).toInt64, .long 0, .long 1]) (rest := []) rfl rfl rfl rfl rfl rfl rfl rfl rfl ?_
      refine zin_F (Int32.toInt_toInt64 _) (by decide) (by decide) (show a1.toInt < (0 : Int) ∨ (1 : Int) < a1.toInt by omega) ?_
      show Wp _ _ 167 7 [some (.ref 113), some (.int a1), none, none, none, none, none, none] [.int 0] zv_h0 _
      refine Wp.steps 2 (pc1 := 11) (lo1 := [some (.ref 113), some (.int a1), none, none, none, none, none, none]) (st1 := [.int (-1)]) (h1 := zv_h0) rfl ?_
      exact Wp.ret rfl rfl rfl ⟨rfl, rfl⟩
  · skip
    obtain rfl : a1 = 0 := Int32.toInt_inj.mp (h0.trans (by decide))
    exact zv_Pi_of (by decide +kernel)
  · skip
    obtain rfl : a1 = 1 := Int32.toInt_inj.mp (h0.trans (by decide))
    exact zv_Pi_of (by decide +kernel)
set_option maxRecDepth 100000 in
set_option maxHeartbeats 4000000 in
theorem zr_20 (a1 a2 a3 a4 : Int32) : zv_Pi 74 168 [.int a1, .int a2, .int a3, .int a4] := by
  rcases (by omega : (a1.toInt ≤ -1) ∨ (0 ≤ a1.toInt)) with h0 | h0
  · skip
    refine ⟨(-1), zv_h0, zv_h0, ?_, rfl, ?_, zv_len⟩
    · show Wp _ _ 74 0 [some (.ref 0), some (.int a1), some (.int a2), some (.int a3), some (.int a4), none, none, none, none] [] zv_h0 _
      refine Wp.steps 4 (pc1 := 4) (lo1 := [some (.ref 0), some (.int a1), some (.int a2), some (.int a3), some (.int a4), none, none, none, none]) (st1 := [.int a3, .int a2, .int a1, .ref 0]) (h1 := zv_h0) rfl ?_
      refine Wp.call (as := [.ref 0, .int a1, .int a2, .int a3]) (rest := []) rfl rfl rfl rfl rfl rfl rfl rfl rfl ?_
      show Wp _ _ 96 0 [some (.ref 0), some (.int a1), some (.int a2), some (.int a3)] [] zv_h0 _
      refine Wp.steps 3 (pc1 := 5) (lo1 := [some (.ref 0), some (.int a1), some (.int a2), some (.int a3)]) (st1 := [.int a1, .ref 1]) (h1 := zv_h0) rfl ?_
      refine Wp.call (as := [.ref 1, .int a1]) (rest := []) rfl rfl rfl rfl rfl rfl rfl rfl rfl ?_
      show Wp _ _ 18 0 [some (.ref 1), some (.int a1)] [] zv_h0 _
      refine Wp.steps 1 (pc1 := 1) (lo1 := [some (.ref 1), some (.int a1)]) (st1 := [.int a1]) (h1 := zv_h0) rfl ?_
      refine Wp.ifT (i := .nop) rfl (zq_T rfl (by decide) (show a1.toInt < 0 by omega)) ?_
      show Wp _ _ 18 16 [some (.ref 1), some (.int a1)] [] zv_h0 _
      refine Wp.steps 1 (pc1 := 17) (lo1 := [some (.ref 1), some (.int a1)]) (st1 := [.int 0]) (h1 := zv_h0) rfl ?_
      refine Wp.ret rfl rfl rfl ?_
      show Wp _ _ 96 8 [some (.ref 0), some (.int a1), some (.int a2), some (.int a3)] [.int 0] zv_h0 _
      refine Wp.steps 3 (pc1 := 34) (lo1 := [some (.ref 0), some (.int a1), some (.int a2), some (.int a3)]) (st1 := [.int 1]) (h1 := zv_h0) rfl ?_
      refine Wp.ret rfl rfl rfl ?_
      show Wp _ _ 74 7 [some (.ref 0), some (.int a1), some (.int a2), some (.int a3), some (.int a4), none, none, none, none] [.int 1] zv_h0 _
      refine Wp.steps 2 (pc1 := 19) (lo1 := [some (.ref 0), some (.int a1), some (.int a2), some (.int a3), some (.int a4), none, none, none, none]) (st1 := [.int (-1)]) (h1 := zv_h0) rfl ?_
      exact Wp.ret rfl rfl rfl ⟨rfl, rfl⟩
    · show Wp _ _ 168 0 [some (.ref 113), some (.int a1), some (.int a2), some (.int a3), some (.int a4), none, none, none, none] [] zv_h0 _
      refine Wp.steps 2 (pc1 := 2) (lo1 := [some (.ref 113), some (.int a1), some (.int a2), some (.int a3), some (.int a4), none, none, none, none]) (st1 := [.int a1, .ref 113]) (h1 := zv_h0) rfl ?_
      refine Wp.call (as := [.ref 113, .int a1]) (rest := []) rfl rfl rfl rfl rfl rfl rfl rfl rfl ?_
      show Wp _ _ 131 0 [some (.ref 113), some (.int a1)] [] zv_h0 _
      refine Wp.steps 8 (pc1 := 10) (lo1 := [some (.ref 113), some (.int a1)]) (st1 := [.long (-1), .long 0, .long (a1).toInt64]) (h1 := zv_h0) rfl ?_
      refine Wp.call (as := [.long (a1).toInt64, .long 0, .long (-1)]) (rest := []) rfl rfl rfl rfl rfl rfl rfl rfl rfl ?_
      refine zin_F (Int32.toInt_toInt64 _) (by decide) (by decide) (show a1.toInt < (0 : Int) ∨ (-1 : Int) < a1.toInt by omega) ?_
      show Wp _ _ 131 13 [some (.ref 113), some (.int a1)] [.int 0] zv_h0 _
      refine Wp.ret rfl rfl rfl ?_
      show Wp _ _ 168 5 [some (.ref 113), some (.int a1), some (.int a2), some (.int a3), some (.int a4), none, none, none, none] [.int 0] zv_h0 _
      refine Wp.steps 2 (pc1 := 35) (lo1 := [some (.ref 113), some (.int a1), some (.int a2), some (.int a3), some (.int a4), none, none, none, none]) (st1 := [.int (-1)]) (h1 := zv_h0) rfl ?_
      exact Wp.ret rfl rfl rfl ⟨rfl, rfl⟩
  · skip
    refine ⟨(-1), zv_h0, zv_h0, ?_, rfl, ?_, zv_len⟩
    · show Wp _ _ 74 0 [some (.ref 0), some (.int a1), some (.int a2), some (.int a3), some (.int a4), none, none, none, none] [] zv_h0 _
      refine Wp.steps 4 (pc1 := 4) (lo1 := [some (.ref 0), some (.int a1), some (.int a2), some (.int a3), some (.int a4), none, none, none, none]) (st1 := [.int a3, .int a2, .int a1, .ref 0]) (h1 := zv_h0) rfl ?_
      refine Wp.call (as := [.ref 0, .int a1, .int a2, .int a3]) (rest := []) rfl rfl rfl rfl rfl rfl rfl rfl rfl ?_
      show Wp _ _ 96 0 [some (.ref 0), some (.int a1), some (.int a2), some (.int a3)] [] zv_h0 _
      refine Wp.steps 3 (pc1 := 5) (lo1 := [some (.ref 0), some (.int a1), some (.int a2), some (.int a3)]) (st1 := [.int a1, .ref 1]) (h1 := zv_h0) rfl ?_
      refine Wp.call (as := [.ref 1, .int a1]) (rest := []) rfl rfl rfl rfl rfl rfl rfl rfl rfl ?_
      show Wp _ _ 18 0 [some (.ref 1), some (.int a1)] [] zv_h0 _
      refine Wp.steps 1 (pc1 := 1) (lo1 := [some (.ref 1), some (.int a1)]) (st1 := [.int a1]) (h1 := zv_h0) rfl ?_
      refine Wp.ifF (i := .nop) rfl (zq_F rfl (by decide) (show a1.toInt ≥ 0 by omega)) ?_
      show Wp _ _ 18 4 [some (.ref 1), some (.int a1)] [] zv_h0 _
      refine Wp.steps 3 (pc1 := 9) (lo1 := [some (.ref 1), some (.int a1)]) (st1 := [.int 0, .int a1]) (h1 := zv_h0) rfl ?_
      refine Wp.icT (i := .nop) rfl (zq_T rfl (by decide) (show a1.toInt ≥ 0 by omega)) ?_
      show Wp _ _ 18 16 [some (.ref 1), some (.int a1)] [] zv_h0 _
      refine Wp.steps 1 (pc1 := 17) (lo1 := [some (.ref 1), some (.int a1)]) (st1 := [.int 0]) (h1 := zv_h0) rfl ?_
      refine Wp.ret rfl rfl rfl ?_
      show Wp _ _ 96 8 [some (.ref 0), some (.int a1), some (.int a2), some (.int a3)] [.int 0] zv_h0 _
      refine Wp.steps 3 (pc1 := 34) (lo1 := [some (.ref 0), some (.int a1), some (.int a2), some (.int a3)]) (st1 := [.int 1]) (h1 := zv_h0) rfl ?_
      refine Wp.ret rfl rfl rfl ?_
      show Wp _ _ 74 7 [some (.ref 0), some (.int a1), some (.int a2), some (.int a3), some (.int a4), none, none, none, none] [.int 1] zv_h0 _
      refine Wp.steps 2 (pc1 := 19) (lo1 := [some (.ref 0), some (.int a1), some (.int a2), some (.int a3), some (.int a4), none, none, none, none]) (st1 := [.int (-1)]) (h1 := zv_h0) rfl ?_
      exact Wp.ret rfl rfl rfl ⟨rfl, rfl⟩
    · show Wp _ _ 168 0 [some (.ref 113), some (.int a1), some (.int a2), some (.int a3), some (.int a4), none, none, none, none] [] zv_h0 _
      refine Wp.steps 2 (pc1 := 2) (lo1 := [some (.ref 113), some (.int a1), some (.int a2), some (.int a3), some (.int a4), none, none, none, none]) (st1 := [.int a1, .ref 113]) (h1 := zv_h0) rfl ?_
      refine Wp.call (as := [.ref 113, .int a1]) (rest := []) rfl rfl rfl rfl rfl rfl rfl rfl rfl ?_
      show Wp _ _ 131 0 [some (.ref 113), some (.int a1)] [] zv_h0 _
      refine Wp.steps 8 (pc1 := 10) (lo1 := [some (.ref 113), some (.int a1)]) (st1 := [.long (-1), .long 0, .long (a1).toInt64]) (h1 := zv_h0) rfl ?_
      refine Wp.call (as := [.long (a1).toInt64, .long 0, .long (-1)]) (rest := []) rfl rfl rfl rfl rfl rfl rfl rfl rfl ?_
      refine zin_F (Int32.toInt_toInt64 _) (by decide) (by decide) (show a1.toInt < (0 : Int) ∨ (-1 : Int) < a1.toInt by omega) ?_
      show Wp _ _ 131 13 [some (.ref 113), some (.int a1)] [.int 0] zv_h0 _
      refine Wp.ret rfl rfl rfl ?_
      show Wp _ _ 168 5 [some (.ref 113), some (.int a1), some (.int a2), some (.int a3), some (.int a4), none, none, none, none] [.int 0] zv_h0 _
      refine Wp.steps 2 (pc1 := 35) (lo1 := [some (.ref 113), some (.int a1), some (.int a2), some (.int a3), some (.int a4), none, none, none, none]) (st1 := [.int (-1)]) (h1 := zv_h0) rfl ?_
      exact Wp.ret rfl rfl rfl ⟨rfl, rfl⟩
set_option maxRecDepth 100000 in
set_option maxHeartbeats 4000000 in
theorem zr_21 (a1 a2 : Int32) : zv_Pi 75 169 [.int a1, .int a2] := by
  rcases (by omega : (a1.toInt ≤ -1) ∨ (0 ≤ a1.toInt)) with h0 | h0
  · skip
    refine ⟨(-1), zv_h0, zv_h0, ?_, rfl, ?_, zv_len⟩
    · show Wp _ _ 75 0 [some (.ref 0), some (.int a1), some (.int a2), none, none, none, none] [] zv_h0 _
      refine Wp.steps 3 (pc1 := 5) (lo1 := [some (.ref 0), some (.int a1), some (.int a2), none, none, none, none]) (st1 := [.int a1, .ref 1]) (h1 := zv_h0) rfl ?_
      refine Wp.call (as := [.ref 1, .int a1]) (rest := []) rfl rfl rfl rfl rfl rfl rfl rfl rfl ?_
      show Wp _ _ 20 0 [some (.ref 1), some (.int a1)] [] zv_h0 _
      refine Wp.steps 1 (pc1 := 1) (lo1 := [some (.ref 1), some (.int a1)]) (st1 := [.int a1]) (h1 := zv_h0) rfl ?_
      refine Wp.ifT (i := .nop) rfl (zq_T rfl (by decide) (show a1.toInt < 0 by omega)) ?_
      show Wp _ _ 20 16 [some (.ref 1), some (.int a1)] [] zv_h0 _
      refine Wp.steps 1 (pc1 := 17) (lo1 := [some (.ref 1), some (.int a1)]) (st1 := [.int 0]) (h1 := zv_h0) rfl ?_
      refine Wp.ret rfl rfl rfl ?_
      show Wp _ _ 75 8 [some (.ref 0), some (.int a1), some (.int a2), none, none, none, none] [.int 0] zv_h0 _
      refine Wp.steps 2 (pc1 := 19) (lo1 := [some (.ref 0), some (.int a1), some (.int a2), none, none, none, none]) (st1 := [.int (-1)]) (h1 := zv_h0) rfl ?_
      exact Wp.ret rfl rfl rfl ⟨rfl, rfl⟩
    · show Wp _ _ 169 0 [some (.ref 113), some (.int a1), some (.int a2), none, none, none, none, none, none] [] zv_h0 _
      refine Wp.steps 2 (pc1 := 2) (lo1 := [some (.ref 113), some (.int a1), some (.int a2), none, none, none, none, none, none]) (st1 := [.int a1, .ref 113]) (h1 := zv_h0) rfl ?_
      refine Wp.call (as := [.ref 113, .int a1]) (rest := []) rfl rfl rfl rfl rfl rfl rfl rfl rfl ?_
      show Wp _ _ 132 0 [some (.ref 113), some (.int a1)] [] zv_h0 _
      refine Wp.steps 8 (pc1 := 11) (lo1 := [some (.ref 113), some (.int a1)]) (st1 := [.int 1, .int 0, .long 0, .long (a1).toInt64]) (h1 := zv_h0) rfl ?_
      refine Wp.steps 2 (pc1 := 13) (lo1 := [some (.ref 113), some (.int a1)]) (st1 := [.long (-1), .long 0, .long (a1).toInt64]) (h1 := zv_h0) rfl ?_
      refine Wp.call (as := [.long (a1).toInt64, .long 0, .long (-1)]) (rest := []) rfl rfl rfl rfl rfl rfl rfl rfl rfl ?_
      refine zin_F (Int32.toInt_toInt64 _) (by decide) (by decide) (show a1.toInt < (0 : Int) ∨ (-1 : Int) < a1.toInt by omega) ?_
      show Wp _ _ 132 16 [some (.ref 113), some (.int a1)] [.int 0] zv_h0 _
      refine Wp.ret rfl rfl rfl ?_
      show Wp _ _ 169 5 [some (.ref 113), some (.int a1), some (.int a2), none, none, none, none, none, none] [.int 0] zv_h0 _
      refine Wp.steps 2 (pc1 := 19) (lo1 := [some (.ref 113), some (.int a1), some (.int a2), none, none, none, none, none, none]) (st1 := [.int (-1)]) (h1 := zv_h0) rfl ?_
      exact Wp.ret rfl rfl rfl ⟨rfl, rfl⟩
  · skip
    refine ⟨(-1), zv_h0, zv_h0, ?_, rfl, ?_, zv_len⟩
    · show Wp _ _ 75 0 [some (.ref 0), some (.int a1), some (.int a2), none, none, none, none] [] zv_h0 _
      refine Wp.steps 3 (pc1 := 5) (lo1 := [some (.ref 0), some (.int a1), some (.int a2), none, none, none, none]) (st1 := [.int a1, .ref 1]) (h1 := zv_h0) rfl ?_
      refine Wp.call (as := [.ref 1, .int a1]) (rest := []) rfl rfl rfl rfl rfl rfl rfl rfl rfl ?_
      show Wp _ _ 20 0 [some (.ref 1), some (.int a1)] [] zv_h0 _
      refine Wp.steps 1 (pc1 := 1) (lo1 := [some (.ref 1), some (.int a1)]) (st1 := [.int a1]) (h1 := zv_h0) rfl ?_
      refine Wp.ifF (i := .nop) rfl (zq_F rfl (by decide) (show a1.toInt ≥ 0 by omega)) ?_
      show Wp _ _ 20 4 [some (.ref 1), some (.int a1)] [] zv_h0 _
      refine Wp.steps 3 (pc1 := 9) (lo1 := [some (.ref 1), some (.int a1)]) (st1 := [.int 0, .int a1]) (h1 := zv_h0) rfl ?_
      refine Wp.icT (i := .nop) rfl (zq_T rfl (by decide) (show a1.toInt ≥ 0 by omega)) ?_
      show Wp _ _ 20 16 [some (.ref 1), some (.int a1)] [] zv_h0 _
      refine Wp.steps 1 (pc1 := 17) (lo1 := [some (.ref 1), some (.int a1)]) (st1 := [.int 0]) (h1 := zv_h0) rfl ?_
      refine Wp.ret rfl rfl rfl ?_
      show Wp _ _ 75 8 [some (.ref 0), some (.int a1), some (.int a2), none, none, none, none] [.int 0] zv_h0 _
      refine Wp.steps 2 (pc1 := 19) (lo1 := [some (.ref 0), some (.int a1), some (.int a2), none, none, none, none]) (st1 := [.int (-1)]) (h1 := zv_h0) rfl ?_
      exact Wp.ret rfl rfl rfl ⟨rfl, rfl⟩
    · show Wp _ _ 169 0 [some (.ref 113), some (.int a1), some (.int a2), none, none, none, none, none, none] [] zv_h0 _
      refine Wp.steps 2 (pc1 := 2) (lo1 := [some (.ref 113), some (.int a1), some (.int a2), none, none, none, none, none, none]) (st1 := [.int a1, .ref 113]) (h1 := zv_h0) rfl ?_
      refine Wp.call (as := [.ref 113, .int a1]) (rest := []) rfl rfl rfl rfl rfl rfl rfl rfl rfl ?_
      show Wp _ _ 132 0 [some (.ref 113), some (.int a1)] [] zv_h0 _
      refine Wp.steps 8 (pc1 := 11) (lo1 := [some (.ref 113), some (.int a1)]) (st1 := [.int 1, .int 0, .long 0, .long (a1).toInt64]) (h1 := zv_h0) rfl ?_
      refine Wp.steps 2 (pc1 := 13) (lo1 := [some (.ref 113), some (.int a1)]) (st1 := [.long (-1), .long 0, .long (a1).toInt64]) (h1 := zv_h0) rfl ?_
      refine Wp.call (as := [.long (a1).toInt64, .long 0, .long (-1)]) (rest := []) rfl rfl rfl rfl rfl rfl rfl rfl rfl ?_
      refine zin_F (Int32.toInt_toInt64 _) (by decide) (by decide) (show a1.toInt < (0 : Int) ∨ (-1 : Int) < a1.toInt by omega) ?_
      show Wp _ _ 132 16 [some (.ref 113), some (.int a1)] [.int 0] zv_h0 _
      refine Wp.ret rfl rfl rfl ?_
      show Wp _ _ 169 5 [some (.ref 113), some (.int a1), some (.int a2), none, none, none, none, none, none] [.int 0] zv_h0 _
      refine Wp.steps 2 (pc1 := 19) (lo1 := [some (.ref 113), some (.int a1), some (.int a2), none, none, none, none, none, none]) (st1 := [.int (-1)]) (h1 := zv_h0) rfl ?_
      exact Wp.ret rfl rfl rfl ⟨rfl, rfl⟩
set_option maxRecDepth 100000 in
set_option maxHeartbeats 4000000 in
theorem zr_22 (a1 a2 a3 : Int32) : zv_Pi 76 170 [.int a1, .int a2, .int a3] := by
  rcases (by omega : (a1.toInt ≤ -1) ∨ (0 ≤ a1.toInt)) with h0 | h0
  · skip
    refine ⟨(-1), zv_h0, zv_h0, ?_, rfl, ?_, zv_len⟩
    · show Wp _ _ 76 0 [some (.ref 0), some (.int a1), some (.int a2), some (.int a3), none, none, none] [] zv_h0 _
      refine Wp.steps 3 (pc1 := 5) (lo1 := [some (.ref 0), some (.int a1), some (.int a2), some (.int a3), none, none, none]) (st1 := [.int a1, .ref 1]) (h1 := zv_h0) rfl ?_
      refine Wp.call (as := [.ref 1, .int a1]) (rest := []) rfl rfl rfl rfl rfl rfl rfl rfl rfl ?_
      show Wp _ _ 18 0 [some (.ref 1), some (.int a1)] [] zv_h0 _
      refine Wp.steps 1 (pc1 := 1) (lo1 := [some (.ref 1), some (.int a1)]) (st1 := [.int a1]) (h1 := zv_h0) rfl ?_
      refine Wp.ifT (i := .nop) rfl (zq_T rfl (by decide) (show a1.toInt < 0 by omega)) ?_
      show Wp _ _ 18 16 [some (.ref 1), some (.int a1)] [] zv_h0 _
      refine Wp.steps 1 (pc1 := 17) (lo1 := [some (.ref 1), some (.int a1)]) (st1 := [.int 0]) (h1 := zv_h0) rfl ?_
      refine Wp.ret rfl rfl rfl ?_
      show Wp _ _ 76 8 [some (.ref 0), some (.int a1), some (.int a2), some (.int a3), none, none, none] [.int 0] zv_h0 _
      refine Wp.steps 2 (pc1 := 35) (lo1 := [some (.ref 0), some (.int a1), some (.int a2), some (.int a3), none, none, none]) (st1 := [.int (-1)]) (h1 := zv_h0) rfl ?_
      exact Wp.ret rfl rfl rfl ⟨rfl, rfl⟩
    · show Wp _ _ 170 0 [some (.ref 113), some (.int a1), some (.int a2), some (.int a3), none, none, none] [] zv_h0 _
      refine Wp.steps 2 (pc1 := 2) (lo1 := [some (.ref 113), some (.int a1), some (.int a2), some (.int a3), none, none, none]) (st1 := [.int a1, .ref 113]) (h1 := zv_h0) rfl ?_
      refine Wp.call (as := [.ref 113, .int a1]) (rest := []) rfl rfl rfl rfl rfl rfl rfl rfl rfl ?_
      show Wp _ _ 131 0 [some (.ref 113), some (.int a1)] [] zv_h0 _
      refine Wp.steps 8 (pc1 := 10) (lo1 := [some (.ref 113), some (.int a1)]) (st1 := [.long (-1), .long 0, .long (a1).toInt64]) (h1 := zv_h0) rfl ?_
      refine Wp.call (as := [.long (a1).toInt64, .long 0, .long (-1)]) (rest := []) rfl rfl rfl rfl rfl rfl rfl rfl rfl ?_
      refine zin_F (Int32.toInt_toInt64 _) (by decide) (by decide) (show a1.toInt < (0 : Int) ∨ (-1 : Int) < a1.toInt by omega) ?_
      show Wp _ _ 131 13 [some (.ref 113), some (.int a1)] [.int 0] zv_h0 _
      refine Wp.ret rfl rfl rfl ?_
      show Wp _ _ 170 5 [some (.ref 113), some (.int a1), some (.int a2), some (.int a3), none, none, none] [.int 0] zv_h0 _
      refine Wp.steps 2 (pc1 := 29) (lo1 := [some (.ref 113), some (.int a1), some (.int a2), some (.int a3), none, none, none]) (st1 := [.int (-1)]) (h1 := zv_h0) rfl ?_
      exact Wp.ret rfl rfl rfl ⟨rfl, rfl⟩
  · skip
    refine ⟨(-1), zv_h0, zv_h0, ?_, rfl, ?_, zv_len⟩
    · show Wp _ _ 76 0 [some (.ref 0), some (.int a1), some (.int a2), some (.int a3), none, none, none] [] zv_h0 _
      refine Wp.steps 3 (pc1 := 5) (lo1 := [some (.ref 0), some (.int a1), some (.int a2), some (.int a3), none, none, none]) (st1 := [.int a1, .ref 1]) (h1 := zv_h0) rfl ?_
      refine Wp.call (as := [.ref 1, .int a1]) (rest := []) rfl rfl rfl rfl rfl rfl rfl rfl rfl ?_
      show Wp _ _ 18 0 [some (.ref 1), some (.int a1)] [] zv_h0 _
      refine Wp.steps 1 (pc1 := 1) (lo1 := [some (.ref 1), some (.int a1)]) (st1 := [.int a1]) (h1 := zv_h0) rfl ?_
      refine Wp.ifF (i := .nop) rfl (zq_F rfl (by decide) (show a1.toInt ≥ 0 by omega)) ?_
      show Wp _ _ 18 4 [some (.ref 1), some (.int a1)] [] zv_h0 _
      refine Wp.steps 3 (pc1 := 9) (lo1 := [some (.ref 1), some (.int a1)]) (st1 := [.int 0, .int a1]) (h1 := zv_h0) rfl ?_
      refine Wp.icT (i := .nop) rfl (zq_T rfl (by decide) (show a1.toInt ≥ 0 by omega)) ?_
      show Wp _ _ 18 16 [some (.ref 1), some (.int a1)] [] zv_h0 _
      refine Wp.steps 1 (pc1 := 17) (lo1 := [some (.ref 1), some (.int a1)]) (st1 := [.int 0]) (h1 := zv_h0) rfl ?_
      refine Wp.ret rfl rfl rfl ?_
      show Wp _ _ 76 8 [some (.ref 0), some (.int a1), some (.int a2), some (.int a3), none, none, none] [.int 0] zv_h0 _
      refine Wp.steps 2 (pc1 := 35) (lo1 := [some (.ref 0), some (.int a1), some (.int a2), some (.int a3), none, none, none]) (st1 := [.int (-1)]) (h1 := zv_h0) rfl ?_
      exact Wp.ret rfl rfl rfl ⟨rfl, rfl⟩
    · show Wp _ _ 170 0 [some (.ref 113), some (.int a1), some (.int a2), some (.int a3), none, none, none] [] zv_h0 _
      refine Wp.steps 2 (pc1 := 2) (lo1 := [some (.ref 113), some (.int a1), some (.int a2), some (.int a3), none, none, none]) (st1 := [.int a1, .ref 113]) (h1 := zv_h0) rfl ?_
      refine Wp.call (as := [.ref 113, .int a1]) (rest := []) rfl rfl rfl rfl rfl rfl rfl rfl rfl ?_
      show Wp _ _ 131 0 [some (.ref 113), some (.int a1)] [] zv_h0 _
      refine Wp.steps 8 (pc1 := 10) (lo1 := [some (.ref 113), some (.int a1)]) (st1 := [.long (-1), .long 0, .long (a1).toInt64]) (h1 := zv_h0) rfl ?_
      refine Wp.call (as := [.long (a1).toInt64, .long 0, .long (-1)]) (rest := []) rfl rfl rfl rfl rfl rfl rfl rfl rfl ?_
      refine zin_F (Int32.toInt_toInt64 _) (by decide) (by decide) (show a1.toInt < (0 : Int) ∨ (-1 : Int) < a1.toInt by omega) ?_
      show Wp _ _ 131 13 [some (.ref 113), some (.int a1)] [.int 0] zv_h0 _
      refine Wp.ret rfl rfl rfl ?_
      show Wp _ _ 170 5 [some (.ref 113), some (.int a1), some (.int a2), some (.int a3), none, none, none] [.int 0] zv_h0 _
      refine Wp.steps 2 (pc1 := 29) (lo1 := [some (.ref 113), some (.int a1), some (.int a2), some (.int a3), none, none, none]) (st1 := [.int (-1)]) (h1 := zv_h0) rfl ?_
      exact Wp.ret rfl rfl rfl ⟨rfl, rfl⟩
set_option maxRecDepth 100000 in
set_option maxHeartbeats 4000000 in
theorem zr_23 (a1 : Int32) : zv_Pl 77 173 [.int a1] := by
  rcases (by omega : (a1.toInt ≤ -1) ∨ (2 ≤ a1.toInt) ∨ (a1.toInt = 0) ∨ (a1.toInt = 1)) with h0 | h0 | h0 | h0
  · skip
    refine ⟨(-1), zv_h0, zv_h0, ?_, rfl, ?_, zv_len⟩
    · show Wp _ _ 77 0 [some (.ref 0), some (.int a1)] [] zv_h0 _
      refine Wp.steps 1 (pc1 := 1) (lo1 := [some (.ref 0), some (.int a1)]) (st1 := [.int a1]) (h1 := zv_h0) rfl ?_
      refine Wp.call (as := [.int a1]) (rest := []) rfl rfl rfl rfl rfl rfl rfl rfl rfl ?_
      show Wp _ _ 95 0 [some (.int a1)] [] zv_h0 _
      refine Wp.steps 1 (pc1 := 1) (lo1 := [some (.int a1)]) (st1 := [.int a1]) (h1 := zv_h0) rfl ?_
      refine Wp.ifF (i := .nop) rfl (zq_F rfl (by decide) (show a1.toInt ≠ 0 by omega)) ?_
      show Wp _ _ 95 4 [some (.int a1)] [] zv_h0 _
      refine Wp.steps 2 (pc1 := 6) (lo1 := [some (.int a1)]) (st1 := [.int 1, .int a1]) (h1 := zv_h0) rfl ?_
      refine Wp.icF (i := .nop) rfl (zq_F rfl (by decide) (show a1.toInt ≠ 1 by omega)) ?_
      show Wp _ _ 95 9 [some (.int a1)] [] zv_h0 _
      refine Wp.steps 2 (pc1 := 14) (lo1 := [some (.int a1)]) (st1 := [.int 1]) (h1 := zv_h0) rfl ?_
      refine Wp.ret rfl rfl rfl ?_
      show Wp _ _ 77 4 [some (.ref 0), some (.int a1)] [.int 1] zv_h0 _
      refine Wp.steps 2 (pc1 := 10) (lo1 := [some (.ref 0), some (.int a1)]) (st1 := [.long (-1)]) (h1 := zv_h0) rfl ?_
      exact Wp.ret rfl rfl rfl ⟨rfl, rfl⟩
    · show Wp _ _ 173 0 [some (.ref 113), some (.int a1), none, none, none] [] zv_h0 _
      refine Wp.steps 4 (pc1 := 4) (lo1 := [some (.ref 113), some (.int a1), none, none, none]) (st1 := [.long 1, .long 0, .long (a1).toInt64]) (h1 := zv_h0) rfl ?_
      refine Wp.call (as := [.long (a1).toInt64, .long 0, .long 1]) (rest := []) rfl rfl rfl rfl rfl rfl rfl rfl rfl ?_
      refine zin_F (Int32.toInt_toInt64 _) (by decide) (by decide) (show a1.toInt < (0 : Int) ∨ (1 : Int) < a1.toInt by omega) ?_
      show Wp _ _ 173 7 [some (.ref 113), some (.int a1), none, none, none] [.int 0] zv_h0 _
      refine Wp.steps 2 (pc1 := 13) (lo1 := [some (.ref 113), some (.int a1), none, none, none]) (st1 := [.long (-1)]) (h1 := zv_h0) rfl ?_
      exact Wp.ret rfl rfl rfl ⟨rfl, rfl⟩
  · skip
    refine ⟨(-1), zv_h0, zv_h0, ?_, rfl, ?_, zv_len⟩
    · show Wp _ _ 77 0 [some (.ref 0), some (.int a1)] [] zv_h0 _
      refine Wp.steps 1 (pc1 := 1) (lo1 := [some (.ref 0), some (.int a1)]) (st1 := [.int a1]) (h1 := zv_h0) rfl ?_
      refine Wp.call (as := [.int a1]) (rest := []) rfl rfl rfl rfl rfl rfl rfl rfl rfl ?_
      show Wp _ _ 95 0 [some (.int a1)] [] zv_h0 _
      refine Wp.steps 1 (pc1 := 1) (lo1 := [some (.int a1)]) (st1 := [.int a1]) (h1 := zv_h0) rfl ?_
      refine Wp.ifF (i := .nop) rfl (zq_F rfl (by decide) (show a1.toInt ≠ 0 by omega)) ?_
      show Wp _ _ 95 4 [some (.int a1)] [] zv_h0 _
      refine Wp.steps 2 (pc1 := 6) (lo1 := [some (.int a1)]) (st1 := [.int 1, .int a1]) (h1 := zv_h0) rfl ?_
      refine Wp.icF (i := .nop) rfl (zq_F rfl (by decide) (show a1.toInt ≠ 1 by omega)) ?_
      show Wp _ _ 95 9 [some (.int a1)] [] zv_h0 _
      refine Wp.steps 2 (pc1 := 14) (lo1 := [some (.int a1)]) (st1 := [.int 1]) (h1 := zv_h0) rfl ?_
      refine Wp.ret rfl rfl rfl ?_
      show Wp _ _ 77 4 [some (.ref 0), some (.int a1)] [.int 1] zv_h0 _
      refine Wp.steps 2 (pc1 := 10) (lo1 := [some (.ref 0), some (.int a1)]) (st1 := [.long (-1)]) (h1 := zv_h0) rfl ?_
      exact Wp.ret rfl rfl rfl ⟨rfl, rfl⟩
    · show Wp _ _ 173 0 [some (.ref 113), some (.int a1), none, none, none] [] zv_h0 _
      refine Wp.steps 4 (pc1 := 4) (lo1 := [some (.ref 113), some (.int a1), none, none, none]) (st1 := [.long 1, .long 0, .long (a1).toInt64]) (h1 := zv_h0) rfl ?_
      refine Wp.call (as := [.long (a1).toInt64, .long 0, .long 1]) (rest := []) rfl rfl rfl rfl rfl rfl rfl rfl rfl ?_
      refine zin_F (Int32.toInt_toInt64 _) (by decide) (by decide) (show a1.toInt < (0 : Int) ∨ (1 : Int) < a1.toInt by omega) ?_
      show Wp _ _ 173 7 [some (.ref 113), some (.int a1), none, none, none] [.int 0] zv_h0 _
      refine Wp.steps 2 (pc1 := 13) (lo1 := [some (.ref 113), some (.int a1), none, none, none]) (st1 := [.long (-1)]) (h1 := zv_h0) rfl ?_
      exact Wp.ret rfl rfl rfl ⟨rfl, rfl⟩
  · skip
    obtain rfl : a1 = 0 := Int32.toInt_inj.mp (h0.trans (by decide))
    exact zv_Pl_of (by decide +kernel)
  · skip
    obtain rfl : a1 = 1 := Int32.toInt_inj.mp (h0.trans (by decide))
    exact zv_Pl_of (by decide +kernel)
set_option maxRecDepth 100000 in
set_option maxHeartbeats 4000000 in
theorem zr_24 (a1 a2 a3 a4 : Int32) : zv_Pl 78 174 [.int a1, .int a2, .int a3, .int a4] := by
  rcases (by omega : (a1.toInt ≤ -1) ∨ (0 ≤ a1.toInt)) with h0 | h0
  · skip
    refine ⟨(-1), zv_h0, zv_h0, ?_, rfl, ?_, zv_len⟩
    · show Wp _ _ 78 0 [some (.ref 0), some (.int a1), some (.int a2), some (.int a3), some (.int a4)] [] zv_h0 _
      refine Wp.steps 4 (pc1 := 4) (lo1 := [some (.ref 0), some (.int a1), some (.int a2), some (.int a3), some (.int a4)]) (st1 := [.int a3, .int a2, .int a1, .ref 0]) (h1 := zv_h0) rfl ?_
      refine Wp.call (as := [.ref 0, .int a1, .int a2, .int a3]) (rest := []) rfl rfl rfl rfl rfl rfl rfl rfl rfl ?_
      show Wp _ _ 96 0 [some (.ref 0), some (.int a1), some (.int a2), some (.int a3)] [] zv_h0 _
      refine Wp.steps 3 (pc1 := 5) (lo1 := [some (.ref 0), some (.int a1), some (.int a2), some (.int a3)]) (st1 := [.int a1, .ref 1]) (h1 := zv_h0) rfl ?_
      refine Wp.call (as := [.ref 1, .int a1]) (rest := []) rfl rfl rfl rfl rfl rfl rfl rfl rfl ?_
      show Wp _ _ 18 0 [some (.ref 1), some (.int a1)] [] zv_h0 _
      refine Wp.steps 1 (pc1 := 1) (lo1 := [some (.ref 1), some (.int a1)]) (st1 := [.int a1]) (h1 := zv_h0) rfl ?_
      refine Wp.ifT (i := .nop) rfl (zq_T rfl (by decide) (show a1.toInt < 0 by omega)) ?_
      show Wp _ _ 18 16 [some (.ref 1), some (.int a1)] [] zv_h0 _
      refine Wp.steps 1 (pc1 := 17) (lo1 := [some (.ref 1), some (.int a1)]) (st1 := [.int 0]) (h1 := zv_h0) rfl ?_
      refine Wp.ret rfl rfl rfl ?_
      show Wp _ _ 96 8 [some (.ref 0), some (.int a1), some (.int a2), some (.int a3)] [.int 0] zv_h0 _
      refine Wp.steps 3 (pc1 := 34) (lo1 := [some (.ref 0), some (.int a1), some (.int a2), some (.int a3)]) (st1 := [.int 1]) (h1 := zv_h0) rfl ?_
      refine Wp.ret rfl rfl rfl ?_
      show Wp _ _ 78 7 [some (.ref 0), some (.int a1), some (.int a2), some (.int a3), some (.int a4)] [.int 1] zv_h0 _
      refine Wp.steps 2 (pc1 := 21) (lo1 := [some (.ref 0), some (.int a1), some (.int a2), some (.int a3), some (.int a4)]) (st1 := [.long (-1)]) (h1 := zv_h0) rfl ?_
      exact Wp.ret rfl rfl rfl ⟨rfl, rfl⟩
    · show Wp _ _ 174 0 [some (.ref 113), some (.int a1), some (.int a2), some (.int a3), some (.int a4), none, none, none] [] zv_h0 _
      refine Wp.steps 2 (pc1 := 2) (lo1 := [some (.ref 113), some (.int a1), some (.int a2), some (.int a3), some (.int a4), none, none, none]) (st1 := [.int a1, .ref 113]) (h1 := zv_h0) rfl ?_
      refine Wp.call (as := [.ref 113, .int a1]) (rest := []) rfl rfl rfl rfl rfl rfl rfl rfl rfl ?_
      show Wp _ _ 131 0 [some (.ref 113), some (.int a1)] [] zv_h0 _
      refine Wp.steps 8 (pc1 := 10) (lo1 := [some (.ref 113), some (.int a1)]) (st1 := [.long (-1), .long 0, .long (a1).toInt64]) (h1 := zv_h0) rfl ?_
      refine Wp.call (as := [.long (a1).toInt64, .long 0, .long (-1)]) (rest := []) rfl rfl rfl rfl rfl rfl rfl rfl rfl ?_
      refine zin_F (Int32.toInt_toInt64 _) (by decide) (by decide) (show a1.toInt < (0 : Int) ∨ (-1 : Int) < a1.toInt by omega) ?_
      show Wp _ _ 131 13 [some (.ref 113), some (.int a1)] [.int 0] zv_h0 _
      refine Wp.ret rfl rfl rfl ?_
      show Wp _ _ 174 5 [some (.ref 113), some (.int a1), some (.int a2), some (.int a3), some (.int a4), none, none, none] [.int 0] zv_h0 _
      refine Wp.steps 2 (pc1 := 37) (lo1 := [some (.ref 113), some (.int a1), some (.int a2), some (.int a3), some (.int a4), none, none, none]) (st1 := [.long (-1)]) (h1 := zv_h0) rfl ?_
      exact Wp.ret rfl rfl rfl ⟨rfl, rfl⟩
  · skip
    refine ⟨(-1), zv_h0, zv_h0, ?_, rfl, ?_, zv_len⟩
    · show Wp _ _ 78 0 [some (.ref 0), some (.int a1), some (.int a2), some (.int a3), some (.int a4)] [] zv_h0 _
      refine Wp.steps 4 (pc1 := 4) (lo1 := [some (.ref 0), some (.int a1), some (.int a2), some (.int a3), some (.int a4)]) (st1 := [.int a3, .int a2, .int a1, .ref 0]) (h1 := zv_h0) rfl ?_
      refine Wp.call (as := [.ref 0, .int a1, .int a2, .int a3]) (rest := []) rfl rfl rfl rfl rfl rfl rfl rfl rfl ?_
      show Wp _ _ 96 0 [some (.ref 0), some (.int a1), some (.int a2), some (.int a3)] [] zv_h0 _
      refine Wp.steps 3 (pc1 := 5) (lo1 := [some (.ref 0), some (.int a1), some (.int a2), some (.int a3)]) (st1 := [.int a1, .ref 1]) (h1 := zv_h0) rfl ?_
      refine Wp.call (as := [.ref 1, .int a1]) (rest := []) rfl rfl rfl rfl rfl rfl rfl rfl rfl ?_
      show Wp _ _ 18 0 [some (.ref 1), some (.int a1)] [] zv_h0 _
      refine Wp.steps 1 (pc1 := 1) (lo1 := [some (.ref 1), some (.int a1)]) (st1 := [.int a1]) (h1 := zv_h0) rfl ?_
      refine Wp.ifF (i := .nop) rfl (zq_F rfl (by decide) (show a1.toInt ≥ 0 by omega)) ?_
      show Wp _ _ 18 4 [some (.ref 1), some (.int a1)] [] zv_h0 _
      refine Wp.steps 3 (pc1 := 9) (lo1 := [some (.ref 1), some (.int a1)]) (st1 := [.int 0, .int a1]) (h1 := zv_h0) rfl ?_
      refine Wp.icT (i := .nop) rfl (zq_T rfl (by decide) (show a1.toInt ≥ 0 by omega)) ?_
      show Wp _ _ 18 16 [some (.ref 1), some (.int a1)] [] zv_h0 _
      refine Wp.steps 1 (pc1 := 17) (lo1 := [some (.ref 1), some (.int a1)]) (st1 := [.int 0]) (h1 := zv_h0) rfl ?_
      refine Wp.ret rfl rfl rfl ?_
      show Wp _ _ 96 8 [some (.ref 0), some (.int a1), some (.int a2), some (.int a3)] [.int 0] zv_h0 _
      refine Wp.steps 3 (pc1 := 34) (lo1 := [some (.ref 0), some (.int a1), some (.int a2), some (.int a3)]) (st1 := [.int 1]) (h1 := zv_h0) rfl ?_
      refine Wp.ret rfl rfl rfl ?_
      show Wp _ _ 78 7 [some (.ref 0), some (.int a1), some (.int a2), some (.int a3), some (.int a4)] [.int 1] zv_h0 _
      refine Wp.steps 2 (pc1 := 21) (lo1 := [some (.ref 0), some (.int a1), some (.int a2), some (.int a3), some (.int a4)]) (st1 := [.long (-1)]) (h1 := zv_h0) rfl ?_
      exact Wp.ret rfl rfl rfl ⟨rfl, rfl⟩
    · show Wp _ _ 174 0 [some (.ref 113), some (.int a1), some (.int a2), some (.int a3), some (.int a4), none, none, none] [] zv_h0 _
      refine Wp.steps 2 (pc1 := 2) (lo1 := [some (.ref 113), some (.int a1), some (.int a2), some (.int a3), some (.int a4), none, none, none]) (st1 := [.int a1, .ref 113]) (h1 := zv_h0) rfl ?_
      refine Wp.call (as := [.ref 113, .int a1]) (rest := []) rfl rfl rfl rfl rfl rfl rfl rfl rfl ?_
      show Wp _ _ 131 0 [some (.ref 113), some (.int a1)] [] zv_h0 _
      refine Wp.steps 8 (pc1 := 10) (lo1 := [some (.ref 113), some (.int a1)]) (st1 := [.long (-1), .long 0, .long (a1).toInt64]) (h1 := zv_h0) rfl ?_
      refine Wp.call (as := [.long (a1).toInt64, .long 0, .long (-1)]) (rest := []) rfl rfl rfl rfl rfl rfl rfl rfl rfl ?_
      refine zin_F (Int32.toInt_toInt64 _) (by decide) (by decide) (show a1.toInt < (0 : Int) ∨ (-1 : Int) < a1.toInt by omega) ?_
      show Wp _ _ 131 13 [some (.ref 113), some (.int a1)] [.int 0] zv_h0 _
      refine Wp.ret rfl rfl rfl ?_
      show Wp _ _ 174 5 [some (.ref 113), some (.int a1), some (.int a2), some (.int a3), some (.int a4), none, none, none] [.int 0] zv_h0 _
      refine Wp.steps 2 (pc1 := 37) (lo1 := [some (.ref 113), some (.int a1), some (.int a2), some (.int a3), some (.int a4), none, none, none]) (st1 := [.long (-1)]) (h1 := zv_h0) rfl ?_
      exact Wp.ret rfl rfl rfl ⟨rfl, rfl⟩
