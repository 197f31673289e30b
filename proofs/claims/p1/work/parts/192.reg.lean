set_option maxRecDepth 100000 in
set_option maxHeartbeats 4000000 in
theorem zr_25_0 (a1 a2 a3 : Int32) : zv_Pi 79 175 [.int a1, .int a2, .int a3, .int 0] := by
  rcases (by omega : (a1.toInt ≤ -1) ∨ (0 ≤ a1.toInt)) with h0 | h0
  · skip
    refine ⟨(-1), zv_h0, zv_h0, ?_, rfl, ?_, zv_len⟩
    · show Wp _ _ 79 0 [some (.ref 0), some (.int a1), some (.int a2), some (.int a3), some (.int 0), none] [] zv_h0 _
      refine Wp.steps 4 (pc1 := 4) (lo1 := [some (.ref 0), some (.int a1), some (.int a2), some (.int a3), some (.int 0), none]) (st1 := [.int a3, .int a2, .int a1, .ref 0]) (h1 := zv_h0) rfl ?_
      refine Wp.call (as := [.ref 0, .int a1, .int a2, .int a3]) (rest := []) rfl rfl rfl rfl rfl rfl rfl rfl rfl ?_
      show Wp _ _ 96 0 [some (.ref 0), some (.int a1), some (.int a2), some (.int a3)] [] zv_h0 _
      refine Wp.steps 3 (pc1 := 5) (lo1 := [some (.ref 0), some (.int a1), some (.int a2), some (.int a3)]) (st1 := [.int a1, .ref 1]) (h1 := zv_h0) rfl ?_
      refine Wp.call (as := [.ref 1, .int a1]) (rest := []) rfl rfl rfl rfl rfl rfl rfl rfl rfl ?_
      show Wp _ _ 18 0 [some (.ref 1), some (.int a1)] [] zv_h0 _
      refine Wp.steps 1 (pc1 := 1) (lo1 := [some (.ref 1), some (.int a1)]) (st1 := [.int a1]) (h1 := zv_h0) rfl ?_
      refine Wp.ifT (i := .nop) rfl (zq_T rfl (by decide) (show a1.toInt < 0 by omega)) ?_
      show Wp _ _ 18 16 [some (.ref 1), some (.int a1)] [] zv_h0 _
      refine Wp.steps 1 (pc1 := 17) (lo1 := [some (.ref 1), some (.int a1)]) (st1 := [.int 0]) (h1 := zv_h0) rfl ?_
      refine Wp.ret rfl rfl rfl ?_
      show Wp _ _ 96 8 [some (.ref 0), some (.int a1), some (.int a2), some (.int a3)] [.int 0] zv_h0 _
      refine Wp.steps 3 (pc1 := 34) (lo1 := [some (.ref 0), some (.int a1), some (.int a2), some (.int a3)]) (st1 := [.int 1]) (h1 := zv_h0) rfl ?_
      refine Wp.ret rfl rfl rfl ?_
      show Wp _ _ 79 7 [some (.ref 0), some (.int a1), some (.int a2), some (.int a3), some (.int 0), none] [.int 1] zv_h0 _
      refine Wp.steps 2 (pc1 := 11) (lo1 := [some (.ref 0), some (.int a1), some (.int a2), some (.int a3), some (.int 0), none]) (st1 := [.int (-1)]) (h1 := zv_h0) rfl ?_
      exact Wp.ret rfl rfl rfl ⟨rfl, rfl⟩
    · show Wp _ _ 175 0 [some (.ref 113), some (.int a1), some (.int a2), some (.int a3), some (.int 0), none] [] zv_h0 _
      refine Wp.steps 2 (pc1 := 2) (lo1 := [some (.ref 113), some (.int a1), some (.int a2), some (.int a3), some (.int 0), none]) (st1 := [.int a1, .ref 113]) (h1 := zv_h0) rfl ?_
      refine Wp.call (as := [.ref 113, .int a1]) (rest := []) rfl rfl rfl rfl rfl rfl rfl rfl rfl ?_
      show Wp _ _ 131 0 [some (.ref 113), some (.int a1)] [] zv_h0 _
      refine Wp.steps 8 (pc1 := 10) (lo1 := [some (.ref 113), some (.int a1)]) (st1 := [.long (-1), .long 0, .long (a1).toInt64]) (h1 := zv_h0) rfl ?_
      refine Wp.call (as := [.long (a1).toInt64, .long 0, .long (-1)]) (rest := []) rfl rfl rfl rfl rfl rfl rfl rfl rfl ?_
      refine zin_F (Int32.toInt_toInt64 _) (by decide) (by decide) (show a1.toInt < (0 : Int) ∨ (-1 : Int) < a1.toInt by omega) ?_
      show Wp _ _ 131 13 [some (.ref 113), some (.int a1)] [.int 0] zv_h0 _
      refine Wp.ret rfl rfl rfl ?_
      show Wp _ _ 175 5 [some (.ref 113), some (.int a1), some (.int a2), some (.int a3), some (.int 0), none] [.int 0] zv_h0 _
      refine Wp.steps 2 (pc1 := 24) (lo1 := [some (.ref 113), some (.int a1), some (.int a2), some (.int a3), some (.int 0), none]) (st1 := [.int (-1)]) (h1 := zv_h0) rfl ?_
      exact Wp.ret rfl rfl rfl ⟨rfl, rfl⟩
  · skip
    refine ⟨(-1), zv_h0, zv_h0, ?_, rfl, ?_, zv_len⟩
    · show Wp _ _ 79 0 [some (.ref 0), some (.int a1), some (.int a2), some (.int a3), some (.int 0), none] [] zv_h0 _
      refine Wp.steps 4 (pc1 := 4) (lo1 := [some (.ref 0), some (.int a1), some (.int a2), some (.int a3), some (.int 0), none]) (st1 := [.int a3, .int a2, .int a1, .ref 0]) (h1 := zv_h0) rfl ?_
      refine Wp.call (as := [.ref 0, .int a1, .int a2, .int a3]) (rest := []) rfl rfl rfl rfl rfl rfl rfl rfl rfl ?_
      show Wp _ _ 96 0 [some (.ref 0), some (.int a1), some (.int a2), some (.int a3)] [] zv_h0 _
      refine Wp.steps 3 (pc1 := 5) (lo1 := [some (.ref 0), some (.int a1), some (.int a2), some (.int a3)]) (st1 := [.int a1, .ref 1]) (h1 := zv_h0) rfl ?_
      refine Wp.call (as := [.ref 1, .int a1]) (rest := []) rfl rfl rfl rfl rfl rfl rfl rfl rfl ?_
      show Wp _ _ 18 0 [some (.ref 1), some (.int a1)] [] zv_h0 _
      refine Wp.steps 1 (pc1 := 1) (lo1 := [some (.ref 1), some (.int a1)]) (st1 := [.int a1]) (h1 := zv_h0) rfl ?_
      refine Wp.ifF (i := .nop) rfl (zq_F rfl (by decide) (show a1.toInt ≥ 0 by omega)) ?_
      show Wp _ _ 18 4 [some (.ref 1), some (.int a1)] [] zv_h0 _
      refine Wp.steps 3 (pc1 := 9) (lo1 := [some (.ref 1), some (.int a1)]) (st1 := [.int 0, .int a1]) (h1 := zv_h0) rfl ?_
      refine Wp.icT (i := .nop) rfl (zq_T rfl (by decide) (show a1.toInt ≥ 0 by omega)) ?_
      show Wp _ _ 18 16 [some (.ref 1), some (.int a1)] [] zv_h0 _
      refine Wp.steps 1 (pc1 := 17) (lo1 := [some (.ref 1), some (.int a1)]) (st1 := [.int 0]) (h1 := zv_h0) rfl ?_
      refine Wp.ret rfl rfl rfl ?_
      show Wp _ _ 96 8 [some (.ref 0), some (.int a1), some (.int a2), some (.int a3)] [.int 0] zv_h0 _
      refine Wp.steps 3 (pc1 := 34) (lo1 := [some (.ref 0), some (.int a1), some (.int a2), some (.int a3)]) (st1 := [.int 1]) (h1 := zv_h0) rfl ?_
      refine Wp.ret rfl rfl rfl ?_
      show Wp _ _ 79 7 [some (.ref 0), some (.int a1), some (.int a2), some (.int a3), some (.int 0), none] [.int 1] zv_h0 _
      refine Wp.steps 2 (pc1 := 11) (lo1 := [some (.ref 0), some (.int a1), some (.int a2), some (.int a3), some (.int 0), none]) (st1 := [.int (-1)]) (h1 := zv_h0) rfl ?_
      exact Wp.ret rfl rfl rfl ⟨rfl, rfl⟩
    · show Wp _ _ 175 0 [some (.ref 113), some (.int a1), some (.int a2), some (.int a3), some (.int 0), none] [] zv_h0 _
      refine Wp.steps 2 (pc1 := 2) (lo1 := [some (.ref 113), some (.int a1), some (.int a2), some (.int a3), some (.int 0), none]) (st1 := [.int a1, .ref 113]) (h1 := zv_h0) rfl ?_
      refine Wp.call (as := [.ref 113, .int a1]) (rest := []) rfl rfl rfl rfl rfl rfl rfl rfl rfl ?_
      show Wp _ _ 131 0 [some (.ref 113), some (.int a1)] [] zv_h0 _
      refine Wp.steps 8 (pc1 := 10) (lo1 := [some (.ref 113), some (.int a1)]) (st1 := [.long (-1), .long 0, .long (a1).toInt64]) (h1 := zv_h0) rfl ?_
      refine Wp.call (as := [.long (a1).toInt64, .long 0, .long (-1)]) (rest := []) rfl rfl rfl rfl rfl rfl rfl rfl rfl ?_
      refine zin_F (Int32.toInt_toInt64 _) (by decide) (by decide) (show a1.toInt < (0 : Int) ∨ (-1 : Int) < a1.toInt by omega) ?_
      show Wp _ _ 131 13 [some (.ref 113), some (.int a1)] [.int 0] zv_h0 _
      refine Wp.ret rfl rfl rfl ?_
      show Wp _ _ 175 5 [some (.ref 113), some (.int a1), some (.int a2), some (.int a3), some (.int 0), none] [.int 0] zv_h0 _
      refine Wp.steps 2 (pc1 := 24) (lo1 := [some (.ref 113), some (.int a1), some (.int a2), some (.int a3), some (.int 0), none]) (st1 := [.int (-1)]) (h1 := zv_h0) rfl ?_
      exact Wp.ret rfl rfl rfl ⟨rfl, rfl⟩
set_option maxRecDepth 100000 in
set_option maxHeartbeats 4000000 in
theorem zr_25_1 (a1 a2 a3 : Int32) : zv_Pi 79 175 [.int a1, .int a2, .int a3, .int 1] := by
  rcases (by omega : (a1.toInt ≤ -1) ∨ (0 ≤ a1.toInt)) with h0 | h0
  · skip
    refine ⟨(-1), zv_h0, zv_h0, ?_, rfl, ?_, zv_len⟩
    · show Wp _ _ 79 0 [some (.ref 0), some (.int a1), some (.int a2), some (.int a3), some (.int 1), none] [] zv_h0 _
      refine Wp.steps 4 (pc1 := 4) (lo1 := [some (.ref 0), some (.int a1), some (.int a2), some (.int a3), some (.int 1), none]) (st1 := [.int a3, .int a2, .int a1, .ref 0]) (h1 := zv_h0) rfl ?_
      refine Wp.call (as := [.ref 0, .int a1, .int a2, .int a3]) (rest := []) rfl rfl rfl rfl rfl rfl rfl rfl rfl ?_
      show Wp _ _ 96 0 [some (.ref 0), some (.int a1), some (.int a2), some (.int a3)] [] zv_h0 _
      refine Wp.steps 3 (pc1 := 5) (lo1 := [some (.ref 0), some (.int a1), some (.int a2), some (.int a3)]) (st1 := [.int a1, .ref 1]) (h1 := zv_h0) rfl ?_
      refine Wp.call (as := [.ref 1, .int a1]) (rest := []) rfl rfl rfl rfl rfl rfl rfl rfl rfl ?_
      show Wp _ _ 18 0 [some (.ref 1), some (.int a1)] [] zv_h0 _
      refine Wp.steps 1 (pc1 := 1) (lo1 := [some (.ref 1), some (.int a1)]) (st1 := [.int a1]) (h1 := zv_h0) rfl ?_
      refine Wp.ifT (i := .nop) rfl (zq_T rfl (by decide) (show a1.toInt < 0 by omega)) ?_
      show Wp _ _ 18 16 [some (.ref 1), some (.int a1)] [] zv_h0 _
      refine Wp.steps 1 (pc1 := 17) (lo1 := [some (.ref 1), some (.int a1)]) (st1 := [.int 0]) (h1 := zv_h0) rfl ?_
      refine Wp.ret rfl rfl rfl ?_
      show Wp _ _ 96 8 [some (.ref 0), some (.int a1), some (.int a2), some (.int a3)] [.int 0] zv_h0 _
      refine Wp.steps 3 (pc1 := 34) (lo1 := [some (.ref 0), some (.int a1), some (.int a2), some (.int a3)]) (st1 := [.int 1]) (h1 := zv_h0) rfl ?_
      refine Wp.ret rfl rfl rfl ?_
      show Wp _ _ 79 7 [some (.ref 0), some (.int a1), some (.int a2), some (.int a3), some (.int 1), none] [.int 1] zv_h0 _
      refine Wp.steps 2 (pc1 := 11) (lo1 := [some (.ref 0), some (.int a1), some (.int a2), some (.int a3), some (.int 1), none]) (st1 := [.int (-1)]) (h1 := zv_h0) rfl ?_
      exact Wp.ret rfl rfl rfl ⟨rfl, rfl⟩
    · show Wp _ _ 175 0 [some (.ref 113), some (.int a1), some (.int a2), some (.int a3), some (.int 1), none] [] zv_h0 _
      refine Wp.steps 2 (pc1 := 2) (lo1 := [some (.ref 113), some (.int a1), some (.int a2), some (.int a3), some (.int 1), none]) (st1 := [.int a1, .ref 113]) (h1 := zv_h0) rfl ?_
      refine Wp.call (as := [.ref 113, .int a1]) (rest := []) rfl rfl rfl rfl rfl rfl rfl rfl rfl ?_
      show Wp _ _ 131 0 [some (.ref 113), some (.int a1)] [] zv_h0 _
      refine Wp.steps 8 (pc1 := 10) (lo1 := [some (.ref 113), some (.int a1)]) (st1 := [.long (-1), .long 0, .long (a1).toInt64]) (h1 := zv_h0) rfl ?_
      refine Wp.call (as := [.long (a1).toInt64, .long 0, .long (-1)]) (rest := []) rfl rfl rfl rfl rfl rfl rfl rfl rfl ?_
      refine zin_F (Int32.toInt_toInt64 _) (by decide) (by decide) (show a1.toInt < (0 : Int) ∨ (-1 : Int) < a1.toInt by omega) ?_
      show Wp _ _ 131 13 [some (.ref 113), some (.int a1)] [.int 0] zv_h0 _
      refine Wp.ret rfl rfl rfl ?_
      show Wp _ _ 175 5 [some (.ref 113), some (.int a1), some (.int a2), some (.int a3), some (.int 1), none] [.int 0] zv_h0 _
      refine Wp.steps 2 (pc1 := 24) (lo1 := [some (.ref 113), some (.int a1), some (.int a2), some (.int a3), some (.int 1), none]) (st1 := [.int (-1)]) (h1 := zv_h0) rfl ?_
      exact Wp.ret rfl rfl rfl ⟨rfl, rfl⟩
  · skip
    refine ⟨(-1), zv_h0, zv_h0, ?_, rfl, ?_, zv_len⟩
    · show Wp _ _ 79 0 [some (.ref 0), some (.int a1), some (.int a2), some (.int a3), some (.int 1), none] [] zv_h0 _
      refine Wp.steps 4 (pc1 := 4) (lo1 := [some (.ref 0), some (.int a1), some (.int a2), some (.int a3), some (.int 1), none]) (st1 := [.int a3, .int a2, .int a1, .ref 0]) (h1 := zv_h0) rfl ?_
      refine Wp.call (as := [.ref 0, .int a1, .int a2, .int a3]) (rest := []) rfl rfl rfl rfl rfl rfl rfl rfl rfl ?_
      show Wp _ _ 96 0 [some (.ref 0), some (.int a1), some (.int a2), some (.int a3)] [] zv_h0 _
      refine Wp.steps 3 (pc1 := 5) (lo1 := [some (.ref 0), some (.int a1), some (.int a2), some (.int a3)]) (st1 := [.int a1, .ref 1]) (h1 := zv_h0) rfl ?_
      refine Wp.call (as := [.ref 1, .int a1]) (rest := []) rfl rfl rfl rfl rfl rfl rfl rfl rfl ?_
      show Wp _ _ 18 0 [some (.ref 1), some (.int a1)] [] zv_h0 _
      refine Wp.steps 1 (pc1 := 1) (lo1 := [some (.ref 1), some (.int a1)]) (st1 := [.int a1]) (h1 := zv_h0) rfl ?_
      refine Wp.ifF (i := .nop) rfl (zq_F rfl (by decide) (show a1.toInt ≥ 0 by omega)) ?_
      show Wp _ _ 18 4 [some (.ref 1), some (.int a1)] [] zv_h0 _
      refine Wp.steps 3 (pc1 := 9) (lo1 := [some (.ref 1), some (.int a1)]) (st1 := [.int 0, .int a1]) (h1 := zv_h0) rfl ?_
      refine Wp.icT (i := .nop) rfl (zq_T rfl (by decide) (show a1.toInt ≥ 0 by omega)) ?_
      show Wp _ _ 18 16 [some (.ref 1), some (.int a1)] [] zv_h0 _
      refine Wp.steps 1 (pc1 := 17) (lo1 := [some (.ref 1), some (.int a1)]) (st1 := [.int 0]) (h1 := zv_h0) rfl ?_
      refine Wp.ret rfl rfl rfl ?_
      show Wp _ _ 96 8 [some (.ref 0), some (.int a1), some (.int a2), some (.int a3)] [.int 0] zv_h0 _
      refine Wp.steps 3 (pc1 := 34) (lo1 := [some (.ref 0), some (.int a1), some (.int a2), some (.int a3)]) (st1 := [.int 1]) (h1 := zv_h0) rfl ?_
      refine Wp.ret rfl rfl rfl ?_
      show Wp _ _ 79 7 [some (.ref 0), some (.int a1), some (.int a2), some (.int a3), some (.int 1), none] [.int 1] zv_h0 _
      refine Wp.steps 2 (pc1 := 11) (lo1 := [some (.ref 0), some (.int a1), some (.int a2), some (.int a3), some (.int 1), none]) (st1 := [.int (-1)]) (h1 := zv_h0) rfl ?_
      exact Wp.ret rfl rfl rfl ⟨rfl, rfl⟩
    · show Wp _ _ 175 0 [some (.ref 113), some (.int a1), some (.int a2), some (.int a3), some (.int 1), none] [] zv_h0 _
      refine Wp.steps 2 (pc1 := 2) (lo1 := [some (.ref 113), some (.int a1), some (.int a2), some (.int a3), some (.int 1), none]) (st1 := [.int a1, .ref 113]) (h1 := zv_h0) rfl ?_
      refine Wp.call (as := [.ref 113, .int a1]) (rest := []) rfl rfl rfl rfl rfl rfl rfl rfl rfl ?_
      show Wp _ _ 131 0 [some (.ref 113), some (.int a1)] [] zv_h0 _
      refine Wp.steps 8 (pc1 := 10) (lo1 := [some (.ref 113), some (.int a1)]) (st1 := [.long (-1), .long 0, .long (a1).toInt64]) (h1 := zv_h0) rfl ?_
      refine Wp.call (as := [.long (a1).toInt64, .long 0, .long (-1)]) (rest := []) rfl rfl rfl rfl rfl rfl rfl rfl rfl ?_
      refine zin_F (Int32.toInt_toInt64 _) (by decide) (by decide) (show a1.toInt < (0 : Int) ∨ (-1 : Int) < a1.toInt by omega) ?_
      show Wp _ _ 131 13 [some (.ref 113), some (.int a1)] [.int 0] zv_h0 _
      refine Wp.ret rfl rfl rfl ?_
      show Wp _ _ 175 5 [some (.ref 113), some (.int a1), some (.int a2), some (.int a3), some (.int 1), none] [.int 0] zv_h0 _
      refine Wp.steps 2 (pc1 := 24) (lo1 := [some (.ref 113), some (.int a1), some (.int a2), some (.int a3), some (.int 1), none]) (st1 := [.int (-1)]) (h1 := zv_h0) rfl ?_
      exact Wp.ret rfl rfl rfl ⟨rfl, rfl⟩
set_option maxRecDepth 100000 in
set_option maxHeartbeats 4000000 in
theorem zr_26 (a1 : Int32) : zv_Pi 80 176 [.int a1] := by
  rcases (by omega : (a1.toInt ≤ -1) ∨ (1 ≤ a1.toInt) ∨ (a1.toInt = 0)) with h0 | h0 | h0
  · skip
    refine ⟨(-1), zv_h0, zv_h0, ?_, rfl, ?_, zv_len⟩
    · show Wp _ _ 80 0 [some (.ref 0), some (.int a1), none] [] zv_h0 _
      refine Wp.steps 5 (pc1 := 9) (lo1 := [some (.ref 0), some (.int a1), some (.int 0)]) (st1 := [.int a1]) (h1 := zv_h0) rfl ?_
      refine Wp.ifT (i := .nop) rfl (zq_T rfl (by decide) (show a1.toInt < 0 by omega)) ?_
      show Wp _ _ 80 17 [some (.ref 0), some (.int a1), some (.int 0)] [] zv_h0 _
      refine Wp.steps 1 (pc1 := 18) (lo1 := [some (.ref 0), some (.int a1), some (.int 0)]) (st1 := [.int (-1)]) (h1 := zv_h0) rfl ?_
      exact Wp.ret rfl rfl rfl ⟨rfl, rfl⟩
    · show Wp _ _ 176 0 [some (.ref 113), some (.int a1)] [] zv_h0 _
      refine Wp.steps 8 (pc1 := 11) (lo1 := [some (.ref 113), some (.int a1)]) (st1 := [.long 0, .long 0, .long (a1).toInt64]) (h1 := zv_h0) rfl ?_
      refine Wp.call (as := [.long (a1).toInt64, .long 0, .long 0]) (rest := []) rfl rfl rfl rfl rfl rfl rfl rfl rfl ?_
      refine zin_F (Int32.toInt_toInt64 _) (by decide) (by decide) (show a1.toInt < (0 : Int) ∨ (0 : Int) < a1.toInt by omega) ?_
      show Wp _ _ 176 14 [some (.ref 113), some (.int a1)] [.int 0] zv_h0 _
      refine Wp.steps 2 (pc1 := 28) (lo1 := [some (.ref 113), some (.int a1)]) (st1 := [.int (-1)]) (h1 := zv_h0) rfl ?_
      exact Wp.ret rfl rfl rfl ⟨rfl, rfl⟩
  · skip
    refine ⟨(-1), zv_h0, zv_h0, ?_, rfl, ?_, zv_len⟩
    · show Wp _ _ 80 0 [some (.ref 0), some (.int a1), none] [] zv_h0 _
      refine Wp.steps 5 (pc1 := 9) (lo1 := [some (.ref 0), some (.int a1), some (.int 0)]) (st1 := [.int a1]) (h1 := zv_h0) rfl ?_
      refine Wp.ifF (i := .nop) rfl (zq_F rfl (by decide) (show a1.toInt ≥ 0 by omega)) ?_
      show Wp _ _ 80 12 [some (.ref 0), some (.int a1), some (.int 0)] [] zv_h0 _
      refine Wp.steps 2 (pc1 := 14) (lo1 := [some (.ref 0), some (.int a1), some (.int 0)]) (st1 := [.int 0, .int a1]) (h1 := zv_h0) rfl ?_
      refine Wp.icF (i := .nop) rfl (zq_F rfl (by decide) (show a1.toInt > 0 by omega)) ?_
      show Wp _ _ 80 17 [some (.ref 0), some (.int a1), some (.int 0)] [] zv_h0 _
      refine Wp.steps 1 (pc1 := 18) (lo1 := [some (.ref 0), some (.int a1), some (.int 0)]) (st1 := [.int (-1)]) (h1 := zv_h0) rfl ?_
      exact Wp.ret rfl rfl rfl ⟨rfl, rfl⟩
    · show Wp _ _ 176 0 [some (.ref 113), some (.int a1)] [] zv_h0 _
      refine Wp.steps 8 (pc1 := 11) (lo1 := [some (.ref 113), some (.int a1)]) (st1 := [.long 0, .long 0, .long (a1).toInt64]) (h1 := zv_h0) rfl ?_
      refine Wp.call (as := [.long (a1).toInt64, .long 0, .long 0]) (rest := []) rfl rfl rfl rfl rfl rfl rfl rfl rfl ?_
      refine zin_F (Int32.toInt_toInt64 _) (by decide) (by decide) (show a1.toInt < (0 : Int) ∨ (0 : Int) < a1.toInt by omega) ?_
      show Wp _ _ 176 14 [some (.ref 113), some (.int a1)] [.int 0] zv_h0 _
      refine Wp.steps 2 (pc1 := 28) (lo1 := [some (.ref 113), some (.int a1)]) (st1 := [.int (-1)]) (h1 := zv_h0) rfl ?_
      exact Wp.ret rfl rfl rfl ⟨rfl, rfl⟩
  · skip
    obtain rfl : a1 = 0 := Int32.toInt_inj.mp (h0.trans (by decide))
    exact zv_Pi_of (by decide +kernel)
set_option maxRecDepth 100000 in
set_option maxHeartbeats 4000000 in
theorem zr_27 (a1 : Int32) : zv_Pi 81 178 [.int a1] := by
  rcases (by omega : (a1.toInt ≤ -1) ∨ (2 ≤ a1.toInt ∧ a1.toInt ≤ 9) ∨ (10 ≤ a1.toInt) ∨ (a1.toInt = 0) ∨ (a1.toInt = 1)) with h0 | h0 | h0 | h0 | h0
  · skip
    refine ⟨(-1), zv_h0, zv_h0, ?_, rfl, ?_, zv_len⟩
    · show Wp _ _ 81 0 [some (.ref 0), some (.int a1), none, none, none, none, none, none] [] zv_h0 _
      refine Wp.steps 2 (pc1 := 3) (lo1 := [some (.ref 0), some (.int a1), none, none, none, none, none, none]) (st1 := [.int 10, .int a1]) (h1 := zv_h0) rfl ?_
      refine Wp.icT (i := .nop) rfl (zq_T rfl (by decide) (show a1.toInt < 10 by omega)) ?_
      show Wp _ _ 81 24 [some (.ref 0), some (.int a1), none, none, none, none, none, none] [] zv_h0 _
      refine Wp.steps 3 (pc1 := 27) (lo1 := [some (.ref 0), some (.int a1), some (.int 0), none, none, none, none, none]) (st1 := [.int a1]) (h1 := zv_h0) rfl ?_
      refine Wp.ifF (i := .nop) rfl (zq_F rfl (by decide) (show a1.toInt ≠ 0 by omega)) ?_
      show Wp _ _ 81 30 [some (.ref 0), some (.int a1), some (.int 0), none, none, none, none, none] [] zv_h0 _
      refine Wp.steps 2 (pc1 := 32) (lo1 := [some (.ref 0), some (.int a1), some (.int 0), none, none, none, none, none]) (st1 := [.int 1, .int a1]) (h1 := zv_h0) rfl ?_
      refine Wp.icF (i := .nop) rfl (zq_F rfl (by decide) (show a1.toInt ≠ 1 by omega)) ?_
      show Wp _ _ 81 35 [some (.ref 0), some (.int a1), some (.int 0), none, none, none, none, none] [] zv_h0 _
      refine Wp.steps 3 (pc1 := 40) (lo1 := [some (.ref 0), some (.int a1), some (.int 0), none, none, none, none, none]) (st1 := [.int (-1)]) (h1 := zv_h0) rfl ?_
      exact Wp.ret rfl rfl rfl ⟨rfl, rfl⟩
    · show Wp _ _ 178 0 [some (.ref 113), some (.int a1), none, none, none, none, none, none, none] [] zv_h0 _
      refine Wp.steps 4 (pc1 := 4) (lo1 := [some (.ref 113), some (.int a1), none, none, none, none, none, none, none]) (st1 := [.long 1, .long 0, .long (a1).toInt64]) (h1 := zv_h0) rfl ?_
      refine Wp.call (as := [.long (a1).toInt64, .long 0, .long 1]) (rest := []) rfl rfl rfl rfl rfl rfl rfl rfl rfl ?_
      refine zin_F (Int32.toInt_toInt64 _) (by decide) (by decide) (show a1.toInt < (0 : Int) ∨ (1 : Int) < a1.toInt by omega) ?_
      show Wp _ _ 178 7 [some (.ref 113), some (.int a1), none, none, none, none, none, none, none] [.int 0] zv_h0 _
      refine Wp.steps 5 (pc1 := 15) (lo1 := [some (.ref 113), some (.int a1), none, none, none, none, none, none, none]) (st1 := [.int (a1 - 10), .ref 113]) (h1 := zv_h0) rfl ?_
      refine Wp.call (as := [.ref 113, .int (a1 - 10)]) (rest := []) rfl rfl rfl rfl rfl rfl rfl rfl rfl ?_
      show Wp _ _ 131 0 [some (.ref 113), some (.int (a1 - 10))] [] zv_h0 _
      refine Wp.steps 8 (pc1 := 10) (lo1 := [some (.ref 113), some (.int (a1 - 10))]) (st1 := [.long (-1), .long 0, .long ((a1 - 10)).toInt64]) (h1 := zv_h0) rfl ?_
      refine Wp.call (as := [.long ((a1 - 10)).toInt64, .long 0, .long (-1)]) (rest := []) rfl rfl rfl rfl rfl rfl rfl rfl rfl ?_
      refine zin_F (Int32.toInt_toInt64 _) (by decide) (by decide) (show (a1 - 10).toInt < (0 : Int) ∨ (-1 : Int) < (a1 - 10).toInt by omega) ?_
      show Wp _ _ 131 13 [some (.ref 113), some (.int (a1 - 10))] [.int 0] zv_h0 _
      refine Wp.ret rfl rfl rfl ?_
      show Wp _ _ 178 18 [some (.ref 113), some (.int a1), none, none, none, none, none, none, none] [.int 0] zv_h0 _
      refine Wp.steps 2 (pc1 := 22) (lo1 := [some (.ref 113), some (.int a1), none, none, none, none, none, none, none]) (st1 := [.int (-1)]) (h1 := zv_h0) rfl ?_
      exact Wp.ret rfl rfl rfl ⟨rfl, rfl⟩
  · skip
    refine ⟨(-1), zv_h0, zv_h0, ?_, rfl, ?_, zv_len⟩
    · show Wp _ _ 81 0 [some (.ref 0), some (.int a1), none, none, none, none, none, none] [] zv_h0 _
      refine Wp.steps 2 (pc1 := 3) (lo1 := [some (.ref 0), some (.int a1), none, none, none, none, none, none]) (st1 := [.int 10, .int a1]) (h1 := zv_h0) rfl ?_
      refine Wp.icT (i := .nop) rfl (zq_T rfl (by decide) (show a1.toInt < 10 by omega)) ?_
      show Wp _ _ 81 24 [some (.ref 0), some (.int a1), none, none, none, none, none, none] [] zv_h0 _
      refine Wp.steps 3 (pc1 := 27) (lo1 := [some (.ref 0), some (.int a1), some (.int 0), none, none, none, none, none]) (st1 := [.int a1]) (h1 := zv_h0) rfl ?_
      refine Wp.ifF (i := .nop) rfl (zq_F rfl (by decide) (show a1.toInt ≠ 0 by omega)) ?_
      show Wp _ _ 81 30 [some (.ref 0), some (.int a1), some (.int 0), none, none, none, none, none] [] zv_h0 _
      refine Wp.steps 2 (pc1 := 32) (lo1 := [some (.ref 0), some (.int a1), some (.int 0), none, none, none, none, none]) (st1 := [.int 1, .int a1]) (h1 := zv_h0) rfl ?_
      refine Wp.icF (i := .nop) rfl (zq_F rfl (by decide) (show a1.toInt ≠ 1 by omega)) ?_
      show Wp _ _ 81 35 [some (.ref 0), some (.int a1), some (.int 0), none, none, none, none, none] [] zv_h0 _
      refine Wp.steps 3 (pc1 := 40) (lo1 := [some (.ref 0), some (.int a1), some (.int 0), none, none, none, none, none]) (st1 := [.int (-1)]) (h1 := zv_h0) rfl ?_
      exact Wp.ret rfl rfl rfl ⟨rfl, rfl⟩
    · show Wp _ _ 178 0 [some (.ref 113), some (.int a1), none, none, none, none, none, none, none] [] zv_h0 _
      refine Wp.steps 4 (pc1 := 4) (lo1 := [some (.ref 113), some (.int a1), none, none, none, none, none, none, none]) (st1 := [.long 1, .long 0, .long (a1).toInt64]) (h1 := zv_h0) rfl ?_
      refine Wp.call (as := [.long (a1).toInt64, .long 0, .long 1]) (rest := []) rfl rfl rfl rfl rfl rfl rfl rfl rfl ?_
      refine zin_F (Int32.toInt_toInt64 _) (by decide) (by decide) (show a1.toInt < (0 : Int) ∨ (1 : Int) < a1.toInt by omega) ?_
      show Wp _ _ 178 7 [some (.ref 113), some (.int a1), none, none, none, none, none, none, none] [.int 0] zv_h0 _
      refine Wp.steps 5 (pc1 := 15) (lo1 := [some (.ref 113), some (.int a1), none, none, none, none, none, none, none]) (st1 := [.int (a1 - 10), .ref 113]) (h1 := zv_h0) rfl ?_
      refine Wp.call (as := [.ref 113, .int (a1 - 10)]) (rest := []) rfl rfl rfl rfl rfl rfl rfl rfl rfl ?_
      show Wp _ _ 131 0 [some (.ref 113), some (.int (a1 - 10))] [] zv_h0 _
      refine Wp.steps 8 (pc1 := 10) (lo1 := [some (.ref 113), some (.int (a1 - 10))]) (st1 := [.long (-1), .long 0, .long ((a1 - 10)).toInt64]) (h1 := zv_h0) rfl ?_
      refine Wp.call (as := [.long ((a1 - 10)).toInt64, .long 0, .long (-1)]) (rest := []) rfl rfl rfl rfl rfl rfl rfl rfl rfl ?_
      refine zin_F (Int32.toInt_toInt64 _) (by decide) (by decide) (show (a1 - 10).toInt < (0 : Int) ∨ (-1 : Int) < (a1 - 10).toInt by omega) ?_
      show Wp _ _ 131 13 [some (.ref 113), some (.int (a1 - 10))] [.int 0] zv_h0 _
      refine Wp.ret rfl rfl rfl ?_
      show Wp _ _ 178 18 [some (.ref 113), some (.int a1), none, none, none, none, none, none, none] [.int 0] zv_h0 _
      refine Wp.steps 2 (pc1 := 22) (lo1 := [some (.ref 113), some (.int a1), none, none, none, none, none, none, none]) (st1 := [.int (-1)]) (h1 := zv_h0) rfl ?_
      exact Wp.ret rfl rfl rfl ⟨rfl, rfl⟩
  · skip
    refine ⟨(-1), zv_h0, zv_h0, ?_, rfl, ?_, zv_len⟩
    · show Wp _ _ 81 0 [some (.ref 0), some (.int a1), none, none, none, none, none, none] [] zv_h0 _
      refine Wp.steps 2 (pc1 := 3) (lo1 := [some (.ref 0), some (.int a1), none, none, none, none, none, none]) (st1 := [.int 10, .int a1]) (h1 := zv_h0) rfl ?_
      refine Wp.icF (i := .nop) rfl (zq_F rfl (by decide) (show a1.toInt ≥ 10 by omega)) ?_
      show Wp _ _ 81 6 [some (.ref 0), some (.int a1), none, none, none, none, none, none] [] zv_h0 _
      refine Wp.steps 6 (pc1 := 17) (lo1 := [some (.ref 0), some (.int a1), none, none, none, none, none, none]) (st1 := [.int 10, .int a1]) (h1 := zv_h0) rfl ?_
      refine Wp.icT (i := .nop) rfl (zq_T rfl (by decide) (show a1.toInt ≥ 10 by omega)) ?_
      show Wp _ _ 81 24 [some (.ref 0), some (.int a1), none, none, none, none, none, none] [] zv_h0 _
      refine Wp.steps 3 (pc1 := 27) (lo1 := [some (.ref 0), some (.int a1), some (.int 0), none, none, none, none, none]) (st1 := [.int a1]) (h1 := zv_h0) rfl ?_
      refine Wp.ifF (i := .nop) rfl (zq_F rfl (by decide) (show a1.toInt ≠ 0 by omega)) ?_
      show Wp _ _ 81 30 [some (.ref 0), some (.int a1), some (.int 0), none, none, none, none, none] [] zv_h0 _
      refine Wp.steps 2 (pc1 := 32) (lo1 := [some (.ref 0), some (.int a1), some (.int 0), none, none, none, none, none]) (st1 := [.int 1, .int a1]) (h1 := zv_h0) rfl ?_
      refine Wp.icF (i := .nop) rfl (zq_F rfl (by decide) (show a1.toInt ≠ 1 by omega)) ?_
      show Wp _ _ 81 35 [some (.ref 0), some (.int a1), some (.int 0), none, none, none, none, none] [] zv_h0 _
      refine Wp.steps 3 (pc1 := 40) (lo1 := [some (.ref 0), some (.int a1), some (.int 0), none, none, none, none, none]) (st1 := [.int (-1)]) (h1 := zv_h0) rfl ?_
      exact Wp.ret rfl rfl rfl ⟨rfl, rfl⟩
    · show Wp _ _ 178 0 [some (.ref 113), some (.int a1), none, none, none, none, none, none, none] [] zv_h0 _
      refine Wp.steps 4 (pc1 := 4) (lo1 := [some (.ref 113), some (.int a1), none, none, none, none, none, none, none]) (st1 := [.long 1, .long 0, .long (a1).toInt64]) (h1 := zv_h0) rfl ?_
      refine Wp.call (as := [.long (a1).toInt64, .long 0, .long 1]) (rest := []) rfl rfl rfl rfl rfl rfl rfl rfl rfl ?_
      refine zin_F (Int32.toInt_toInt64 _) (by decide) (by decide) (show a1.toInt < (0 : Int) ∨ (1 : Int) < a1.toInt by omega) ?_
      show Wp _ _ 178 7 [some (.ref 113), some (.int a1), none, none, none, none, none, none, none] [.int 0] zv_h0 _
      refine Wp.steps 5 (pc1 := 15) (lo1 := [some (.ref 113), some (.int a1), none, none, none, none, none, none, none]) (st1 := [.int (a1 - 10), .ref 113]) (h1 := zv_h0) rfl ?_
      refine Wp.call (as := [.ref 113, .int (a1 - 10)]) (rest := []) rfl rfl rfl rfl rfl rfl rfl rfl rfl ?_
      show Wp _ _ 131 0 [some (.ref 113), some (.int (a1 - 10))] [] zv_h0 _
      refine Wp.steps 8 (pc1 := 10) (lo1 := [some (.ref 113), some (.int (a1 - 10))]) (st1 := [.long (-1), .long 0, .long ((a1 - 10)).toInt64]) (h1 := zv_h0) rfl ?_
      refine Wp.call (as := [.long ((a1 - 10)).toInt64, .long 0, .long (-1)]) (rest := []) rfl rfl rfl rfl rfl rfl rfl rfl rfl ?_
      refine zin_F (Int32.toInt_toInt64 _) (by decide) (by decide) (show (a1 - 10).toInt < (0 : Int) ∨ (-1 : Int) < (a1 - 10).toInt by omega) ?_
      show Wp _ _ 131 13 [some (.ref 113), some (.int (a1 - 10))] [.int 0] zv_h0 _
      refine Wp.ret rfl rfl rfl ?_
      show Wp _ _ 178 18 [some (.ref 113), some (.int a1), none, none, none, none, none, none, none] [.int 0] zv_h0 _
      refine Wp.steps 2 (pc1 := 22) (lo1 := [some (.ref 113), some (.int a1), none, none, none, none, none, none, none]) (st1 := [.int (-1)]) (h1 := zv_h0) rfl ?_
      exact Wp.ret rfl rfl rfl ⟨rfl, rfl⟩
  · skip
    obtain rfl : a1 = 0 := Int32.toInt_inj.mp (h0.trans (by decide))
    exact zv_Pi_of (by decide +kernel)
  · skip
    obtain rfl : a1 = 1 := Int32.toInt_inj.mp (h0.trans (by decide))
    exact zv_Pi_of (by decide +kernel)
set_option maxRecDepth 100000 in
set_option maxHeartbeats 4000000 in
theorem zr_28 (a1 a2 : Int32) : zv_Pi 82 179 [.int a1, .int a2] := by
  rcases (by omega : (a2.toInt ≤ 0) ∨ (61 ≤ a2.toInt) ∨ (1 ≤ a2.toInt ∧ a2.toInt ≤ 60)) with h1 | h1 | h1
  · skip
    refine ⟨(-1), zv_h0, zv_h0, ?_, rfl, ?_, zv_len⟩
    · show Wp _ _ 82 0 [some (.ref 0), some (.int a1), some (.int a2), none, none, none, none, none] [] zv_h0 _
      refine Wp.steps 2 (pc1 := 2) (lo1 := [some (.ref 0), some (.int a1), some (.int a2), none, none, none, none, none]) (st1 := [.int 1, .int a2]) (h1 := zv_h0) rfl ?_
      refine Wp.icT (i := .nop) rfl (zq_T rfl (by decide) (show a2.toInt < 1 by omega)) ?_
      show Wp _ _ 82 11 [some (.ref 0), some (.int a1), some (.int a2), none, none, none, none, none] [] zv_h0 _
      refine Wp.steps 1 (pc1 := 12) (lo1 := [some (.ref 0), some (.int a1), some (.int a2), none, none, none, none, none]) (st1 := [.int (-1)]) (h1 := zv_h0) rfl ?_
      exact Wp.ret rfl rfl rfl ⟨rfl, rfl⟩
    · show Wp _ _ 179 0 [some (.ref 113), some (.int a1), some (.int a2), none, none, none, none] [] zv_h0 _
      refine Wp.steps 4 (pc1 := 6) (lo1 := [some (.ref 113), some (.int a1), some (.int a2), none, none, none, none]) (st1 := [.long 60, .long 1, .long (a2).toInt64]) (h1 := zv_h0) rfl ?_
      refine Wp.call (as := [.long (a2).toInt64, .long 1, .long 60]) (rest := []) rfl rfl rfl rfl rfl rfl rfl rfl rfl ?_
      refine zin_F (Int32.toInt_toInt64 _) (by decide) (by decide) (show a2.toInt < (1 : Int) ∨ (60 : Int) < a2.toInt by omega) ?_
      show Wp _ _ 179 9 [some (.ref 113), some (.int a1), some (.int a2), none, none, none, none] [.int 0] zv_h0 _
      refine Wp.steps 2 (pc1 := 13) (lo1 := [some (.ref 113), some (.int a1), some (.int a2), none, none, none, none]) (st1 := [.int (-1)]) (h1 := zv_h0) rfl ?_
      exact Wp.ret rfl rfl rfl ⟨rfl, rfl⟩
  · skip
    refine ⟨(-1), zv_h0, zv_h0, ?_, rfl, ?_, zv_len⟩
    · show Wp _ _ 82 0 [some (.ref 0), some (.int a1), some (.int a2), none, none, none, none, none] [] zv_h0 _
      refine Wp.steps 2 (pc1 := 2) (lo1 := [some (.ref 0), some (.int a1), some (.int a2), none, none, none, none, none]) (st1 := [.int 1, .int a2]) (h1 := zv_h0) rfl ?_
      refine Wp.icF (i := .nop) rfl (zq_F rfl (by decide) (show a2.toInt ≥ 1 by omega)) ?_
      show Wp _ _ 82 5 [some (.ref 0), some (.int a1), some (.int a2), none, none, none, none, none] [] zv_h0 _
      refine Wp.steps 2 (pc1 := 8) (lo1 := [some (.ref 0), some (.int a1), some (.int a2), none, none, none, none, none]) (st1 := [.int 60, .int a2]) (h1 := zv_h0) rfl ?_
      refine Wp.icF (i := .nop) rfl (zq_F rfl (by decide) (show a2.toInt > 60 by omega)) ?_
      show Wp _ _ 82 11 [some (.ref 0), some (.int a1), some (.int a2), none, none, none, none, none] [] zv_h0 _
      refine Wp.steps 1 (pc1 := 12) (lo1 := [some (.ref 0), some (.int a1), some (.int a2), none, none, none, none, none]) (st1 := [.int (-1)]) (h1 := zv_h0) rfl ?_
      exact Wp.ret rfl rfl rfl ⟨rfl, rfl⟩
    · show Wp _ _ 179 0 [some (.ref 113), some (.int a1), some (.int a2), none, none, none, none] [] zv_h0 _
      refine Wp.steps 4 (pc1 := 6) (lo1 := [some (.ref 113), some (.int a1), some (.int a2), none, none, none, none]) (st1 := [.long 60, .long 1, .long (a2).toInt64]) (h1 := zv_h0) rfl ?_
      refine Wp.call (as := [.long (a2).toInt64, .long 1, .long 60]) (rest := []) rfl rfl rfl rfl rfl rfl rfl rfl rfl ?_
      refine zin_F (Int32.toInt_toInt64 _) (by decide) (by decide) (show a2.toInt < (1 : Int) ∨ (60 : Int) < a2.toInt by omega) ?_
      show Wp _ _ 179 9 [some (.ref 113), some (.int a1), some (.int a2), none, none, none, none] [.int 0] zv_h0 _
      refine Wp.steps 2 (pc1 := 13) (lo1 := [some (.ref 113), some (.int a1), some (.int a2), none, none, none, none]) (st1 := [.int (-1)]) (h1 := zv_h0) rfl ?_
      exact Wp.ret rfl rfl rfl ⟨rfl, rfl⟩
  · skip
    refine ⟨(-2), zv_h0, zv_h0, ?_, rfl, ?_, zv_len⟩
    · show Wp _ _ 82 0 [some (.ref 0), some (.int a1), some (.int a2), none, none, none, none, none] [] zv_h0 _
      refine Wp.steps 2 (pc1 := 2) (lo1 := [some (.ref 0), some (.int a1), some (.int a2), none, none, none, none, none]) (st1 := [.int 1, .int a2]) (h1 := zv_h0) rfl ?_
      refine Wp.icF (i := .nop) rfl (zq_F rfl (by decide) (show a2.toInt ≥ 1 by omega)) ?_
      show Wp _ _ 82 5 [some (.ref 0), some (.int a1), some (.int a2), none, none, none, none, none] [] zv_h0 _
      refine Wp.steps 2 (pc1 := 8) (lo1 := [some (.ref 0), some (.int a1), some (.int a2), none, none, none, none, none]) (st1 := [.int 60, .int a2]) (h1 := zv_h0) rfl ?_
      refine Wp.icT (i := .nop) rfl (zq_T rfl (by decide) (show a2.toInt ≤ 60 by omega)) ?_
      show Wp _ _ 82 13 [some (.ref 0), some (.int a1), some (.int a2), none, none, none, none, none] [] zv_h0 _
      refine Wp.steps 7 (pc1 := 27) (lo1 := [some (.ref 0), some (.int a1), some (.int a2), some (.int 0), none, none, none, none]) (st1 := [.int (-2)]) (h1 := zv_h0) rfl ?_
      exact Wp.ret rfl rfl rfl ⟨rfl, rfl⟩
    · show Wp _ _ 179 0 [some (.ref 113), some (.int a1), some (.int a2), none, none, none, none] [] zv_h0 _
      refine Wp.steps 4 (pc1 := 6) (lo1 := [some (.ref 113), some (.int a1), some (.int a2), none, none, none, none]) (st1 := [.long 60, .long 1, .long (a2).toInt64]) (h1 := zv_h0) rfl ?_
      refine Wp.call (as := [.long (a2).toInt64, .long 1, .long 60]) (rest := []) rfl rfl rfl rfl rfl rfl rfl rfl rfl ?_
      refine zin_T (Int32.toInt_toInt64 _) (by decide) (by decide) (show (1 : Int) ≤ a2.toInt by omega) (show a2.toInt ≤ (60 : Int) by omega) ?_
      show Wp _ _ 179 9 [some (.ref 113), some (.int a1), some (.int a2), none, none, none, none] [.int 1] zv_h0 _
      refine Wp.steps 7 (pc1 := 26) (lo1 := [some (.ref 113), some (.int a1), some (.int a2), none, none, none, none]) (st1 := [.int (-2)]) (h1 := zv_h0) rfl ?_
      exact Wp.ret rfl rfl rfl ⟨rfl, rfl⟩
set_option maxRecDepth 100000 in
set_option maxHeartbeats 4000000 in
theorem zr_29 (a1 : Int32) : zv_Pi 83 181 [.int a1] := by
  rcases (by omega : (a1.toInt ≤ -1) ∨ (2 ≤ a1.toInt) ∨ (a1.toInt = 0) ∨ (a1.toInt = 1)) with h0 | h0 | h0 | h0
  · skip
    refine ⟨(-1), zv_h0, zv_h0, ?_, rfl, ?_, zv_len⟩
    · show Wp _ _ 83 0 [some (.ref 0), some (.int a1), none] [] zv_h0 _
      refine Wp.steps 1 (pc1 := 1) (lo1 := [some (.ref 0), some (.int a1), none]) (st1 := [.int a1]) (h1 := zv_h0) rfl ?_
      refine Wp.ifT (i := .nop) rfl (zq_T rfl (by decide) (show a1.toInt < 0 by omega)) ?_
      show Wp _ _ 83 9 [some (.ref 0), some (.int a1), none] [] zv_h0 _
      refine Wp.steps 1 (pc1 := 10) (lo1 := [some (.ref 0), some (.int a1), none]) (st1 := [.int (-1)]) (h1 := zv_h0) rfl ?_
      exact Wp.ret rfl rfl rfl ⟨rfl, rfl⟩
    · show Wp _ _ 181 0 [some (.ref 113), some (.int a1), none] [] zv_h0 _
      refine Wp.steps 4 (pc1 := 4) (lo1 := [some (.ref 113), some (.int a1), none]) (st1 := [.long 1, .long 0, .long (a1).toInt64]) (h1 := zv_h0) rfl ?_
      refine Wp.call (as := [.long (a1).toInt64, .long 0, .long 1]) (rest := []) rfl rfl rfl rfl rfl rfl rfl rfl rfl ?_
      refine zin_F (Int32.toInt_toInt64 _) (by decide) (by decide) (show a1.toInt < (0 : Int) ∨ (1 : Int) < a1.toInt by omega) ?_
      show Wp _ _ 181 7 [some (.ref 113), some (.int a1), none] [.int 0] zv_h0 _
      refine Wp.steps 2 (pc1 := 11) (lo1 := [some (.ref 113), some (.int a1), none]) (st1 := [.int (-1)]) (h1 := zv_h0) rfl ?_
      exact Wp.ret rfl rfl rfl ⟨rfl, rfl⟩
  · skip
    refine ⟨(-1), zv_h0, zv_h0, ?_, rfl, ?_, zv_len⟩
    · show Wp _ _ 83 0 [some (.ref 0), some (.int a1), none] [] zv_h0 _
      refine Wp.steps 1 (pc1 := 1) (lo1 := [some (.ref 0), some (.int a1), none]) (st1 := [.int a1]) (h1 := zv_h0) rfl ?_
      refine Wp.ifF (i := .nop) rfl (zq_F rfl (by decide) (show a1.toInt ≥ 0 by omega)) ?_
      show Wp _ _ 83 4 [some (.ref 0), some (.int a1), none] [] zv_h0 _
      refine Wp.steps 2 (pc1 := 6) (lo1 := [some (.ref 0), some (.int a1), none]) (st1 := [.int 2, .int a1]) (h1 := zv_h0) rfl ?_
      refine Wp.icF (i := .nop) rfl (zq_F rfl (by decide) (show a1.toInt ≥ 2 by omega)) ?_
      show Wp _ _ 83 9 [some (.ref 0), some (.int a1), none] [] zv_h0 _
      refine Wp.steps 1 (pc1 := 10) (lo1 := [some (.ref 0), some (.int a1), none]) (st1 := [.int (-1)]) (h1 := zv_h0) rfl ?_
      exact Wp.ret rfl rfl rfl ⟨rfl, rfl⟩
    · show Wp _ _ 181 0 [some (.ref 113), some (.int a1), none] [] zv_h0 _
      refine Wp.steps 4 (pc1 := 4) (lo1 := [some (.ref 113), some (.int a1), none]) (st1 := [.long 1, .long 0, .long (a1).toInt64]) (h1 := zv_h0) rfl ?_
      refine Wp.call (as := [.long (a1).toInt64, .long 0, .long 1]) (rest := []) rfl rfl rfl rfl rfl rfl rfl rfl rfl ?_
      refine zin_F (Int32.toInt_toInt64 _) (by decide) (by decide) (show a1.toInt < (0 : Int) ∨ (1 : Int) < a1.toInt by omega) ?_
      show Wp _ _ 181 7 [some (.ref 113), some (.int a1), none] [.int 0] zv_h0 _
      refine Wp.steps 2 (pc1 := 11) (lo1 := [some (.ref 113), some (.int a1), none]) (st1 := [.int (-1)]) (h1 := zv_h0) rfl ?_
      exact Wp.ret rfl rfl rfl ⟨rfl, rfl⟩
  · skip
    obtain rfl : a1 = 0 := Int32.toInt_inj.mp (h0.trans (by decide))
    exact zv_Pi_of (by decide +kernel)
  · skip
    obtain rfl : a1 = 1 := Int32.toInt_inj.mp (h0.trans (by decide))
    exact zv_Pi_of (by decide +kernel)
set_option maxRecDepth 100000 in
set_option maxHeartbeats 4000000 in
theorem zr_30 (a1 : Int32) : zv_Pi 84 182 [.int a1] := by
  rcases (by omega : (a1.toInt ≤ -1) ∨ (2 ≤ a1.toInt) ∨ (a1.toInt = 0) ∨ (a1.toInt = 1)) with h0 | h0 | h0 | h0
  · skip
    refine ⟨(-1), zv_h0, zv_h0, ?_, rfl, ?_, zv_len⟩
    · show Wp _ _ 84 0 [some (.ref 0), some (.int a1)] [] zv_h0 _
      refine Wp.steps 1 (pc1 := 1) (lo1 := [some (.ref 0), some (.int a1)]) (st1 := [.int a1]) (h1 := zv_h0) rfl ?_
      refine Wp.ifT (i := .nop) rfl (zq_T rfl (by decide) (show a1.toInt < 0 by omega)) ?_
      show Wp _ _ 84 9 [some (.ref 0), some (.int a1)] [] zv_h0 _
      refine Wp.steps 1 (pc1 := 10) (lo1 := [some (.ref 0), some (.int a1)]) (st1 := [.int (-1)]) (h1 := zv_h0) rfl ?_
      exact Wp.ret rfl rfl rfl ⟨rfl, rfl⟩
    · show Wp _ _ 182 0 [some (.ref 113), some (.int a1)] [] zv_h0 _
      refine Wp.steps 4 (pc1 := 4) (lo1 := [some (.ref 113), some (.int a1)]) (st1 := [.long 1, .long 0, .long (a1).toInt64]) (h1 := zv_h0) rfl ?_
      refine Wp.call (as := [.long (a1).toInt64, .long 0, .long 1]) (rest := []) rfl rfl rfl rfl rfl rfl rfl rfl rfl ?_
      refine zin_F (Int32.toInt_toInt64 _) (by decide) (by decide) (show a1.toInt < (0 : Int) ∨ (1 : Int) < a1.toInt by omega) ?_
      show Wp _ _ 182 7 [some (.ref 113), some (.int a1)] [.int 0] zv_h0 _
      refine Wp.steps 2 (pc1 := 11) (lo1 := [some (.ref 113), some (.int a1)]) (st1 := [.int (-1)]) (h1 := zv_h0) rfl ?_
      exact Wp.ret rfl rfl rfl ⟨rfl, rfl⟩
  · skip
    refine ⟨(-1), zv_h0, zv_h0, ?_, rfl, ?_, zv_len⟩
    · show Wp _ _ 84 0 [some (.ref 0), some (.int a1)] [] zv_h0 _
      refine Wp.steps 1 (pc1 := 1) (lo1 := [some (.ref 0), some (.int a1)]) (st1 := [.int a1]) (h1 := zv_h0) rfl ?_
      refine Wp.ifF (i := .nop) rfl (zq_F rfl (by decide) (show a1.toInt ≥ 0 by omega)) ?_
      show Wp _ _ 84 4 [some (.ref 0), some (.int a1)] [] zv_h0 _
      refine Wp.steps 2 (pc1 := 6) (lo1 := [some (.ref 0), some (.int a1)]) (st1 := [.int 2, .int a1]) (h1 := zv_h0) rfl ?_
      refine Wp.icF (i := .nop) rfl (zq_F rfl (by decide) (show a1.toInt ≥ 2 by omega)) ?_
      show Wp _ _ 84 9 [some (.ref 0), some (.int a1)] [] zv_h0 _
      refine Wp.steps 1 (pc1 := 10) (lo1 := [some (.ref 0), some (.int a1)]) (st1 := [.int (-1)]) (h1 := zv_h0) rfl ?_
      exact Wp.ret rfl rfl rfl ⟨rfl, rfl⟩
    · show Wp _ _ 182 0 [some (.ref 113), some (.int a1)] [] zv_h0 _
      refine Wp.steps 4 (pc1 := 4) (lo1 := [some (.ref 113), some (.int a1)]) (st1 := [.long 1, .long 0, .long (a1).toInt64]) (h1 := zv_h0) rfl ?_
      refine Wp.call (as := [.long (a1).toInt64, .long 0, .long 1]) (rest := []) rfl rfl rfl rfl rfl rfl rfl rfl rfl ?_
      refine zin_F (Int32.toInt_toInt64 _) (by decide) (by decide) (show a1.toInt < (0 : Int) ∨ (1 : Int) < a1.toInt by omega) ?_
      show Wp _ _ 182 7 [some (.ref 113), some (.int a1)] [.int 0] zv_h0 _
      refine Wp.steps 2 (pc1 := 11) (lo1 := [some (.ref 113), some (.int a1)]) (st1 := [.int (-1)]) (h1 := zv_h0) rfl ?_
      exact Wp.ret rfl rfl rfl ⟨rfl, rfl⟩
  · skip
    obtain rfl : a1 = 0 := Int32.toInt_inj.mp (h0.trans (by decide))
    exact zv_Pi_of (by decide +kernel)
  · skip
    obtain rfl : a1 = 1 := Int32.toInt_inj.mp (h0.trans (by decide))
    exact zv_Pi_of (by decide +kernel)
set_option maxRecDepth 100000 in
set_option maxHeartbeats 4000000 in
theorem zr_31 (a1 a2 a3 : Int32) : zv_Pi 85 184 [.int a1, .int a2, .int a3] := by
  rcases (by omega : (a1.toInt ≤ -1) ∨ (4 ≤ a1.toInt) ∨ (a1.toInt = 0) ∨ (a1.toInt = 1) ∨ (a1.toInt = 2) ∨ (a1.toInt = 3)) with h0 | h0 | h0 | h0 | h0 | h0
  · skip
    refine ⟨(-1), zv_h0, zv_h0, ?_, rfl, ?_, zv_len⟩
    · show Wp _ _ 85 0 [some (.ref 0), some (.int a1), some (.int a2), some (.int a3)] [] zv_h0 _
      refine Wp.steps 1 (pc1 := 1) (lo1 := [some (.ref 0), some (.int a1), some (.int a2), some (.int a3)]) (st1 := [.int a1]) (h1 := zv_h0) rfl ?_
      refine Wp.call (as := [.int a1]) (rest := []) rfl rfl rfl rfl rfl rfl rfl rfl rfl ?_
      show Wp _ _ 93 0 [some (.int a1)] [] zv_h0 _
      refine Wp.steps 1 (pc1 := 1) (lo1 := [some (.int a1)]) (st1 := [.int a1]) (h1 := zv_h0) rfl ?_
      refine Wp.ifT (i := .nop) rfl (zq_T rfl (by decide) (show a1.toInt < 0 by omega)) ?_
      show Wp _ _ 93 9 [some (.int a1)] [] zv_h0 _
      refine Wp.steps 2 (pc1 := 14) (lo1 := [some (.int a1)]) (st1 := [.int 1]) (h1 := zv_h0) rfl ?_
      refine Wp.ret rfl rfl rfl ?_
      show Wp _ _ 85 4 [some (.ref 0), some (.int a1), some (.int a2), some (.int a3)] [.int 1] zv_h0 _
      refine Wp.steps 2 (pc1 := 21) (lo1 := [some (.ref 0), some (.int a1), some (.int a2), some (.int a3)]) (st1 := [.int (-1)]) (h1 := zv_h0) rfl ?_
      exact Wp.ret rfl rfl rfl ⟨rfl, rfl⟩
    · show Wp _ _ 184 0 [some (.ref 113), some (.int a1), some (.int a2), some (.int a3), none] [] zv_h0 _
      refine Wp.steps 2 (pc1 := 2) (lo1 := [some (.ref 113), some (.int a1), some (.int a2), some (.int a3), none]) (st1 := [.int a2, .int a1]) (h1 := zv_h0) rfl ?_
      refine Wp.call (as := [.int a1, .int a2]) (rest := []) rfl rfl rfl rfl rfl rfl rfl rfl rfl ?_
      show Wp _ _ 183 0 [some (.int a1), some (.int a2)] [] zv_h0 _
      refine Wp.steps 4 (pc1 := 6) (lo1 := [some (.int a1), some (.int a2)]) (st1 := [.long 3, .long 0, .long (a1).toInt64]) (h1 := zv_h0) rfl ?_
      refine Wp.call (as := [.long (a1).toInt64, .long 0, .long 3]) (rest := []) rfl rfl rfl rfl rfl rfl rfl rfl rfl ?_
      refine zin_F (Int32.toInt_toInt64 _) (by decide) (by decide) (show a1.toInt < (0 : Int) ∨ (3 : Int) < a1.toInt by omega) ?_
      show Wp _ _ 183 9 [some (.int a1), some (.int a2)] [.int 0] zv_h0 _
      refine Wp.steps 2 (pc1 := 29) (lo1 := [some (.int a1), some (.int a2)]) (st1 := [.int 0]) (h1 := zv_h0) rfl ?_
      refine Wp.ret rfl rfl rfl ?_
      show Wp _ _ 184 5 [some (.ref 113), some (.int a1), some (.int a2), some (.int a3), none] [.int 0] zv_h0 _
      refine Wp.steps 2 (pc1 := 15) (lo1 := [some (.ref 113), some (.int a1), some (.int a2), some (.int a3), none]) (st1 := [.int (-1)]) (h1 := zv_h0) rfl ?_
      exact Wp.ret rfl rfl rfl ⟨rfl, rfl⟩
  · skip
    refine ⟨(-1), zv_h0, zv_h0, ?_, rfl, ?_, zv_len⟩
    · show Wp _ _ 85 0 [some (.ref 0), some (.int a1), some (.int a2), some (.int a3)] [] zv_h0 _
      refine Wp.steps 1 (pc1 := 1) (lo1 := [some (.ref 0), some (.int a1), some (.int a2), some (.int a3)]) (st1 := [.int a1]) (h1 := zv_h0) rfl ?_
      refine Wp.call (as := [.int a1]) (rest := []) rfl rfl rfl rfl rfl rfl rfl rfl rfl ?_
      show Wp _ _ 93 0 [some (.int a1)] [] zv_h0 _
      refine Wp.steps 1 (pc1 := 1) (lo1 := [some (.int a1)]) (st1 := [.int a1]) (h1 := zv_h0) rfl ?_
      refine Wp.ifF (i := .nop) rfl (zq_F rfl (by decide) (show a1.toInt ≥ 0 by omega)) ?_
      show Wp _ _ 93 4 [some (.int a1)] [] zv_h0 _
      refine Wp.steps 2 (pc1 := 6) (lo1 := [some (.int a1)]) (st1 := [.int 4, .int a1]) (h1 := zv_h0) rfl ?_
      refine Wp.icF (i := .nop) rfl (zq_F rfl (by decide) (show a1.toInt ≥ 4 by omega)) ?_
      show Wp _ _ 93 9 [some (.int a1)] [] zv_h0 _
      refine Wp.steps 2 (pc1 := 14) (lo1 := [some (.int a1)]) (st1 := [.int 1]) (h1 := zv_h0) rfl ?_
      refine Wp.ret rfl rfl rfl ?_
      show Wp _ _ 85 4 [some (.ref 0), some (.int a1), some (.int a2), some (.int a3)] [.int 1] zv_h0 _
      refine Wp.steps 2 (pc1 := 21) (lo1 := [some (.ref 0), some (.int a1), some (.int a2), some (.int a3)]) (st1 := [.int (-1)]) (h1 := zv_h0) rfl ?_
      exact Wp.ret rfl rfl rfl ⟨rfl, rfl⟩
    · show Wp _ _ 184 0 [some (.ref 113), some (.int a1), some (.int a2), some (.int a3), none] [] zv_h0 _
      refine Wp.steps 2 (pc1 := 2) (lo1 := [some (.ref 113), some (.int a1), some (.int a2), some (.int a3), none]) (st1 := [.int a2, .int a1]) (h1 := zv_h0) rfl ?_
      refine Wp.call (as := [.int a1, .int a2]) (rest := []) rfl rfl rfl rfl rfl rfl rfl rfl rfl ?_
      show Wp _ _ 183 0 [some (.int a1), some (.int a2)] [] zv_h0 _
      refine Wp.steps 4 (pc1 := 6) (lo1 := [some (.int a1), some (.int a2)]) (st1 := [.long 3, .long 0, .long (a1).toInt64]) (h1 := zv_h0) rfl ?_
      refine Wp.call (as := [.long (a1).toInt64, .long 0, .long 3]) (rest := []) rfl rfl rfl rfl rfl rfl rfl rfl rfl ?_
      refine zin_F (Int32.toInt_toInt64 _) (by decide) (by decide) (show a1.toInt < (0 : Int) ∨ (3 : Int) < a1.toInt by omega) ?_
      show Wp _ _ 183 9 [some (.int a1), some (.int a2)] [.int 0] zv_h0 _
      refine Wp.steps 2 (pc1 := 29) (lo1 := [some (.int a1), some (.int a2)]) (st1 := [.int 0]) (h1 := zv_h0) rfl ?_
      refine Wp.ret rfl rfl rfl ?_
      show Wp _ _ 184 5 [some (.ref 113), some (.int a1), some (.int a2), some (.int a3), none] [.int 0] zv_h0 _
      refine Wp.steps 2 (pc1 := 15) (lo1 := [some (.ref 113), some (.int a1), some (.int a2), some (.int a3), none]) (st1 := [.int (-1)]) (h1 := zv_h0) rfl ?_
      exact Wp.ret rfl rfl rfl ⟨rfl, rfl⟩
  · skip
    obtain rfl : a1 = 0 := Int32.toInt_inj.mp (h0.trans (by decide))
    rcases (by omega : (a2.toInt ≤ -1) ∨ (3 ≤ a2.toInt) ∨ (0 ≤ a2.toInt ∧ a2.toInt ≤ 2)) with h1 | h1 | h1
    · skip
      refine ⟨(-1), zv_h0, zv_h0, ?_, rfl, ?_, zv_len⟩
      · show Wp _ _ 85 0 [some (.ref 0), some (.int 0), some (.int a2), some (.int a3)] [] zv_h0 _
        refine Wp.steps 1 (pc1 := 1) (lo1 := [some (.ref 0), some (.int 0), some (.int a2), some (.int a3)]) (st1 := [.int 0]) (h1 := zv_h0) rfl ?_
        refine Wp.call (as := [.int 0]) (rest := []) rfl rfl rfl rfl rfl rfl rfl rfl rfl ?_
        show Wp _ _ 93 0 [some (.int 0)] [] zv_h0 _
        refine Wp.steps 6 (pc1 := 14) (lo1 := [some (.int 0)]) (st1 := [.int 0]) (h1 := zv_h0) rfl ?_
        refine Wp.ret rfl rfl rfl ?_
        show Wp _ _ 85 4 [some (.ref 0), some (.int 0), some (.int a2), some (.int a3)] [.int 0] zv_h0 _
        refine Wp.steps 2 (pc1 := 8) (lo1 := [some (.ref 0), some (.int 0), some (.int a2), some (.int a3)]) (st1 := [.int a2]) (h1 := zv_h0) rfl ?_
        refine Wp.call (as := [.int a2]) (rest := []) rfl rfl rfl rfl rfl rfl rfl rfl rfl ?_
        show Wp _ _ 94 0 [some (.int a2)] [] zv_h0 _
        refine Wp.steps 1 (pc1 := 1) (lo1 := [some (.int a2)]) (st1 := [.int a2]) (h1 := zv_h0) rfl ?_
        refine Wp.ifT (i := .nop) rfl (zq_T rfl (by decide) (show a2.toInt < 0 by omega)) ?_
        show Wp _ _ 94 9 [some (.int a2)] [] zv_h0 _
        refine Wp.steps 2 (pc1 := 14) (lo1 := [some (.int a2)]) (st1 := [.int 1]) (h1 := zv_h0) rfl ?_
        refine Wp.ret rfl rfl rfl ?_
        show Wp _ _ 85 11 [some (.ref 0), some (.int 0), some (.int a2), some (.int a3)] [.int 1] zv_h0 _
        refine Wp.steps 2 (pc1 := 21) (lo1 := [some (.ref 0), some (.int 0), some (.int a2), some (.int a3)]) (st1 := [.int (-1)]) (h1 := zv_h0) rfl ?_
        exact Wp.ret rfl rfl rfl ⟨rfl, rfl⟩
      · show Wp _ _ 184 0 [some (.ref 113), some (.int 0), some (.int a2), some (.int a3), none] [] zv_h0 _
        refine Wp.steps 2 (pc1 := 2) (lo1 := [some (.ref 113), some (.int 0), some (.int a2), some (.int a3), none]) (st1 := [.int a2, .int 0]) (h1 := zv_h0) rfl ?_
        refine Wp.call (as := [.int 0, .int a2]) (rest := []) rfl rfl rfl rfl rfl rfl rfl rfl rfl ?_
        show Wp _ _ 183 0 [some (.int 0), some (.int a2)] [] zv_h0 _
        refine Wp.steps 4 (pc1 := 6) (lo1 := [some (.int 0), some (.int a2)]) (st1 := [.long 3, .long 0, .long 0]) (h1 := zv_h0) rfl ?_
        refine Wp.call (as := [.long 0, .long 0, .long 3]) (rest := []) rfl rfl rfl rfl rfl rfl rfl rfl rfl ?_
        show Wp _ _ 107 0 [some (.long 0), none, some (.long 0), none, some (.long 3), none] [] zv_h0 _
        refine Wp.steps 9 (pc1 := 14) (lo1 := [some (.long 0), none, some (.long 0), none, some (.long 3), none]) (st1 := [.int 1]) (h1 := zv_h0) rfl ?_
        refine Wp.steps 1 (pc1 := 18) (lo1 := [some (.long 0), none, some (.long 0), none, some (.long 3), none]) (st1 := [.int 1]) (h1 := zv_h0) rfl ?_
        refine Wp.ret rfl rfl rfl ?_
        show Wp _ _ 183 9 [some (.int 0), some (.int a2)] [.int 1] zv_h0 _
        refine Wp.steps 5 (pc1 := 18) (lo1 := [some (.int 0), some (.int a2)]) (st1 := [.long 2, .long 0, .long (a2).toInt64]) (h1 := zv_h0) rfl ?_
        refine Wp.call (as := [.long (a2).toInt64, .long 0, .long 2]) (rest := []) rfl rfl rfl rfl rfl rfl rfl rfl rfl ?_
        refine zin_F (Int32.toInt_toInt64 _) (by decide) (by decide) (show a2.toInt < (0 : Int) ∨ (2 : Int) < a2.toInt by omega) ?_
        show Wp _ _ 183 21 [some (.int 0), some (.int a2)] [.int 0] zv_h0 _
        refine Wp.steps 2 (pc1 := 29) (lo1 := [some (.int 0), some (.int a2)]) (st1 := [.int 0]) (h1 := zv_h0) rfl ?_
        refine Wp.ret rfl rfl rfl ?_
        show Wp _ _ 184 5 [some (.ref 113), some (.int 0), some (.int a2), some (.int a3), none] [.int 0] zv_h0 _
        refine Wp.steps 2 (pc1 := 15) (lo1 := [some (.ref 113), some (.int 0), some (.int a2), some (.int a3), none]) (st1 := [.int (-1)]) (h1 := zv_h0) rfl ?_
        exact Wp.ret rfl rfl rfl ⟨rfl, rfl⟩
    · skip
      refine ⟨(-1), zv_h0, zv_h0, ?_, rfl, ?_, zv_len⟩
      · show Wp _ _ 85 0 [some (.ref 0), some (.int 0), some (.int a2), some (.int a3)] [] zv_h0 _
        refine Wp.steps 1 (pc1 := 1) (lo1 := [some (.ref 0), some (.int 0), some (.int a2), some (.int a3)]) (st1 := [.int 0]) (h1 := zv_h0) rfl ?_
        refine Wp.call (as := [.int 0]) (rest := []) rfl rfl rfl rfl rfl rfl rfl rfl rfl ?_
        show Wp _ _ 93 0 [some (.int 0)] [] zv_h0 _
        refine Wp.steps 6 (pc1 := 14) (lo1 := [some (.int 0)]) (st1 := [.int 0]) (h1 := zv_h0) rfl ?_
        refine Wp.ret rfl rfl rfl ?_
        show Wp _ _ 85 4 [some (.ref 0), some (.int 0), some (.int a2), some (.int a3)] [.int 0] zv_h0 _
        refine Wp.steps 2 (pc1 := 8) (lo1 := [some (.ref 0), some (.int 0), some (.int a2), some (.int a3)]) (st1 := [.int a2]) (h1 := zv_h0) rfl ?_
        refine Wp.call (as := [.int a2]) (rest := []) rfl rfl rfl rfl rfl rfl rfl rfl rfl ?_
        show Wp _ _ 94 0 [some (.int a2)] [] zv_h0 _
        refine Wp.steps 1 (pc1 := 1) (lo1 := [some (.int a2)]) (st1 := [.int a2]) (h1 := zv_h0) rfl ?_
        refine Wp.ifF (i := .nop) rfl (zq_F rfl (by decide) (show a2.toInt ≥ 0 by omega)) ?_
        show Wp _ _ 94 4 [some (.int a2)] [] zv_h0 _
        refine Wp.steps 2 (pc1 := 6) (lo1 := [some (.int a2)]) (st1 := [.int 2, .int a2]) (h1 := zv_h0) rfl ?_
        refine Wp.icF (i := .nop) rfl (zq_F rfl (by decide) (show a2.toInt > 2 by omega)) ?_
        show Wp _ _ 94 9 [some (.int a2)] [] zv_h0 _
        refine Wp.steps 2 (pc1 := 14) (lo1 := [some (.int a2)]) (st1 := [.int 1]) (h1 := zv_h0) rfl ?_
        refine Wp.ret rfl rfl rfl ?_
        show Wp _ _ 85 11 [some (.ref 0), some (.int 0), some (.int a2), some (.int a3)] [.int 1] zv_h0 _
        refine Wp.steps 2 (pc1 := 21) (lo1 := [some (.ref 0), some (.int 0), some (.int a2), some (.int a3)]) (st1 := [.int (-1)]) (h1 := zv_h0) rfl ?_
        exact Wp.ret rfl rfl rfl ⟨rfl, rfl⟩
      · show Wp _ _ 184 0 [some (.ref 113), some (.int 0), some (.int a2), some (.int a3), none] [] zv_h0 _
        refine Wp.steps 2 (pc1 := 2) (lo1 := [some (.ref 113), some (.int 0), some (.int a2), some (.int a3), none]) (st1 := [.int a2, .int 0]) (h1 := zv_h0) rfl ?_
        refine Wp.call (as := [.int 0, .int a2]) (rest := []) rfl rfl rfl rfl rfl rfl rfl rfl rfl ?_
        show Wp _ _ 183 0 [some (.int 0), some (.int a2)] [] zv_h0 _
        refine Wp.steps 4 (pc1 := 6) (lo1 := [some (.int 0), some (.int a2)]) (st1 := [.long 3, .long 0, .long 0]) (h1 := zv_h0) rfl ?_
        refine Wp.call (as := [.long 0, .long 0, .long 3]) (rest := []) rfl rfl rfl rfl rfl rfl rfl rfl rfl ?_
        show Wp _ _ 107 0 [some (.long 0), none, some (.long 0), none, some (.long 3), none] [] zv_h0 _
        refine Wp.steps 9 (pc1 := 14) (lo1 := [some (.long 0), none, some (.long 0), none, some (.long 3), none]) (st1 := [.int 1]) (h1 := zv_h0) rfl ?_
        refine Wp.steps 1 (pc1 := 18) (lo1 := [some (.long 0), none, some (.long 0), none, some (.long 3), none]) (st1 := [.int 1]) (h1 := zv_h0) rfl ?_
        refine Wp.ret rfl rfl rfl ?_
        show Wp _ _ 183 9 [some (.int 0), some (.int a2)] [.int 1] zv_h0 _
        refine Wp.steps 5 (pc1 := 18) (lo1 := [some (.int 0), some (.int a2)]) (st1 := [.long 2, .long 0, .long (a2).toInt64]) (h1 := zv_h0) rfl ?_
        refine Wp.call (as := [.long (a2).toInt64, .long 0, .long 2]) (rest := []) rfl rfl rfl rfl rfl rfl rfl rfl rfl ?_
        refine zin_F (Int32.toInt_toInt64 _) (by decide) (by decide) (show a2.toInt < (0 : Int) ∨ (2 : Int) < a2.toInt by omega) ?_
        show Wp _ _ 183 21 [some (.int 0), some (.int a2)] [.int 0] zv_h0 _
        refine Wp.steps 2 (pc1 := 29) (lo1 := [some (.int 0), some (.int a2)]) (st1 := [.int 0]) (h1 := zv_h0) rfl ?_
        refine Wp.ret rfl rfl rfl ?_
        show Wp _ _ 184 5 [some (.ref 113), some (.int 0), some (.int a2), some (.int a3), none] [.int 0] zv_h0 _
        refine Wp.steps 2 (pc1 := 15) (lo1 := [some (.ref 113), some (.int 0), some (.int a2), some (.int a3), none]) (st1 := [.int (-1)]) (h1 := zv_h0) rfl ?_
        exact Wp.ret rfl rfl rfl ⟨rfl, rfl⟩
    · skip
      rcases (by omega : (41 ≤ a3.toInt) ∨ (a3.toInt ≤ -1) ∨ (0 ≤ a3.toInt ∧ a3.toInt ≤ 40)) with h2 | h2 | h2
      · skip
        refine ⟨(-1), zv_h0, zv_h0, ?_, rfl, ?_, zv_len⟩
        · show Wp _ _ 85 0 [some (.ref 0), some (.int 0), some (.int a2), some (.int a3)] [] zv_h0 _
          refine Wp.steps 1 (pc1 := 1) (lo1 := [some (.ref 0), some (.int 0), some (.int a2), some (.int a3)]) (st1 := [.int 0]) (h1 := zv_h0) rfl ?_
          refine Wp.call (as := [.int 0]) (rest := []) rfl rfl rfl rfl rfl rfl rfl rfl rfl ?_
          show Wp _ _ 93 0 [some (.int 0)] [] zv_h0 _
          refine Wp.steps 6 (pc1 := 14) (lo1 := [some (.int 0)]) (st1 := [.int 0]) (h1 := zv_h0) rfl ?_
          refine Wp.ret rfl rfl rfl ?_
          show Wp _ _ 85 4 [some (.ref 0), some (.int 0), some (.int a2), some (.int a3)] [.int 0] zv_h0 _
          refine Wp.steps 2 (pc1 := 8) (lo1 := [some (.ref 0), some (.int 0), some (.int a2), some (.int a3)]) (st1 := [.int a2]) (h1 := zv_h0) rfl ?_
          refine Wp.call (as := [.int a2]) (rest := []) rfl rfl rfl rfl rfl rfl rfl rfl rfl ?_
          show Wp _ _ 94 0 [some (.int a2)] [] zv_h0 _
          refine Wp.steps 1 (pc1 := 1) (lo1 := [some (.int a2)]) (st1 := [.int a2]) (h1 := zv_h0) rfl ?_
          refine Wp.ifF (i := .nop) rfl (zq_F rfl (by decide) (show a2.toInt ≥ 0 by omega)) ?_
          show Wp _ _ 94 4 [some (.int a2)] [] zv_h0 _
          refine Wp.steps 2 (pc1 := 6) (lo1 := [some (.int a2)]) (st1 := [.int 2, .int a2]) (h1 := zv_h0) rfl ?_
          refine Wp.icT (i := .nop) rfl (zq_T rfl (by decide) (show a2.toInt ≤ 2 by omega)) ?_
          show Wp _ _ 94 13 [some (.int a2)] [] zv_h0 _
          refine Wp.steps 1 (pc1 := 14) (lo1 := [some (.int a2)]) (st1 := [.int 0]) (h1 := zv_h0) rfl ?_
          refine Wp.ret rfl rfl rfl ?_
          show Wp _ _ 85 11 [some (.ref 0), some (.int 0), some (.int a2), some (.int a3)] [.int 0] zv_h0 _
          refine Wp.steps 3 (pc1 := 17) (lo1 := [some (.ref 0), some (.int 0), some (.int a2), some (.int a3)]) (st1 := [.int 40, .int a3]) (h1 := zv_h0) rfl ?_
          refine Wp.icF (i := .nop) rfl (zq_F rfl (by decide) (show a3.toInt > 40 by omega)) ?_
          show Wp _ _ 85 20 [some (.ref 0), some (.int 0), some (.int a2), some (.int a3)] [] zv_h0 _
          refine Wp.steps 1 (pc1 := 21) (lo1 := [some (.ref 0), some (.int 0), some (.int a2), some (.int a3)]) (st1 := [.int (-1)]) (h1 := zv_h0) rfl ?_
          exact Wp.ret rfl rfl rfl ⟨rfl, rfl⟩
        · show Wp _ _ 184 0 [some (.ref 113), some (.int 0), some (.int a2), some (.int a3), none] [] zv_h0 _
          refine Wp.steps 2 (pc1 := 2) (lo1 := [some (.ref 113), some (.int 0), some (.int a2), some (.int a3), none]) (st1 := [.int a2, .int 0]) (h1 := zv_h0) rfl ?_
          refine Wp.call (as := [.int 0, .int a2]) (rest := []) rfl rfl rfl rfl rfl rfl rfl rfl rfl ?_
          show Wp _ _ 183 0 [some (.int 0), some (.int a2)] [] zv_h0 _
          refine Wp.steps 4 (pc1 := 6) (lo1 := [some (.int 0), some (.int a2)]) (st1 := [.long 3, .long 0, .long 0]) (h1 := zv_h0) rfl ?_
          refine Wp.call (as := [.long 0, .long 0, .long 3]) (rest := []) rfl rfl rfl rfl rfl rfl rfl rfl rfl ?_
          show Wp _ _ 107 0 [some (.long 0), none, some (.long 0), none, some (.long 3), none] [] zv_h0 _
          refine Wp.steps 9 (pc1 := 14) (lo1 := [some (.long 0), none, some (.long 0), none, some (.long 3), none]) (st1 := [.int 1]) (h1 := zv_h0) rfl ?_
          refine Wp.steps 1 (pc1 := 18) (lo1 := [some (.long 0), none, some (.long 0), none, some (.long 3), none]) (st1 := [.int 1]) (h1 := zv_h0) rfl ?_
          refine Wp.ret rfl rfl rfl ?_
          show Wp _ _ 183 9 [some (.int 0), some (.int a2)] [.int 1] zv_h0 _
          refine Wp.steps 5 (pc1 := 18) (lo1 := [some (.int 0), some (.int a2)]) (st1 := [.long 2, .long 0, .long (a2).toInt64]) (h1 := zv_h0) rfl ?_
          refine Wp.call (as := [.long (a2).toInt64, .long 0, .long 2]) (rest := []) rfl rfl rfl rfl rfl rfl rfl rfl rfl ?_
          refine zin_T (Int32.toInt_toInt64 _) (by decide) (by decide) (show (0 : Int) ≤ a2.toInt by omega) (show a2.toInt ≤ (2 : Int) by omega) ?_
          show Wp _ _ 183 21 [some (.int 0), some (.int a2)] [.int 1] zv_h0 _
          refine Wp.steps 3 (pc1 := 29) (lo1 := [some (.int 0), some (.int a2)]) (st1 := [.int 1]) (h1 := zv_h0) rfl ?_
          refine Wp.ret rfl rfl rfl ?_
          show Wp _ _ 184 5 [some (.ref 113), some (.int 0), some (.int a2), some (.int a3), none] [.int 1] zv_h0 _
          refine Wp.steps 3 (pc1 := 11) (lo1 := [some (.ref 113), some (.int 0), some (.int a2), some (.int a3), none]) (st1 := [.int 40, .int a3]) (h1 := zv_h0) rfl ?_
          refine Wp.icF (i := .nop) rfl (zq_F rfl (by decide) (show a3.toInt > 40 by omega)) ?_
          show Wp _ _ 184 14 [some (.ref 113), some (.int 0), some (.int a2), some (.int a3), none] [] zv_h0 _
          refine Wp.steps 1 (pc1 := 15) (lo1 := [some (.ref 113), some (.int 0), some (.int a2), some (.int a3), none]) (st1 := [.int (-1)]) (h1 := zv_h0) rfl ?_
          exact Wp.ret rfl rfl rfl ⟨rfl, rfl⟩
      · skip
        refine ⟨(-14), zv_h0, zv_h0, ?_, rfl, ?_, zv_len⟩
        · show Wp _ _ 85 0 [some (.ref 0), some (.int 0), some (.int a2), some (.int a3)] [] zv_h0 _
          refine Wp.steps 1 (pc1 := 1) (lo1 := [some (.ref 0), some (.int 0), some (.int a2), some (.int a3)]) (st1 := [.int 0]) (h1 := zv_h0) rfl ?_
          refine Wp.call (as := [.int 0]) (rest := []) rfl rfl rfl rfl rfl rfl rfl rfl rfl ?_
          show Wp _ _ 93 0 [some (.int 0)] [] zv_h0 _
          refine Wp.steps 6 (pc1 := 14) (lo1 := [some (.int 0)]) (st1 := [.int 0]) (h1 := zv_h0) rfl ?_
          refine Wp.ret rfl rfl rfl ?_
          show Wp _ _ 85 4 [some (.ref 0), some (.int 0), some (.int a2), some (.int a3)] [.int 0] zv_h0 _
          refine Wp.steps 2 (pc1 := 8) (lo1 := [some (.ref 0), some (.int 0), some (.int a2), some (.int a3)]) (st1 := [.int a2]) (h1 := zv_h0) rfl ?_
          refine Wp.call (as := [.int a2]) (rest := []) rfl rfl rfl rfl rfl rfl rfl rfl rfl ?_
          show Wp _ _ 94 0 [some (.int a2)] [] zv_h0 _
          refine Wp.steps 1 (pc1 := 1) (lo1 := [some (.int a2)]) (st1 := [.int a2]) (h1 := zv_h0) rfl ?_
          refine Wp.ifF (i := .nop) rfl (zq_F rfl (by decide) (show a2.toInt ≥ 0 by omega)) ?_
          show Wp _ _ 94 4 [some (.int a2)] [] zv_h0 _
          refine Wp.steps 2 (pc1 := 6) (lo1 := [some (.int a2)]) (st1 := [.int 2, .int a2]) (h1 := zv_h0) rfl ?_
          refine Wp.icT (i := .nop) rfl (zq_T rfl (by decide) (show a2.toInt ≤ 2 by omega)) ?_
          show Wp _ _ 94 13 [some (.int a2)] [] zv_h0 _
          refine Wp.steps 1 (pc1 := 14) (lo1 := [some (.int a2)]) (st1 := [.int 0]) (h1 := zv_h0) rfl ?_
          refine Wp.ret rfl rfl rfl ?_
          show Wp _ _ 85 11 [some (.ref 0), some (.int 0), some (.int a2), some (.int a3)] [.int 0] zv_h0 _
          refine Wp.steps 3 (pc1 := 17) (lo1 := [some (.ref 0), some (.int 0), some (.int a2), some (.int a3)]) (st1 := [.int 40, .int a3]) (h1 := zv_h0) rfl ?_
          refine Wp.icT (i := .nop) rfl (zq_T rfl (by decide) (show a3.toInt ≤ 40 by omega)) ?_
          show Wp _ _ 85 22 [some (.ref 0), some (.int 0), some (.int a2), some (.int a3)] [] zv_h0 _
          refine Wp.steps 1 (pc1 := 23) (lo1 := [some (.ref 0), some (.int 0), some (.int a2), some (.int a3)]) (st1 := [.int a3]) (h1 := zv_h0) rfl ?_
          refine Wp.ifF (i := .nop) rfl (zq_F rfl (by decide) (show a3.toInt < 0 by omega)) ?_
          show Wp _ _ 85 26 [some (.ref 0), some (.int 0), some (.int a2), some (.int a3)] [] zv_h0 _
          refine Wp.steps 1 (pc1 := 28) (lo1 := [some (.ref 0), some (.int 0), some (.int a2), some (.int a3)]) (st1 := [.int (-14)]) (h1 := zv_h0) rfl ?_
          exact Wp.ret rfl rfl rfl ⟨rfl, rfl⟩
        · show Wp _ _ 184 0 [some (.ref 113), some (.int 0), some (.int a2), some (.int a3), none] [] zv_h0 _
          refine Wp.steps 2 (pc1 := 2) (lo1 := [some (.ref 113), some (.int 0), some (.int a2), some (.int a3), none]) (st1 := [.int a2, .int 0]) (h1 := zv_h0) rfl ?_
          refine Wp.call (as := [.int 0, .int a2]) (rest := []) rfl rfl rfl rfl rfl rfl rfl rfl rfl ?_
          show Wp _ _ 183 0 [some (.int 0), some (.int a2)] [] zv_h0 _
          refine Wp.steps 4 (pc1 := 6) (lo1 := [some (.int 0), some (.int a2)]) (st1 := [.long 3, .long 0, .long 0]) (h1 := zv_h0) rfl ?_
          refine Wp.call (as := [.long 0, .long 0, .long 3]) (rest := []) rfl rfl rfl rfl rfl rfl rfl rfl rfl ?_
          show Wp _ _ 107 0 [some (.long 0), none, some (.long 0), none, some (.long 3), none] [] zv_h0 _
          refine Wp.steps 9 (pc1 := 14) (lo1 := [some (.long 0), none, some (.long 0), none, some (.long 3), none]) (st1 := [.int 1]) (h1 := zv_h0) rfl ?_
          refine Wp.steps 1 (pc1 := 18) (lo1 := [some (.long 0), none, some (.long 0), none, some (.long 3), none]) (st1 := [.int 1]) (h1 := zv_h0) rfl ?_
          refine Wp.ret rfl rfl rfl ?_
          show Wp _ _ 183 9 [some (.int 0), some (.int a2)] [.int 1] zv_h0 _
          refine Wp.steps 5 (pc1 := 18) (lo1 := [some (.int 0), some (.int a2)]) (st1 := [.long 2, .long 0, .long (a2).toInt64]) (h1 := zv_h0) rfl ?_
          refine Wp.call (as := [.long (a2).toInt64, .long 0, .long 2]) (rest := []) rfl rfl rfl rfl rfl rfl rfl rfl rfl ?_
          refine zin_T (Int32.toInt_toInt64 _) (by decide) (by decide) (show (0 : Int) ≤ a2.toInt by omega) (show a2.toInt ≤ (2 : Int) by omega) ?_
          show Wp _ _ 183 21 [some (.int 0), some (.int a2)] [.int 1] zv_h0 _
          refine Wp.steps 3 (pc1 := 29) (lo1 := [some (.int 0), some (.int a2)]) (st1 := [.int 1]) (h1 := zv_h0) rfl ?_
          refine Wp.ret rfl rfl rfl ?_
          show Wp _ _ 184 5 [some (.ref 113), some (.int 0), some (.int a2), some (.int a3), none] [.int 1] zv_h0 _
          refine Wp.steps 3 (pc1 := 11) (lo1 := [some (.ref 113), some (.int 0), some (.int a2), some (.int a3), none]) (st1 := [.int 40, .int a3]) (h1 := zv_h0) rfl ?_
          refine Wp.icT (i := .nop) rfl (zq_T rfl (by decide) (show a3.toInt ≤ 40 by omega)) ?_
          show Wp _ _ 184 16 [some (.ref 113), some (.int 0), some (.int a2), some (.int a3), none] [] zv_h0 _
          refine Wp.steps 1 (pc1 := 17) (lo1 := [some (.ref 113), some (.int 0), some (.int a2), some (.int a3), none]) (st1 := [.int a3]) (h1 := zv_h0) rfl ?_
          refine Wp.ifF (i := .nop) rfl (zq_F rfl (by decide) (show a3.toInt < 0 by omega)) ?_
          show Wp _ _ 184 20 [some (.ref 113), some (.int 0), some (.int a2), some (.int a3), none] [] zv_h0 _
          refine Wp.steps 1 (pc1 := 22) (lo1 := [some (.ref 113), some (.int 0), some (.int a2), some (.int a3), none]) (st1 := [.int (-14)]) (h1 := zv_h0) rfl ?_
          exact Wp.ret rfl rfl rfl ⟨rfl, rfl⟩
      · skip
        refine ⟨1, (zv_h0.set 105 (.inr (.inr (5, [.int a3, .ref 106, .int a2])))), (((zv_h0.set 105 (.inr (.inr (5, [.int a3, .ref 106, .int a2])))).set 119 (.inl (0, [a2, (-4), (-4), (-4)]))).set 120 (.inl (0, [a3, 0, 0, 0]))), ?_, rfl, ?_, (zv_ls rfl rfl (zv_ls rfl rfl (zv_ls rfl rfl zv_len)))⟩
        · show Wp _ _ 85 0 [some (.ref 0), some (.int 0), some (.int a2), some (.int a3)] [] zv_h0 _
          refine Wp.steps 1 (pc1 := 1) (lo1 := [some (.ref 0), some (.int 0), some (.int a2), some (.int a3)]) (st1 := [.int 0]) (h1 := zv_h0) rfl ?_
          refine Wp.call (as := [.int 0]) (rest := []) rfl rfl rfl rfl rfl rfl rfl rfl rfl ?_
          show Wp _ _ 93 0 [some (.int 0)] [] zv_h0 _
          refine Wp.steps 6 (pc1 := 14) (lo1 := [some (.int 0)]) (st1 := [.int 0]) (h1 := zv_h0) rfl ?_
          refine Wp.ret rfl rfl rfl ?_
          show Wp _ _ 85 4 [some (.ref 0), some (.int 0), some (.int a2), some (.int a3)] [.int 0] zv_h0 _
          refine Wp.steps 2 (pc1 := 8) (lo1 := [some (.ref 0), some (.int 0), some (.int a2), some (.int a3)]) (st1 := [.int a2]) (h1 := zv_h0) rfl ?_
          refine Wp.call (as := [.int a2]) (rest := []) rfl rfl rfl rfl rfl rfl rfl rfl rfl ?_
          show Wp _ _ 94 0 [some (.int a2)] [] zv_h0 _
          refine Wp.steps 1 (pc1 := 1) (lo1 := [some (.int a2)]) (st1 := [.int a2]) (h1 := zv_h0) rfl ?_
          refine Wp.ifF (i := .nop) rfl (zq_F rfl (by decide) (show a2.toInt ≥ 0 by omega)) ?_
          show Wp _ _ 94 4 [some (.int a2)] [] zv_h0 _
          refine Wp.steps 2 (pc1 := 6) (lo1 := [some (.int a2)]) (st1 := [.int 2, .int a2]) (h1 := zv_h0) rfl ?_
          refine Wp.icT (i := .nop) rfl (zq_T rfl (by decide) (show a2.toInt ≤ 2 by omega)) ?_
          show Wp _ _ 94 13 [some (.int a2)] [] zv_h0 _
          refine Wp.steps 1 (pc1 := 14) (lo1 := [some (.int a2)]) (st1 := [.int 0]) (h1 := zv_h0) rfl ?_
          refine Wp.ret rfl rfl rfl ?_
          show Wp _ _ 85 11 [some (.ref 0), some (.int 0), some (.int a2), some (.int a3)] [.int 0] zv_h0 _
          refine Wp.steps 3 (pc1 := 17) (lo1 := [some (.ref 0), some (.int 0), some (.int a2), some (.int a3)]) (st1 := [.int 40, .int a3]) (h1 := zv_h0) rfl ?_
          refine Wp.icT (i := .nop) rfl (zq_T rfl (by decide) (show a3.toInt ≤ 40 by omega)) ?_
          show Wp _ _ 85 22 [some (.ref 0), some (.int 0), some (.int a2), some (.int a3)] [] zv_h0 _
          refine Wp.steps 1 (pc1 := 23) (lo1 := [some (.ref 0), some (.int 0), some (.int a2), some (.int a3)]) (st1 := [.int a3]) (h1 := zv_h0) rfl ?_
          refine Wp.ifT (i := .nop) rfl (zq_T rfl (by decide) (show a3.toInt ≥ 0 by omega)) ?_
          show Wp _ _ 85 29 [some (.ref 0), some (.int 0), some (.int a2), some (.int a3)] [] zv_h0 _
          refine Wp.steps 6 (pc1 := 37) (lo1 := [some (.ref 0), some (.int 0), some (.int a2), some (.int a3)]) (st1 := [.int a3, .int a2, .ref 105]) (h1 := zv_h0) rfl ?_
          refine Wp.call (as := [.ref 105, .int a2, .int a3]) (rest := []) rfl rfl rfl rfl rfl rfl rfl rfl rfl ?_
          show Wp _ _ 47 0 [some (.ref 105), some (.int a2), some (.int a3), none] [] zv_h0 _
          refine Wp.steps 8 (pc1 := 12) (lo1 := [some (.ref 105), some (.int a2), some (.int a3), some (.int 0)]) (st1 := []) (h1 := (zv_h0.set 105 (.inr (.inr (5, [.int a3, .ref 106, .int a2]))))) rfl ?_
          refine zlp_x rfl rfl ?_ 40 0 rfl
          show Wp _ _ 47 31 [some (.ref 105), some (.int a2), some (.int a3), some (.int 40)] [] (zv_h0.set 105 (.inr (.inr (5, [.int a3, .ref 106, .int a2])))) _
          refine Wp.ret rfl rfl rfl ?_
          show Wp _ _ 85 40 [some (.ref 0), some (.int 0), some (.int a2), some (.int a3)] [] (zv_h0.set 105 (.inr (.inr (5, [.int a3, .ref 106, .int a2])))) _
          refine Wp.steps 1 (pc1 := 41) (lo1 := [some (.ref 0), some (.int 0), some (.int a2), some (.int a3)]) (st1 := [.int 1]) (h1 := (zv_h0.set 105 (.inr (.inr (5, [.int a3, .ref 106, .int a2]))))) rfl ?_
          exact Wp.ret rfl rfl rfl ⟨rfl, rfl⟩
        · show Wp _ _ 184 0 [some (.ref 113), some (.int 0), some (.int a2), some (.int a3), none] [] (zv_h0.set 105 (.inr (.inr (5, [.int a3, .ref 106, .int a2])))) _
          refine Wp.steps 2 (pc1 := 2) (lo1 := [some (.ref 113), some (.int 0), some (.int a2), some (.int a3), none]) (st1 := [.int a2, .int 0]) (h1 := (zv_h0.set 105 (.inr (.inr (5, [.int a3, .ref 106, .int a2]))))) rfl ?_
          refine Wp.call (as := [.int 0, .int a2]) (rest := []) rfl rfl rfl rfl rfl rfl rfl rfl rfl ?_
          show Wp _ _ 183 0 [some (.int 0), some (.int a2)] [] (zv_h0.set 105 (.inr (.inr (5, [.int a3, .ref 106, .int a2])))) _
          refine Wp.steps 4 (pc1 := 6) (lo1 := [some (.int 0), some (.int a2)]) (st1 := [.long 3, .long 0, .long 0]) (h1 := (zv_h0.set 105 (.inr (.inr (5, [.int a3, .ref 106, .int a2]))))) rfl ?_
          refine Wp.call (as := [.long 0, .long 0, .long 3]) (rest := []) rfl rfl rfl rfl rfl rfl rfl rfl rfl ?_
          show Wp _ _ 107 0 [some (.long 0), none, some (.long 0), none, some (.long 3), none] [] (zv_h0.set 105 (.inr (.inr (5, [.int a3, .ref 106, .int a2])))) _
          refine Wp.steps 9 (pc1 := 14) (lo1 := [some (.long 0), none, some (.long 0), none, some (.long 3), none]) (st1 := [.int 1]) (h1 := (zv_h0.set 105 (.inr (.inr (5, [.int a3, .ref 106, .int a2]))))) rfl ?_
          refine Wp.steps 1 (pc1 := 18) (lo1 := [some (.long 0), none, some (.long 0), none, some (.long 3), none]) (st1 := [.int 1]) (h1 := (zv_h0.set 105 (.inr (.inr (5, [.int a3, .ref 106, .int a2]))))) rfl ?_
          refine Wp.ret rfl rfl rfl ?_
          show Wp _ _ 183 9 [some (.int 0), some (.int a2)] [.int 1] (zv_h0.set 105 (.inr (.inr (5, [.int a3, .ref 106, .int a2])))) _
          refine Wp.steps 5 (pc1 := 18) (lo1 := [some (.int 0), some (.int a2)]) (st1 := [.long 2, .long 0, .long (a2).toInt64]) (h1 := (zv_h0.set 105 (.inr (.inr (5, [.int a3, .ref 106, .int a2]))))) rfl ?_
          refine Wp.call (as := [.long (a2).toInt64, .long 0, .long 2]) (rest := []) rfl rfl rfl rfl rfl rfl rfl rfl rfl ?_
          refine zin_T (Int32.toInt_toInt64 _) (by decide) (by decide) (show (0 : Int) ≤ a2.toInt by omega) (show a2.toInt ≤ (2 : Int) by omega) ?_
          show Wp _ _ 183 21 [some (.int 0), some (.int a2)] [.int 1] (zv_h0.set 105 (.inr (.inr (5, [.int a3, .ref 106, .int a2])))) _
          refine Wp.steps 3 (pc1 := 29) (lo1 := [some (.int 0), some (.int a2)]) (st1 := [.int 1]) (h1 := (zv_h0.set 105 (.inr (.inr (5, [.int a3, .ref 106, .int a2]))))) rfl ?_
          refine Wp.ret rfl rfl rfl ?_
          show Wp _ _ 184 5 [some (.ref 113), some (.int 0), some (.int a2), some (.int a3), none] [.int 1] (zv_h0.set 105 (.inr (.inr (5, [.int a3, .ref 106, .int a2])))) _
          refine Wp.steps 3 (pc1 := 11) (lo1 := [some (.ref 113), some (.int 0), some (.int a2), some (.int a3), none]) (st1 := [.int 40, .int a3]) (h1 := (zv_h0.set 105 (.inr (.inr (5, [.int a3, .ref 106, .int a2]))))) rfl ?_
          refine Wp.icT (i := .nop) rfl (zq_T rfl (by decide) (show a3.toInt ≤ 40 by omega)) ?_
          show Wp _ _ 184 16 [some (.ref 113), some (.int 0), some (.int a2), some (.int a3), none] [] (zv_h0.set 105 (.inr (.inr (5, [.int a3, .ref 106, .int a2])))) _
          refine Wp.steps 1 (pc1 := 17) (lo1 := [some (.ref 113), some (.int 0), some (.int a2), some (.int a3), none]) (st1 := [.int a3]) (h1 := (zv_h0.set 105 (.inr (.inr (5, [.int a3, .ref 106, .int a2]))))) rfl ?_
          refine Wp.ifT (i := .nop) rfl (zq_T rfl (by decide) (show a3.toInt ≥ 0 by omega)) ?_
          show Wp _ _ 184 23 [some (.ref 113), some (.int 0), some (.int a2), some (.int a3), none] [] (zv_h0.set 105 (.inr (.inr (5, [.int a3, .ref 106, .int a2])))) _
          refine Wp.steps 8 (pc1 := 35) (lo1 := [some (.ref 113), some (.int 0), some (.int a2), some (.int a3), none]) (st1 := [.int 0, .ref 120]) (h1 := ((zv_h0.set 105 (.inr (.inr (5, [.int a3, .ref 106, .int a2])))).set 119 (.inl (0, [a2, (-4), (-4), (-4)])))) rfl ?_
          refine Wp.steps 4 (pc1 := 40) (lo1 := [some (.ref 113), some (.int 0), some (.int a2), some (.int a3), some (.int 0)]) (st1 := []) (h1 := (((zv_h0.set 105 (.inr (.inr (5, [.int a3, .ref 106, .int a2])))).set 119 (.inl (0, [a2, (-4), (-4), (-4)]))).set 120 (.inl (0, [a3, 0, 0, 0])))) rfl ?_
          refine zlp_m (k := 0) (by decide) rfl rfl rfl (by decide) ?_ 40 0 rfl
          show Wp _ _ 184 66 [some (.ref 113), some (.int 0), some (.int a2), some (.int a3), some (.int 40)] [] (((zv_h0.set 105 (.inr (.inr (5, [.int a3, .ref 106, .int a2])))).set 119 (.inl (0, [a2, (-4), (-4), (-4)]))).set 120 (.inl (0, [a3, 0, 0, 0]))) _
          refine Wp.steps 1 (pc1 := 67) (lo1 := [some (.ref 113), some (.int 0), some (.int a2), some (.int a3), some (.int 40)]) (st1 := [.int 1]) (h1 := (((zv_h0.set 105 (.inr (.inr (5, [.int a3, .ref 106, .int a2])))).set 119 (.inl (0, [a2, (-4), (-4), (-4)]))).set 120 (.inl (0, [a3, 0, 0, 0])))) rfl ?_
          exact Wp.ret rfl rfl rfl ⟨rfl, rfl⟩
  · skip
    obtain rfl : a1 = 1 := Int32.toInt_inj.mp (h0.trans (by decide))
    rcases (by omega : (a2.toInt ≤ -1) ∨ (3 ≤ a2.toInt) ∨ (0 ≤ a2.toInt ∧ a2.toInt ≤ 2)) with h1 | h1 | h1
    · skip
      refine ⟨(-1), zv_h0, zv_h0, ?_, rfl, ?_, zv_len⟩
      · show Wp _ _ 85 0 [some (.ref 0), some (.int 1), some (.int a2), some (.int a3)] [] zv_h0 _
        refine Wp.steps 1 (pc1 := 1) (lo1 := [some (.ref 0), some (.int 1), some (.int a2), some (.int a3)]) (st1 := [.int 1]) (h1 := zv_h0) rfl ?_
        refine Wp.call (as := [.int 1]) (rest := []) rfl rfl rfl rfl rfl rfl rfl rfl rfl ?_
        show Wp _ _ 93 0 [some (.int 1)] [] zv_h0 _
        refine Wp.steps 6 (pc1 := 14) (lo1 := [some (.int 1)]) (st1 := [.int 0]) (h1 := zv_h0) rfl ?_
        refine Wp.ret rfl rfl rfl ?_
        show Wp _ _ 85 4 [some (.ref 0), some (.int 1), some (.int a2), some (.int a3)] [.int 0] zv_h0 _
        refine Wp.steps 2 (pc1 := 8) (lo1 := [some (.ref 0), some (.int 1), some (.int a2), some (.int a3)]) (st1 := [.int a2]) (h1 := zv_h0) rfl ?_
        refine Wp.call (as := [.int a2]) (rest := []) rfl rfl rfl rfl rfl rfl rfl rfl rfl ?_
        show Wp _ _ 94 0 [some (.int a2)] [] zv_h0 _
        refine Wp.steps 1 (pc1 := 1) (lo1 := [some (.int a2)]) (st1 := [.int a2]) (h1 := zv_h0) rfl ?_
        refine Wp.ifT (i := .nop) rfl (zq_T rfl (by decide) (show a2.toInt < 0 by omega)) ?_
        show Wp _ _ 94 9 [some (.int a2)] [] zv_h0 _
        refine Wp.steps 2 (pc1 := 14) (lo1 := [some (.int a2)]) (st1 := [.int 1]) (h1 := zv_h0) rfl ?_
        refine Wp.ret rfl rfl rfl ?_
        show Wp _ _ 85 11 [some (.ref 0), some (.int 1), some (.int a2), some (.int a3)] [.int 1] zv_h0 _
        refine Wp.steps 2 (pc1 := 21) (lo1 := [some (.ref 0), some (.int 1), some (.int a2), some (.int a3)]) (st1 := [.int (-1)]) (h1 := zv_h0) rfl ?_
        exact Wp.ret rfl rfl rfl ⟨rfl, rfl⟩
      · show Wp _ _ 184 0 [some (.ref 113), some (.int 1), some (.int a2), some (.int a3), none] [] zv_h0 _
        refine Wp.steps 2 (pc1 := 2) (lo1 := [some (.ref 113), some (.int 1), some (.int a2), some (.int a3), none]) (st1 := [.int a2, .int 1]) (h1 := zv_h0) rfl ?_
        refine Wp.call (as := [.int 1, .int a2]) (rest := []) rfl rfl rfl rfl rfl rfl rfl rfl rfl ?_
        show Wp _ _ 183 0 [some (.int 1), some (.int a2)] [] zv_h0 _
        refine Wp.steps 4 (pc1 := 6) (lo1 := [some (.int 1), some (.int a2)]) (st1 := [.long 3, .long 0, .long 1]) (h1 := zv_h0) rfl ?_
        refine Wp.call (as := [.long 1, .long 0, .long 3]) (rest := []) rfl rfl rfl rfl rfl rfl rfl rfl rfl ?_
        show Wp _ _ 107 0 [some (.long 1), none, some (.long 0), none, some (.long 3), none] [] zv_h0 _
        refine Wp.steps 9 (pc1 := 14) (lo1 := [some (.long 1), none, some (.long 0), none, some (.long 3), none]) (st1 := [.int 1]) (h1 := zv_h0) rfl ?_
        refine Wp.steps 1 (pc1 := 18) (lo1 := [some (.long 1), none, some (.long 0), none, some (.long 3), none]) (st1 := [.int 1]) (h1 := zv_h0) rfl ?_
        refine Wp.ret rfl rfl rfl ?_
        show Wp _ _ 183 9 [some (.int 1), some (.int a2)] [.int 1] zv_h0 _
        refine Wp.steps 5 (pc1 := 18) (lo1 := [some (.int 1), some (.int a2)]) (st1 := [.long 2, .long 0, .long (a2).toInt64]) (h1 := zv_h0) rfl ?_
        refine Wp.call (as := [.long (a2).toInt64, .long 0, .long 2]) (rest := []) rfl rfl rfl rfl rfl rfl rfl rfl rfl ?_
        refine zin_F (Int32.toInt_toInt64 _) (by decide) (by decide) (show a2.toInt < (0 : Int) ∨ (2 : Int) < a2.toInt by omega) ?_
        show Wp _ _ 183 21 [some (.int 1), some (.int a2)] [.int 0] zv_h0 _
        refine Wp.steps 2 (pc1 := 29) (lo1 := [some (.int 1), some (.int a2)]) (st1 := [.int 0]) (h1 := zv_h0) rfl ?_
        refine Wp.ret rfl rfl rfl ?_
        show Wp _ _ 184 5 [some (.ref 113), some (.int 1), some (.int a2), some (.int a3), none] [.int 0] zv_h0 _
        refine Wp.steps 2 (pc1 := 15) (lo1 := [some (.ref 113), some (.int 1), some (.int a2), some (.int a3), none]) (st1 := [.int (-1)]) (h1 := zv_h0) rfl ?_
        exact Wp.ret rfl rfl rfl ⟨rfl, rfl⟩
    · skip
      refine ⟨(-1), zv_h0, zv_h0, ?_, rfl, ?_, zv_len⟩
      · show Wp _ _ 85 0 [some (.ref 0), some (.int 1), some (.int a2), some (.int a3)] [] zv_h0 _
        refine Wp.steps 1 (pc1 := 1) (lo1 := [some (.ref 0), some (.int 1), some (.int a2), some (.int a3)]) (st1 := [.int 1]) (h1 := zv_h0) rfl ?_
        refine Wp.call (as := [.int 1]) (rest := []) rfl rfl rfl rfl rfl rfl rfl rfl rfl ?_
        show Wp _ _ 93 0 [some (.int 1)] [] zv_h0 _
        refine Wp.steps 6 (pc1 := 14) (lo1 := [some (.int 1)]) (st1 := [.int 0]) (h1 := zv_h0) rfl ?_
        refine Wp.ret rfl rfl rfl ?_
        show Wp _ _ 85 4 [some (.ref 0), some (.int 1), some (.int a2), some (.int a3)] [.int 0] zv_h0 _
        refine Wp.steps 2 (pc1 := 8) (lo1 := [some (.ref 0), some (.int 1), some (.int a2), some (.int a3)]) (st1 := [.int a2]) (h1 := zv_h0) rfl ?_
        refine Wp.call (as := [.int a2]) (rest := []) rfl rfl rfl rfl rfl rfl rfl rfl rfl ?_
        show Wp _ _ 94 0 [some (.int a2)] [] zv_h0 _
        refine Wp.steps 1 (pc1 := 1) (lo1 := [some (.int a2)]) (st1 := [.int a2]) (h1 := zv_h0) rfl ?_
        refine Wp.ifF (i := .nop) rfl (zq_F rfl (by decide) (show a2.toInt ≥ 0 by omega)) ?_
        show Wp _ _ 94 4 [some (.int a2)] [] zv_h0 _
        refine Wp.steps 2 (pc1 := 6) (lo1 := [some (.int a2)]) (st1 := [.int 2, .int a2]) (h1 := zv_h0) rfl ?_
        refine Wp.icF (i := .nop) rfl (zq_F rfl (by decide) (show a2.toInt > 2 by omega)) ?_
        show Wp _ _ 94 9 [some (.int a2)] [] zv_h0 _
        refine Wp.steps 2 (pc1 := 14) (lo1 := [some (.int a2)]) (st1 := [.int 1]) (h1 := zv_h0) rfl ?_
        refine Wp.ret rfl rfl rfl ?_
        show Wp _ _ 85 11 [some (.ref 0), some (.int 1), some (.int a2), some (.int a3)] [.int 1] zv_h0 _
        refine Wp.steps 2 (pc1 := 21) (lo1 := [some (.ref 0), some (.int 1), some (.int a2), some (.int a3)]) (st1 := [.int (-1)]) (h1 := zv_h0) rfl ?_
        exact Wp.ret rfl rfl rfl ⟨rfl, rfl⟩
      · show Wp _ _ 184 0 [some (.ref 113), some (.int 1), some (.int a2), some (.int a3), none] [] zv_h0 _
        refine Wp.steps 2 (pc1 := 2) (lo1 := [some (.ref 113), some (.int 1), some (.int a2), some (.int a3), none]) (st1 := [.int a2, .int 1]) (h1 := zv_h0) rfl ?_
        refine Wp.call (as := [.int 1, .int a2]) (rest := []) rfl rfl rfl rfl rfl rfl rfl rfl rfl ?_
        show Wp _ _ 183 0 [some (.int 1), some (.int a2)] [] zv_h0 _
        refine Wp.steps 4 (pc1 := 6) (lo1 := [some (.int 1), some (.int a2)]) (st1 := [.long 3, .long 0, .long 1]) (h1 := zv_h0) rfl ?_
        refine Wp.call (as := [.long 1, .long 0, .long 3]) (rest := []) rfl rfl rfl rfl rfl rfl rfl rfl rfl ?_
        show Wp _ _ 107 0 [some (.long 1), none, some (.long 0), none, some (.long 3), none] [] zv_h0 _
        refine Wp.steps 9 (pc1 := 14) (lo1 := [some (.long 1), none, some (.long 0), none, some (.long 3), none]) (st1 := [.int 1]) (h1 := zv_h0) rfl ?_
        refine Wp.steps 1 (pc1 := 18) (lo1 := [some (.long 1), none, some (.long 0), none, some (.long 3), none]) (st1 := [.int 1]) (h1 := zv_h0) rfl ?_
        refine Wp.ret rfl rfl rfl ?_
        show Wp _ _ 183 9 [some (.int 1), some (.int a2)] [.int 1] zv_h0 _
        refine Wp.steps 5 (pc1 := 18) (lo1 := [some (.int 1), some (.int a2)]) (st1 := [.long 2, .long 0, .long (a2).toInt64]) (h1 := zv_h0) rfl ?_
        refine Wp.call (as := [.long (a2).toInt64, .long 0, .long 2]) (rest := []) rfl rfl rfl rfl rfl rfl rfl rfl rfl ?_
        refine zin_F (Int32.toInt_toInt64 _) (by decide) (by decide) (show a2.toInt < (0 : Int) ∨ (2 : Int) < a2.toInt by omega) ?_
        show Wp _ _ 183 21 [some (.int 1), some (.int a2)] [.int 0] zv_h0 _
        refine Wp.steps 2 (pc1 := 29) (lo1 := [some (.int 1), some (.int a2)]) (st1 := [.int 0]) (h1 := zv_h0) rfl ?_
        refine Wp.ret rfl rfl rfl ?_
        show Wp _ _ 184 5 [some (.ref 113), some (.int 1), some (.int a2), some (.int a3), none] [.int 0] zv_h0 _
        refine Wp.steps 2 (pc1 := 15) (lo1 := [some (.ref 113), some (.int 1), some (.int a2), some (.int a3), none]) (st1 := [.int (-1)]) (h1 := zv_h0) rfl ?_
        exact Wp.ret rfl rfl rfl ⟨rfl, rfl⟩
    · skip
      rcases (by omega : (41 ≤ a3.toInt) ∨ (a3.toInt ≤ -1) ∨ (0 ≤ a3.toInt ∧ a3.toInt ≤ 40)) with h2 | h2 | h2
      · skip
        refine ⟨(-1), zv_h0, zv_h0, ?_, rfl, ?_, zv_len⟩
        · show Wp _ _ 85 0 [some (.ref 0), some (.int 1), some (.int a2), some (.int a3)] [] zv_h0 _
          refine Wp.steps 1 (pc1 := 1) (lo1 := [some (.ref 0), some (.int 1), some (.int a2), some (.int a3)]) (st1 := [.int 1]) (h1 := zv_h0) rfl ?_
          refine Wp.call (as := [.int 1]) (rest := []) rfl rfl rfl rfl rfl rfl rfl rfl rfl ?_
          show Wp _ _ 93 0 [some (.int 1)] [] zv_h0 _
          refine Wp.steps 6 (pc1 := 14) (lo1 := [some (.int 1)]) (st1 := [.int 0]) (h1 := zv_h0) rfl ?_
          refine Wp.ret rfl rfl rfl ?_
          show Wp _ _ 85 4 [some (.ref 0), some (.int 1), some (.int a2), some (.int a3)] [.int 0] zv_h0 _
          refine Wp.steps 2 (pc1 := 8) (lo1 := [some (.ref 0), some (.int 1), some (.int a2), some (.int a3)]) (st1 := [.int a2]) (h1 := zv_h0) rfl ?_
          refine Wp.call (as := [.int a2]) (rest := []) rfl rfl rfl rfl rfl rfl rfl rfl rfl ?_
          show Wp _ _ 94 0 [some (.int a2)] [] zv_h0 _
          refine Wp.steps 1 (pc1 := 1) (lo1 := [some (.int a2)]) (st1 := [.int a2]) (h1 := zv_h0) rfl ?_
          refine Wp.ifF (i := .nop) rfl (zq_F rfl (by decide) (show a2.toInt ≥ 0 by omega)) ?_
          show Wp _ _ 94 4 [some (.int a2)] [] zv_h0 _
          refine Wp.steps 2 (pc1 := 6) (lo1 := [some (.int a2)]) (st1 := [.int 2, .int a2]) (h1 := zv_h0) rfl ?_
          refine Wp.icT (i := .nop) rfl (zq_T rfl (by decide) (show a2.toInt ≤ 2 by omega)) ?_
          show Wp _ _ 94 13 [some (.int a2)] [] zv_h0 _
          refine Wp.steps 1 (pc1 := 14) (lo1 := [some (.int a2)]) (st1 := [.int 0]) (h1 := zv_h0) rfl ?_
          refine Wp.ret rfl rfl rfl ?_
          show Wp _ _ 85 11 [some (.ref 0), some (.int 1), some (.int a2), some (.int a3)] [.int 0] zv_h0 _
          refine Wp.steps 3 (pc1 := 17) (lo1 := [some (.ref 0), some (.int 1), some (.int a2), some (.int a3)]) (st1 := [.int 40, .int a3]) (h1 := zv_h0) rfl ?_
          refine Wp.icF (i := .nop) rfl (zq_F rfl (by decide) (show a3.toInt > 40 by omega)) ?_
          show Wp _ _ 85 20 [some (.ref 0), some (.int 1), some (.int a2), some (.int a3)] [] zv_h0 _
          refine Wp.steps 1 (pc1 := 21) (lo1 := [some (.ref 0), some (.int 1), some (.int a2), some (.int a3)]) (st1 := [.int (-1)]) (h1 := zv_h0) rfl ?_
          exact Wp.ret rfl rfl rfl ⟨rfl, rfl⟩
        · show Wp _ _ 184 0 [some (.ref 113), some (.int 1), some (.int a2), some (.int a3), none] [] zv_h0 _
          refine Wp.steps 2 (pc1 := 2) (lo1 := [some (.ref 113), some (.int 1), some (.int a2), some (.int a3), none]) (st1 := [.int a2, .int 1]) (h1 := zv_h0) rfl ?_
          refine Wp.call (as := [.int 1, .int a2]) (rest := []) rfl rfl rfl rfl rfl rfl rfl rfl rfl ?_
          show Wp _ _ 183 0 [some (.int 1), some (.int a2)] [] zv_h0 _
          refine Wp.steps 4 (pc1 := 6) (lo1 := [some (.int 1), some (.int a2)]) (st1 := [.long 3, .long 0, .long 1]) (h1 := zv_h0) rfl ?_
          refine Wp.call (as := [.long 1, .long 0, .long 3]) (rest := []) rfl rfl rfl rfl rfl rfl rfl rfl rfl ?_
          show Wp _ _ 107 0 [some (.long 1), none, some (.long 0), none, some (.long 3), none] [] zv_h0 _
          refine Wp.steps 9 (pc1 := 14) (lo1 := [some (.long 1), none, some (.long 0), none, some (.long 3), none]) (st1 := [.int 1]) (h1 := zv_h0) rfl ?_
          refine Wp.steps 1 (pc1 := 18) (lo1 := [some (.long 1), none, some (.long 0), none, some (.long 3), none]) (st1 := [.int 1]) (h1 := zv_h0) rfl ?_
          refine Wp.ret rfl rfl rfl ?_
          show Wp _ _ 183 9 [some (.int 1), some (.int a2)] [.int 1] zv_h0 _
          refine Wp.steps 5 (pc1 := 18) (lo1 := [some (.int 1), some (.int a2)]) (st1 := [.long 2, .long 0, .long (a2).toInt64]) (h1 := zv_h0) rfl ?_
          refine Wp.call (as := [.long (a2).toInt64, .long 0, .long 2]) (rest := []) rfl rfl rfl rfl rfl rfl rfl rfl rfl ?_
          refine zin_T (Int32.toInt_toInt64 _) (by decide) (by decide) (show (0 : Int) ≤ a2.toInt by omega) (show a2.toInt ≤ (2 : Int) by omega) ?_
          show Wp _ _ 183 21 [some (.int 1), some (.int a2)] [.int 1] zv_h0 _
          refine Wp.steps 3 (pc1 := 29) (lo1 := [some (.int 1), some (.int a2)]) (st1 := [.int 1]) (h1 := zv_h0) rfl ?_
          refine Wp.ret rfl rfl rfl ?_
          show Wp _ _ 184 5 [some (.ref 113), some (.int 1), some (.int a2), some (.int a3), none] [.int 1] zv_h0 _
          refine Wp.steps 3 (pc1 := 11) (lo1 := [some (.ref 113), some (.int 1), some (.int a2), some (.int a3), none]) (st1 := [.int 40, .int a3]) (h1 := zv_h0) rfl ?_
          refine Wp.icF (i := .nop) rfl (zq_F rfl (by decide) (show a3.toInt > 40 by omega)) ?_
          show Wp _ _ 184 14 [some (.ref 113), some (.int 1), some (.int a2), some (.int a3), none] [] zv_h0 _
          refine Wp.steps 1 (pc1 := 15) (lo1 := [some (.ref 113), some (.int 1), some (.int a2), some (.int a3), none]) (st1 := [.int (-1)]) (h1 := zv_h0) rfl ?_
          exact Wp.ret rfl rfl rfl ⟨rfl, rfl⟩
      · skip
        refine ⟨(-14), zv_h0, zv_h0, ?_, rfl, ?_, zv_len⟩
        · show Wp _ _ 85 0 [some (.ref 0), some (.int 1), some (.int a2), some (.int a3)] [] zv_h0 _
          refine Wp.steps 1 (pc1 := 1) (lo1 := [some (.ref 0), some (.int 1), some (.int a2), some (.int a3)]) (st1 := [.int 1]) (h1 := zv_h0) rfl ?_
          refine Wp.call (as := [.int 1]) (rest := []) rfl rfl rfl rfl rfl rfl rfl rfl rfl ?_
          show Wp _ _ 93 0 [some (.int 1)] [] zv_h0 _
          refine Wp.steps 6 (pc1 := 14) (lo1 := [some (.int 1)]) (st1 := [.int 0]) (h1 := zv_h0) rfl ?_
          refine Wp.ret rfl rfl rfl ?_
          show Wp _ _ 85 4 [some (.ref 0), some (.int 1), some (.int a2), some (.int a3)] [.int 0] zv_h0 _
          refine Wp.steps 2 (pc1 := 8) (lo1 := [some (.ref 0), some (.int 1), some (.int a2), some (.int a3)]) (st1 := [.int a2]) (h1 := zv_h0) rfl ?_
          refine Wp.call (as := [.int a2]) (rest := []) rfl rfl rfl rfl rfl rfl rfl rfl rfl ?_
          show Wp _ _ 94 0 [some (.int a2)] [] zv_h0 _
          refine Wp.steps 1 (pc1 := 1) (lo1 := [some (.int a2)]) (st1 := [.int a2]) (h1 := zv_h0) rfl ?_
          refine Wp.ifF (i := .nop) rfl (zq_F rfl (by decide) (show a2.toInt ≥ 0 by omega)) ?_
          show Wp _ _ 94 4 [some (.int a2)] [] zv_h0 _
          refine Wp.steps 2 (pc1 := 6) (lo1 := [some (.int a2)]) (st1 := [.int 2, .int a2]) (h1 := zv_h0) rfl ?_
          refine Wp.icT (i := .nop) rfl (zq_T rfl (by decide) (show a2.toInt ≤ 2 by omega)) ?_
          show Wp _ _ 94 13 [some (.int a2)] [] zv_h0 _
          refine Wp.steps 1 (pc1 := 14) (lo1 := [some (.int a2)]) (st1 := [.int 0]) (h1 := zv_h0) rfl ?_
          refine Wp.ret rfl rfl rfl ?_
          show Wp _ _ 85 11 [some (.ref 0), some (.int 1), some (.int a2), some (.int a3)] [.int 0] zv_h0 _
          refine Wp.steps 3 (pc1 := 17) (lo1 := [some (.ref 0), some (.int 1), some (.int a2), some (.int a3)]) (st1 := [.int 40, .int a3]) (h1 := zv_h0) rfl ?_
          refine Wp.icT (i := .nop) rfl (zq_T rfl (by decide) (show a3.toInt ≤ 40 by omega)) ?_
          show Wp _ _ 85 22 [some (.ref 0), some (.int 1), some (.int a2), some (.int a3)] [] zv_h0 _
          refine Wp.steps 1 (pc1 := 23) (lo1 := [some (.ref 0), some (.int 1), some (.int a2), some (.int a3)]) (st1 := [.int a3]) (h1 := zv_h0) rfl ?_
          refine Wp.ifF (i := .nop) rfl (zq_F rfl (by decide) (show a3.toInt < 0 by omega)) ?_
          show Wp _ _ 85 26 [some (.ref 0), some (.int 1), some (.int a2), some (.int a3)] [] zv_h0 _
          refine Wp.steps 1 (pc1 := 28) (lo1 := [some (.ref 0), some (.int 1), some (.int a2), some (.int a3)]) (st1 := [.int (-14)]) (h1 := zv_h0) rfl ?_
          exact Wp.ret rfl rfl rfl ⟨rfl, rfl⟩
        · show Wp _ _ 184 0 [some (.ref 113), some (.int 1), some (.int a2), some (.int a3), none] [] zv_h0 _
          refine Wp.steps 2 (pc1 := 2) (lo1 := [some (.ref 113), some (.int 1), some (.int a2), some (.int a3), none]) (st1 := [.int a2, .int 1]) (h1 := zv_h0) rfl ?_
          refine Wp.call (as := [.int 1, .int a2]) (rest := []) rfl rfl rfl rfl rfl rfl rfl rfl rfl ?_
          show Wp _ _ 183 0 [some (.int 1), some (.int a2)] [] zv_h0 _
          refine Wp.steps 4 (pc1 := 6) (lo1 := [some (.int 1), some (.int a2)]) (st1 := [.long 3, .long 0, .long 1]) (h1 := zv_h0) rfl ?_
          refine Wp.call (as := [.long 1, .long 0, .long 3]) (rest := []) rfl rfl rfl rfl rfl rfl rfl rfl rfl ?_
          show Wp _ _ 107 0 [some (.long 1), none, some (.long 0), none, some (.long 3), none] [] zv_h0 _
          refine Wp.steps 9 (pc1 := 14) (lo1 := [some (.long 1), none, some (.long 0), none, some (.long 3), none]) (st1 := [.int 1]) (h1 := zv_h0) rfl ?_
          refine Wp.steps 1 (pc1 := 18) (lo1 := [some (.long 1), none, some (.long 0), none, some (.long 3), none]) (st1 := [.int 1]) (h1 := zv_h0) rfl ?_
          refine Wp.ret rfl rfl rfl ?_
          show Wp _ _ 183 9 [some (.int 1), some (.int a2)] [.int 1] zv_h0 _
          refine Wp.steps 5 (pc1 := 18) (lo1 := [some (.int 1), some (.int a2)]) (st1 := [.long 2, .long 0, .long (a2).toInt64]) (h1 := zv_h0) rfl ?_
          refine Wp.call (as := [.long (a2).toInt64, .long 0, .long 2]) (rest := []) rfl rfl rfl rfl rfl rfl rfl rfl rfl ?_
          refine zin_T (Int32.toInt_toInt64 _) (by decide) (by decide) (show (0 : Int) ≤ a2.toInt by omega) (show a2.toInt ≤ (2 : Int) by omega) ?_
          show Wp _ _ 183 21 [some (.int 1), some (.int a2)] [.int 1] zv_h0 _
          refine Wp.steps 3 (pc1 := 29) (lo1 := [some (.int 1), some (.int a2)]) (st1 := [.int 1]) (h1 := zv_h0) rfl ?_
          refine Wp.ret rfl rfl rfl ?_
          show Wp _ _ 184 5 [some (.ref 113), some (.int 1), some (.int a2), some (.int a3), none] [.int 1] zv_h0 _
          refine Wp.steps 3 (pc1 := 11) (lo1 := [some (.ref 113), some (.int 1), some (.int a2), some (.int a3), none]) (st1 := [.int 40, .int a3]) (h1 := zv_h0) rfl ?_
          refine Wp.icT (i := .nop) rfl (zq_T rfl (by decide) (show a3.toInt ≤ 40 by omega)) ?_
          show Wp _ _ 184 16 [some (.ref 113), some (.int 1), some (.int a2), some (.int a3), none] [] zv_h0 _
          refine Wp.steps 1 (pc1 := 17) (lo1 := [some (.ref 113), some (.int 1), some (.int a2), some (.int a3), none]) (st1 := [.int a3]) (h1 := zv_h0) rfl ?_
          refine Wp.ifF (i := .nop) rfl (zq_F rfl (by decide) (show a3.toInt < 0 by omega)) ?_
          show Wp _ _ 184 20 [some (.ref 113), some (.int 1), some (.int a2), some (.int a3), none] [] zv_h0 _
          refine Wp.steps 1 (pc1 := 22) (lo1 := [some (.ref 113), some (.int 1), some (.int a2), some (.int a3), none]) (st1 := [.int (-14)]) (h1 := zv_h0) rfl ?_
          exact Wp.ret rfl rfl rfl ⟨rfl, rfl⟩
      · skip
        refine ⟨1, (zv_h0.set 107 (.inr (.inr (5, [.int a3, .ref 108, .int a2])))), (((zv_h0.set 107 (.inr (.inr (5, [.int a3, .ref 108, .int a2])))).set 119 (.inl (0, [(-4), a2, (-4), (-4)]))).set 120 (.inl (0, [0, a3, 0, 0]))), ?_, rfl, ?_, (zv_ls rfl rfl (zv_ls rfl rfl (zv_ls rfl rfl zv_len)))⟩
        · show Wp _ _ 85 0 [some (.ref 0), some (.int 1), some (.int a2), some (.int a3)] [] zv_h0 _
          refine Wp.steps 1 (pc1 := 1) (lo1 := [some (.ref 0), some (.int 1), some (.int a2), some (.int a3)]) (st1 := [.int 1]) (h1 := zv_h0) rfl ?_
          refine Wp.call (as := [.int 1]) (rest := []) rfl rfl rfl rfl rfl rfl rfl rfl rfl ?_
          show Wp _ _ 93 0 [some (.int 1)] [] zv_h0 _
          refine Wp.steps 6 (pc1 := 14) (lo1 := [some (.int 1)]) (st1 := [.int 0]) (h1 := zv_h0) rfl ?_
          refine Wp.ret rfl rfl rfl ?_
          show Wp _ _ 85 4 [some (.ref 0), some (.int 1), some (.int a2), some (.int a3)] [.int 0] zv_h0 _
          refine Wp.steps 2 (pc1 := 8) (lo1 := [some (.ref 0), some (.int 1), some (.int a2), some (.int a3)]) (st1 := [.int a2]) (h1 := zv_h0) rfl ?_
          refine Wp.call (as := [.int a2]) (rest := []) rfl rfl rfl rfl rfl rfl rfl rfl rfl ?_
          show Wp _ _ 94 0 [some (.int a2)] [] zv_h0 _
          refine Wp.steps 1 (pc1 := 1) (lo1 := [some (.int a2)]) (st1 := [.int a2]) (h1 := zv_h0) rfl ?_
          refine Wp.ifF (i := .nop) rfl (zq_F rfl (by decide) (show a2.toInt ≥ 0 by omega)) ?_
          show Wp _ _ 94 4 [some (.int a2)] [] zv_h0 _
          refine Wp.steps 2 (pc1 := 6) (lo1 := [some (.int a2)]) (st1 := [.int 2, .int a2]) (h1 := zv_h0) rfl ?_
          refine Wp.icT (i := .nop) rfl (zq_T rfl (by decide) (show a2.toInt ≤ 2 by omega)) ?_
          show Wp _ _ 94 13 [some (.int a2)] [] zv_h0 _
          refine Wp.steps 1 (pc1 := 14) (lo1 := [some (.int a2)]) (st1 := [.int 0]) (h1 := zv_h0) rfl ?_
          refine Wp.ret rfl rfl rfl ?_
          show Wp _ _ 85 11 [some (.ref 0), some (.int 1), some (.int a2), some (.int a3)] [.int 0] zv_h0 _
          refine Wp.steps 3 (pc1 := 17) (lo1 := [some (.ref 0), some (.int 1), some (.int a2), some (.int a3)]) (st1 := [.int 40, .int a3]) (h1 := zv_h0) rfl ?_
          refine Wp.icT (i := .nop) rfl (zq_T rfl (by decide) (show a3.toInt ≤ 40 by omega)) ?_
          show Wp _ _ 85 22 [some (.ref 0), some (.int 1), some (.int a2), some (.int a3)] [] zv_h0 _
          refine Wp.steps 1 (pc1 := 23) (lo1 := [some (.ref 0), some (.int 1), some (.int a2), some (.int a3)]) (st1 := [.int a3]) (h1 := zv_h0) rfl ?_
          refine Wp.ifT (i := .nop) rfl (zq_T rfl (by decide) (show a3.toInt ≥ 0 by omega)) ?_
          show Wp _ _ 85 29 [some (.ref 0), some (.int 1), some (.int a2), some (.int a3)] [] zv_h0 _
          refine Wp.steps 6 (pc1 := 37) (lo1 := [some (.ref 0), some (.int 1), some (.int a2), some (.int a3)]) (st1 := [.int a3, .int a2, .ref 107]) (h1 := zv_h0) rfl ?_
          refine Wp.call (as := [.ref 107, .int a2, .int a3]) (rest := []) rfl rfl rfl rfl rfl rfl rfl rfl rfl ?_
          show Wp _ _ 47 0 [some (.ref 107), some (.int a2), some (.int a3), none] [] zv_h0 _
          refine Wp.steps 8 (pc1 := 12) (lo1 := [some (.ref 107), some (.int a2), some (.int a3), some (.int 0)]) (st1 := []) (h1 := (zv_h0.set 107 (.inr (.inr (5, [.int a3, .ref 108, .int a2]))))) rfl ?_
          refine zlp_x rfl rfl ?_ 40 0 rfl
          show Wp _ _ 47 31 [some (.ref 107), some (.int a2), some (.int a3), some (.int 40)] [] (zv_h0.set 107 (.inr (.inr (5, [.int a3, .ref 108, .int a2])))) _
          refine Wp.ret rfl rfl rfl ?_
          show Wp _ _ 85 40 [some (.ref 0), some (.int 1), some (.int a2), some (.int a3)] [] (zv_h0.set 107 (.inr (.inr (5, [.int a3, .ref 108, .int a2])))) _
          refine Wp.steps 1 (pc1 := 41) (lo1 := [some (.ref 0), some (.int 1), some (.int a2), some (.int a3)]) (st1 := [.int 1]) (h1 := (zv_h0.set 107 (.inr (.inr (5, [.int a3, .ref 108, .int a2]))))) rfl ?_
          exact Wp.ret rfl rfl rfl ⟨rfl, rfl⟩
        · show Wp _ _ 184 0 [some (.ref 113), some (.int 1), some (.int a2), some (.int a3), none] [] (zv_h0.set 107 (.inr (.inr (5, [.int a3, .ref 108, .int a2])))) _
          refine Wp.steps 2 (pc1 := 2) (lo1 := [some (.ref 113), some (.int 1), some (.int a2), some (.int a3), none]) (st1 := [.int a2, .int 1]) (h1 := (zv_h0.set 107 (.inr (.inr (5, [.int a3, .ref 108, .int a2]))))) rfl ?_
          refine Wp.call (as := [.int 1, .int a2]) (rest := []) rfl rfl rfl rfl rfl rfl rfl rfl rfl ?_
          show Wp _ _ 183 0 [some (.int 1), some (.int a2)] [] (zv_h0.set 107 (.inr (.inr (5, [.int a3, .ref 108, .int a2])))) _
          refine Wp.steps 4 (pc1 := 6) (lo1 := [some (.int 1), some (.int a2)]) (st1 := [.long 3, .long 0, .long 1]) (h1 := (zv_h0.set 107 (.inr (.inr (5, [.int a3, .ref 108, .int a2]))))) rfl ?_
          refine Wp.call (as := [.long 1, .long 0, .long 3]) (rest := []) rfl rfl rfl rfl rfl rfl rfl rfl rfl ?_
          show Wp _ _ 107 0 [some (.long 1), none, some (.long 0), none, some (.long 3), none] [] (zv_h0.set 107 (.inr (.inr (5, [.int a3, .ref 108, .int a2])))) _
          refine Wp.steps 9 (pc1 := 14) (lo1 := [some (.long 1), none, some (.long 0), none, some (.long 3), none]) (st1 := [.int 1]) (h1 := (zv_h0.set 107 (.inr (.inr (5, [.int a3, .ref 108, .int a2]))))) rfl ?_
          refine Wp.steps 1 (pc1 := 18) (lo1 := [some (.long 1), none, some (.long 0), none, some (.long 3), none]) (st1 := [.int 1]) (h1 := (zv_h0.set 107 (.inr (.inr (5, [.int a3, .ref 108, .int a2]))))) rfl ?_
          refine Wp.ret rfl rfl rfl ?_
          show Wp _ _ 183 9 [some (.int 1), some (.int a2)] [.int 1] (zv_h0.set 107 (.inr (.inr (5, [.int a3, .ref 108, .int a2])))) _
          refine Wp.steps 5 (pc1 := 18) (lo1 := [some (.int 1), some (.int a2)]) (st1 := [.long 2, .long 0, .long (a2).toInt64]) (h1 := (zv_h0.set 107 (.inr (.inr (5, [.int a3, .ref 108, .int a2]))))) rfl ?_
          refine Wp.call (as := [.long (a2).toInt64, .long 0, .long 2]) (rest := []) rfl rfl rfl rfl rfl rfl rfl rfl rfl ?_
          refine zin_T (Int32.toInt_toInt64 _) (by decide) (by decide) (show (0 : Int) ≤ a2.toInt by omega) (show a2.toInt ≤ (2 : Int) by omega) ?_
          show Wp _ _ 183 21 [some (.int 1), some (.int a2)] [.int 1] (zv_h0.set 107 (.inr (.inr (5, [.int a3, .ref 108, .int a2])))) _
          refine Wp.steps 3 (pc1 := 29) (lo1 := [some (.int 1), some (.int a2)]) (st1 := [.int 1]) (h1 := (zv_h0.set 107 (.inr (.inr (5, [.int a3, .ref 108, .int a2]))))) rfl ?_
          refine Wp.ret rfl rfl rfl ?_
          show Wp _ _ 184 5 [some (.ref 113), some (.int 1), some (.int a2), some (.int a3), none] [.int 1] (zv_h0.set 107 (.inr (.inr (5, [.int a3, .ref 108, .int a2])))) _
          refine Wp.steps 3 (pc1 := 11) (lo1 := [some (.ref 113), some (.int 1), some (.int a2), some (.int a3), none]) (st1 := [.int 40, .int a3]) (h1 := (zv_h0.set 107 (.inr (.inr (5, [.int a3, .ref 108, .int a2]))))) rfl ?_
          refine Wp.icT (i := .nop) rfl (zq_T rfl (by decide) (show a3.toInt ≤ 40 by omega)) ?_
          show Wp _ _ 184 16 [some (.ref 113), some (.int 1), some (.int a2), some (.int a3), none] [] (zv_h0.set 107 (.inr (.inr (5, [.int a3, .ref 108, .int a2])))) _
          refine Wp.steps 1 (pc1 := 17) (lo1 := [some (.ref 113), some (.int 1), some (.int a2), some (.int a3), none]) (st1 := [.int a3]) (h1 := (zv_h0.set 107 (.inr (.inr (5, [.int a3, .ref 108, .int a2]))))) rfl ?_
          refine Wp.ifT (i := .nop) rfl (zq_T rfl (by decide) (show a3.toInt ≥ 0 by omega)) ?_
          show Wp _ _ 184 23 [some (.ref 113), some (.int 1), some (.int a2), some (.int a3), none] [] (zv_h0.set 107 (.inr (.inr (5, [.int a3, .ref 108, .int a2])))) _
          refine Wp.steps 8 (pc1 := 35) (lo1 := [some (.ref 113), some (.int 1), some (.int a2), some (.int a3), none]) (st1 := [.int 1, .ref 120]) (h1 := ((zv_h0.set 107 (.inr (.inr (5, [.int a3, .ref 108, .int a2])))).set 119 (.inl (0, [(-4), a2, (-4), (-4)])))) rfl ?_
          refine Wp.steps 4 (pc1 := 40) (lo1 := [some (.ref 113), some (.int 1), some (.int a2), some (.int a3), some (.int 0)]) (st1 := []) (h1 := (((zv_h0.set 107 (.inr (.inr (5, [.int a3, .ref 108, .int a2])))).set 119 (.inl (0, [(-4), a2, (-4), (-4)]))).set 120 (.inl (0, [0, a3, 0, 0])))) rfl ?_
          refine zlp_m (k := 1) (by decide) rfl rfl rfl (by decide) ?_ 40 0 rfl
          show Wp _ _ 184 66 [some (.ref 113), some (.int 1), some (.int a2), some (.int a3), some (.int 40)] [] (((zv_h0.set 107 (.inr (.inr (5, [.int a3, .ref 108, .int a2])))).set 119 (.inl (0, [(-4), a2, (-4), (-4)]))).set 120 (.inl (0, [0, a3, 0, 0]))) _
          refine Wp.steps 1 (pc1 := 67) (lo1 := [some (.ref 113), some (.int 1), some (.int a2), some (.int a3), some (.int 40)]) (st1 := [.int 1]) (h1 := (((zv_h0.set 107 (.inr (.inr (5, [.int a3, .ref 108, .int a2])))).set 119 (.inl (0, [(-4), a2, (-4), (-4)]))).set 120 (.inl (0, [0, a3, 0, 0])))) rfl ?_
          exact Wp.ret rfl rfl rfl ⟨rfl, rfl⟩
  · skip
    obtain rfl : a1 = 2 := Int32.toInt_inj.mp (h0.trans (by decide))
    rcases (by omega : (a2.toInt ≤ -1) ∨ (3 ≤ a2.toInt) ∨ (0 ≤ a2.toInt ∧ a2.toInt ≤ 2)) with h1 | h1 | h1
    · skip
      refine ⟨(-1), zv_h0, zv_h0, ?_, rfl, ?_, zv_len⟩
      · show Wp _ _ 85 0 [some (.ref 0), some (.int 2), some (.int a2), some (.int a3)] [] zv_h0 _
        refine Wp.steps 1 (pc1 := 1) (lo1 := [some (.ref 0), some (.int 2), some (.int a2), some (.int a3)]) (st1 := [.int 2]) (h1 := zv_h0) rfl ?_
        refine Wp.call (as := [.int 2]) (rest := []) rfl rfl rfl rfl rfl rfl rfl rfl rfl ?_
        show Wp _ _ 93 0 [some (.int 2)] [] zv_h0 _
        refine Wp.steps 6 (pc1 := 14) (lo1 := [some (.int 2)]) (st1 := [.int 0]) (h1 := zv_h0) rfl ?_
        refine Wp.ret rfl rfl rfl ?_
        show Wp _ _ 85 4 [some (.ref 0), some (.int 2), some (.int a2), some (.int a3)] [.int 0] zv_h0 _
        refine Wp.steps 2 (pc1 := 8) (lo1 := [some (.ref 0), some (.int 2), some (.int a2), some (.int a3)]) (st1 := [.int a2]) (h1 := zv_h0) rfl ?_
        refine Wp.call (as := [.int a2]) (rest := []) rfl rfl rfl rfl rfl rfl rfl rfl rfl ?_
        show Wp _ _ 94 0 [some (.int a2)] [] zv_h0 _
        refine Wp.steps 1 (pc1 := 1) (lo1 := [some (.int a2)]) (st1 := [.int a2]) (h1 := zv_h0) rfl ?_
        refine Wp.ifT (i := .nop) rfl (zq_T rfl (by decide) (show a2.toInt < 0 by omega)) ?_
        show Wp _ _ 94 9 [some (.int a2)] [] zv_h0 _
        refine Wp.steps 2 (pc1 := 14) (lo1 := [some (.int a2)]) (st1 := [.int 1]) (h1 := zv_h0) rfl ?_
        refine Wp.ret rfl rfl rfl ?_
        show Wp _ _ 85 11 [some (.ref 0), some (.int 2), some (.int a2), some (.int a3)] [.int 1] zv_h0 _
        refine Wp.steps 2 (pc1 := 21) (lo1 := [some (.ref 0), some (.int 2), some (.int a2), some (.int a3)]) (st1 := [.int (-1)]) (h1 := zv_h0) rfl ?_
        exact Wp.ret rfl rfl rfl ⟨rfl, rfl⟩
      · show Wp _ _ 184 0 [some (.ref 113), some (.int 2), some (.int a2), some (.int a3), none] [] zv_h0 _
        refine Wp.steps 2 (pc1 := 2) (lo1 := [some (.ref 113), some (.int 2), some (.int a2), some (.int a3), none]) (st1 := [.int a2, .int 2]) (h1 := zv_h0) rfl ?_
        refine Wp.call (as := [.int 2, .int a2]) (rest := []) rfl rfl rfl rfl rfl rfl rfl rfl rfl ?_
        show Wp _ _ 183 0 [some (.int 2), some (.int a2)] [] zv_h0 _
        refine Wp.steps 4 (pc1 := 6) (lo1 := [some (.int 2), some (.int a2)]) (st1 := [.long 3, .long 0, .long 2]) (h1 := zv_h0) rfl ?_
        refine Wp.call (as := [.long 2, .long 0, .long 3]) (rest := []) rfl rfl rfl rfl rfl rfl rfl rfl rfl ?_
        show Wp _ _ 107 0 [some (.long 2), none, some (.long 0), none, some (.long 3), none] [] zv_h0 _
        refine Wp.steps 9 (pc1 := 14) (lo1 := [some (.long 2), none, some (.long 0), none, some (.long 3), none]) (st1 := [.int 1]) (h1 := zv_h0) rfl ?_
        refine Wp.steps 1 (pc1 := 18) (lo1 := [some (.long 2), none, some (.long 0), none, some (.long 3), none]) (st1 := [.int 1]) (h1 := zv_h0) rfl ?_
        refine Wp.ret rfl rfl rfl ?_
        show Wp _ _ 183 9 [some (.int 2), some (.int a2)] [.int 1] zv_h0 _
        refine Wp.steps 5 (pc1 := 18) (lo1 := [some (.int 2), some (.int a2)]) (st1 := [.long 2, .long 0, .long (a2).toInt64]) (h1 := zv_h0) rfl ?_
        refine Wp.call (as := [.long (a2).toInt64, .long 0, .long 2]) (rest := []) rfl rfl rfl rfl rfl rfl rfl rfl rfl ?_
        refine zin_F (Int32.toInt_toInt64 _) (by decide) (by decide) (show a2.toInt < (0 : Int) ∨ (2 : Int) < a2.toInt by omega) ?_
        show Wp _ _ 183 21 [some (.int 2), some (.int a2)] [.int 0] zv_h0 _
        refine Wp.steps 2 (pc1 := 29) (lo1 := [some (.int 2), some (.int a2)]) (st1 := [.int 0]) (h1 := zv_h0) rfl ?_
        refine Wp.ret rfl rfl rfl ?_
        show Wp _ _ 184 5 [some (.ref 113), some (.int 2), some (.int a2), some (.int a3), none] [.int 0] zv_h0 _
        refine Wp.steps 2 (pc1 := 15) (lo1 := [some (.ref 113), some (.int 2), some (.int a2), some (.int a3), none]) (st1 := [.int (-1)]) (h1 := zv_h0) rfl ?_
        exact Wp.ret rfl rfl rfl ⟨rfl, rfl⟩
    · skip
      refine ⟨(-1), zv_h0, zv_h0, ?_, rfl, ?_, zv_len⟩
      · show Wp _ _ 85 0 [some (.ref 0), some (.int 2), some (.int a2), some (.int a3)] [] zv_h0 _
        refine Wp.steps 1 (pc1 := 1) (lo1 := [some (.ref 0), some (.int 2), some (.int a2), some (.int a3)]) (st1 := [.int 2]) (h1 := zv_h0) rfl ?_
        refine Wp.call (as := [.int 2]) (rest := []) rfl rfl rfl rfl rfl rfl rfl rfl rfl ?_
        show Wp _ _ 93 0 [some (.int 2)] [] zv_h0 _
        refine Wp.steps 6 (pc1 := 14) (lo1 := [some (.int 2)]) (st1 := [.int 0]) (h1 := zv_h0) rfl ?_
        refine Wp.ret rfl rfl rfl ?_
        show Wp _ _ 85 4 [some (.ref 0), some (.int 2), some (.int a2), some (.int a3)] [.int 0] zv_h0 _
        refine Wp.steps 2 (pc1 := 8) (lo1 := [some (.ref 0), some (.int 2), some (.int a2), some (.int a3)]) (st1 := [.int a2]) (h1 := zv_h0) rfl ?_
        refine Wp.call (as := [.int a2]) (rest := []) rfl rfl rfl rfl rfl rfl rfl rfl rfl ?_
        show Wp _ _ 94 0 [some (.int a2)] [] zv_h0 _
        refine Wp.steps 1 (pc1 := 1) (lo1 := [some (.int a2)]) (st1 := [.int a2]) (h1 := zv_h0) rfl ?_
        refine Wp.ifF (i := .nop) rfl (zq_F rfl (by decide) (show a2.toInt ≥ 0 by omega)) ?_
        show Wp _ _ 94 4 [some (.int a2)] [] zv_h0 _
        refine Wp.steps 2 (pc1 := 6) (lo1 := [some (.int a2)]) (st1 := [.int 2, .int a2]) (h1 := zv_h0) rfl ?_
        refine Wp.icF (i := .nop) rfl (zq_F rfl (by decide) (show a2.toInt > 2 by omega)) ?_
        show Wp _ _ 94 9 [some (.int a2)] [] zv_h0 _
        refine Wp.steps 2 (pc1 := 14) (lo1 := [some (.int a2)]) (st1 := [.int 1]) (h1 := zv_h0) rfl ?_
        refine Wp.ret rfl rfl rfl ?_
        show Wp _ _ 85 11 [some (.ref 0), some (.int 2), some (.int a2), some (.int a3)] [.int 1] zv_h0 _
        refine Wp.steps 2 (pc1 := 21) (lo1 := [some (.ref 0), some (.int 2), some (.int a2), some (.int a3)]) (st1 := [.int (-1)]) (h1 := zv_h0) rfl ?_
        exact Wp.ret rfl rfl rfl ⟨rfl, rfl⟩
      · show Wp _ _ 184 0 [some (.ref 113), some (.int 2), some (.int a2), some (.int a3), none] [] zv_h0 _
        refine Wp.steps 2 (pc1 := 2) (lo1 := [some (.ref 113), some (.int 2), some (.int a2), some (.int a3), none]) (st1 := [.int a2, .int 2]) (h1 := zv_h0) rfl ?_
        refine Wp.call (as := [.int 2, .int a2]) (rest := []) rfl rfl rfl rfl rfl rfl rfl rfl rfl ?_
        show Wp _ _ 183 0 [some (.int 2), some (.int a2)] [] zv_h0 _
        refine Wp.steps 4 (pc1 := 6) (lo1 := [some (.int 2), some (.int a2)]) (st1 := [.long 3, .long 0, .long 2]) (h1 := zv_h0) rfl ?_
        refine Wp.call (as := [.long 2, .long 0, .long 3]) (rest := []) rfl rfl rfl rfl rfl rfl rfl rfl rfl ?_
        show Wp _ _ 107 0 [some (.long 2), none, some (.long 0), none, some (.long 3), none] [] zv_h0 _
        refine Wp.steps 9 (pc1 := 14) (lo1 := [some (.long 2), none, some (.long 0), none, some (.long 3), none]) (st1 := [.int 1]) (h1 := zv_h0) rfl ?_
        refine Wp.steps 1 (pc1 := 18) (lo1 := [some (.long 2), none, some (.long 0), none, some (.long 3), none]) (st1 := [.int 1]) (h1 := zv_h0) rfl ?_
        refine Wp.ret rfl rfl rfl ?_
        show Wp _ _ 183 9 [some (.int 2), some (.int a2)] [.int 1] zv_h0 _
        refine Wp.steps 5 (pc1 := 18) (lo1 := [some (.int 2), some (.int a2)]) (st1 := [.long 2, .long 0, .long (a2).toInt64]) (h1 := zv_h0) rfl ?_
        refine Wp.call (as := [.long (a2).toInt64, .long 0, .long 2]) (rest := []) rfl rfl rfl rfl rfl rfl rfl rfl rfl ?_
        refine zin_F (Int32.toInt_toInt64 _) (by decide) (by decide) (show a2.toInt < (0 : Int) ∨ (2 : Int) < a2.toInt by omega) ?_
        show Wp _ _ 183 21 [some (.int 2), some (.int a2)] [.int 0] zv_h0 _
        refine Wp.steps 2 (pc1 := 29) (lo1 := [some (.int 2), some (.int a2)]) (st1 := [.int 0]) (h1 := zv_h0) rfl ?_
        refine Wp.ret rfl rfl rfl ?_
        show Wp _ _ 184 5 [some (.ref 113), some (.int 2), some (.int a2), some (.int a3), none] [.int 0] zv_h0 _
        refine Wp.steps 2 (pc1 := 15) (lo1 := [some (.ref 113), some (.int 2), some (.int a2), some (.int a3), none]) (st1 := [.int (-1)]) (h1 := zv_h0) rfl ?_
        exact Wp.ret rfl rfl rfl ⟨rfl, rfl⟩
    · skip
      rcases (by omega : (41 ≤ a3.toInt) ∨ (a3.toInt ≤ -1) ∨ (0 ≤ a3.toInt ∧ a3.toInt ≤ 40)) with h2 | h2 | h2
      · skip
        refine ⟨(-1), zv_h0, zv_h0, ?_, rfl, ?_, zv_len⟩
        · show Wp _ _ 85 0 [some (.ref 0), some (.int 2), some (.int a2), some (.int a3)] [] zv_h0 _
          refine Wp.steps 1 (pc1 := 1) (lo1 := [some (.ref 0), some (.int 2), some (.int a2), some (.int a3)]) (st1 := [.int 2]) (h1 := zv_h0) rfl ?_
          refine Wp.call (as := [.int 2]) (rest := []) rfl rfl rfl rfl rfl rfl rfl rfl rfl ?_
          show Wp _ _ 93 0 [some (.int 2)] [] zv_h0 _
          refine Wp.steps 6 (pc1 := 14) (lo1 := [some (.int 2)]) (st1 := [.int 0]) (h1 := zv_h0) rfl ?_
          refine Wp.ret rfl rfl rfl ?_
          show Wp _ _ 85 4 [some (.ref 0), some (.int 2), some (.int a2), some (.int a3)] [.int 0] zv_h0 _
          refine Wp.steps 2 (pc1 := 8) (lo1 := [some (.ref 0), some (.int 2), some (.int a2), some (.int a3)]) (st1 := [.int a2]) (h1 := zv_h0) rfl ?_
          refine Wp.call (as := [.int a2]) (rest := []) rfl rfl rfl rfl rfl rfl rfl rfl rfl ?_
          show Wp _ _ 94 0 [some (.int a2)] [] zv_h0 _
          refine Wp.steps 1 (pc1 := 1) (lo1 := [some (.int a2)]) (st1 := [.int a2]) (h1 := zv_h0) rfl ?_
          refine Wp.ifF (i := .nop) rfl (zq_F rfl (by decide) (show a2.toInt ≥ 0 by omega)) ?_
          show Wp _ _ 94 4 [some (.int a2)] [] zv_h0 _
          refine Wp.steps 2 (pc1 := 6) (lo1 := [some (.int a2)]) (st1 := [.int 2, .int a2]) (h1 := zv_h0) rfl ?_
          refine Wp.icT (i := .nop) rfl (zq_T rfl (by decide) (show a2.toInt ≤ 2 by omega)) ?_
          show Wp _ _ 94 13 [some (.int a2)] [] zv_h0 _
          refine Wp.steps 1 (pc1 := 14) (lo1 := [some (.int a2)]) (st1 := [.int 0]) (h1 := zv_h0) rfl ?_
          refine Wp.ret rfl rfl rfl ?_
          show Wp _ _ 85 11 [some (.ref 0), some (.int 2), some (.int a2), some (.int a3)] [.int 0] zv_h0 _
          refine Wp.steps 3 (pc1 := 17) (lo1 := [some (.ref 0), some (.int 2), some (.int a2), some (.int a3)]) (st1 := [.int 40, .int a3]) (h1 := zv_h0) rfl ?_
          refine Wp.icF (i := .nop) rfl (zq_F rfl (by decide) (show a3.toInt > 40 by omega)) ?_
          show Wp _ _ 85 20 [some (.ref 0), some (.int 2), some (.int a2), some (.int a3)] [] zv_h0 _
          refine Wp.steps 1 (pc1 := 21) (lo1 := [some (.ref 0), some (.int 2), some (.int a2), some (.int a3)]) (st1 := [.int (-1)]) (h1 := zv_h0) rfl ?_
          exact Wp.ret rfl rfl rfl ⟨rfl, rfl⟩
        · show Wp _ _ 184 0 [some (.ref 113), some (.int 2), some (.int a2), some (.int a3), none] [] zv_h0 _
          refine Wp.steps 2 (pc1 := 2) (lo1 := [some (.ref 113), some (.int 2), some (.int a2), some (.int a3), none]) (st1 := [.int a2, .int 2]) (h1 := zv_h0) rfl ?_
          refine Wp.call (as := [.int 2, .int a2]) (rest := []) rfl rfl rfl rfl rfl rfl rfl rfl rfl ?_
          show Wp _ _ 183 0 [some (.int 2), some (.int a2)] [] zv_h0 _
          refine Wp.steps 4 (pc1 := 6) (lo1 := [some (.int 2), some (.int a2)]) (st1 := [.long 3, .long 0, .long 2]) (h1 := zv_h0) rfl ?_
          refine Wp.call (as := [.long 2, .long 0, .long 3]) (rest := []) rfl rfl rfl rfl rfl rfl rfl rfl rfl ?_
          show Wp _ _ 107 0 [some (.long 2), none, some (.long 0), none, some (.long 3), none] [] zv_h0 _
          refine Wp.steps 9 (pc1 := 14) (lo1 := [some (.long 2), none, some (.long 0), none, some (.long 3), none]) (st1 := [.int 1]) (h1 := zv_h0) rfl ?_
          refine Wp.steps 1 (pc1 := 18) (lo1 := [some (.long 2), none, some (.long 0), none, some (.long 3), none]) (st1 := [.int 1]) (h1 := zv_h0) rfl ?_
          refine Wp.ret rfl rfl rfl ?_
          show Wp _ _ 183 9 [some (.int 2), some (.int a2)] [.int 1] zv_h0 _
          refine Wp.steps 5 (pc1 := 18) (lo1 := [some (.int 2), some (.int a2)]) (st1 := [.long 2, .long 0, .long (a2).toInt64]) (h1 := zv_h0) rfl ?_
          refine Wp.call (as := [.long (a2).toInt64, .long 0, .long 2]) (rest := []) rfl rfl rfl rfl rfl rfl rfl rfl rfl ?_
          refine zin_T (Int32.toInt_toInt64 _) (by decide) (by decide) (show (0 : Int) ≤ a2.toInt by omega) (show a2.toInt ≤ (2 : Int) by omega) ?_
          show Wp _ _ 183 21 [some (.int 2), some (.int a2)] [.int 1] zv_h0 _
          refine Wp.steps 3 (pc1 := 29) (lo1 := [some (.int 2), some (.int a2)]) (st1 := [.int 1]) (h1 := zv_h0) rfl ?_
          refine Wp.ret rfl rfl rfl ?_
          show Wp _ _ 184 5 [some (.ref 113), some (.int 2), some (.int a2), some (.int a3), none] [.int 1] zv_h0 _
          refine Wp.steps 3 (pc1 := 11) (lo1 := [some (.ref 113), some (.int 2), some (.int a2), some (.int a3), none]) (st1 := [.int 40, .int a3]) (h1 := zv_h0) rfl ?_
          refine Wp.icF (i := .nop) rfl (zq_F rfl (by decide) (show a3.toInt > 40 by omega)) ?_
          show Wp _ _ 184 14 [some (.ref 113), some (.int 2), some (.int a2), some (.int a3), none] [] zv_h0 _
          refine Wp.steps 1 (pc1 := 15) (lo1 := [some (.ref 113), some (.int 2), some (.int a2), some (.int a3), none]) (st1 := [.int (-1)]) (h1 := zv_h0) rfl ?_
          exact Wp.ret rfl rfl rfl ⟨rfl, rfl⟩
      · skip
        refine ⟨(-14), zv_h0, zv_h0, ?_, rfl, ?_, zv_len⟩
        · show Wp _ _ 85 0 [some (.ref 0), some (.int 2), some (.int a2), some (.int a3)] [] zv_h0 _
          refine Wp.steps 1 (pc1 := 1) (lo1 := [some (.ref 0), some (.int 2), some (.int a2), some (.int a3)]) (st1 := [.int 2]) (h1 := zv_h0) rfl ?_
          refine Wp.call (as := [.int 2]) (rest := []) rfl rfl rfl rfl rfl rfl rfl rfl rfl ?_
          show Wp _ _ 93 0 [some (.int 2)] [] zv_h0 _
          refine Wp.steps 6 (pc1 := 14) (lo1 := [some (.int 2)]) (st1 := [.int 0]) (h1 := zv_h0) rfl ?_
          refine Wp.ret rfl rfl rfl ?_
          show Wp _ _ 85 4 [some (.ref 0), some (.int 2), some (.int a2), some (.int a3)] [.int 0] zv_h0 _
          refine Wp.steps 2 (pc1 := 8) (lo1 := [some (.ref 0), some (.int 2), some (.int a2), some (.int a3)]) (st1 := [.int a2]) (h1 := zv_h0) rfl ?_
          refine Wp.call (as := [.int a2]) (rest := []) rfl rfl rfl rfl rfl rfl rfl rfl rfl ?_
          show Wp _ _ 94 0 [some (.int a2)] [] zv_h0 _
          refine Wp.steps 1 (pc1 := 1) (lo1 := [some (.int a2)]) (st1 := [.int a2]) (h1 := zv_h0) rfl ?_
          refine Wp.ifF (i := .nop) rfl (zq_F rfl (by decide) (show a2.toInt ≥ 0 by omega)) ?_
          show Wp _ _ 94 4 [some (.int a2)] [] zv_h0 _
          refine Wp.steps 2 (pc1 := 6) (lo1 := [some (.int a2)]) (st1 := [.int 2, .int a2]) (h1 := zv_h0) rfl ?_
          refine Wp.icT (i := .nop) rfl (zq_T rfl (by decide) (show a2.toInt ≤ 2 by omega)) ?_
          show Wp _ _ 94 13 [some (.int a2)] [] zv_h0 _
          refine Wp.steps 1 (pc1 := 14) (lo1 := [some (.int a2)]) (st1 := [.int 0]) (h1 := zv_h0) rfl ?_
          refine Wp.ret rfl rfl rfl ?_
          show Wp _ _ 85 11 [some (.ref 0), some (.int 2), some (.int a2), some (.int a3)] [.int 0] zv_h0 _
          refine Wp.steps 3 (pc1 := 17) (lo1 := [some (.ref 0), some (.int 2), some (.int a2), some (.int a3)]) (st1 := [.int 40, .int a3]) (h1 := zv_h0) rfl ?_
          refine Wp.icT (i := .nop) rfl (zq_T rfl (by decide) (show a3.toInt ≤ 40 by omega)) ?_
          show Wp _ _ 85 22 [some (.ref 0), some (.int 2), some (.int a2), some (.int a3)] [] zv_h0 _
          refine Wp.steps 1 (pc1 := 23) (lo1 := [some (.ref 0), some (.int 2), some (.int a2), some (.int a3)]) (st1 := [.int a3]) (h1 := zv_h0) rfl ?_
          refine Wp.ifF (i := .nop) rfl (zq_F rfl (by decide) (show a3.toInt < 0 by omega)) ?_
          show Wp _ _ 85 26 [some (.ref 0), some (.int 2), some (.int a2), some (.int a3)] [] zv_h0 _
          refine Wp.steps 1 (pc1 := 28) (lo1 := [some (.ref 0), some (.int 2), some (.int a2), some (.int a3)]) (st1 := [.int (-14)]) (h1 := zv_h0) rfl ?_
          exact Wp.ret rfl rfl rfl ⟨rfl, rfl⟩
        · show Wp _ _ 184 0 [some (.ref 113), some (.int 2), some (.int a2), some (.int a3), none] [] zv_h0 _
          refine Wp.steps 2 (pc1 := 2) (lo1 := [some (.ref 113), some (.int 2), some (.int a2), some (.int a3), none]) (st1 := [.int a2, .int 2]) (h1 := zv_h0) rfl ?_
          refine Wp.call (as := [.int 2, .int a2]) (rest := []) rfl rfl rfl rfl rfl rfl rfl rfl rfl ?_
          show Wp _ _ 183 0 [some (.int 2), some (.int a2)] [] zv_h0 _
          refine Wp.steps 4 (pc1 := 6) (lo1 := [some (.int 2), some (.int a2)]) (st1 := [.long 3, .long 0, .long 2]) (h1 := zv_h0) rfl ?_
          refine Wp.call (as := [.long 2, .long 0, .long 3]) (rest := []) rfl rfl rfl rfl rfl rfl rfl rfl rfl ?_
          show Wp _ _ 107 0 [some (.long 2), none, some (.long 0), none, some (.long 3), none] [] zv_h0 _
          refine Wp.steps 9 (pc1 := 14) (lo1 := [some (.long 2), none, some (.long 0), none, some (.long 3), none]) (st1 := [.int 1]) (h1 := zv_h0) rfl ?_
          refine Wp.steps 1 (pc1 := 18) (lo1 := [some (.long 2), none, some (.long 0), none, some (.long 3), none]) (st1 := [.int 1]) (h1 := zv_h0) rfl ?_
          refine Wp.ret rfl rfl rfl ?_
          show Wp _ _ 183 9 [some (.int 2), some (.int a2)] [.int 1] zv_h0 _
          refine Wp.steps 5 (pc1 := 18) (lo1 := [some (.int 2), some (.int a2)]) (st1 := [.long 2, .long 0, .long (a2).toInt64]) (h1 := zv_h0) rfl ?_
          refine Wp.call (as := [.long (a2).toInt64, .long 0, .long 2]) (rest := []) rfl rfl rfl rfl rfl rfl rfl rfl rfl ?_
          refine zin_T (Int32.toInt_toInt64 _) (by decide) (by decide) (show (0 : Int) ≤ a2.toInt by omega) (show a2.toInt ≤ (2 : Int) by omega) ?_
          show Wp _ _ 183 21 [some (.int 2), some (.int a2)] [.int 1] zv_h0 _
          refine Wp.steps 3 (pc1 := 29) (lo1 := [some (.int 2), some (.int a2)]) (st1 := [.int 1]) (h1 := zv_h0) rfl ?_
          refine Wp.ret rfl rfl rfl ?_
          show Wp _ _ 184 5 [some (.ref 113), some (.int 2), some (.int a2), some (.int a3), none] [.int 1] zv_h0 _
          refine Wp.steps 3 (pc1 := 11) (lo1 := [some (.ref 113), some (.int 2), some (.int a2), some (.int a3), none]) (st1 := [.int 40, .int a3]) (h1 := zv_h0) rfl ?_
          refine Wp.icT (i := .nop) rfl (zq_T rfl (by decide) (show a3.toInt ≤ 40 by omega)) ?_
          show Wp _ _ 184 16 [some (.ref 113), some (.int 2), some (.int a2), some (.int a3), none] [] zv_h0 _
          refine Wp.steps 1 (pc1 := 17) (lo1 := [some (.ref 113), some (.int 2), some (.int a2), some (.int a3), none]) (st1 := [.int a3]) (h1 := zv_h0) rfl ?_
          refine Wp.ifF (i := .nop) rfl (zq_F rfl (by decide) (show a3.toInt < 0 by omega)) ?_
          show Wp _ _ 184 20 [some (.ref 113), some (.int 2), some (.int a2), some (.int a3), none] [] zv_h0 _
          refine Wp.steps 1 (pc1 := 22) (lo1 := [some (.ref 113), some (.int 2), some (.int a2), some (.int a3), none]) (st1 := [.int (-14)]) (h1 := zv_h0) rfl ?_
          exact Wp.ret rfl rfl rfl ⟨rfl, rfl⟩
      · skip
        refine ⟨1, (zv_h0.set 109 (.inr (.inr (5, [.int a3, .ref 110, .int a2])))), (((zv_h0.set 109 (.inr (.inr (5, [.int a3, .ref 110, .int a2])))).set 119 (.inl (0, [(-4), (-4), a2, (-4)]))).set 120 (.inl (0, [0, 0, a3, 0]))), ?_, rfl, ?_, (zv_ls rfl rfl (zv_ls rfl rfl (zv_ls rfl rfl zv_len)))⟩
        · show Wp _ _ 85 0 [some (.ref 0), some (.int 2), some (.int a2), some (.int a3)] [] zv_h0 _
          refine Wp.steps 1 (pc1 := 1) (lo1 := [some (.ref 0), some (.int 2), some (.int a2), some (.int a3)]) (st1 := [.int 2]) (h1 := zv_h0) rfl ?_
          refine Wp.call (as := [.int 2]) (rest := []) rfl rfl rfl rfl rfl rfl rfl rfl rfl ?_
          show Wp _ _ 93 0 [some (.int 2)] [] zv_h0 _
          refine Wp.steps 6 (pc1 := 14) (lo1 := [some (.int 2)]) (st1 := [.int 0]) (h1 := zv_h0) rfl ?_
          refine Wp.ret rfl rfl rfl ?_
          show Wp _ _ 85 4 [some (.ref 0), some (.int 2), some (.int a2), some (.int a3)] [.int 0] zv_h0 _
          refine Wp.steps 2 (pc1 := 8) (lo1 := [some (.ref 0), some (.int 2), some (.int a2), some (.int a3)]) (st1 := [.int a2]) (h1 := zv_h0) rfl ?_
          refine Wp.call (as := [.int a2]) (rest := []) rfl rfl rfl rfl rfl rfl rfl rfl rfl ?_
          show Wp _ _ 94 0 [some (.int a2)] [] zv_h0 _
          refine Wp.steps 1 (pc1 := 1) (lo1 := [some (.int a2)]) (st1 := [.int a2]) (h1 := zv_h0) rfl ?_
          refine Wp.ifF (i := .nop) rfl (zq_F rfl (by decide) (show a2.toInt ≥ 0 by omega)) ?_
          show Wp _ _ 94 4 [some (.int a2)] [] zv_h0 _
          refine Wp.steps 2 (pc1 := 6) (lo1 := [some (.int a2)]) (st1 := [.int 2, .int a2]) (h1 := zv_h0) rfl ?_
          refine Wp.icT (i := .nop) rfl (zq_T rfl (by decide) (show a2.toInt ≤ 2 by omega)) ?_
          show Wp _ _ 94 13 [some (.int a2)] [] zv_h0 _
          refine Wp.steps 1 (pc1 := 14) (lo1 := [some (.int a2)]) (st1 := [.int 0]) (h1 := zv_h0) rfl ?_
          refine Wp.ret rfl rfl rfl ?_
          show Wp _ _ 85 11 [some (.ref 0), some (.int 2), some (.int a2), some (.int a3)] [.int 0] zv_h0 _
          refine Wp.steps 3 (pc1 := 17) (lo1 := [some (.ref 0), some (.int 2), some (.int a2), some (.int a3)]) (st1 := [.int 40, .int a3]) (h1 := zv_h0) rfl ?_
          refine Wp.icT (i := .nop) rfl (zq_T rfl (by decide) (show a3.toInt ≤ 40 by omega)) ?_
          show Wp _ _ 85 22 [some (.ref 0), some (.int 2), some (.int a2), some (.int a3)] [] zv_h0 _
          refine Wp.steps 1 (pc1 := 23) (lo1 := [some (.ref 0), some (.int 2), some (.int a2), some (.int a3)]) (st1 := [.int a3]) (h1 := zv_h0) rfl ?_
          refine Wp.ifT (i := .nop) rfl (zq_T rfl (by decide) (show a3.toInt ≥ 0 by omega)) ?_
          show Wp _ _ 85 29 [some (.ref 0), some (.int 2), some (.int a2), some (.int a3)] [] zv_h0 _
          refine Wp.steps 6 (pc1 := 37) (lo1 := [some (.ref 0), some (.int 2), some (.int a2), some (.int a3)]) (st1 := [.int a3, .int a2, .ref 109]) (h1 := zv_h0) rfl ?_
          refine Wp.call (as := [.ref 109, .int a2, .int a3]) (rest := []) rfl rfl rfl rfl rfl rfl rfl rfl rfl ?_
          show Wp _ _ 47 0 [some (.ref 109), some (.int a2), some (.int a3), none] [] zv_h0 _
          refine Wp.steps 8 (pc1 := 12) (lo1 := [some (.ref 109), some (.int a2), some (.int a3), some (.int 0)]) (st1 := []) (h1 := (zv_h0.set 109 (.inr (.inr (5, [.int a3, .ref 110, .int a2]))))) rfl ?_
          refine zlp_x rfl rfl ?_ 40 0 rfl
          show Wp _ _ 47 31 [some (.ref 109), some (.int a2), some (.int a3), some (.int 40)] [] (zv_h0.set 109 (.inr (.inr (5, [.int a3, .ref 110, .int a2])))) _
          refine Wp.ret rfl rfl rfl ?_
          show Wp _ _ 85 40 [some (.ref 0), some (.int 2), some (.int a2), some (.int a3)] [] (zv_h0.set 109 (.inr (.inr (5, [.int a3, .ref 110, .int a2])))) _
          refine Wp.steps 1 (pc1 := 41) (lo1 := [some (.ref 0), some (.int 2), some (.int a2), some (.int a3)]) (st1 := [.int 1]) (h1 := (zv_h0.set 109 (.inr (.inr (5, [.int a3, .ref 110, .int a2]))))) rfl ?_
          exact Wp.ret rfl rfl rfl ⟨rfl, rfl⟩
        · show Wp _ _ 184 0 [some (.ref 113), some (.int 2), some (.int a2), some (.int a3), none] [] (zv_h0.set 109 (.inr (.inr (5, [.int a3, .ref 110, .int a2])))) _
          refine Wp.steps 2 (pc1 := 2) (lo1 := [some (.ref 113), some (.int 2), some (.int a2), some (.int a3), none]) (st1 := [.int a2, .int 2]) (h1 := (zv_h0.set 109 (.inr (.inr (5, [.int a3, .ref 110, .int a2]))))) rfl ?_
          refine Wp.call (as := [.int 2, .int a2]) (rest := []) rfl rfl rfl rfl rfl rfl rfl rfl rfl ?_
          show Wp _ _ 183 0 [some (.int 2), some (.int a2)] [] (zv_h0.set 109 (.inr (.inr (5, [.int a3, .ref 110, .int a2])))) _
          refine Wp.steps 4 (pc1 := 6) (lo1 := [some (.int 2), some (.int a2)]) (st1 := [.long 3, .long 0, .long 2]) (h1 := (zv_h0.set 109 (.inr (.inr (5, [.int a3, .ref 110, .int a2]))))) rfl ?_
          refine Wp.call (as := [.long 2, .long 0, .long 3]) (rest := []) rfl rfl rfl rfl rfl rfl rfl rfl rfl ?_
          show Wp _ _ 107 0 [some (.long 2), none, some (.long 0), none, some (.long 3), none] [] (zv_h0.set 109 (.inr (.inr (5, [.int a3, .ref 110, .int a2])))) _
          refine Wp.steps 9 (pc1 := 14) (lo1 := [some (.long 2), none, some (.long 0), none, some (.long 3), none]) (st1 := [.int 1]) (h1 := (zv_h0.set 109 (.inr (.inr (5, [.int a3, .ref 110, .int a2]))))) rfl ?_
          refine Wp.steps 1 (pc1 := 18) (lo1 := [some (.long 2), none, some (.long 0), none, some (.long 3), none]) (st1 := [.int 1]) (h1 := (zv_h0.set 109 (.inr (.inr (5, [.int a3, .ref 110, .int a2]))))) rfl ?_
          refine Wp.ret rfl rfl rfl ?_
          show Wp _ _ 183 9 [some (.int 2), some (.int a2)] [.int 1] (zv_h0.set 109 (.inr (.inr (5, [.int a3, .ref 110, .int a2])))) _
          refine Wp.steps 5 (pc1 := 18) (lo1 := [some (.int 2), some (.int a2)]) (st1 := [.long 2, .long 0, .long (a2).toInt64]) (h1 := (zv_h0.set 109 (.inr (.inr (5, [.int a3, .ref 110, .int a2]))))) rfl ?_
          refine Wp.call (as := [.long (a2).toInt64, .long 0, .long 2]) (rest := []) rfl rfl rfl rfl rfl rfl rfl rfl rfl ?_
          refine zin_T (Int32.toInt_toInt64 _) (by decide) (by decide) (show (0 : Int) ≤ a2.toInt by omega) (show a2.toInt ≤ (2 : Int) by omega) ?_
          show Wp _ _ 183 21 [some (.int 2), some (.int a2)] [.int 1] (zv_h0.set 109 (.inr (.inr (5, [.int a3, .ref 110, .int a2])))) _
          refine Wp.steps 3 (pc1 := 29) (lo1 := [some (.int 2), some (.int a2)]) (st1 := [.int 1]) (h1 := (zv_h0.set 109 (.inr (.inr (5, [.int a3, .ref 110, .int a2]))))) rfl ?_
          refine Wp.ret rfl rfl rfl ?_
          show Wp _ _ 184 5 [some (.ref 113), some (.int 2), some (.int a2), some (.int a3), none] [.int 1] (zv_h0.set 109 (.inr (.inr (5, [.int a3, .ref 110, .int a2])))) _
          refine Wp.steps 3 (pc1 := 11) (lo1 := [some (.ref 113), some (.int 2), some (.int a2), some (.int a3), none]) (st1 := [.int 40, .int a3]) (h1 := (zv_h0.set 109 (.inr (.inr (5, [.int a3, .ref 110, .int a2]))))) rfl ?_
          refine Wp.icT (i := .nop) rfl (zq_T rfl (by decide) (show a3.toInt ≤ 40 by omega)) ?_
          show Wp _ _ 184 16 [some (.ref 113), some (.int 2), some (.int a2), some (.int a3), none] [] (zv_h0.set 109 (.inr (.inr (5, [.int a3, .ref 110, .int a2])))) _
          refine Wp.steps 1 (pc1 := 17) (lo1 := [some (.ref 113), some (.int 2), some (.int a2), some (.int a3), none]) (st1 := [.int a3]) (h1 := (zv_h0.set 109 (.inr (.inr (5, [.int a3, .ref 110, .int a2]))))) rfl ?_
          refine Wp.ifT (i := .nop) rfl (zq_T rfl (by decide) (show a3.toInt ≥ 0 by omega)) ?_
          show Wp _ _ 184 23 [some (.ref 113), some (.int 2), some (.int a2), some (.int a3), none] [] (zv_h0.set 109 (.inr (.inr (5, [.int a3, .ref 110, .int a2])))) _
          refine Wp.steps 8 (pc1 := 35) (lo1 := [some (.ref 113), some (.int 2), some (.int a2), some (.int a3), none]) (st1 := [.int 2, .ref 120]) (h1 := ((zv_h0.set 109 (.inr (.inr (5, [.int a3, .ref 110, .int a2])))).set 119 (.inl (0, [(-4), (-4), a2, (-4)])))) rfl ?_
          refine Wp.steps 4 (pc1 := 40) (lo1 := [some (.ref 113), some (.int 2), some (.int a2), some (.int a3), some (.int 0)]) (st1 := []) (h1 := (((zv_h0.set 109 (.inr (.inr (5, [.int a3, .ref 110, .int a2])))).set 119 (.inl (0, [(-4), (-4), a2, (-4)]))).set 120 (.inl (0, [0, 0, a3, 0])))) rfl ?_
          refine zlp_m (k := 2) (by decide) rfl rfl rfl (by decide) ?_ 40 0 rfl
          show Wp _ _ 184 66 [some (.ref 113), some (.int 2), some (.int a2), some (.int a3), some (.int 40)] [] (((zv_h0.set 109 (.inr (.inr (5, [.int a3, .ref 110, .int a2])))).set 119 (.inl (0, [(-4), (-4), a2, (-4)]))).set 120 (.inl (0, [0, 0, a3, 0]))) _
          refine Wp.steps 1 (pc1 := 67) (lo1 := [some (.ref 113), some (.int 2), some (.int a2), some (.int a3), some (.int 40)]) (st1 := [.int 1]) (h1 := (((zv_h0.set 109 (.inr (.inr (5, [.int a3, .ref 110, .int a2])))).set 119 (.inl (0, [(-4), (-4), a2, (-4)]))).set 120 (.inl (0, [0, 0, a3, 0])))) rfl ?_
          exact Wp.ret rfl rfl rfl ⟨rfl, rfl⟩
  · skip
    obtain rfl : a1 = 3 := Int32.toInt_inj.mp (h0.trans (by decide))
    rcases (by omega : (a2.toInt ≤ -1) ∨ (3 ≤ a2.toInt) ∨ (0 ≤ a2.toInt ∧ a2.toInt ≤ 2)) with h1 | h1 | h1
    · skip
      refine ⟨(-1), zv_h0, zv_h0, ?_, rfl, ?_, zv_len⟩
      · show Wp _ _ 85 0 [some (.ref 0), some (.int 3), some (.int a2), some (.int a3)] [] zv_h0 _
        refine Wp.steps 1 (pc1 := 1) (lo1 := [some (.ref 0), some (.int 3), some (.int a2), some (.int a3)]) (st1 := [.int 3]) (h1 := zv_h0) rfl ?_
        refine Wp.call (as := [.int 3]) (rest := []) rfl rfl rfl rfl rfl rfl rfl rfl rfl ?_
        show Wp _ _ 93 0 [some (.int 3)] [] zv_h0 _
        refine Wp.steps 6 (pc1 := 14) (lo1 := [some (.int 3)]) (st1 := [.int 0]) (h1 := zv_h0) rfl ?_
        refine Wp.ret rfl rfl rfl ?_
        show Wp _ _ 85 4 [some (.ref 0), some (.int 3), some (.int a2), some (.int a3)] [.int 0] zv_h0 _
        refine Wp.steps 2 (pc1 := 8) (lo1 := [some (.ref 0), some (.int 3), some (.int a2), some (.int a3)]) (st1 := [.int a2]) (h1 := zv_h0) rfl ?_
        refine Wp.call (as := [.int a2]) (rest := []) rfl rfl rfl rfl rfl rfl rfl rfl rfl ?_
        show Wp _ _ 94 0 [some (.int a2)] [] zv_h0 _
        refine Wp.steps 1 (pc1 := 1) (lo1 := [some (.int a2)]) (st1 := [.int a2]) (h1 := zv_h0) rfl ?_
        refine Wp.ifT (i := .nop) rfl (zq_T rfl (by decide) (show a2.toInt < 0 by omega)) ?_
        show Wp _ _ 94 9 [some (.int a2)] [] zv_h0 _
        refine Wp.steps 2 (pc1 := 14) (lo1 := [some (.int a2)]) (st1 := [.int 1]) (h1 := zv_h0) rfl ?_
        refine Wp.ret rfl rfl rfl ?_
        show Wp _ _ 85 11 [some (.ref 0), some (.int 3), some (.int a2), some (.int a3)] [.int 1] zv_h0 _
        refine Wp.steps 2 (pc1 := 21) (lo1 := [some (.ref 0), some (.int 3), some (.int a2), some (.int a3)]) (st1 := [.int (-1)]) (h1 := zv_h0) rfl ?_
        exact Wp.ret rfl rfl rfl ⟨rfl, rfl⟩
      · show Wp _ _ 184 0 [some (.ref 113), some (.int 3), some (.int a2), some (.int a3), none] [] zv_h0 _
        refine Wp.steps 2 (pc1 := 2) (lo1 := [some (.ref 113), some (.int 3), some (.int a2), some (.int a3), none]) (st1 := [.int a2, .int 3]) (h1 := zv_h0) rfl ?_
        refine Wp.call (as := [.int 3, .int a2]) (rest := []) rfl rfl rfl rfl rfl rfl rfl rfl rfl ?_
        show Wp _ _ 183 0 [some (.int 3), some (.int a2)] [] zv_h0 _
        refine Wp.steps 4 (pc1 := 6) (lo1 := [some (.int 3), some (.int a2)]) (st1 := [.long 3, .long 0, .long 3]) (h1 := zv_h0) rfl ?_
        refine Wp.call (as := [.long 3, .long 0, .long 3]) (rest := []) rfl rfl rfl rfl rfl rfl rfl rfl rfl ?_
        show Wp _ _ 107 0 [some (.long 3), none, some (.long 0), none, some (.long 3), none] [] zv_h0 _
        refine Wp.steps 9 (pc1 := 14) (lo1 := [some (.long 3), none, some (.long 0), none, some (.long 3), none]) (st1 := [.int 1]) (h1 := zv_h0) rfl ?_
        refine Wp.steps 1 (pc1 := 18) (lo1 := [some (.long 3), none, some (.long 0), none, some (.long 3), none]) (st1 := [.int 1]) (h1 := zv_h0) rfl ?_
        refine Wp.ret rfl rfl rfl ?_
        show Wp _ _ 183 9 [some (.int 3), some (.int a2)] [.int 1] zv_h0 _
        refine Wp.steps 5 (pc1 := 18) (lo1 := [some (.int 3), some (.int a2)]) (st1 := [.long 2, .long 0, .long (a2).toInt64]) (h1 := zv_h0) rfl ?_
        refine Wp.call (as := [.long (a2).toInt64, .long 0, .long 2]) (rest := []) rfl rfl rfl rfl rfl rfl rfl rfl rfl ?_
        refine zin_F (Int32.toInt_toInt64 _) (by decide) (by decide) (show a2.toInt < (0 : Int) ∨ (2 : Int) < a2.toInt by omega) ?_
        show Wp _ _ 183 21 [some (.int 3), some (.int a2)] [.int 0] zv_h0 _
        refine Wp.steps 2 (pc1 := 29) (lo1 := [some (.int 3), some (.int a2)]) (st1 := [.int 0]) (h1 := zv_h0) rfl ?_
        refine Wp.ret rfl rfl rfl ?_
        show Wp _ _ 184 5 [some (.ref 113), some (.int 3), some (.int a2), some (.int a3), none] [.int 0] zv_h0 _
        refine Wp.steps 2 (pc1 := 15) (lo1 := [some (.ref 113), some (.int 3), some (.int a2), some (.int a3), none]) (st1 := [.int (-1)]) (h1 := zv_h0) rfl ?_
        exact Wp.ret rfl rfl rfl ⟨rfl, rfl⟩
    · skip
      refine ⟨(-1), zv_h0, zv_h0, ?_, rfl, ?_, zv_len⟩
      · show Wp _ _ 85 0 [some (.ref 0), some (.int 3), some (.int a2), some (.int a3)] [] zv_h0 _
        refine Wp.steps 1 (pc1 := 1) (lo1 := [some (.ref 0), some (.int 3), some (.int a2), some (.int a3)]) (st1 := [.int 3]) (h1 := zv_h0) rfl ?_
        refine Wp.call (as := [.int 3]) (rest := []) rfl rfl rfl rfl rfl rfl rfl rfl rfl ?_
        show Wp _ _ 93 0 [some (.int 3)] [] zv_h0 _
        refine Wp.steps 6 (pc1 := 14) (lo1 := [some (.int 3)]) (st1 := [.int 0]) (h1 := zv_h0) rfl ?_
        refine Wp.ret rfl rfl rfl ?_
        show Wp _ _ 85 4 [some (.ref 0), some (.int 3), some (.int a2), some (.int a3)] [.int 0] zv_h0 _
        refine Wp.steps 2 (pc1 := 8) (lo1 := [some (.ref 0), some (.int 3), some (.int a2), some (.int a3)]) (st1 := [.int a2]) (h1 := zv_h0) rfl ?_
        refine Wp.call (as := [.int a2]) (rest := []) rfl rfl rfl rfl rfl rfl rfl rfl rfl ?_
        show Wp _ _ 94 0 [some (.int a2)] [] zv_h0 _
        refine Wp.steps 1 (pc1 := 1) (lo1 := [some (.int a2)]) (st1 := [.int a2]) (h1 := zv_h0) rfl ?_
        refine Wp.ifF (i := .nop) rfl (zq_F rfl (by decide) (show a2.toInt ≥ 0 by omega)) ?_
        show Wp _ _ 94 4 [some (.int a2)] [] zv_h0 _
        refine Wp.steps 2 (pc1 := 6) (lo1 := [some (.int a2)]) (st1 := [.int 2, .int a2]) (h1 := zv_h0) rfl ?_
        refine Wp.icF (i := .nop) rfl (zq_F rfl (by decide) (show a2.toInt > 2 by omega)) ?_
        show Wp _ _ 94 9 [some (.int a2)] [] zv_h0 _
        refine Wp.steps 2 (pc1 := 14) (lo1 := [some (.int a2)]) (st1 := [.int 1]) (h1 := zv_h0) rfl ?_
        refine Wp.ret rfl rfl rfl ?_
        show Wp _ _ 85 11 [some (.ref 0), some (.int 3), some (.int a2), some (.int a3)] [.int 1] zv_h0 _
        refine Wp.steps 2 (pc1 := 21) (lo1 := [some (.ref 0), some (.int 3), some (.int a2), some (.int a3)]) (st1 := [.int (-1)]) (h1 := zv_h0) rfl ?_
        exact Wp.ret rfl rfl rfl ⟨rfl, rfl⟩
      · show Wp _ _ 184 0 [some (.ref 113), some (.int 3), some (.int a2), some (.int a3), none] [] zv_h0 _
        refine Wp.steps 2 (pc1 := 2) (lo1 := [some (.ref 113), some (.int 3), some (.int a2), some (.int a3), none]) (st1 := [.int a2, .int 3]) (h1 := zv_h0) rfl ?_
        refine Wp.call (as := [.int 3, .int a2]) (rest := []) rfl rfl rfl rfl rfl rfl rfl rfl rfl ?_
        show Wp _ _ 183 0 [some (.int 3), some (.int a2)] [] zv_h0 _
        refine Wp.steps 4 (pc1 := 6) (lo1 := [some (.int 3), some (.int a2)]) (st1 := [.long 3, .long 0, .long 3]) (h1 := zv_h0) rfl ?_
        refine Wp.call (as := [.long 3, .long 0, .long 3]) (rest := []) rfl rfl rfl rfl rfl rfl rfl rfl rfl ?_
        show Wp _ _ 107 0 [some (.long 3), none, some (.long 0), none, some (.long 3), none] [] zv_h0 _
        refine Wp.steps 9 (pc1 := 14) (lo1 := [some (.long 3), none, some (.long 0), none, some (.long 3), none]) (st1 := [.int 1]) (h1 := zv_h0) rfl ?_
        refine Wp.steps 1 (pc1 := 18) (lo1 := [some (.long 3), none, some (.long 0), none, some (.long 3), none]) (st1 := [.int 1]) (h1 := zv_h0) rfl ?_
        refine Wp.ret rfl rfl rfl ?_
        show Wp _ _ 183 9 [some (.int 3), some (.int a2)] [.int 1] zv_h0 _
        refine Wp.steps 5 (pc1 := 18) (lo1 := [some (.int 3), some (.int a2)]) (st1 := [.long 2, .long 0, .long (a2).toInt64]) (h1 := zv_h0) rfl ?_
        refine Wp.call (as := [.long (a2).toInt64, .long 0, .long 2]) (rest := []) rfl rfl rfl rfl rfl rfl rfl rfl rfl ?_
        refine zin_F (Int32.toInt_toInt64 _) (by decide) (by decide) (show a2.toInt < (0 : Int) ∨ (2 : Int) < a2.toInt by omega) ?_
        show Wp _ _ 183 21 [some (.int 3), some (.int a2)] [.int 0] zv_h0 _
        refine Wp.steps 2 (pc1 := 29) (lo1 := [some (.int 3), some (.int a2)]) (st1 := [.int 0]) (h1 := zv_h0) rfl ?_
        refine Wp.ret rfl rfl rfl ?_
        show Wp _ _ 184 5 [some (.ref 113), some (.int 3), some (.int a2), some (.int a3), none] [.int 0] zv_h0 _
        refine Wp.steps 2 (pc1 := 15) (lo1 := [some (.ref 113), some (.int 3), some (.int a2), some (.int a3), none]) (st1 := [.int (-1)]) (h1 := zv_h0) rfl ?_
        exact Wp.ret rfl rfl rfl ⟨rfl, rfl⟩
    · skip
      rcases (by omega : (41 ≤ a3.toInt) ∨ (a3.toInt ≤ -1) ∨ (0 ≤ a3.toInt ∧ a3.toInt ≤ 40)) with h2 | h2 | h2
      · skip
        refine ⟨(-1), zv_h0, zv_h0, ?_, rfl, ?_, zv_len⟩
        · show Wp _ _ 85 0 [some (.ref 0), some (.int 3), some (.int a2), some (.int a3)] [] zv_h0 _
          refine Wp.steps 1 (pc1 := 1) (lo1 := [some (.ref 0), some (.int 3), some (.int a2), some (.int a3)]) (st1 := [.int 3]) (h1 := zv_h0) rfl ?_
          refine Wp.call (as := [.int 3]) (rest := []) rfl rfl rfl rfl rfl rfl rfl rfl rfl ?_
          show Wp _ _ 93 0 [some (.int 3)] [] zv_h0 _
          refine Wp.steps 6 (pc1 := 14) (lo1 := [some (.int 3)]) (st1 := [.int 0]) (h1 := zv_h0) rfl ?_
          refine Wp.ret rfl rfl rfl ?_
          show Wp _ _ 85 4 [some (.ref 0), some (.int 3), some (.int a2), some (.int a3)] [.int 0] zv_h0 _
          refine Wp.steps 2 (pc1 := 8) (lo1 := [some (.ref 0), some (.int 3), some (.int a2), some (.int a3)]) (st1 := [.int a2]) (h1 := zv_h0) rfl ?_
          refine Wp.call (as := [.int a2]) (rest := []) rfl rfl rfl rfl rfl rfl rfl rfl rfl ?_
          show Wp _ _ 94 0 [some (.int a2)] [] zv_h0 _
          refine Wp.steps 1 (pc1 := 1) (lo1 := [some (.int a2)]) (st1 := [.int a2]) (h1 := zv_h0) rfl ?_
          refine Wp.ifF (i := .nop) rfl (zq_F rfl (by decide) (show a2.toInt ≥ 0 by omega)) ?_
          show Wp _ _ 94 4 [some (.int a2)] [] zv_h0 _
          refine Wp.steps 2 (pc1 := 6) (lo1 := [some (.int a2)]) (st1 := [.int 2, .int a2]) (h1 := zv_h0) rfl ?_
          refine Wp.icT (i := .nop) rfl (zq_T rfl (by decide) (show a2.toInt ≤ 2 by omega)) ?_
          show Wp _ _ 94 13 [some (.int a2)] [] zv_h0 _
          refine Wp.steps 1 (pc1 := 14) (lo1 := [some (.int a2)]) (st1 := [.int 0]) (h1 := zv_h0) rfl ?_
          refine Wp.ret rfl rfl rfl ?_
          show Wp _ _ 85 11 [some (.ref 0), some (.int 3), some (.int a2), some (.int a3)] [.int 0] zv_h0 _
          refine Wp.steps 3 (pc1 := 17) (lo1 := [some (.ref 0), some (.int 3), some (.int a2), some (.int a3)]) (st1 := [.int 40, .int a3]) (h1 := zv_h0) rfl ?_
          refine Wp.icF (i := .nop) rfl (zq_F rfl (by decide) (show a3.toInt > 40 by omega)) ?_
          show Wp _ _ 85 20 [some (.ref 0), some (.int 3), some (.int a2), some (.int a3)] [] zv_h0 _
          refine Wp.steps 1 (pc1 := 21) (lo1 := [some (.ref 0), some (.int 3), some (.int a2), some (.int a3)]) (st1 := [.int (-1)]) (h1 := zv_h0) rfl ?_
          exact Wp.ret rfl rfl rfl ⟨rfl, rfl⟩
        · show Wp _ _ 184 0 [some (.ref 113), some (.int 3), some (.int a2), some (.int a3), none] [] zv_h0 _
          refine Wp.steps 2 (pc1 := 2) (lo1 := [some (.ref 113), some (.int 3), some (.int a2), some (.int a3), none]) (st1 := [.int a2, .int 3]) (h1 := zv_h0) rfl ?_
          refine Wp.call (as := [.int 3, .int a2]) (rest := []) rfl rfl rfl rfl rfl rfl rfl rfl rfl ?_
          show Wp _ _ 183 0 [some (.int 3), some (.int a2)] [] zv_h0 _
          refine Wp.steps 4 (pc1 := 6) (lo1 := [some (.int 3), some (.int a2)]) (st1 := [.long 3, .long 0, .long 3]) (h1 := zv_h0) rfl ?_
          refine Wp.call (as := [.long 3, .long 0, .long 3]) (rest := []) rfl rfl rfl rfl rfl rfl rfl rfl rfl ?_
          show Wp _ _ 107 0 [some (.long 3), none, some (.long 0), none, some (.long 3), none] [] zv_h0 _
          refine Wp.steps 9 (pc1 := 14) (lo1 := [some (.long 3), none, some (.long 0), none, some (.long 3), none]) (st1 := [.int 1]) (h1 := zv_h0) rfl ?_
          refine Wp.steps 1 (pc1 := 18) (lo1 := [some (.long 3), none, some (.long 0), none, some (.long 3), none]) (st1 := [.int 1]) (h1 := zv_h0) rfl ?_
          refine Wp.ret rfl rfl rfl ?_
          show Wp _ _ 183 9 [some (.int 3), some (.int a2)] [.int 1] zv_h0 _
          refine Wp.steps 5 (pc1 := 18) (lo1 := [some (.int 3), some (.int a2)]) (st1 := [.long 2, .long 0, .long (a2).toInt64]) (h1 := zv_h0) rfl ?_
          refine Wp.call (as := [.long (a2).toInt64, .long 0, .long 2]) (rest := []) rfl rfl rfl rfl rfl rfl rfl rfl rfl ?_
          refine zin_T (Int32.toInt_toInt64 _) (by decide) (by decide) (show (0 : Int) ≤ a2.toInt by omega) (show a2.toInt ≤ (2 : Int) by omega) ?_
          show Wp _ _ 183 21 [some (.int 3), some (.int a2)] [.int 1] zv_h0 _
          refine Wp.steps 3 (pc1 := 29) (lo1 := [some (.int 3), some (.int a2)]) (st1 := [.int 1]) (h1 := zv_h0) rfl ?_
          refine Wp.ret rfl rfl rfl ?_
          show Wp _ _ 184 5 [some (.ref 113), some (.int 3), some (.int a2), some (.int a3), none] [.int 1] zv_h0 _
          refine Wp.steps 3 (pc1 := 11) (lo1 := [some (.ref 113), some (.int 3), some (.int a2), some (.int a3), none]) (st1 := [.int 40, .int a3]) (h1 := zv_h0) rfl ?_
          refine Wp.icF (i := .nop) rfl (zq_F rfl (by decide) (show a3.toInt > 40 by omega)) ?_
          show Wp _ _ 184 14 [some (.ref 113), some (.int 3), some (.int a2), some (.int a3), none] [] zv_h0 _
          refine Wp.steps 1 (pc1 := 15) (lo1 := [some (.ref 113), some (.int 3), some (.int a2), some (.int a3), none]) (st1 := [.int (-1)]) (h1 := zv_h0) rfl ?_
          exact Wp.ret rfl rfl rfl ⟨rfl, rfl⟩
      · skip
        refine ⟨(-14), zv_h0, zv_h0, ?_, rfl, ?_, zv_len⟩
        · show Wp _ _ 85 0 [some (.ref 0), some (.int 3), some (.int a2), some (.int a3)] [] zv_h0 _
          refine Wp.steps 1 (pc1 := 1) (lo1 := [some (.ref 0), some (.int 3), some (.int a2), some (.int a3)]) (st1 := [.int 3]) (h1 := zv_h0) rfl ?_
          refine Wp.call (as := [.int 3]) (rest := []) rfl rfl rfl rfl rfl rfl rfl rfl rfl ?_
          show Wp _ _ 93 0 [some (.int 3)] [] zv_h0 _
          refine Wp.steps 6 (pc1 := 14) (lo1 := [some (.int 3)]) (st1 := [.int 0]) (h1 := zv_h0) rfl ?_
          refine Wp.ret rfl rfl rfl ?_
          show Wp _ _ 85 4 [some (.ref 0), some (.int 3), some (.int a2), some (.int a3)] [.int 0] zv_h0 _
          refine Wp.steps 2 (pc1 := 8) (lo1 := [some (.ref 0), some (.int 3), some (.int a2), some (.int a3)]) (st1 := [.int a2]) (h1 := zv_h0) rfl ?_
          refine Wp.call (as := [.int a2]) (rest := []) rfl rfl rfl rfl rfl rfl rfl rfl rfl ?_
          show Wp _ _ 94 0 [some (.int a2)] [] zv_h0 _
          refine Wp.steps 1 (pc1 := 1) (lo1 := [some (.int a2)]) (st1 := [.int a2]) (h1 := zv_h0) rfl ?_
          refine Wp.ifF (i := .nop) rfl (zq_F rfl (by decide) (show a2.toInt ≥ 0 by omega)) ?_
          show Wp _ _ 94 4 [some (.int a2)] [] zv_h0 _
          refine Wp.steps 2 (pc1 := 6) (lo1 := [some (.int a2)]) (st1 := [.int 2, .int a2]) (h1 := zv_h0) rfl ?_
          refine Wp.icT (i := .nop) rfl (zq_T rfl (by decide) (show a2.toInt ≤ 2 by omega)) ?_
          show Wp _ _ 94 13 [some (.int a2)] [] zv_h0 _
          refine Wp.steps 1 (pc1 := 14) (lo1 := [some (.int a2)]) (st1 := [.int 0]) (h1 := zv_h0) rfl ?_
          refine Wp.ret rfl rfl rfl ?_
          show Wp _ _ 85 11 [some (.ref 0), some (.int 3), some (.int a2), some (.int a3)] [.int 0] zv_h0 _
          refine Wp.steps 3 (pc1 := 17) (lo1 := [some (.ref 0), some (.int 3), some (.int a2), some (.int a3)]) (st1 := [.int 40, .int a3]) (h1 := zv_h0) rfl ?_
          refine Wp.icT (i := .nop) rfl (zq_T rfl (by decide) (show a3.toInt ≤ 40 by omega)) ?_
          show Wp _ _ 85 22 [some (.ref 0), some (.int 3), some (.int a2), some (.int a3)] [] zv_h0 _
          refine Wp.steps 1 (pc1 := 23) (lo1 := [some (.ref 0), some (.int 3), some (.int a2), some (.int a3)]) (st1 := [.int a3]) (h1 := zv_h0) rfl ?_
          refine Wp.ifF (i := .nop) rfl (zq_F rfl (by decide) (show a3.toInt < 0 by omega)) ?_
          show Wp _ _ 85 26 [some (.ref 0), some (.int 3), some (.int a2), some (.int a3)] [] zv_h0 _
          refine Wp.steps 1 (pc1 := 28) (lo1 := [some (.ref 0), some (.int 3), some (.int a2), some (.int a3)]) (st1 := [.int (-14)]) (h1 := zv_h0) rfl ?_
          exact Wp.ret rfl rfl rfl ⟨rfl, rfl⟩
        · show Wp _ _ 184 0 [some (.ref 113), some (.int 3), some (.int a2), some (.int a3), none] [] zv_h0 _
          refine Wp.steps 2 (pc1 := 2) (lo1 := [some (.ref 113), some (.int 3), some (.int a2), some (.int a3), none]) (st1 := [.int a2, .int 3]) (h1 := zv_h0) rfl ?_
          refine Wp.call (as := [.int 3, .int a2]) (rest := []) rfl rfl rfl rfl rfl rfl rfl rfl rfl ?_
          show Wp _ _ 183 0 [some (.int 3), some (.int a2)] [] zv_h0 _
          refine Wp.steps 4 (pc1 := 6) (lo1 := [some (.int 3), some (.int a2)]) (st1 := [.long 3, .long 0, .long 3]) (h1 := zv_h0) rfl ?_
          refine Wp.call (as := [.long 3, .long 0, .long 3]) (rest := []) rfl rfl rfl rfl rfl rfl rfl rfl rfl ?_
          show Wp _ _ 107 0 [some (.long 3), none, some (.long 0), none, some (.long 3), none] [] zv_h0 _
          refine Wp.steps 9 (pc1 := 14) (lo1 := [some (.long 3), none, some (.long 0), none, some (.long 3), none]) (st1 := [.int 1]) (h1 := zv_h0) rfl ?_
          refine Wp.steps 1 (pc1 := 18) (lo1 := [some (.long 3), none, some (.long 0), none, some (.long 3), none]) (st1 := [.int 1]) (h1 := zv_h0) rfl ?_
          refine Wp.ret rfl rfl rfl ?_
          show Wp _ _ 183 9 [some (.int 3), some (.int a2)] [.int 1] zv_h0 _
          refine Wp.steps 5 (pc1 := 18) (lo1 := [some (.int 3), some (.int a2)]) (st1 := [.long 2, .long 0, .long (a2).toInt64]) (h1 := zv_h0) rfl ?_
          refine Wp.call (as := [.long (a2).toInt64, .long 0, .long 2]) (rest := []) rfl rfl rfl rfl rfl rfl rfl rfl rfl ?_
          refine zin_T (Int32.toInt_toInt64 _) (by decide) (by decide) (show (0 : Int) ≤ a2.toInt by omega) (show a2.toInt ≤ (2 : Int) by omega) ?_
          show Wp _ _ 183 21 [some (.int 3), some (.int a2)] [.int 1] zv_h0 _
          refine Wp.steps 3 (pc1 := 29) (lo1 := [some (.int 3), some (.int a2)]) (st1 := [.int 1]) (h1 := zv_h0) rfl ?_
          refine Wp.ret rfl rfl rfl ?_
          show Wp _ _ 184 5 [some (.ref 113), some (.int 3), some (.int a2), some (.int a3), none] [.int 1] zv_h0 _
          refine Wp.steps 3 (pc1 := 11) (lo1 := [some (.ref 113), some (.int 3), some (.int a2), some (.int a3), none]) (st1 := [.int 40, .int a3]) (h1 := zv_h0) rfl ?_
          refine Wp.icT (i := .nop) rfl (zq_T rfl (by decide) (show a3.toInt ≤ 40 by omega)) ?_
          show Wp _ _ 184 16 [some (.ref 113), some (.int 3), some (.int a2), some (.int a3), none] [] zv_h0 _
          refine Wp.steps 1 (pc1 := 17) (lo1 := [some (.ref 113), some (.int 3), some (.int a2), some (.int a3), none]) (st1 := [.int a3]) (h1 := zv_h0) rfl ?_
          refine Wp.ifF (i := .nop) rfl (zq_F rfl (by decide) (show a3.toInt < 0 by omega)) ?_
          show Wp _ _ 184 20 [some (.ref 113), some (.int 3), some (.int a2), some (.int a3), none] [] zv_h0 _
          refine Wp.steps 1 (pc1 := 22) (lo1 := [some (.ref 113), some (.int 3), some (.int a2), some (.int a3), none]) (st1 := [.int (-14)]) (h1 := zv_h0) rfl ?_
          exact Wp.ret rfl rfl rfl ⟨rfl, rfl⟩
      · skip
        refine ⟨1, (zv_h0.set 111 (.inr (.inr (5, [.int a3, .ref 112, .int a2])))), (((zv_h0.set 111 (.inr (.inr (5, [.int a3, .ref 112, .int a2])))).set 119 (.inl (0, [(-4), (-4), (-4), a2]))).set 120 (.inl (0, [0, 0, 0, a3]))), ?_, rfl, ?_, (zv_ls rfl rfl (zv_ls rfl rfl (zv_ls rfl rfl zv_len)))⟩
        · show Wp _ _ 85 0 [some (.ref 0), some (.int 3), some (.int a2), some (.int a3)] [] zv_h0 _
          refine Wp.steps 1 (pc1 := 1) (lo1 := [some (.ref 0), some (.int 3), some (.int a2), some (.int a3)]) (st1 := [.int 3]) (h1 := zv_h0) rfl ?_
          refine Wp.call (as := [.int 3]) (rest := []) rfl rfl rfl rfl rfl rfl rfl rfl rfl ?_
          show Wp _ _ 93 0 [some (.int 3)] [] zv_h0 _
          refine Wp.steps 6 (pc1 := 14) (lo1 := [some (.int 3)]) (st1 := [.int 0]) (h1 := zv_h0) rfl ?_
          refine Wp.ret rfl rfl rfl ?_
          show Wp _ _ 85 4 [some (.ref 0), some (.int 3), some (.int a2), some (.int a3)] [.int 0] zv_h0 _
          refine Wp.steps 2 (pc1 := 8) (lo1 := [some (.ref 0), some (.int 3), some (.int a2), some (.int a3)]) (st1 := [.int a2]) (h1 := zv_h0) rfl ?_
          refine Wp.call (as := [.int a2]) (rest := []) rfl rfl rfl rfl rfl rfl rfl rfl rfl ?_
          show Wp _ _ 94 0 [some (.int a2)] [] zv_h0 _
          refine Wp.steps 1 (pc1 := 1) (lo1 := [some (.int a2)]) (st1 := [.int a2]) (h1 := zv_h0) rfl ?_
          refine Wp.ifF (i := .nop) rfl (zq_F rfl (by decide) (show a2.toInt ≥ 0 by omega)) ?_
          show Wp _ _ 94 4 [some (.int a2)] [] zv_h0 _
          refine Wp.steps 2 (pc1 := 6) (lo1 := [some (.int a2)]) (st1 := [.int 2, .int a2]) (h1 := zv_h0) rfl ?_
          refine Wp.icT (i := .nop) rfl (zq_T rfl (by decide) (show a2.toInt ≤ 2 by omega)) ?_
          show Wp _ _ 94 13 [some (.int a2)] [] zv_h0 _
          refine Wp.steps 1 (pc1 := 14) (lo1 := [some (.int a2)]) (st1 := [.int 0]) (h1 := zv_h0) rfl ?_
          refine Wp.ret rfl rfl rfl ?_
          show Wp _ _ 85 11 [some (.ref 0), some (.int 3), some (.int a2), some (.int a3)] [.int 0] zv_h0 _
          refine Wp.steps 3 (pc1 := 17) (lo1 := [some (.ref 0), some (.int 3), some (.int a2), some (.int a3)]) (st1 := [.int 40, .int a3]) (h1 := zv_h0) rfl ?_
          refine Wp.icT (i := .nop) rfl (zq_T rfl (by decide) (show a3.toInt ≤ 40 by omega)) ?_
          show Wp _ _ 85 22 [some (.ref 0), some (.int 3), some (.int a2), some (.int a3)] [] zv_h0 _
          refine Wp.steps 1 (pc1 := 23) (lo1 := [some (.ref 0), some (.int 3), some (.int a2), some (.int a3)]) (st1 := [.int a3]) (h1 := zv_h0) rfl ?_
          refine Wp.ifT (i := .nop) rfl (zq_T rfl (by decide) (show a3.toInt ≥ 0 by omega)) ?_
          show Wp _ _ 85 29 [some (.ref 0), some (.int 3), some (.int a2), some (.int a3)] [] zv_h0 _
          refine Wp.steps 6 (pc1 := 37) (lo1 := [some (.ref 0), some (.int 3), some (.int a2), some (.int a3)]) (st1 := [.int a3, .int a2, .ref 111]) (h1 := zv_h0) rfl ?_
          refine Wp.call (as := [.ref 111, .int a2, .int a3]) (rest := []) rfl rfl rfl rfl rfl rfl rfl rfl rfl ?_
          show Wp _ _ 47 0 [some (.ref 111), some (.int a2), some (.int a3), none] [] zv_h0 _
          refine Wp.steps 8 (pc1 := 12) (lo1 := [some (.ref 111), some (.int a2), some (.int a3), some (.int 0)]) (st1 := []) (h1 := (zv_h0.set 111 (.inr (.inr (5, [.int a3, .ref 112, .int a2]))))) rfl ?_
          refine zlp_x rfl rfl ?_ 40 0 rfl
          show Wp _ _ 47 31 [some (.ref 111), some (.int a2), some (.int a3), some (.int 40)] [] (zv_h0.set 111 (.inr (.inr (5, [.int a3, .ref 112, .int a2])))) _
          refine Wp.ret rfl rfl rfl ?_
          show Wp _ _ 85 40 [some (.ref 0), some (.int 3), some (.int a2), some (.int a3)] [] (zv_h0.set 111 (.inr (.inr (5, [.int a3, .ref 112, .int a2])))) _
          refine Wp.steps 1 (pc1 := 41) (lo1 := [some (.ref 0), some (.int 3), some (.int a2), some (.int a3)]) (st1 := [.int 1]) (h1 := (zv_h0.set 111 (.inr (.inr (5, [.int a3, .ref 112, .int a2]))))) rfl ?_
          exact Wp.ret rfl rfl rfl ⟨rfl, rfl⟩
        · show Wp _ _ 184 0 [some (.ref 113), some (.int 3), some (.int a2), some (.int a3), none] [] (zv_h0.set 111 (.inr (.inr (5, [.int a3, .ref 112, .int a2])))) _
          refine Wp.steps 2 (pc1 := 2) (lo1 := [some (.ref 113), some (.int 3), some (.int a2), some (.int a3), none]) (st1 := [.int a2, .int 3]) (h1 := (zv_h0.set 111 (.inr (.inr (5, [.int a3, .ref 112, .int a2]))))) rfl ?_
          refine Wp.call (as := [.int 3, .int a2]) (rest := []) rfl rfl rfl rfl rfl rfl rfl rfl rfl ?_
          show Wp _ _ 183 0 [some (.int 3), some (.int a2)] [] (zv_h0.set 111 (.inr (.inr (5, [.int a3, .ref 112, .int a2])))) _
          refine Wp.steps 4 (pc1 := 6) (lo1 := [some (.int 3), some (.int a2)]) (st1 := [.long 3, .long 0, .long 3]) (h1 := (zv_h0.set 111 (.inr (.inr (5, [.int a3, .ref 112, .int a2]))))) rfl ?_
          refine Wp.call (as := [.long 3, .long 0, .long 3]) (rest := []) rfl rfl rfl rfl rfl rfl rfl rfl rfl ?_
          show Wp _ _ 107 0 [some (.long 3), none, some (.long 0), none, some (.long 3), none] [] (zv_h0.set 111 (.inr (.inr (5, [.int a3, .ref 112, .int a2])))) _
          refine Wp.steps 9 (pc1 := 14) (lo1 := [some (.long 3), none, some (.long 0), none, some (.long 3), none]) (st1 := [.int 1]) (h1 := (zv_h0.set 111 (.inr (.inr (5, [.int a3, .ref 112, .int a2]))))) rfl ?_
          refine Wp.steps 1 (pc1 := 18) (lo1 := [some (.long 3), none, some (.long 0), none, some (.long 3), none]) (st1 := [.int 1]) (h1 := (zv_h0.set 111 (.inr (.inr (5, [.int a3, .ref 112, .int a2]))))) rfl ?_
          refine Wp.ret rfl rfl rfl ?_
          show Wp _ _ 183 9 [some (.int 3), some (.int a2)] [.int 1] (zv_h0.set 111 (.inr (.inr (5, [.int a3, .ref 112, .int a2])))) _
          refine Wp.steps 5 (pc1 := 18) (lo1 := [some (.int 3), some (.int a2)]) (st1 := [.long 2, .long 0, .long (a2).toInt64]) (h1 := (zv_h0.set 111 (.inr (.inr (5, [.int a3, .ref 112, .int a2]))))) rfl ?_
          refine Wp.call (as := [.long (a2).toInt64, .long 0, .long 2]) (rest := []) rfl rfl rfl rfl rfl rfl rfl rfl rfl ?_
          refine zin_T (Int32.toInt_toInt64 _) (by decide) (by decide) (show (0 : Int) ≤ a2.toInt by omega) (show a2.toInt ≤ (2 : Int) by omega) ?_
          show Wp _ _ 183 21 [some (.int 3), some (.int a2)] [.int 1] (zv_h0.set 111 (.inr (.inr (5, [.int a3, .ref 112, .int a2])))) _
          refine Wp.steps 3 (pc1 := 29) (lo1 := [some (.int 3), some (.int a2)]) (st1 := [.int 1]) (h1 := (zv_h0.set 111 (.inr (.inr (5, [.int a3, .ref 112, .int a2]))))) rfl ?_
          refine Wp.ret rfl rfl rfl ?_
          show Wp _ _ 184 5 [some (.ref 113), some (.int 3), some (.int a2), some (.int a3), none] [.int 1] (zv_h0.set 111 (.inr (.inr (5, [.int a3, .ref 112, .int a2])))) _
          refine Wp.steps 3 (pc1 := 11) (lo1 := [some (.ref 113), some (.int 3), some (.int a2), some (.int a3), none]) (st1 := [.int 40, .int a3]) (h1 := (zv_h0.set 111 (.inr (.inr (5, [.int a3, .ref 112, .int a2]))))) rfl ?_
          refine Wp.icT (i := .nop) rfl (zq_T rfl (by decide) (show a3.toInt ≤ 40 by omega)) ?_
          show Wp _ _ 184 16 [some (.ref 113), some (.int 3), some (.int a2), some (.int a3), none] [] (zv_h0.set 111 (.inr (.inr (5, [.int a3, .ref 112, .int a2])))) _
          refine Wp.steps 1 (pc1 := 17) (lo1 := [some (.ref 113), some (.int 3), some (.int a2), some (.int a3), none]) (st1 := [.int a3]) (h1 := (zv_h0.set 111 (.inr (.inr (5, [.int a3, .ref 112, .int a2]))))) rfl ?_
          refine Wp.ifT (i := .nop) rfl (zq_T rfl (by decide) (show a3.toInt ≥ 0 by omega)) ?_
          show Wp _ _ 184 23 [some (.ref 113), some (.int 3), some (.int a2), some (.int a3), none] [] (zv_h0.set 111 (.inr (.inr (5, [.int a3, .ref 112, .int a2])))) _
          refine Wp.steps 8 (pc1 := 35) (lo1 := [some (.ref 113), some (.int 3), some (.int a2), some (.int a3), none]) (st1 := [.int 3, .ref 120]) (h1 := ((zv_h0.set 111 (.inr (.inr (5, [.int a3, .ref 112, .int a2])))).set 119 (.inl (0, [(-4), (-4), (-4), a2])))) rfl ?_
          refine Wp.steps 4 (pc1 := 40) (lo1 := [some (.ref 113), some (.int 3), some (.int a2), some (.int a3), some (.int 0)]) (st1 := []) (h1 := (((zv_h0.set 111 (.inr (.inr (5, [.int a3, .ref 112, .int a2])))).set 119 (.inl (0, [(-4), (-4), (-4), a2]))).set 120 (.inl (0, [0, 0, 0, a3])))) rfl ?_
          refine zlp_m (k := 3) (by decide) rfl rfl rfl (by decide) ?_ 40 0 rfl
          show Wp _ _ 184 66 [some (.ref 113), some (.int 3), some (.int a2), some (.int a3), some (.int 40)] [] (((zv_h0.set 111 (.inr (.inr (5, [.int a3, .ref 112, .int a2])))).set 119 (.inl (0, [(-4), (-4), (-4), a2]))).set 120 (.inl (0, [0, 0, 0, a3]))) _
          refine Wp.steps 1 (pc1 := 67) (lo1 := [some (.ref 113), some (.int 3), some (.int a2), some (.int a3), some (.int 40)]) (st1 := [.int 1]) (h1 := (((zv_h0.set 111 (.inr (.inr (5, [.int a3, .ref 112, .int a2])))).set 119 (.inl (0, [(-4), (-4), (-4), a2]))).set 120 (.inl (0, [0, 0, 0, a3])))) rfl ?_
          exact Wp.ret rfl rfl rfl ⟨rfl, rfl⟩
set_option maxRecDepth 100000 in
set_option maxHeartbeats 4000000 in
theorem zr_32 (a1 a2 a3 : Int32) : zv_Pi 86 185 [.int a1, .int a2, .int a3] := by
  rcases (by omega : (a1.toInt ≤ -1) ∨ (4 ≤ a1.toInt) ∨ (a1.toInt = 0) ∨ (a1.toInt = 1) ∨ (a1.toInt = 2) ∨ (a1.toInt = 3)) with h0 | h0 | h0 | h0 | h0 | h0
  · skip
    refine ⟨(-1), zv_h0, zv_h0, ?_, rfl, ?_, zv_len⟩
    · show Wp _ _ 86 0 [some (.ref 0), some (.int a1), some (.int a2), some (.int a3), none] [] zv_h0 _
      refine Wp.steps 1 (pc1 := 1) (lo1 := [some (.ref 0), some (.int a1), some (.int a2), some (.int a3), none]) (st1 := [.int a1]) (h1 := zv_h0) rfl ?_
      refine Wp.call (as := [.int a1]) (rest := []) rfl rfl rfl rfl rfl rfl rfl rfl rfl ?_
      show Wp _ _ 93 0 [some (.int a1)] [] zv_h0 _
      refine Wp.steps 1 (pc1 := 1) (lo1 := [some (.int a1)]) (st1 := [.int a1]) (h1 := zv_h0) rfl ?_
      refine Wp.ifT (i := .nop) rfl (zq_T rfl (by decide) (show a1.toInt < 0 by omega)) ?_
      show Wp _ _ 93 9 [some (.int a1)] [] zv_h0 _
      refine Wp.steps 2 (pc1 := 14) (lo1 := [some (.int a1)]) (st1 := [.int 1]) (h1 := zv_h0) rfl ?_
      refine Wp.ret rfl rfl rfl ?_
      show Wp _ _ 86 4 [some (.ref 0), some (.int a1), some (.int a2), some (.int a3), none] [.int 1] zv_h0 _
      refine Wp.steps 2 (pc1 := 8) (lo1 := [some (.ref 0), some (.int a1), some (.int a2), some (.int a3), none]) (st1 := [.int (-1)]) (h1 := zv_h0) rfl ?_
      exact Wp.ret rfl rfl rfl ⟨rfl, rfl⟩
    · show Wp _ _ 185 0 [some (.ref 113), some (.int a1), some (.int a2), some (.int a3)] [] zv_h0 _
      refine Wp.steps 2 (pc1 := 2) (lo1 := [some (.ref 113), some (.int a1), some (.int a2), some (.int a3)]) (st1 := [.int 0, .int a1]) (h1 := zv_h0) rfl ?_
      refine Wp.call (as := [.int a1, .int 0]) (rest := []) rfl rfl rfl rfl rfl rfl rfl rfl rfl ?_
      show Wp _ _ 183 0 [some (.int a1), some (.int 0)] [] zv_h0 _
      refine Wp.steps 4 (pc1 := 6) (lo1 := [some (.int a1), some (.int 0)]) (st1 := [.long 3, .long 0, .long (a1).toInt64]) (h1 := zv_h0) rfl ?_
      refine Wp.call (as := [.long (a1).toInt64, .long 0, .long 3]) (rest := []) rfl rfl rfl rfl rfl rfl rfl rfl rfl ?_
      refine zin_F (Int32.toInt_toInt64 _) (by decide) (by decide) (show a1.toInt < (0 : Int) ∨ (3 : Int) < a1.toInt by omega) ?_
      show Wp _ _ 183 9 [some (.int a1), some (.int 0)] [.int 0] zv_h0 _
      refine Wp.steps 2 (pc1 := 29) (lo1 := [some (.int a1), some (.int 0)]) (st1 := [.int 0]) (h1 := zv_h0) rfl ?_
      refine Wp.ret rfl rfl rfl ?_
      show Wp _ _ 185 5 [some (.ref 113), some (.int a1), some (.int a2), some (.int a3)] [.int 0] zv_h0 _
      refine Wp.steps 2 (pc1 := 9) (lo1 := [some (.ref 113), some (.int a1), some (.int a2), some (.int a3)]) (st1 := [.int (-1)]) (h1 := zv_h0) rfl ?_
      exact Wp.ret rfl rfl rfl ⟨rfl, rfl⟩
  · skip
    refine ⟨(-1), zv_h0, zv_h0, ?_, rfl, ?_, zv_len⟩
    · show Wp _ _ 86 0 [some (.ref 0), some (.int a1), some (.int a2), some (.int a3), none] [] zv_h0 _
      refine Wp.steps 1 (pc1 := 1) (lo1 := [some (.ref 0), some (.int a1), some (.int a2), some (.int a3), none]) (st1 := [.int a1]) (h1 := zv_h0) rfl ?_
      refine Wp.call (as := [.int a1]) (rest := []) rfl rfl rfl rfl rfl rfl rfl rfl rfl ?_
      show Wp _ _ 93 0 [some (.int a1)] [] zv_h0 _
      refine Wp.steps 1 (pc1 := 1) (lo1 := [some (.int a1)]) (st1 := [.int a1]) (h1 := zv_h0) rfl ?_
      refine Wp.ifF (i := .nop) rfl (zq_F rfl (by decide) (show a1.toInt ≥ 0 by omega)) ?_
      show Wp _ _ 93 4 [some (.int a1)] [] zv_h0 _
      refine Wp.steps 2 (pc1 := 6) (lo1 := [some (.int a1)]) (st1 := [.int 4, .int a1]) (h1 := zv_h0) rfl ?_
      refine Wp.icF (i := .nop) rfl (zq_F rfl (by decide) (show a1.toInt ≥ 4 by omega)) ?_
      show Wp _ _ 93 9 [some (.int a1)] [] zv_h0 _
      refine Wp.steps 2 (pc1 := 14) (lo1 := [some (.int a1)]) (st1 := [.int 1]) (h1 := zv_h0) rfl ?_
      refine Wp.ret rfl rfl rfl ?_
      show Wp _ _ 86 4 [some (.ref 0), some (.int a1), some (.int a2), some (.int a3), none] [.int 1] zv_h0 _
      refine Wp.steps 2 (pc1 := 8) (lo1 := [some (.ref 0), some (.int a1), some (.int a2), some (.int a3), none]) (st1 := [.int (-1)]) (h1 := zv_h0) rfl ?_
      exact Wp.ret rfl rfl rfl ⟨rfl, rfl⟩
    · show Wp _ _ 185 0 [some (.ref 113), some (.int a1), some (.int a2), some (.int a3)] [] zv_h0 _
      refine Wp.steps 2 (pc1 := 2) (lo1 := [some (.ref 113), some (.int a1), some (.int a2), some (.int a3)]) (st1 := [.int 0, .int a1]) (h1 := zv_h0) rfl ?_
      refine Wp.call (as := [.int a1, .int 0]) (rest := []) rfl rfl rfl rfl rfl rfl rfl rfl rfl ?_
      show Wp _ _ 183 0 [some (.int a1), some (.int 0)] [] zv_h0 _
      refine Wp.steps 4 (pc1 := 6) (lo1 := [some (.int a1), some (.int 0)]) (st1 := [.long 3, .long 0, .long (a1).toInt64]) (h1 := zv_h0) rfl ?_
      refine Wp.call (as := [.long (a1).toInt64, .long 0, .long 3]) (rest := []) rfl rfl rfl rfl rfl rfl rfl rfl rfl ?_
      refine zin_F (Int32.toInt_toInt64 _) (by decide) (by decide) (show a1.toInt < (0 : Int) ∨ (3 : Int) < a1.toInt by omega) ?_
      show Wp _ _ 183 9 [some (.int a1), some (.int 0)] [.int 0] zv_h0 _
      refine Wp.steps 2 (pc1 := 29) (lo1 := [some (.int a1), some (.int 0)]) (st1 := [.int 0]) (h1 := zv_h0) rfl ?_
      refine Wp.ret rfl rfl rfl ?_
      show Wp _ _ 185 5 [some (.ref 113), some (.int a1), some (.int a2), some (.int a3)] [.int 0] zv_h0 _
      refine Wp.steps 2 (pc1 := 9) (lo1 := [some (.ref 113), some (.int a1), some (.int a2), some (.int a3)]) (st1 := [.int (-1)]) (h1 := zv_h0) rfl ?_
      exact Wp.ret rfl rfl rfl ⟨rfl, rfl⟩
  · skip
    obtain rfl : a1 = 0 := Int32.toInt_inj.mp (h0.trans (by decide))
    refine ⟨(-11), zv_h0, zv_h0, ?_, rfl, ?_, zv_len⟩
    · show Wp _ _ 86 0 [some (.ref 0), some (.int 0), some (.int a2), some (.int a3), none] [] zv_h0 _
      refine Wp.steps 1 (pc1 := 1) (lo1 := [some (.ref 0), some (.int 0), some (.int a2), some (.int a3), none]) (st1 := [.int 0]) (h1 := zv_h0) rfl ?_
      refine Wp.call (as := [.int 0]) (rest := []) rfl rfl rfl rfl rfl rfl rfl rfl rfl ?_
      show Wp _ _ 93 0 [some (.int 0)] [] zv_h0 _
      refine Wp.steps 6 (pc1 := 14) (lo1 := [some (.int 0)]) (st1 := [.int 0]) (h1 := zv_h0) rfl ?_
      refine Wp.ret rfl rfl rfl ?_
      show Wp _ _ 86 4 [some (.ref 0), some (.int 0), some (.int a2), some (.int a3), none] [.int 0] zv_h0 _
      refine Wp.steps 6 (pc1 := 16) (lo1 := [some (.ref 0), some (.int 0), some (.int a2), some (.int a3), none]) (st1 := [.int a2, .ref 105]) (h1 := zv_h0) rfl ?_
      refine Wp.call (as := [.ref 105, .int a2]) (rest := []) rfl rfl rfl rfl rfl rfl rfl rfl rfl ?_
      show Wp _ _ 49 0 [some (.ref 105), some (.int a2)] [] zv_h0 _
      refine Wp.steps 1 (pc1 := 1) (lo1 := [some (.ref 105), some (.int a2)]) (st1 := [.ref 105]) (h1 := zv_h0) rfl ?_
      refine Wp.call (as := [.ref 105]) (rest := []) rfl rfl rfl rfl rfl rfl rfl rfl rfl ?_
      show Wp _ _ 46 0 [some (.ref 105)] [] zv_h0 _
      refine Wp.steps 6 (pc1 := 13) (lo1 := [some (.ref 105)]) (st1 := [.int 1]) (h1 := zv_h0) rfl ?_
      refine Wp.ret rfl rfl rfl ?_
      show Wp _ _ 49 4 [some (.ref 105), some (.int a2)] [.int 1] zv_h0 _
      refine Wp.steps 2 (pc1 := 8) (lo1 := [some (.ref 105), some (.int a2)]) (st1 := [.int 1]) (h1 := zv_h0) rfl ?_
      refine Wp.ret rfl rfl rfl ?_
      show Wp _ _ 86 19 [some (.ref 0), some (.int 0), some (.int a2), some (.int a3), none] [.int 1] zv_h0 _
      refine Wp.steps 6 (pc1 := 31) (lo1 := [some (.ref 0), some (.int 0), some (.int a2), some (.int a3), some (.int 1)]) (st1 := [.int (-11)]) (h1 := zv_h0) rfl ?_
      exact Wp.ret rfl rfl rfl ⟨rfl, rfl⟩
    · show Wp _ _ 185 0 [some (.ref 113), some (.int 0), some (.int a2), some (.int a3)] [] zv_h0 _
      refine Wp.steps 2 (pc1 := 2) (lo1 := [some (.ref 113), some (.int 0), some (.int a2), some (.int a3)]) (st1 := [.int 0, .int 0]) (h1 := zv_h0) rfl ?_
      refine Wp.call (as := [.int 0, .int 0]) (rest := []) rfl rfl rfl rfl rfl rfl rfl rfl rfl ?_
      show Wp _ _ 183 0 [some (.int 0), some (.int 0)] [] zv_h0 _
      refine Wp.steps 4 (pc1 := 6) (lo1 := [some (.int 0), some (.int 0)]) (st1 := [.long 3, .long 0, .long 0]) (h1 := zv_h0) rfl ?_
      refine Wp.call (as := [.long 0, .long 0, .long 3]) (rest := []) rfl rfl rfl rfl rfl rfl rfl rfl rfl ?_
      show Wp _ _ 107 0 [some (.long 0), none, some (.long 0), none, some (.long 3), none] [] zv_h0 _
      refine Wp.steps 9 (pc1 := 14) (lo1 := [some (.long 0), none, some (.long 0), none, some (.long 3), none]) (st1 := [.int 1]) (h1 := zv_h0) rfl ?_
      refine Wp.steps 1 (pc1 := 18) (lo1 := [some (.long 0), none, some (.long 0), none, some (.long 3), none]) (st1 := [.int 1]) (h1 := zv_h0) rfl ?_
      refine Wp.ret rfl rfl rfl ?_
      show Wp _ _ 183 9 [some (.int 0), some (.int 0)] [.int 1] zv_h0 _
      refine Wp.steps 5 (pc1 := 18) (lo1 := [some (.int 0), some (.int 0)]) (st1 := [.long 2, .long 0, .long 0]) (h1 := zv_h0) rfl ?_
      refine Wp.call (as := [.long 0, .long 0, .long 2]) (rest := []) rfl rfl rfl rfl rfl rfl rfl rfl rfl ?_
      show Wp _ _ 107 0 [some (.long 0), none, some (.long 0), none, some (.long 2), none] [] zv_h0 _
      refine Wp.steps 9 (pc1 := 14) (lo1 := [some (.long 0), none, some (.long 0), none, some (.long 2), none]) (st1 := [.int 1]) (h1 := zv_h0) rfl ?_
      refine Wp.steps 1 (pc1 := 18) (lo1 := [some (.long 0), none, some (.long 0), none, some (.long 2), none]) (st1 := [.int 1]) (h1 := zv_h0) rfl ?_
      refine Wp.ret rfl rfl rfl ?_
      show Wp _ _ 183 21 [some (.int 0), some (.int 0)] [.int 1] zv_h0 _
      refine Wp.steps 3 (pc1 := 29) (lo1 := [some (.int 0), some (.int 0)]) (st1 := [.int 1]) (h1 := zv_h0) rfl ?_
      refine Wp.ret rfl rfl rfl ?_
      show Wp _ _ 185 5 [some (.ref 113), some (.int 0), some (.int a2), some (.int a3)] [.int 1] zv_h0 _
      refine Wp.steps 8 (pc1 := 23) (lo1 := [some (.ref 113), some (.int 0), some (.int a2), some (.int a3)]) (st1 := [.int (-11)]) (h1 := zv_h0) rfl ?_
      exact Wp.ret rfl rfl rfl ⟨rfl, rfl⟩
  · skip
    obtain rfl : a1 = 1 := Int32.toInt_inj.mp (h0.trans (by decide))
    refine ⟨(-11), zv_h0, zv_h0, ?_, rfl, ?_, zv_len⟩
    · show Wp _ _ 86 0 [some (.ref 0), some (.int 1), some (.int a2), some (.int a3), none] [] zv_h0 _
      refine Wp.steps 1 (pc1 := 1) (lo1 := [some (.ref 0), some (.int 1), some (.int a2), some (.int a3), none]) (st1 := [.int 1]) (h1 := zv_h0) rfl ?_
      refine Wp.call (as := [.int 1]) (rest := []) rfl rfl rfl rfl rfl rfl rfl rfl rfl ?_
      show Wp _ _ 93 0 [some (.int 1)] [] zv_h0 _
      refine Wp.steps 6 (pc1 := 14) (lo1 := [some (.int 1)]) (st1 := [.int 0]) (h1 := zv_h0) rfl ?_
      refine Wp.ret rfl rfl rfl ?_
      show Wp _ _ 86 4 [some (.ref 0), some (.int 1), some (.int a2), some (.int a3), none] [.int 0] zv_h0 _
      refine Wp.steps 6 (pc1 := 16) (lo1 := [some (.ref 0), some (.int 1), some (.int a2), some (.int a3), none]) (st1 := [.int a2, .ref 107]) (h1 := zv_h0) rfl ?_
      refine Wp.call (as := [.ref 107, .int a2]) (rest := []) rfl rfl rfl rfl rfl rfl rfl rfl rfl ?_
      show Wp _ _ 49 0 [some (.ref 107), some (.int a2)] [] zv_h0 _
      refine Wp.steps 1 (pc1 := 1) (lo1 := [some (.ref 107), some (.int a2)]) (st1 := [.ref 107]) (h1 := zv_h0) rfl ?_
      refine Wp.call (as := [.ref 107]) (rest := []) rfl rfl rfl rfl rfl rfl rfl rfl rfl ?_
      show Wp _ _ 46 0 [some (.ref 107)] [] zv_h0 _
      refine Wp.steps 6 (pc1 := 13) (lo1 := [some (.ref 107)]) (st1 := [.int 1]) (h1 := zv_h0) rfl ?_
      refine Wp.ret rfl rfl rfl ?_
      show Wp _ _ 49 4 [some (.ref 107), some (.int a2)] [.int 1] zv_h0 _
      refine Wp.steps 2 (pc1 := 8) (lo1 := [some (.ref 107), some (.int a2)]) (st1 := [.int 1]) (h1 := zv_h0) rfl ?_
      refine Wp.ret rfl rfl rfl ?_
      show Wp _ _ 86 19 [some (.ref 0), some (.int 1), some (.int a2), some (.int a3), none] [.int 1] zv_h0 _
      refine Wp.steps 6 (pc1 := 31) (lo1 := [some (.ref 0), some (.int 1), some (.int a2), some (.int a3), some (.int 1)]) (st1 := [.int (-11)]) (h1 := zv_h0) rfl ?_
      exact Wp.ret rfl rfl rfl ⟨rfl, rfl⟩
    · show Wp _ _ 185 0 [some (.ref 113), some (.int 1), some (.int a2), some (.int a3)] [] zv_h0 _
      refine Wp.steps 2 (pc1 := 2) (lo1 := [some (.ref 113), some (.int 1), some (.int a2), some (.int a3)]) (st1 := [.int 0, .int 1]) (h1 := zv_h0) rfl ?_
      refine Wp.call (as := [.int 1, .int 0]) (rest := []) rfl rfl rfl rfl rfl rfl rfl rfl rfl ?_
      show Wp _ _ 183 0 [some (.int 1), some (.int 0)] [] zv_h0 _
      refine Wp.steps 4 (pc1 := 6) (lo1 := [some (.int 1), some (.int 0)]) (st1 := [.long 3, .long 0, .long 1]) (h1 := zv_h0) rfl ?_
      refine Wp.call (as := [.long 1, .long 0, .long 3]) (rest := []) rfl rfl rfl rfl rfl rfl rfl rfl rfl ?_
      show Wp _ _ 107 0 [some (.long 1), none, some (.long 0), none, some (.long 3), none] [] zv_h0 _
      refine Wp.steps 9 (pc1 := 14) (lo1 := [some (.long 1), none, some (.long 0), none, some (.long 3), none]) (st1 := [.int 1]) (h1 := zv_h0) rfl ?_
      refine Wp.steps 1 (pc1 := 18) (lo1 := [some (.long 1), none, some (.long 0), none, some (.long 3), none]) (st1 := [.int 1]) (h1 := zv_h0) rfl ?_
      refine Wp.ret rfl rfl rfl ?_
      show Wp _ _ 183 9 [some (.int 1), some (.int 0)] [.int 1] zv_h0 _
      refine Wp.steps 5 (pc1 := 18) (lo1 := [some (.int 1), some (.int 0)]) (st1 := [.long 2, .long 0, .long 0]) (h1 := zv_h0) rfl ?_
      refine Wp.call (as := [.long 0, .long 0, .long 2]) (rest := []) rfl rfl rfl rfl rfl rfl rfl rfl rfl ?_
      show Wp _ _ 107 0 [some (.long 0), none, some (.long 0), none, some (.long 2), none] [] zv_h0 _
      refine Wp.steps 9 (pc1 := 14) (lo1 := [some (.long 0), none, some (.long 0), none, some (.long 2), none]) (st1 := [.int 1]) (h1 := zv_h0) rfl ?_
      refine Wp.steps 1 (pc1 := 18) (lo1 := [some (.long 0), none, some (.long 0), none, some (.long 2), none]) (st1 := [.int 1]) (h1 := zv_h0) rfl ?_
      refine Wp.ret rfl rfl rfl ?_
      show Wp _ _ 183 21 [some (.int 1), some (.int 0)] [.int 1] zv_h0 _
      refine Wp.steps 3 (pc1 := 29) (lo1 := [some (.int 1), some (.int 0)]) (st1 := [.int 1]) (h1 := zv_h0) rfl ?_
      refine Wp.ret rfl rfl rfl ?_
      show Wp _ _ 185 5 [some (.ref 113), some (.int 1), some (.int a2), some (.int a3)] [.int 1] zv_h0 _
      refine Wp.steps 8 (pc1 := 23) (lo1 := [some (.ref 113), some (.int 1), some (.int a2), some (.int a3)]) (st1 := [.int (-11)]) (h1 := zv_h0) rfl ?_
      exact Wp.ret rfl rfl rfl ⟨rfl, rfl⟩
  · skip
    obtain rfl : a1 = 2 := Int32.toInt_inj.mp (h0.trans (by decide))
    refine ⟨(-11), zv_h0, zv_h0, ?_, rfl, ?_, zv_len⟩
    · show Wp _ _ 86 0 [some (.ref 0), some (.int 2), some (.int a2), some (.int a3), none] [] zv_h0 _
      refine Wp.steps 1 (pc1 := 1) (lo1 := [some (.ref 0), some (.int 2), some (.int a2), some (.int a3), none]) (st1 := [.int 2]) (h1 := zv_h0) rfl ?_
      refine Wp.call (as := [.int 2]) (rest := []) rfl rfl rfl rfl rfl rfl rfl rfl rfl ?_
      show Wp _ _ 93 0 [some (.int 2)] [] zv_h0 _
      refine Wp.steps 6 (pc1 := 14) (lo1 := [some (.int 2)]) (st1 := [.int 0]) (h1 := zv_h0) rfl ?_
      refine Wp.ret rfl rfl rfl ?_
      show Wp _ _ 86 4 [some (.ref 0), some (.int 2), some (.int a2), some (.int a3), none] [.int 0] zv_h0 _
      refine Wp.steps 6 (pc1 := 16) (lo1 := [some (.ref 0), some (.int 2), some (.int a2), some (.int a3), none]) (st1 := [.int a2, .ref 109]) (h1 := zv_h0) rfl ?_
      refine Wp.call (as := [.ref 109, .int a2]) (rest := []) rfl rfl rfl rfl rfl rfl rfl rfl rfl ?_
      show Wp _ _ 49 0 [some (.ref 109), some (.int a2)] [] zv_h0 _
      refine Wp.steps 1 (pc1 := 1) (lo1 := [some (.ref 109), some (.int a2)]) (st1 := [.ref 109]) (h1 := zv_h0) rfl ?_
      refine Wp.call (as := [.ref 109]) (rest := []) rfl rfl rfl rfl rfl rfl rfl rfl rfl ?_
      show Wp _ _ 46 0 [some (.ref 109)] [] zv_h0 _
      refine Wp.steps 6 (pc1 := 13) (lo1 := [some (.ref 109)]) (st1 := [.int 1]) (h1 := zv_h0) rfl ?_
      refine Wp.ret rfl rfl rfl ?_
      show Wp _ _ 49 4 [some (.ref 109), some (.int a2)] [.int 1] zv_h0 _
      refine Wp.steps 2 (pc1 := 8) (lo1 := [some (.ref 109), some (.int a2)]) (st1 := [.int 1]) (h1 := zv_h0) rfl ?_
      refine Wp.ret rfl rfl rfl ?_
      show Wp _ _ 86 19 [some (.ref 0), some (.int 2), some (.int a2), some (.int a3), none] [.int 1] zv_h0 _
      refine Wp.steps 6 (pc1 := 31) (lo1 := [some (.ref 0), some (.int 2), some (.int a2), some (.int a3), some (.int 1)]) (st1 := [.int (-11)]) (h1 := zv_h0) rfl ?_
      exact Wp.ret rfl rfl rfl ⟨rfl, rfl⟩
    · show Wp _ _ 185 0 [some (.ref 113), some (.int 2), some (.int a2), some (.int a3)] [] zv_h0 _
      refine Wp.steps 2 (pc1 := 2) (lo1 := [some (.ref 113), some (.int 2), some (.int a2), some (.int a3)]) (st1 := [.int 0, .int 2]) (h1 := zv_h0) rfl ?_
      refine Wp.call (as := [.int 2, .int 0]) (rest := []) rfl rfl rfl rfl rfl rfl rfl rfl rfl ?_
      show Wp _ _ 183 0 [some (.int 2), some (.int 0)] [] zv_h0 _
      refine Wp.steps 4 (pc1 := 6) (lo1 := [some (.int 2), some (.int 0)]) (st1 := [.long 3, .long 0, .long 2]) (h1 := zv_h0) rfl ?_
      refine Wp.call (as := [.long 2, .long 0, .long 3]) (rest := []) rfl rfl rfl rfl rfl rfl rfl rfl rfl ?_
      show Wp _ _ 107 0 [some (.long 2), none, some (.long 0), none, some (.long 3), none] [] zv_h0 _
      refine Wp.steps 9 (pc1 := 14) (lo1 := [some (.long 2), none, some (.long 0), none, some (.long 3), none]) (st1 := [.int 1]) (h1 := zv_h0) rfl ?_
      refine Wp.steps 1 (pc1 := 18) (lo1 := [some (.long 2), none, some (.long 0), none, some (.long 3), none]) (st1 := [.int 1]) (h1 := zv_h0) rfl ?_
      refine Wp.ret rfl rfl rfl ?_
      show Wp _ _ 183 9 [some (.int 2), some (.int 0)] [.int 1] zv_h0 _
      refine Wp.steps 5 (pc1 := 18) (lo1 := [some (.int 2), some (.int 0)]) (st1 := [.long 2, .long 0, .long 0]) (h1 := zv_h0) rfl ?_
      refine Wp.call (as := [.long 0, .long 0, .long 2]) (rest := []) rfl rfl rfl rfl rfl rfl rfl rfl rfl ?_
      show Wp _ _ 107 0 [some (.long 0), none, some (.long 0), none, some (.long 2), none] [] zv_h0 _
      refine Wp.steps 9 (pc1 := 14) (lo1 := [some (.long 0), none, some (.long 0), none, some (.long 2), none]) (st1 := [.int 1]) (h1 := zv_h0) rfl ?_
      refine Wp.steps 1 (pc1 := 18) (lo1 := [some (.long 0), none, some (.long 0), none, some (.long 2), none]) (st1 := [.int 1]) (h1 := zv_h0) rfl ?_
      refine Wp.ret rfl rfl rfl ?_
      show Wp _ _ 183 21 [some (.int 2), some (.int 0)] [.int 1] zv_h0 _
      refine Wp.steps 3 (pc1 := 29) (lo1 := [some (.int 2), some (.int 0)]) (st1 := [.int 1]) (h1 := zv_h0) rfl ?_
      refine Wp.ret rfl rfl rfl ?_
      show Wp _ _ 185 5 [some (.ref 113), some (.int 2), some (.int a2), some (.int a3)] [.int 1] zv_h0 _
      refine Wp.steps 8 (pc1 := 23) (lo1 := [some (.ref 113), some (.int 2), some (.int a2), some (.int a3)]) (st1 := [.int (-11)]) (h1 := zv_h0) rfl ?_
      exact Wp.ret rfl rfl rfl ⟨rfl, rfl⟩
  · skip
    obtain rfl : a1 = 3 := Int32.toInt_inj.mp (h0.trans (by decide))
    refine ⟨(-11), zv_h0, zv_h0, ?_, rfl, ?_, zv_len⟩
    · show Wp _ _ 86 0 [some (.ref 0), some (.int 3), some (.int a2), some (.int a3), none] [] zv_h0 _
      refine Wp.steps 1 (pc1 := 1) (lo1 := [some (.ref 0), some (.int 3), some (.int a2), some (.int a3), none]) (st1 := [.int 3]) (h1 := zv_h0) rfl ?_
      refine Wp.call (as := [.int 3]) (rest := []) rfl rfl rfl rfl rfl rfl rfl rfl rfl ?_
      show Wp _ _ 93 0 [some (.int 3)] [] zv_h0 _
      refine Wp.steps 6 (pc1 := 14) (lo1 := [some (.int 3)]) (st1 := [.int 0]) (h1 := zv_h0) rfl ?_
      refine Wp.ret rfl rfl rfl ?_
      show Wp _ _ 86 4 [some (.ref 0), some (.int 3), some (.int a2), some (.int a3), none] [.int 0] zv_h0 _
      refine Wp.steps 6 (pc1 := 16) (lo1 := [some (.ref 0), some (.int 3), some (.int a2), some (.int a3), none]) (st1 := [.int a2, .ref 111]) (h1 := zv_h0) rfl ?_
      refine Wp.call (as := [.ref 111, .int a2]) (rest := []) rfl rfl rfl rfl rfl rfl rfl rfl rfl ?_
      show Wp _ _ 49 0 [some (.ref 111), some (.int a2)] [] zv_h0 _
      refine Wp.steps 1 (pc1 := 1) (lo1 := [some (.ref 111), some (.int a2)]) (st1 := [.ref 111]) (h1 := zv_h0) rfl ?_
      refine Wp.call (as := [.ref 111]) (rest := []) rfl rfl rfl rfl rfl rfl rfl rfl rfl ?_
      show Wp _ _ 46 0 [some (.ref 111)] [] zv_h0 _
      refine Wp.steps 6 (pc1 := 13) (lo1 := [some (.ref 111)]) (st1 := [.int 1]) (h1 := zv_h0) rfl ?_
      refine Wp.ret rfl rfl rfl ?_
      show Wp _ _ 49 4 [some (.ref 111), some (.int a2)] [.int 1] zv_h0 _
      refine Wp.steps 2 (pc1 := 8) (lo1 := [some (.ref 111), some (.int a2)]) (st1 := [.int 1]) (h1 := zv_h0) rfl ?_
      refine Wp.ret rfl rfl rfl ?_
      show Wp _ _ 86 19 [some (.ref 0), some (.int 3), some (.int a2), some (.int a3), none] [.int 1] zv_h0 _
      refine Wp.steps 6 (pc1 := 31) (lo1 := [some (.ref 0), some (.int 3), some (.int a2), some (.int a3), some (.int 1)]) (st1 := [.int (-11)]) (h1 := zv_h0) rfl ?_
      exact Wp.ret rfl rfl rfl ⟨rfl, rfl⟩
    · show Wp _ _ 185 0 [some (.ref 113), some (.int 3), some (.int a2), some (.int a3)] [] zv_h0 _
      refine Wp.steps 2 (pc1 := 2) (lo1 := [some (.ref 113), some (.int 3), some (.int a2), some (.int a3)]) (st1 := [.int 0, .int 3]) (h1 := zv_h0) rfl ?_
      refine Wp.call (as := [.int 3, .int 0]) (rest := []) rfl rfl rfl rfl rfl rfl rfl rfl rfl ?_
      show Wp _ _ 183 0 [some (.int 3), some (.int 0)] [] zv_h0 _
      refine Wp.steps 4 (pc1 := 6) (lo1 := [some (.int 3), some (.int 0)]) (st1 := [.long 3, .long 0, .long 3]) (h1 := zv_h0) rfl ?_
      refine Wp.call (as := [.long 3, .long 0, .long 3]) (rest := []) rfl rfl rfl rfl rfl rfl rfl rfl rfl ?_
      show Wp _ _ 107 0 [some (.long 3), none, some (.long 0), none, some (.long 3), none] [] zv_h0 _
      refine Wp.steps 9 (pc1 := 14) (lo1 := [some (.long 3), none, some (.long 0), none, some (.long 3), none]) (st1 := [.int 1]) (h1 := zv_h0) rfl ?_
      refine Wp.steps 1 (pc1 := 18) (lo1 := [some (.long 3), none, some (.long 0), none, some (.long 3), none]) (st1 := [.int 1]) (h1 := zv_h0) rfl ?_
      refine Wp.ret rfl rfl rfl ?_
      show Wp _ _ 183 9 [some (.int 3), some (.int 0)] [.int 1] zv_h0 _
      refine Wp.steps 5 (pc1 := 18) (lo1 := [some (.int 3), some (.int 0)]) (st1 := [.long 2, .long 0, .long 0]) (h1 := zv_h0) rfl ?_
      refine Wp.call (as := [.long 0, .long 0, .long 2]) (rest := []) rfl rfl rfl rfl rfl rfl rfl rfl rfl ?_
      show Wp _ _ 107 0 [some (.long 0), none, some (.long 0), none, some (.long 2), none] [] zv_h0 _
      refine Wp.steps 9 (pc1 := 14) (lo1 := [some (.long 0), none, some (.long 0), none, some (.long 2), none]) (st1 := [.int 1]) (h1 := zv_h0) rfl ?_
      refine Wp.steps 1 (pc1 := 18) (lo1 := [some (.long 0), none, some (.long 0), none, some (.long 2), none]) (st1 := [.int 1]) (h1 := zv_h0) rfl ?_
      refine Wp.ret rfl rfl rfl ?_
      show Wp _ _ 183 21 [some (.int 3), some (.int 0)] [.int 1] zv_h0 _
      refine Wp.steps 3 (pc1 := 29) (lo1 := [some (.int 3), some (.int 0)]) (st1 := [.int 1]) (h1 := zv_h0) rfl ?_
      refine Wp.ret rfl rfl rfl ?_
      show Wp _ _ 185 5 [some (.ref 113), some (.int 3), some (.int a2), some (.int a3)] [.int 1] zv_h0 _
      refine Wp.steps 8 (pc1 := 23) (lo1 := [some (.ref 113), some (.int 3), some (.int a2), some (.int a3)]) (st1 := [.int (-11)]) (h1 := zv_h0) rfl ?_
      exact Wp.ret rfl rfl rfl ⟨rfl, rfl⟩
