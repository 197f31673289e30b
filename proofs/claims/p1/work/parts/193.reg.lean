set_option maxRecDepth 100000 in
set_option maxHeartbeats 4000000 in
theorem zrd_0 {sc : Option (List Int32)} {Q : Nat × List Value × HP → Prop} (a1 a2 a3 a4 : Int32) (K : Wp sc 11 186 53 [some (.ref 113), some (.int a1), some (.int a2), some (.int a3), some (.int a4), some (.int 8), none, none, none, none, none] [] zv_h0 Q) : Wp sc 11 186 23 [some (.ref 113), some (.int a1), some (.int a2), some (.int a3), some (.int a4), none, none, none, none, none, none] [] zv_h0 Q := by
  refine Wp.steps 8 (pc1 := 39) (lo1 := [some (.ref 113), some (.int a1), some (.int a2), some (.int a3), some (.int a4), some (.int 0), none, none, none, none, none]) (st1 := [.int 0, .ref 122]) (h1 := zv_h0) rfl ?_
  refine Wp.steps 3 (pc1 := 43) (lo1 := [some (.ref 113), some (.int a1), some (.int a2), some (.int a3), some (.int a4), some (.int 0), none, none, none, none, none]) (st1 := [.int 5, .int 0, .ref 113, .int 0, .ref 122]) (h1 := zv_h0) rfl ?_
  refine Wp.call (as := [.ref 113, .int 0, .int 5]) (rest := [.int 0, .ref 122]) rfl rfl rfl rfl rfl rfl rfl rfl rfl ?_
  show Wp _ _ 136 0 [some (.ref 113), some (.int 0), some (.int 5)] [] zv_h0 _
  refine Wp.steps 8 (pc1 := 12) (lo1 := [some (.ref 113), some (.int 0), some (.int 5)]) (st1 := [.int 5, .int 9, .ref 114]) (h1 := zv_h0) rfl ?_
  refine Wp.steps 2 (pc1 := 14) (lo1 := [some (.ref 113), some (.int 0), some (.int 5)]) (st1 := [.int 0]) (h1 := zv_h0) rfl ?_
  refine Wp.ret rfl rfl rfl ?_
  show Wp _ _ 186 46 [some (.ref 113), some (.int a1), some (.int a2), some (.int a3), some (.int a4), some (.int 0), none, none, none, none, none] [.int 0, .int 0, .ref 122] zv_h0 _
  refine Wp.steps 8 (pc1 := 37) (lo1 := [some (.ref 113), some (.int a1), some (.int a2), some (.int a3), some (.int a4), some (.int 1), none, none, none, none, none]) (st1 := [.ref 122]) (h1 := zv_h0) rfl ?_
  refine Wp.steps 4 (pc1 := 43) (lo1 := [some (.ref 113), some (.int a1), some (.int a2), some (.int a3), some (.int a4), some (.int 1), none, none, none, none, none]) (st1 := [.int 5, .int 1, .ref 113, .int 1, .ref 122]) (h1 := zv_h0) rfl ?_
  refine Wp.call (as := [.ref 113, .int 1, .int 5]) (rest := [.int 1, .ref 122]) rfl rfl rfl rfl rfl rfl rfl rfl rfl ?_
  show Wp _ _ 136 0 [some (.ref 113), some (.int 1), some (.int 5)] [] zv_h0 _
  refine Wp.steps 8 (pc1 := 12) (lo1 := [some (.ref 113), some (.int 1), some (.int 5)]) (st1 := [.int 5, .int 16, .ref 114]) (h1 := zv_h0) rfl ?_
  refine Wp.steps 2 (pc1 := 14) (lo1 := [some (.ref 113), some (.int 1), some (.int 5)]) (st1 := [.int 0]) (h1 := zv_h0) rfl ?_
  refine Wp.ret rfl rfl rfl ?_
  show Wp _ _ 186 46 [some (.ref 113), some (.int a1), some (.int a2), some (.int a3), some (.int a4), some (.int 1), none, none, none, none, none] [.int 0, .int 1, .ref 122] zv_h0 _
  refine Wp.steps 8 (pc1 := 37) (lo1 := [some (.ref 113), some (.int a1), some (.int a2), some (.int a3), some (.int a4), some (.int 2), none, none, none, none, none]) (st1 := [.ref 122]) (h1 := zv_h0) rfl ?_
  refine Wp.steps 4 (pc1 := 43) (lo1 := [some (.ref 113), some (.int a1), some (.int a2), some (.int a3), some (.int a4), some (.int 2), none, none, none, none, none]) (st1 := [.int 5, .int 2, .ref 113, .int 2, .ref 122]) (h1 := zv_h0) rfl ?_
  refine Wp.call (as := [.ref 113, .int 2, .int 5]) (rest := [.int 2, .ref 122]) rfl rfl rfl rfl rfl rfl rfl rfl rfl ?_
  show Wp _ _ 136 0 [some (.ref 113), some (.int 2), some (.int 5)] [] zv_h0 _
  refine Wp.steps 8 (pc1 := 12) (lo1 := [some (.ref 113), some (.int 2), some (.int 5)]) (st1 := [.int 5, .int 23, .ref 114]) (h1 := zv_h0) rfl ?_
  refine Wp.steps 2 (pc1 := 14) (lo1 := [some (.ref 113), some (.int 2), some (.int 5)]) (st1 := [.int 0]) (h1 := zv_h0) rfl ?_
  refine Wp.ret rfl rfl rfl ?_
  show Wp _ _ 186 46 [some (.ref 113), some (.int a1), some (.int a2), some (.int a3), some (.int a4), some (.int 2), none, none, none, none, none] [.int 0, .int 2, .ref 122] zv_h0 _
  refine Wp.steps 8 (pc1 := 37) (lo1 := [some (.ref 113), some (.int a1), some (.int a2), some (.int a3), some (.int a4), some (.int 3), none, none, none, none, none]) (st1 := [.ref 122]) (h1 := zv_h0) rfl ?_
  refine Wp.steps 4 (pc1 := 43) (lo1 := [some (.ref 113), some (.int a1), some (.int a2), some (.int a3), some (.int a4), some (.int 3), none, none, none, none, none]) (st1 := [.int 5, .int 3, .ref 113, .int 3, .ref 122]) (h1 := zv_h0) rfl ?_
  refine Wp.call (as := [.ref 113, .int 3, .int 5]) (rest := [.int 3, .ref 122]) rfl rfl rfl rfl rfl rfl rfl rfl rfl ?_
  show Wp _ _ 136 0 [some (.ref 113), some (.int 3), some (.int 5)] [] zv_h0 _
  refine Wp.steps 8 (pc1 := 12) (lo1 := [some (.ref 113), some (.int 3), some (.int 5)]) (st1 := [.int 5, .int 30, .ref 114]) (h1 := zv_h0) rfl ?_
  refine Wp.steps 2 (pc1 := 14) (lo1 := [some (.ref 113), some (.int 3), some (.int 5)]) (st1 := [.int 0]) (h1 := zv_h0) rfl ?_
  refine Wp.ret rfl rfl rfl ?_
  show Wp _ _ 186 46 [some (.ref 113), some (.int a1), some (.int a2), some (.int a3), some (.int a4), some (.int 3), none, none, none, none, none] [.int 0, .int 3, .ref 122] zv_h0 _
  refine Wp.steps 8 (pc1 := 37) (lo1 := [some (.ref 113), some (.int a1), some (.int a2), some (.int a3), some (.int a4), some (.int 4), none, none, none, none, none]) (st1 := [.ref 122]) (h1 := zv_h0) rfl ?_
  refine Wp.steps 4 (pc1 := 43) (lo1 := [some (.ref 113), some (.int a1), some (.int a2), some (.int a3), some (.int a4), some (.int 4), none, none, none, none, none]) (st1 := [.int 5, .int 4, .ref 113, .int 4, .ref 122]) (h1 := zv_h0) rfl ?_
  refine Wp.call (as := [.ref 113, .int 4, .int 5]) (rest := [.int 4, .ref 122]) rfl rfl rfl rfl rfl rfl rfl rfl rfl ?_
  show Wp _ _ 136 0 [some (.ref 113), some (.int 4), some (.int 5)] [] zv_h0 _
  refine Wp.steps 8 (pc1 := 12) (lo1 := [some (.ref 113), some (.int 4), some (.int 5)]) (st1 := [.int 5, .int 37, .ref 114]) (h1 := zv_h0) rfl ?_
  refine Wp.steps 2 (pc1 := 14) (lo1 := [some (.ref 113), some (.int 4), some (.int 5)]) (st1 := [.int 0]) (h1 := zv_h0) rfl ?_
  refine Wp.ret rfl rfl rfl ?_
  show Wp _ _ 186 46 [some (.ref 113), some (.int a1), some (.int a2), some (.int a3), some (.int a4), some (.int 4), none, none, none, none, none] [.int 0, .int 4, .ref 122] zv_h0 _
  refine Wp.steps 8 (pc1 := 37) (lo1 := [some (.ref 113), some (.int a1), some (.int a2), some (.int a3), some (.int a4), some (.int 5), none, none, none, none, none]) (st1 := [.ref 122]) (h1 := zv_h0) rfl ?_
  refine Wp.steps 4 (pc1 := 43) (lo1 := [some (.ref 113), some (.int a1), some (.int a2), some (.int a3), some (.int a4), some (.int 5), none, none, none, none, none]) (st1 := [.int 5, .int 5, .ref 113, .int 5, .ref 122]) (h1 := zv_h0) rfl ?_
  refine Wp.call (as := [.ref 113, .int 5, .int 5]) (rest := [.int 5, .ref 122]) rfl rfl rfl rfl rfl rfl rfl rfl rfl ?_
  show Wp _ _ 136 0 [some (.ref 113), some (.int 5), some (.int 5)] [] zv_h0 _
  refine Wp.steps 8 (pc1 := 12) (lo1 := [some (.ref 113), some (.int 5), some (.int 5)]) (st1 := [.int 5, .int 44, .ref 114]) (h1 := zv_h0) rfl ?_
  refine Wp.steps 2 (pc1 := 14) (lo1 := [some (.ref 113), some (.int 5), some (.int 5)]) (st1 := [.int 0]) (h1 := zv_h0) rfl ?_
  refine Wp.ret rfl rfl rfl ?_
  show Wp _ _ 186 46 [some (.ref 113), some (.int a1), some (.int a2), some (.int a3), some (.int a4), some (.int 5), none, none, none, none, none] [.int 0, .int 5, .ref 122] zv_h0 _
  refine Wp.steps 8 (pc1 := 37) (lo1 := [some (.ref 113), some (.int a1), some (.int a2), some (.int a3), some (.int a4), some (.int 6), none, none, none, none, none]) (st1 := [.ref 122]) (h1 := zv_h0) rfl ?_
  refine Wp.steps 4 (pc1 := 43) (lo1 := [some (.ref 113), some (.int a1), some (.int a2), some (.int a3), some (.int a4), some (.int 6), none, none, none, none, none]) (st1 := [.int 5, .int 6, .ref 113, .int 6, .ref 122]) (h1 := zv_h0) rfl ?_
  refine Wp.call (as := [.ref 113, .int 6, .int 5]) (rest := [.int 6, .ref 122]) rfl rfl rfl rfl rfl rfl rfl rfl rfl ?_
  show Wp _ _ 136 0 [some (.ref 113), some (.int 6), some (.int 5)] [] zv_h0 _
  refine Wp.steps 8 (pc1 := 12) (lo1 := [some (.ref 113), some (.int 6), some (.int 5)]) (st1 := [.int 5, .int 51, .ref 114]) (h1 := zv_h0) rfl ?_
  refine Wp.steps 2 (pc1 := 14) (lo1 := [some (.ref 113), some (.int 6), some (.int 5)]) (st1 := [.int 0]) (h1 := zv_h0) rfl ?_
  refine Wp.ret rfl rfl rfl ?_
  show Wp _ _ 186 46 [some (.ref 113), some (.int a1), some (.int a2), some (.int a3), some (.int a4), some (.int 6), none, none, none, none, none] [.int 0, .int 6, .ref 122] zv_h0 _
  refine Wp.steps 8 (pc1 := 37) (lo1 := [some (.ref 113), some (.int a1), some (.int a2), some (.int a3), some (.int a4), some (.int 7), none, none, none, none, none]) (st1 := [.ref 122]) (h1 := zv_h0) rfl ?_
  refine Wp.steps 4 (pc1 := 43) (lo1 := [some (.ref 113), some (.int a1), some (.int a2), some (.int a3), some (.int a4), some (.int 7), none, none, none, none, none]) (st1 := [.int 5, .int 7, .ref 113, .int 7, .ref 122]) (h1 := zv_h0) rfl ?_
  refine Wp.call (as := [.ref 113, .int 7, .int 5]) (rest := [.int 7, .ref 122]) rfl rfl rfl rfl rfl rfl rfl rfl rfl ?_
  show Wp _ _ 136 0 [some (.ref 113), some (.int 7), some (.int 5)] [] zv_h0 _
  refine Wp.steps 8 (pc1 := 12) (lo1 := [some (.ref 113), some (.int 7), some (.int 5)]) (st1 := [.int 5, .int 58, .ref 114]) (h1 := zv_h0) rfl ?_
  refine Wp.steps 2 (pc1 := 14) (lo1 := [some (.ref 113), some (.int 7), some (.int 5)]) (st1 := [.int 0]) (h1 := zv_h0) rfl ?_
  refine Wp.ret rfl rfl rfl ?_
  show Wp _ _ 186 46 [some (.ref 113), some (.int a1), some (.int a2), some (.int a3), some (.int a4), some (.int 7), none, none, none, none, none] [.int 0, .int 7, .ref 122] zv_h0 _
  refine Wp.steps 6 (pc1 := 53) (lo1 := [some (.ref 113), some (.int a1), some (.int a2), some (.int a3), some (.int a4), some (.int 8), none, none, none, none, none]) (st1 := []) (h1 := zv_h0) rfl ?_
  exact K
set_option maxRecDepth 100000 in
set_option maxHeartbeats 4000000 in
theorem zrd_1 {sc : Option (List Int32)} {Q : Nat × List Value × HP → Prop} (a1 a2 a3 a4 : Int32) (K : Wp sc 11 186 53 [some (.ref 113), some (.int a1), some (.int a2), some (.int a3), some (.int a4), some (.int 8), none, none, none, none, none] [] (zv_h0.set 0 (.inr (.inr (7, [.ref 1, .ref 30, .ref 25, .ref 28, .ref 54, .ref 55, .ref 104, .int 1])))) Q) : Wp sc 11 186 23 [some (.ref 113), some (.int a1), some (.int a2), some (.int a3), some (.int a4), none, none, none, none, none, none] [] (zv_h0.set 0 (.inr (.inr (7, [.ref 1, .ref 30, .ref 25, .ref 28, .ref 54, .ref 55, .ref 104, .int 1])))) Q := by
  refine Wp.steps 8 (pc1 := 39) (lo1 := [some (.ref 113), some (.int a1), some (.int a2), some (.int a3), some (.int a4), some (.int 0), none, none, none, none, none]) (st1 := [.int 0, .ref 122]) (h1 := (zv_h0.set 0 (.inr (.inr (7, [.ref 1, .ref 30, .ref 25, .ref 28, .ref 54, .ref 55, .ref 104, .int 1]))))) rfl ?_
  refine Wp.steps 3 (pc1 := 43) (lo1 := [some (.ref 113), some (.int a1), some (.int a2), some (.int a3), some (.int a4), some (.int 0), none, none, none, none, none]) (st1 := [.int 5, .int 0, .ref 113, .int 0, .ref 122]) (h1 := (zv_h0.set 0 (.inr (.inr (7, [.ref 1, .ref 30, .ref 25, .ref 28, .ref 54, .ref 55, .ref 104, .int 1]))))) rfl ?_
  refine Wp.call (as := [.ref 113, .int 0, .int 5]) (rest := [.int 0, .ref 122]) rfl rfl rfl rfl rfl rfl rfl rfl rfl ?_
  show Wp _ _ 136 0 [some (.ref 113), some (.int 0), some (.int 5)] [] (zv_h0.set 0 (.inr (.inr (7, [.ref 1, .ref 30, .ref 25, .ref 28, .ref 54, .ref 55, .ref 104, .int 1])))) _
  refine Wp.steps 8 (pc1 := 12) (lo1 := [some (.ref 113), some (.int 0), some (.int 5)]) (st1 := [.int 5, .int 9, .ref 114]) (h1 := (zv_h0.set 0 (.inr (.inr (7, [.ref 1, .ref 30, .ref 25, .ref 28, .ref 54, .ref 55, .ref 104, .int 1]))))) rfl ?_
  refine Wp.steps 2 (pc1 := 14) (lo1 := [some (.ref 113), some (.int 0), some (.int 5)]) (st1 := [.int 0]) (h1 := (zv_h0.set 0 (.inr (.inr (7, [.ref 1, .ref 30, .ref 25, .ref 28, .ref 54, .ref 55, .ref 104, .int 1]))))) rfl ?_
  refine Wp.ret rfl rfl rfl ?_
  show Wp _ _ 186 46 [some (.ref 113), some (.int a1), some (.int a2), some (.int a3), some (.int a4), some (.int 0), none, none, none, none, none] [.int 0, .int 0, .ref 122] (zv_h0.set 0 (.inr (.inr (7, [.ref 1, .ref 30, .ref 25, .ref 28, .ref 54, .ref 55, .ref 104, .int 1])))) _
  refine Wp.steps 8 (pc1 := 37) (lo1 := [some (.ref 113), some (.int a1), some (.int a2), some (.int a3), some (.int a4), some (.int 1), none, none, none, none, none]) (st1 := [.ref 122]) (h1 := (zv_h0.set 0 (.inr (.inr (7, [.ref 1, .ref 30, .ref 25, .ref 28, .ref 54, .ref 55, .ref 104, .int 1]))))) rfl ?_
  refine Wp.steps 4 (pc1 := 43) (lo1 := [some (.ref 113), some (.int a1), some (.int a2), some (.int a3), some (.int a4), some (.int 1), none, none, none, none, none]) (st1 := [.int 5, .int 1, .ref 113, .int 1, .ref 122]) (h1 := (zv_h0.set 0 (.inr (.inr (7, [.ref 1, .ref 30, .ref 25, .ref 28, .ref 54, .ref 55, .ref 104, .int 1]))))) rfl ?_
  refine Wp.call (as := [.ref 113, .int 1, .int 5]) (rest := [.int 1, .ref 122]) rfl rfl rfl rfl rfl rfl rfl rfl rfl ?_
  show Wp _ _ 136 0 [some (.ref 113), some (.int 1), some (.int 5)] [] (zv_h0.set 0 (.inr (.inr (7, [.ref 1, .ref 30, .ref 25, .ref 28, .ref 54, .ref 55, .ref 104, .int 1])))) _
  refine Wp.steps 8 (pc1 := 12) (lo1 := [some (.ref 113), some (.int 1), some (.int 5)]) (st1 := [.int 5, .int 16, .ref 114]) (h1 := (zv_h0.set 0 (.inr (.inr (7, [.ref 1, .ref 30, .ref 25, .ref 28, .ref 54, .ref 55, .ref 104, .int 1]))))) rfl ?_
  refine Wp.steps 2 (pc1 := 14) (lo1 := [some (.ref 113), some (.int 1), some (.int 5)]) (st1 := [.int 0]) (h1 := (zv_h0.set 0 (.inr (.inr (7, [.ref 1, .ref 30, .ref 25, .ref 28, .ref 54, .ref 55, .ref 104, .int 1]))))) rfl ?_
  refine Wp.ret rfl rfl rfl ?_
  show Wp _ _ 186 46 [some (.ref 113), some (.int a1), some (.int a2), some (.int a3), some (.int a4), some (.int 1), none, none, none, none, none] [.int 0, .int 1, .ref 122] (zv_h0.set 0 (.inr (.inr (7, [.ref 1, .ref 30, .ref 25, .ref 28, .ref 54, .ref 55, .ref 104, .int 1])))) _
  refine Wp.steps 8 (pc1 := 37) (lo1 := [some (.ref 113), some (.int a1), some (.int a2), some (.int a3), some (.int a4), some (.int 2), none, none, none, none, none]) (st1 := [.ref 122]) (h1 := (zv_h0.set 0 (.inr (.inr (7, [.ref 1, .ref 30, .ref 25, .ref 28, .ref 54, .ref 55, .ref 104, .int 1]))))) rfl ?_
  refine Wp.steps 4 (pc1 := 43) (lo1 := [some (.ref 113), some (.int a1), some (.int a2), some (.int a3), some (.int a4), some (.int 2), none, none, none, none, none]) (st1 := [.int 5, .int 2, .ref 113, .int 2, .ref 122]) (h1 := (zv_h0.set 0 (.inr (.inr (7, [.ref 1, .ref 30, .ref 25, .ref 28, .ref 54, .ref 55, .ref 104, .int 1]))))) rfl ?_
  refine Wp.call (as := [.ref 113, .int 2, .int 5]) (rest := [.int 2, .ref 122]) rfl rfl rfl rfl rfl rfl rfl rfl rfl ?_
  show Wp _ _ 136 0 [some (.ref 113), some (.int 2), some (.int 5)] [] (zv_h0.set 0 (.inr (.inr (7, [.ref 1, .ref 30, .ref 25, .ref 28, .ref 54, .ref 55, .ref 104, .int 1])))) _
  refine Wp.steps 8 (pc1 := 12) (lo1 := [some (.ref 113), some (.int 2), some (.int 5)]) (st1 := [.int 5, .int 23, .ref 114]) (h1 := (zv_h0.set 0 (.inr (.inr (7, [.ref 1, .ref 30, .ref 25, .ref 28, .ref 54, .ref 55, .ref 104, .int 1]))))) rfl ?_
  refine Wp.steps 2 (pc1 := 14) (lo1 := [some (.ref 113), some (.int 2), some (.int 5)]) (st1 := [.int 0]) (h1 := (zv_h0.set 0 (.inr (.inr (7, [.ref 1, .ref 30, .ref 25, .ref 28, .ref 54, .ref 55, .ref 104, .int 1]))))) rfl ?_
  refine Wp.ret rfl rfl rfl ?_
  show Wp _ _ 186 46 [some (.ref 113), some (.int a1), some (.int a2), some (.int a3), some (.int a4), some (.int 2), none, none, none, none, none] [.int 0, .int 2, .ref 122] (zv_h0.set 0 (.inr (.inr (7, [.ref 1, .ref 30, .ref 25, .ref 28, .ref 54, .ref 55, .ref 104, .int 1])))) _
  refine Wp.steps 8 (pc1 := 37) (lo1 := [some (.ref 113), some (.int a1), some (.int a2), some (.int a3), some (.int a4), some (.int 3), none, none, none, none, none]) (st1 := [.ref 122]) (h1 := (zv_h0.set 0 (.inr (.inr (7, [.ref 1, .ref 30, .ref 25, .ref 28, .ref 54, .ref 55, .ref 104, .int 1]))))) rfl ?_
  refine Wp.steps 4 (pc1 := 43) (lo1 := [some (.ref 113), some (.int a1), some (.int a2), some (.int a3), some (.int a4), some (.int 3), none, none, none, none, none]) (st1 := [.int 5, .int 3, .ref 113, .int 3, .ref 122]) (h1 := (zv_h0.set 0 (.inr (.inr (7, [.ref 1, .ref 30, .ref 25, .ref 28, .ref 54, .ref 55, .ref 104, .int 1]))))) rfl ?_
  refine Wp.call (as := [.ref 113, .int 3, .int 5]) (rest := [.int 3, .ref 122]) rfl rfl rfl rfl rfl rfl rfl rfl rfl ?_
  show Wp _ _ 136 0 [some (.ref 113), some (.int 3), some (.int 5)] [] (zv_h0.set 0 (.inr (.inr (7, [.ref 1, .ref 30, .ref 25, .ref 28, .ref 54, .ref 55, .ref 104, .int 1])))) _
  refine Wp.steps 8 (pc1 := 12) (lo1 := [some (.ref 113), some (.int 3), some (.int 5)]) (st1 := [.int 5, .int 30, .ref 114]) (h1 := (zv_h0.set 0 (.inr (.inr (7, [.ref 1, .ref 30, .ref 25, .ref 28, .ref 54, .ref 55, .ref 104, .int 1]))))) rfl ?_
  refine Wp.steps 2 (pc1 := 14) (lo1 := [some (.ref 113), some (.int 3), some (.int 5)]) (st1 := [.int 0]) (h1 := (zv_h0.set 0 (.inr (.inr (7, [.ref 1, .ref 30, .ref 25, .ref 28, .ref 54, .ref 55, .ref 104, .int 1]))))) rfl ?_
  refine Wp.ret rfl rfl rfl ?_
  show Wp _ _ 186 46 [some (.ref 113), some (.int a1), some (.int a2), some (.int a3), some (.int a4), some (.int 3), none, none, none, none, none] [.int 0, .int 3, .ref 122] (zv_h0.set 0 (.inr (.inr (7, [.ref 1, .ref 30, .ref 25, .ref 28, .ref 54, .ref 55, .ref 104, .int 1])))) _
  refine Wp.steps 8 (pc1 := 37) (lo1 := [some (.ref 113), some (.int a1), some (.int a2), some (.int a3), some (.int a4), some (.int 4), none, none, none, none, none]) (st1 := [.ref 122]) (h1 := (zv_h0.set 0 (.inr (.inr (7, [.ref 1, .ref 30, .ref 25, .ref 28, .ref 54, .ref 55, .ref 104, .int 1]))))) rfl ?_
  refine Wp.steps 4 (pc1 := 43) (lo1 := [some (.ref 113), some (.int a1), some (.int a2), some (.int a3), some (.int a4), some (.int 4), none, none, none, none, none]) (st1 := [.int 5, .int 4, .ref 113, .int 4, .ref 122]) (h1 := (zv_h0.set 0 (.inr (.inr (7, [.ref 1, .ref 30, .ref 25, .ref 28, .ref 54, .ref 55, .ref 104, .int 1]))))) rfl ?_
  refine Wp.call (as := [.ref 113, .int 4, .int 5]) (rest := [.int 4, .ref 122]) rfl rfl rfl rfl rfl rfl rfl rfl rfl ?_
  show Wp _ _ 136 0 [some (.ref 113), some (.int 4), some (.int 5)] [] (zv_h0.set 0 (.inr (.inr (7, [.ref 1, .ref 30, .ref 25, .ref 28, .ref 54, .ref 55, .ref 104, .int 1])))) _
  refine Wp.steps 8 (pc1 := 12) (lo1 := [some (.ref 113), some (.int 4), some (.int 5)]) (st1 := [.int 5, .int 37, .ref 114]) (h1 := (zv_h0.set 0 (.inr (.inr (7, [.ref 1, .ref 30, .ref 25, .ref 28, .ref 54, .ref 55, .ref 104, .int 1]))))) rfl ?_
  refine Wp.steps 2 (pc1 := 14) (lo1 := [some (.ref 113), some (.int 4), some (.int 5)]) (st1 := [.int 0]) (h1 := (zv_h0.set 0 (.inr (.inr (7, [.ref 1, .ref 30, .ref 25, .ref 28, .ref 54, .ref 55, .ref 104, .int 1]))))) rfl ?_
  refine Wp.ret rfl rfl rfl ?_
  show Wp _ _ 186 46 [some (.ref 113), some (.int a1), some (.int a2), some (.int a3), some (.int a4), some (.int 4), none, none, none, none, none] [.int 0, .int 4, .ref 122] (zv_h0.set 0 (.inr (.inr (7, [.ref 1, .ref 30, .ref 25, .ref 28, .ref 54, .ref 55, .ref 104, .int 1])))) _
  refine Wp.steps 8 (pc1 := 37) (lo1 := [some (.ref 113), some (.int a1), some (.int a2), some (.int a3), some (.int a4), some (.int 5), none, none, none, none, none]) (st1 := [.ref 122]) (h1 := (zv_h0.set 0 (.inr (.inr (7, [.ref 1, .ref 30, .ref 25, .ref 28, .ref 54, .ref 55, .ref 104, .int 1]))))) rfl ?_
  refine Wp.steps 4 (pc1 := 43) (lo1 := [some (.ref 113), some (.int a1), some (.int a2), some (.int a3), some (.int a4), some (.int 5), none, none, none, none, none]) (st1 := [.int 5, .int 5, .ref 113, .int 5, .ref 122]) (h1 := (zv_h0.set 0 (.inr (.inr (7, [.ref 1, .ref 30, .ref 25, .ref 28, .ref 54, .ref 55, .ref 104, .int 1]))))) rfl ?_
  refine Wp.call (as := [.ref 113, .int 5, .int 5]) (rest := [.int 5, .ref 122]) rfl rfl rfl rfl rfl rfl rfl rfl rfl ?_
  show Wp _ _ 136 0 [some (.ref 113), some (.int 5), some (.int 5)] [] (zv_h0.set 0 (.inr (.inr (7, [.ref 1, .ref 30, .ref 25, .ref 28, .ref 54, .ref 55, .ref 104, .int 1])))) _
  refine Wp.steps 8 (pc1 := 12) (lo1 := [some (.ref 113), some (.int 5), some (.int 5)]) (st1 := [.int 5, .int 44, .ref 114]) (h1 := (zv_h0.set 0 (.inr (.inr (7, [.ref 1, .ref 30, .ref 25, .ref 28, .ref 54, .ref 55, .ref 104, .int 1]))))) rfl ?_
  refine Wp.steps 2 (pc1 := 14) (lo1 := [some (.ref 113), some (.int 5), some (.int 5)]) (st1 := [.int 0]) (h1 := (zv_h0.set 0 (.inr (.inr (7, [.ref 1, .ref 30, .ref 25, .ref 28, .ref 54, .ref 55, .ref 104, .int 1]))))) rfl ?_
  refine Wp.ret rfl rfl rfl ?_
  show Wp _ _ 186 46 [some (.ref 113), some (.int a1), some (.int a2), some (.int a3), some (.int a4), some (.int 5), none, none, none, none, none] [.int 0, .int 5, .ref 122] (zv_h0.set 0 (.inr (.inr (7, [.ref 1, .ref 30, .ref 25, .ref 28, .ref 54, .ref 55, .ref 104, .int 1])))) _
  refine Wp.steps 8 (pc1 := 37) (lo1 := [some (.ref 113), some (.int a1), some (.int a2), some (.int a3), some (.int a4), some (.int 6), none, none, none, none, none]) (st1 := [.ref 122]) (h1 := (zv_h0.set 0 (.inr (.inr (7, [.ref 1, .ref 30, .ref 25, .ref 28, .ref 54, .ref 55, .ref 104, .int 1]))))) rfl ?_
  refine Wp.steps 4 (pc1 := 43) (lo1 := [some (.ref 113), some (.int a1), some (.int a2), some (.int a3), some (.int a4), some (.int 6), none, none, none, none, none]) (st1 := [.int 5, .int 6, .ref 113, .int 6, .ref 122]) (h1 := (zv_h0.set 0 (.inr (.inr (7, [.ref 1, .ref 30, .ref 25, .ref 28, .ref 54, .ref 55, .ref 104, .int 1]))))) rfl ?_
  refine Wp.call (as := [.ref 113, .int 6, .int 5]) (rest := [.int 6, .ref 122]) rfl rfl rfl rfl rfl rfl rfl rfl rfl ?_
  show Wp _ _ 136 0 [some (.ref 113), some (.int 6), some (.int 5)] [] (zv_h0.set 0 (.inr (.inr (7, [.ref 1, .ref 30, .ref 25, .ref 28, .ref 54, .ref 55, .ref 104, .int 1])))) _
  refine Wp.steps 8 (pc1 := 12) (lo1 := [some (.ref 113), some (.int 6), some (.int 5)]) (st1 := [.int 5, .int 51, .ref 114]) (h1 := (zv_h0.set 0 (.inr (.inr (7, [.ref 1, .ref 30, .ref 25, .ref 28, .ref 54, .ref 55, .ref 104, .int 1]))))) rfl ?_
  refine Wp.steps 2 (pc1 := 14) (lo1 := [some (.ref 113), some (.int 6), some (.int 5)]) (st1 := [.int 0]) (h1 := (zv_h0.set 0 (.inr (.inr (7, [.ref 1, .ref 30, .ref 25, .ref 28, .ref 54, .ref 55, .ref 104, .int 1]))))) rfl ?_
  refine Wp.ret rfl rfl rfl ?_
  show Wp _ _ 186 46 [some (.ref 113), some (.int a1), some (.int a2), some (.int a3), some (.int a4), some (.int 6), none, none, none, none, none] [.int 0, .int 6, .ref 122] (zv_h0.set 0 (.inr (.inr (7, [.ref 1, .ref 30, .ref 25, .ref 28, .ref 54, .ref 55, .ref 104, .int 1])))) _
  refine Wp.steps 8 (pc1 := 37) (lo1 := [some (.ref 113), some (.int a1), some (.int a2), some (.int a3), some (.int a4), some (.int 7), none, none, none, none, none]) (st1 := [.ref 122]) (h1 := (zv_h0.set 0 (.inr (.inr (7, [.ref 1, .ref 30, .ref 25, .ref 28, .ref 54, .ref 55, .ref 104, .int 1]))))) rfl ?_
  refine Wp.steps 4 (pc1 := 43) (lo1 := [some (.ref 113), some (.int a1), some (.int a2), some (.int a3), some (.int a4), some (.int 7), none, none, none, none, none]) (st1 := [.int 5, .int 7, .ref 113, .int 7, .ref 122]) (h1 := (zv_h0.set 0 (.inr (.inr (7, [.ref 1, .ref 30, .ref 25, .ref 28, .ref 54, .ref 55, .ref 104, .int 1]))))) rfl ?_
  refine Wp.call (as := [.ref 113, .int 7, .int 5]) (rest := [.int 7, .ref 122]) rfl rfl rfl rfl rfl rfl rfl rfl rfl ?_
  show Wp _ _ 136 0 [some (.ref 113), some (.int 7), some (.int 5)] [] (zv_h0.set 0 (.inr (.inr (7, [.ref 1, .ref 30, .ref 25, .ref 28, .ref 54, .ref 55, .ref 104, .int 1])))) _
  refine Wp.steps 8 (pc1 := 12) (lo1 := [some (.ref 113), some (.int 7), some (.int 5)]) (st1 := [.int 5, .int 58, .ref 114]) (h1 := (zv_h0.set 0 (.inr (.inr (7, [.ref 1, .ref 30, .ref 25, .ref 28, .ref 54, .ref 55, .ref 104, .int 1]))))) rfl ?_
  refine Wp.steps 2 (pc1 := 14) (lo1 := [some (.ref 113), some (.int 7), some (.int 5)]) (st1 := [.int 0]) (h1 := (zv_h0.set 0 (.inr (.inr (7, [.ref 1, .ref 30, .ref 25, .ref 28, .ref 54, .ref 55, .ref 104, .int 1]))))) rfl ?_
  refine Wp.ret rfl rfl rfl ?_
  show Wp _ _ 186 46 [some (.ref 113), some (.int a1), some (.int a2), some (.int a3), some (.int a4), some (.int 7), none, none, none, none, none] [.int 0, .int 7, .ref 122] (zv_h0.set 0 (.inr (.inr (7, [.ref 1, .ref 30, .ref 25, .ref 28, .ref 54, .ref 55, .ref 104, .int 1])))) _
  refine Wp.steps 6 (pc1 := 53) (lo1 := [some (.ref 113), some (.int a1), some (.int a2), some (.int a3), some (.int a4), some (.int 8), none, none, none, none, none]) (st1 := []) (h1 := (zv_h0.set 0 (.inr (.inr (7, [.ref 1, .ref 30, .ref 25, .ref 28, .ref 54, .ref 55, .ref 104, .int 1]))))) rfl ?_
  exact K
set_option maxRecDepth 100000 in
set_option maxHeartbeats 4000000 in
theorem zr_33 (a1 a2 a3 a4 : Int32) : zv_Pi 87 186 [.int a1, .int a2, .int a3, .int a4] := by
  rcases (by omega : (a1.toInt ≤ -1) ∨ (4 ≤ a1.toInt) ∨ (a1.toInt = 0) ∨ (a1.toInt = 1) ∨ (a1.toInt = 2) ∨ (a1.toInt = 3)) with h0 | h0 | h0 | h0 | h0 | h0
  · skip
    refine ⟨(-1), zv_h0, zv_h0, ?_, rfl, ?_, zv_len⟩
    · show Wp _ _ 87 0 [some (.ref 0), some (.int a1), some (.int a2), some (.int a3), some (.int a4), none, none, none, none, none] [] zv_h0 _
      refine Wp.steps 1 (pc1 := 1) (lo1 := [some (.ref 0), some (.int a1), some (.int a2), some (.int a3), some (.int a4), none, none, none, none, none]) (st1 := [.int a1]) (h1 := zv_h0) rfl ?_
      refine Wp.call (as := [.int a1]) (rest := []) rfl rfl rfl rfl rfl rfl rfl rfl rfl ?_
      show Wp _ _ 93 0 [some (.int a1)] [] zv_h0 _
      refine Wp.steps 1 (pc1 := 1) (lo1 := [some (.int a1)]) (st1 := [.int a1]) (h1 := zv_h0) rfl ?_
      refine Wp.ifT (i := .nop) rfl (zq_T rfl (by decide) (show a1.toInt < 0 by omega)) ?_
      show Wp _ _ 93 9 [some (.int a1)] [] zv_h0 _
      refine Wp.steps 2 (pc1 := 14) (lo1 := [some (.int a1)]) (st1 := [.int 1]) (h1 := zv_h0) rfl ?_
      refine Wp.ret rfl rfl rfl ?_
      show Wp _ _ 87 4 [some (.ref 0), some (.int a1), some (.int a2), some (.int a3), some (.int a4), none, none, none, none, none] [.int 1] zv_h0 _
      refine Wp.steps 2 (pc1 := 27) (lo1 := [some (.ref 0), some (.int a1), some (.int a2), some (.int a3), some (.int a4), none, none, none, none, none]) (st1 := [.int (-1)]) (h1 := zv_h0) rfl ?_
      exact Wp.ret rfl rfl rfl ⟨rfl, rfl⟩
    · show Wp _ _ 186 0 [some (.ref 113), some (.int a1), some (.int a2), some (.int a3), some (.int a4), none, none, none, none, none, none] [] zv_h0 _
      refine Wp.steps 2 (pc1 := 2) (lo1 := [some (.ref 113), some (.int a1), some (.int a2), some (.int a3), some (.int a4), none, none, none, none, none, none]) (st1 := [.int a2, .int a1]) (h1 := zv_h0) rfl ?_
      refine Wp.call (as := [.int a1, .int a2]) (rest := []) rfl rfl rfl rfl rfl rfl rfl rfl rfl ?_
      show Wp _ _ 183 0 [some (.int a1), some (.int a2)] [] zv_h0 _
      refine Wp.steps 4 (pc1 := 6) (lo1 := [some (.int a1), some (.int a2)]) (st1 := [.long 3, .long 0, .long (a1).toInt64]) (h1 := zv_h0) rfl ?_
      refine Wp.call (as := [.long (a1).toInt64, .long 0, .long 3]) (rest := []) rfl rfl rfl rfl rfl rfl rfl rfl rfl ?_
      refine zin_F (Int32.toInt_toInt64 _) (by decide) (by decide) (show a1.toInt < (0 : Int) ∨ (3 : Int) < a1.toInt by omega) ?_
      show Wp _ _ 183 9 [some (.int a1), some (.int a2)] [.int 0] zv_h0 _
      refine Wp.steps 2 (pc1 := 29) (lo1 := [some (.int a1), some (.int a2)]) (st1 := [.int 0]) (h1 := zv_h0) rfl ?_
      refine Wp.ret rfl rfl rfl ?_
      show Wp _ _ 186 5 [some (.ref 113), some (.int a1), some (.int a2), some (.int a3), some (.int a4), none, none, none, none, none, none] [.int 0] zv_h0 _
      refine Wp.steps 2 (pc1 := 22) (lo1 := [some (.ref 113), some (.int a1), some (.int a2), some (.int a3), some (.int a4), none, none, none, none, none, none]) (st1 := [.int (-1)]) (h1 := zv_h0) rfl ?_
      exact Wp.ret rfl rfl rfl ⟨rfl, rfl⟩
  · skip
    refine ⟨(-1), zv_h0, zv_h0, ?_, rfl, ?_, zv_len⟩
    · show Wp _ _ 87 0 [some (.ref 0), some (.int a1), some (.int a2), some (.int a3), some (.int a4), none, none, none, none, none] [] zv_h0 _
      refine Wp.steps 1 (pc1 := 1) (lo1 := [some (.ref 0), some (.int a1), some (.int a2), some (.int a3), some (.int a4), none, none, none, none, none]) (st1 := [.int a1]) (h1 := zv_h0) rfl ?_
      refine Wp.call (as := [.int a1]) (rest := []) rfl rfl rfl rfl rfl rfl rfl rfl rfl ?_
      show Wp _ _ 93 0 [some (.int a1)] [] zv_h0 _
      refine Wp.steps 1 (pc1 := 1) (lo1 := [some (.int a1)]) (st1 := [.int a1]) (h1 := zv_h0) rfl ?_
      refine Wp.ifF (i := .nop) rfl (zq_F rfl (by decide) (show a1.toInt ≥ 0 by omega)) ?_
      show Wp _ _ 93 4 [some (.int a1)] [] zv_h0 _
      refine Wp.steps 2 (pc1 := 6) (lo1 := [some (.int a1)]) (st1 := [.int 4, .int a1]) (h1 := zv_h0) rfl ?_
      refine Wp.icF (i := .nop) rfl (zq_F rfl (by decide) (show a1.toInt ≥ 4 by omega)) ?_
      show Wp _ _ 93 9 [some (.int a1)] [] zv_h0 _
      refine Wp.steps 2 (pc1 := 14) (lo1 := [some (.int a1)]) (st1 := [.int 1]) (h1 := zv_h0) rfl ?_
      refine Wp.ret rfl rfl rfl ?_
      show Wp _ _ 87 4 [some (.ref 0), some (.int a1), some (.int a2), some (.int a3), some (.int a4), none, none, none, none, none] [.int 1] zv_h0 _
      refine Wp.steps 2 (pc1 := 27) (lo1 := [some (.ref 0), some (.int a1), some (.int a2), some (.int a3), some (.int a4), none, none, none, none, none]) (st1 := [.int (-1)]) (h1 := zv_h0) rfl ?_
      exact Wp.ret rfl rfl rfl ⟨rfl, rfl⟩
    · show Wp _ _ 186 0 [some (.ref 113), some (.int a1), some (.int a2), some (.int a3), some (.int a4), none, none, none, none, none, none] [] zv_h0 _
      refine Wp.steps 2 (pc1 := 2) (lo1 := [some (.ref 113), some (.int a1), some (.int a2), some (.int a3), some (.int a4), none, none, none, none, none, none]) (st1 := [.int a2, .int a1]) (h1 := zv_h0) rfl ?_
      refine Wp.call (as := [.int a1, .int a2]) (rest := []) rfl rfl rfl rfl rfl rfl rfl rfl rfl ?_
      show Wp _ _ 183 0 [some (.int a1), some (.int a2)] [] zv_h0 _
      refine Wp.steps 4 (pc1 := 6) (lo1 := [some (.int a1), some (.int a2)]) (st1 := [.long 3, .long 0, .long (a1).toInt64]) (h1 := zv_h0) rfl ?_
      refine Wp.call (as := [.long (a1).toInt64, .long 0, .long 3]) (rest := []) rfl rfl rfl rfl rfl rfl rfl rfl rfl ?_
      refine zin_F (Int32.toInt_toInt64 _) (by decide) (by decide) (show a1.toInt < (0 : Int) ∨ (3 : Int) < a1.toInt by omega) ?_
      show Wp _ _ 183 9 [some (.int a1), some (.int a2)] [.int 0] zv_h0 _
      refine Wp.steps 2 (pc1 := 29) (lo1 := [some (.int a1), some (.int a2)]) (st1 := [.int 0]) (h1 := zv_h0) rfl ?_
      refine Wp.ret rfl rfl rfl ?_
      show Wp _ _ 186 5 [some (.ref 113), some (.int a1), some (.int a2), some (.int a3), some (.int a4), none, none, none, none, none, none] [.int 0] zv_h0 _
      refine Wp.steps 2 (pc1 := 22) (lo1 := [some (.ref 113), some (.int a1), some (.int a2), some (.int a3), some (.int a4), none, none, none, none, none, none]) (st1 := [.int (-1)]) (h1 := zv_h0) rfl ?_
      exact Wp.ret rfl rfl rfl ⟨rfl, rfl⟩
  · skip
    obtain rfl : a1 = 0 := Int32.toInt_inj.mp (h0.trans (by decide))
    rcases (by omega : (a2.toInt ≤ -1) ∨ (3 ≤ a2.toInt) ∨ (0 ≤ a2.toInt ∧ a2.toInt ≤ 2)) with h1 | h1 | h1
    · skip
      refine ⟨(-1), zv_h0, zv_h0, ?_, rfl, ?_, zv_len⟩
      · show Wp _ _ 87 0 [some (.ref 0), some (.int 0), some (.int a2), some (.int a3), some (.int a4), none, none, none, none, none] [] zv_h0 _
        refine Wp.steps 1 (pc1 := 1) (lo1 := [some (.ref 0), some (.int 0), some (.int a2), some (.int a3), some (.int a4), none, none, none, none, none]) (st1 := [.int 0]) (h1 := zv_h0) rfl ?_
        refine Wp.call (as := [.int 0]) (rest := []) rfl rfl rfl rfl rfl rfl rfl rfl rfl ?_
        show Wp _ _ 93 0 [some (.int 0)] [] zv_h0 _
        refine Wp.steps 6 (pc1 := 14) (lo1 := [some (.int 0)]) (st1 := [.int 0]) (h1 := zv_h0) rfl ?_
        refine Wp.ret rfl rfl rfl ?_
        show Wp _ _ 87 4 [some (.ref 0), some (.int 0), some (.int a2), some (.int a3), some (.int a4), none, none, none, none, none] [.int 0] zv_h0 _
        refine Wp.steps 2 (pc1 := 8) (lo1 := [some (.ref 0), some (.int 0), some (.int a2), some (.int a3), some (.int a4), none, none, none, none, none]) (st1 := [.int a2]) (h1 := zv_h0) rfl ?_
        refine Wp.call (as := [.int a2]) (rest := []) rfl rfl rfl rfl rfl rfl rfl rfl rfl ?_
        show Wp _ _ 94 0 [some (.int a2)] [] zv_h0 _
        refine Wp.steps 1 (pc1 := 1) (lo1 := [some (.int a2)]) (st1 := [.int a2]) (h1 := zv_h0) rfl ?_
        refine Wp.ifT (i := .nop) rfl (zq_T rfl (by decide) (show a2.toInt < 0 by omega)) ?_
        show Wp _ _ 94 9 [some (.int a2)] [] zv_h0 _
        refine Wp.steps 2 (pc1 := 14) (lo1 := [some (.int a2)]) (st1 := [.int 1]) (h1 := zv_h0) rfl ?_
        refine Wp.ret rfl rfl rfl ?_
        show Wp _ _ 87 11 [some (.ref 0), some (.int 0), some (.int a2), some (.int a3), some (.int a4), none, none, none, none, none] [.int 1] zv_h0 _
        refine Wp.steps 2 (pc1 := 27) (lo1 := [some (.ref 0), some (.int 0), some (.int a2), some (.int a3), some (.int a4), none, none, none, none, none]) (st1 := [.int (-1)]) (h1 := zv_h0) rfl ?_
        exact Wp.ret rfl rfl rfl ⟨rfl, rfl⟩
      · show Wp _ _ 186 0 [some (.ref 113), some (.int 0), some (.int a2), some (.int a3), some (.int a4), none, none, none, none, none, none] [] zv_h0 _
        refine Wp.steps 2 (pc1 := 2) (lo1 := [some (.ref 113), some (.int 0), some (.int a2), some (.int a3), some (.int a4), none, none, none, none, none, none]) (st1 := [.int a2, .int 0]) (h1 := zv_h0) rfl ?_
        refine Wp.call (as := [.int 0, .int a2]) (rest := []) rfl rfl rfl rfl rfl rfl rfl rfl rfl ?_
        show Wp _ _ 183 0 [some (.int 0), some (.int a2)] [] zv_h0 _
        refine Wp.steps 4 (pc1 := 6) (lo1 := [some (.int 0), some (.int a2)]) (st1 := [.long 3, .long 0, .long 0]) (h1 := zv_h0) rfl ?_
        refine Wp.call (as := [.long 0, .long 0, .long 3]) (rest := []) rfl rfl rfl rfl rfl rfl rfl rfl rfl ?_
        show Wp _ _ 107 0 [some (.long 0), none, some (.long 0), none, some (.long 3), none] [] zv_h0 _
        refine Wp.steps 9 (pc1 := 14) (lo1 := [some (.long 0), none, some (.long 0), none, some (.long 3), none]) (st1 := [.int 1]) (h1 := zv_h0) rfl ?_
        refine Wp.steps 1 (pc1 := 18) (lo1 := [some (.long 0), none, some (.long 0), none, some (.long 3), none]) (st1 := [.int 1]) (h1 := zv_h0) rfl ?_
        refine Wp.ret rfl rfl rfl ?_
        show Wp _ _ 183 9 [some (.int 0), some (.int a2)] [.int 1] zv_h0 _
        refine Wp.steps 5 (pc1 := 18) (lo1 := [some (.int 0), some (.int a2)]) (st1 := [.long 2, .long 0, .long (a2).toInt64]) (h1 := zv_h0) rfl ?_
        refine Wp.call (as := [.long (a2).toInt64, .long 0, .long 2]) (rest := []) rfl rfl rfl rfl rfl rfl rfl rfl rfl ?_
        refine zin_F (Int32.toInt_toInt64 _) (by decide) (by decide) (show a2.toInt < (0 : Int) ∨ (2 : Int) < a2.toInt by omega) ?_
        show Wp _ _ 183 21 [some (.int 0), some (.int a2)] [.int 0] zv_h0 _
        refine Wp.steps 2 (pc1 := 29) (lo1 := [some (.int 0), some (.int a2)]) (st1 := [.int 0]) (h1 := zv_h0) rfl ?_
        refine Wp.ret rfl rfl rfl ?_
        show Wp _ _ 186 5 [some (.ref 113), some (.int 0), some (.int a2), some (.int a3), some (.int a4), none, none, none, none, none, none] [.int 0] zv_h0 _
        refine Wp.steps 2 (pc1 := 22) (lo1 := [some (.ref 113), some (.int 0), some (.int a2), some (.int a3), some (.int a4), none, none, none, none, none, none]) (st1 := [.int (-1)]) (h1 := zv_h0) rfl ?_
        exact Wp.ret rfl rfl rfl ⟨rfl, rfl⟩
    · skip
      refine ⟨(-1), zv_h0, zv_h0, ?_, rfl, ?_, zv_len⟩
      · show Wp _ _ 87 0 [some (.ref 0), some (.int 0), some (.int a2), some (.int a3), some (.int a4), none, none, none, none, none] [] zv_h0 _
        refine Wp.steps 1 (pc1 := 1) (lo1 := [some (.ref 0), some (.int 0), some (.int a2), some (.int a3), some (.int a4), none, none, none, none, none]) (st1 := [.int 0]) (h1 := zv_h0) rfl ?_
        refine Wp.call (as := [.int 0]) (rest := []) rfl rfl rfl rfl rfl rfl rfl rfl rfl ?_
        show Wp _ _ 93 0 [some (.int 0)] [] zv_h0 _
        refine Wp.steps 6 (pc1 := 14) (lo1 := [some (.int 0)]) (st1 := [.int 0]) (h1 := zv_h0) rfl ?_
        refine Wp.ret rfl rfl rfl ?_
        show Wp _ _ 87 4 [some (.ref 0), some (.int 0), some (.int a2), some (.int a3), some (.int a4), none, none, none, none, none] [.int 0] zv_h0 _
        refine Wp.steps 2 (pc1 := 8) (lo1 := [some (.ref 0), some (.int 0), some (.int a2), some (.int a3), some (.int a4), none, none, none, none, none]) (st1 := [.int a2]) (h1 := zv_h0) rfl ?_
        refine Wp.call (as := [.int a2]) (rest := []) rfl rfl rfl rfl rfl rfl rfl rfl rfl ?_
        show Wp _ _ 94 0 [some (.int a2)] [] zv_h0 _
        refine Wp.steps 1 (pc1 := 1) (lo1 := [some (.int a2)]) (st1 := [.int a2]) (h1 := zv_h0) rfl ?_
        refine Wp.ifF (i := .nop) rfl (zq_F rfl (by decide) (show a2.toInt ≥ 0 by omega)) ?_
        show Wp _ _ 94 4 [some (.int a2)] [] zv_h0 _
        refine Wp.steps 2 (pc1 := 6) (lo1 := [some (.int a2)]) (st1 := [.int 2, .int a2]) (h1 := zv_h0) rfl ?_
        refine Wp.icF (i := .nop) rfl (zq_F rfl (by decide) (show a2.toInt > 2 by omega)) ?_
        show Wp _ _ 94 9 [some (.int a2)] [] zv_h0 _
        refine Wp.steps 2 (pc1 := 14) (lo1 := [some (.int a2)]) (st1 := [.int 1]) (h1 := zv_h0) rfl ?_
        refine Wp.ret rfl rfl rfl ?_
        show Wp _ _ 87 11 [some (.ref 0), some (.int 0), some (.int a2), some (.int a3), some (.int a4), none, none, none, none, none] [.int 1] zv_h0 _
        refine Wp.steps 2 (pc1 := 27) (lo1 := [some (.ref 0), some (.int 0), some (.int a2), some (.int a3), some (.int a4), none, none, none, none, none]) (st1 := [.int (-1)]) (h1 := zv_h0) rfl ?_
        exact Wp.ret rfl rfl rfl ⟨rfl, rfl⟩
      · show Wp _ _ 186 0 [some (.ref 113), some (.int 0), some (.int a2), some (.int a3), some (.int a4), none, none, none, none, none, none] [] zv_h0 _
        refine Wp.steps 2 (pc1 := 2) (lo1 := [some (.ref 113), some (.int 0), some (.int a2), some (.int a3), some (.int a4), none, none, none, none, none, none]) (st1 := [.int a2, .int 0]) (h1 := zv_h0) rfl ?_
        refine Wp.call (as := [.int 0, .int a2]) (rest := []) rfl rfl rfl rfl rfl rfl rfl rfl rfl ?_
        show Wp _ _ 183 0 [some (.int 0), some (.int a2)] [] zv_h0 _
        refine Wp.steps 4 (pc1 := 6) (lo1 := [some (.int 0), some (.int a2)]) (st1 := [.long 3, .long 0, .long 0]) (h1 := zv_h0) rfl ?_
        refine Wp.call (as := [.long 0, .long 0, .long 3]) (rest := []) rfl rfl rfl rfl rfl rfl rfl rfl rfl ?_
        show Wp _ _ 107 0 [some (.long 0), none, some (.long 0), none, some (.long 3), none] [] zv_h0 _
        refine Wp.steps 9 (pc1 := 14) (lo1 := [some (.long 0), none, some (.long 0), none, some (.long 3), none]) (st1 := [.int 1]) (h1 := zv_h0) rfl ?_
        refine Wp.steps 1 (pc1 := 18) (lo1 := [some (.long 0), none, some (.long 0), none, some (.long 3), none]) (st1 := [.int 1]) (h1 := zv_h0) rfl ?_
        refine Wp.ret rfl rfl rfl ?_
        show Wp _ _ 183 9 [some (.int 0), some (.int a2)] [.int 1] zv_h0 _
        refine Wp.steps 5 (pc1 := 18) (lo1 := [some (.int 0), some (.int a2)]) (st1 := [.long 2, .long 0, .long (a2).toInt64]) (h1 := zv_h0) rfl ?_
        refine Wp.call (as := [.long (a2).toInt64, .long 0, .long 2]) (rest := []) rfl rfl rfl rfl rfl rfl rfl rfl rfl ?_
        refine zin_F (Int32.toInt_toInt64 _) (by decide) (by decide) (show a2.toInt < (0 : Int) ∨ (2 : Int) < a2.toInt by omega) ?_
        show Wp _ _ 183 21 [some (.int 0), some (.int a2)] [.int 0] zv_h0 _
        refine Wp.steps 2 (pc1 := 29) (lo1 := [some (.int 0), some (.int a2)]) (st1 := [.int 0]) (h1 := zv_h0) rfl ?_
        refine Wp.ret rfl rfl rfl ?_
        show Wp _ _ 186 5 [some (.ref 113), some (.int 0), some (.int a2), some (.int a3), some (.int a4), none, none, none, none, none, none] [.int 0] zv_h0 _
        refine Wp.steps 2 (pc1 := 22) (lo1 := [some (.ref 113), some (.int 0), some (.int a2), some (.int a3), some (.int a4), none, none, none, none, none, none]) (st1 := [.int (-1)]) (h1 := zv_h0) rfl ?_
        exact Wp.ret rfl rfl rfl ⟨rfl, rfl⟩
    · skip
      rcases (by omega : (a4.toInt ≤ -1) ∨ (21 ≤ a4.toInt) ∨ (a4.toInt = 0) ∨ (a4.toInt = 1) ∨ (2 ≤ a4.toInt ∧ a4.toInt ≤ 20)) with h3 | h3 | h3 | h3 | h3
      · skip
        refine ⟨(-1), zv_h0, zv_h0, ?_, rfl, ?_, zv_len⟩
        · show Wp _ _ 87 0 [some (.ref 0), some (.int 0), some (.int a2), some (.int a3), some (.int a4), none, none, none, none, none] [] zv_h0 _
          refine Wp.steps 1 (pc1 := 1) (lo1 := [some (.ref 0), some (.int 0), some (.int a2), some (.int a3), some (.int a4), none, none, none, none, none]) (st1 := [.int 0]) (h1 := zv_h0) rfl ?_
          refine Wp.call (as := [.int 0]) (rest := []) rfl rfl rfl rfl rfl rfl rfl rfl rfl ?_
          show Wp _ _ 93 0 [some (.int 0)] [] zv_h0 _
          refine Wp.steps 6 (pc1 := 14) (lo1 := [some (.int 0)]) (st1 := [.int 0]) (h1 := zv_h0) rfl ?_
          refine Wp.ret rfl rfl rfl ?_
          show Wp _ _ 87 4 [some (.ref 0), some (.int 0), some (.int a2), some (.int a3), some (.int a4), none, none, none, none, none] [.int 0] zv_h0 _
          refine Wp.steps 2 (pc1 := 8) (lo1 := [some (.ref 0), some (.int 0), some (.int a2), some (.int a3), some (.int a4), none, none, none, none, none]) (st1 := [.int a2]) (h1 := zv_h0) rfl ?_
          refine Wp.call (as := [.int a2]) (rest := []) rfl rfl rfl rfl rfl rfl rfl rfl rfl ?_
          show Wp _ _ 94 0 [some (.int a2)] [] zv_h0 _
          refine Wp.steps 1 (pc1 := 1) (lo1 := [some (.int a2)]) (st1 := [.int a2]) (h1 := zv_h0) rfl ?_
          refine Wp.ifF (i := .nop) rfl (zq_F rfl (by decide) (show a2.toInt ≥ 0 by omega)) ?_
          show Wp _ _ 94 4 [some (.int a2)] [] zv_h0 _
          refine Wp.steps 2 (pc1 := 6) (lo1 := [some (.int a2)]) (st1 := [.int 2, .int a2]) (h1 := zv_h0) rfl ?_
          refine Wp.icT (i := .nop) rfl (zq_T rfl (by decide) (show a2.toInt ≤ 2 by omega)) ?_
          show Wp _ _ 94 13 [some (.int a2)] [] zv_h0 _
          refine Wp.steps 1 (pc1 := 14) (lo1 := [some (.int a2)]) (st1 := [.int 0]) (h1 := zv_h0) rfl ?_
          refine Wp.ret rfl rfl rfl ?_
          show Wp _ _ 87 11 [some (.ref 0), some (.int 0), some (.int a2), some (.int a3), some (.int a4), none, none, none, none, none] [.int 0] zv_h0 _
          refine Wp.steps 2 (pc1 := 16) (lo1 := [some (.ref 0), some (.int 0), some (.int a2), some (.int a3), some (.int a4), none, none, none, none, none]) (st1 := [.int a4]) (h1 := zv_h0) rfl ?_
          refine Wp.ifT (i := .nop) rfl (zq_T rfl (by decide) (show a4.toInt < 0 by omega)) ?_
          show Wp _ _ 87 26 [some (.ref 0), some (.int 0), some (.int a2), some (.int a3), some (.int a4), none, none, none, none, none] [] zv_h0 _
          refine Wp.steps 1 (pc1 := 27) (lo1 := [some (.ref 0), some (.int 0), some (.int a2), some (.int a3), some (.int a4), none, none, none, none, none]) (st1 := [.int (-1)]) (h1 := zv_h0) rfl ?_
          exact Wp.ret rfl rfl rfl ⟨rfl, rfl⟩
        · show Wp _ _ 186 0 [some (.ref 113), some (.int 0), some (.int a2), some (.int a3), some (.int a4), none, none, none, none, none, none] [] zv_h0 _
          refine Wp.steps 2 (pc1 := 2) (lo1 := [some (.ref 113), some (.int 0), some (.int a2), some (.int a3), some (.int a4), none, none, none, none, none, none]) (st1 := [.int a2, .int 0]) (h1 := zv_h0) rfl ?_
          refine Wp.call (as := [.int 0, .int a2]) (rest := []) rfl rfl rfl rfl rfl rfl rfl rfl rfl ?_
          show Wp _ _ 183 0 [some (.int 0), some (.int a2)] [] zv_h0 _
          refine Wp.steps 4 (pc1 := 6) (lo1 := [some (.int 0), some (.int a2)]) (st1 := [.long 3, .long 0, .long 0]) (h1 := zv_h0) rfl ?_
          refine Wp.call (as := [.long 0, .long 0, .long 3]) (rest := []) rfl rfl rfl rfl rfl rfl rfl rfl rfl ?_
          show Wp _ _ 107 0 [some (.long 0), none, some (.long 0), none, some (.long 3), none] [] zv_h0 _
          refine Wp.steps 9 (pc1 := 14) (lo1 := [some (.long 0), none, some (.long 0), none, some (.long 3), none]) (st1 := [.int 1]) (h1 := zv_h0) rfl ?_
          refine Wp.steps 1 (pc1 := 18) (lo1 := [some (.long 0), none, some (.long 0), none, some (.long 3), none]) (st1 := [.int 1]) (h1 := zv_h0) rfl ?_
          refine Wp.ret rfl rfl rfl ?_
          show Wp _ _ 183 9 [some (.int 0), some (.int a2)] [.int 1] zv_h0 _
          refine Wp.steps 5 (pc1 := 18) (lo1 := [some (.int 0), some (.int a2)]) (st1 := [.long 2, .long 0, .long (a2).toInt64]) (h1 := zv_h0) rfl ?_
          refine Wp.call (as := [.long (a2).toInt64, .long 0, .long 2]) (rest := []) rfl rfl rfl rfl rfl rfl rfl rfl rfl ?_
          refine zin_T (Int32.toInt_toInt64 _) (by decide) (by decide) (show (0 : Int) ≤ a2.toInt by omega) (show a2.toInt ≤ (2 : Int) by omega) ?_
          show Wp _ _ 183 21 [some (.int 0), some (.int a2)] [.int 1] zv_h0 _
          refine Wp.steps 3 (pc1 := 29) (lo1 := [some (.int 0), some (.int a2)]) (st1 := [.int 1]) (h1 := zv_h0) rfl ?_
          refine Wp.ret rfl rfl rfl ?_
          show Wp _ _ 186 5 [some (.ref 113), some (.int 0), some (.int a2), some (.int a3), some (.int a4), none, none, none, none, none, none] [.int 1] zv_h0 _
          refine Wp.steps 5 (pc1 := 15) (lo1 := [some (.ref 113), some (.int 0), some (.int a2), some (.int a3), some (.int a4), none, none, none, none, none, none]) (st1 := [.long 20, .long 0, .long (a4).toInt64]) (h1 := zv_h0) rfl ?_
          refine Wp.call (as := [.long (a4).toInt64, .long 0, .long 20]) (rest := []) rfl rfl rfl rfl rfl rfl rfl rfl rfl ?_
          refine zin_F (Int32.toInt_toInt64 _) (by decide) (by decide) (show a4.toInt < (0 : Int) ∨ (20 : Int) < a4.toInt by omega) ?_
          show Wp _ _ 186 18 [some (.ref 113), some (.int 0), some (.int a2), some (.int a3), some (.int a4), none, none, none, none, none, none] [.int 0] zv_h0 _
          refine Wp.steps 2 (pc1 := 22) (lo1 := [some (.ref 113), some (.int 0), some (.int a2), some (.int a3), some (.int a4), none, none, none, none, none, none]) (st1 := [.int (-1)]) (h1 := zv_h0) rfl ?_
          exact Wp.ret rfl rfl rfl ⟨rfl, rfl⟩
      · skip
        refine ⟨(-1), zv_h0, zv_h0, ?_, rfl, ?_, zv_len⟩
        · show Wp _ _ 87 0 [some (.ref 0), some (.int 0), some (.int a2), some (.int a3), some (.int a4), none, none, none, none, none] [] zv_h0 _
          refine Wp.steps 1 (pc1 := 1) (lo1 := [some (.ref 0), some (.int 0), some (.int a2), some (.int a3), some (.int a4), none, none, none, none, none]) (st1 := [.int 0]) (h1 := zv_h0) rfl ?_
          refine Wp.call (as := [.int 0]) (rest := []) rfl rfl rfl rfl rfl rfl rfl rfl rfl ?_
          show Wp _ _ 93 0 [some (.int 0)] [] zv_h0 _
          refine Wp.steps 6 (pc1 := 14) (lo1 := [some (.int 0)]) (st1 := [.int 0]) (h1 := zv_h0) rfl ?_
          refine Wp.ret rfl rfl rfl ?_
          show Wp _ _ 87 4 [some (.ref 0), some (.int 0), some (.int a2), some (.int a3), some (.int a4), none, none, none, none, none] [.int 0] zv_h0 _
          refine Wp.steps 2 (pc1 := 8) (lo1 := [some (.ref 0), some (.int 0), some (.int a2), some (.int a3), some (.int a4), none, none, none, none, none]) (st1 := [.int a2]) (h1 := zv_h0) rfl ?_
          refine Wp.call (as := [.int a2]) (rest := []) rfl rfl rfl rfl rfl rfl rfl rfl rfl ?_
          show Wp _ _ 94 0 [some (.int a2)] [] zv_h0 _
          refine Wp.steps 1 (pc1 := 1) (lo1 := [some (.int a2)]) (st1 := [.int a2]) (h1 := zv_h0) rfl ?_
          refine Wp.ifF (i := .nop) rfl (zq_F rfl (by decide) (show a2.toInt ≥ 0 by omega)) ?_
          show Wp _ _ 94 4 [some (.int a2)] [] zv_h0 _
          refine Wp.steps 2 (pc1 := 6) (lo1 := [some (.int a2)]) (st1 := [.int 2, .int a2]) (h1 := zv_h0) rfl ?_
          refine Wp.icT (i := .nop) rfl (zq_T rfl (by decide) (show a2.toInt ≤ 2 by omega)) ?_
          show Wp _ _ 94 13 [some (.int a2)] [] zv_h0 _
          refine Wp.steps 1 (pc1 := 14) (lo1 := [some (.int a2)]) (st1 := [.int 0]) (h1 := zv_h0) rfl ?_
          refine Wp.ret rfl rfl rfl ?_
          show Wp _ _ 87 11 [some (.ref 0), some (.int 0), some (.int a2), some (.int a3), some (.int a4), none, none, none, none, none] [.int 0] zv_h0 _
          refine Wp.steps 2 (pc1 := 16) (lo1 := [some (.ref 0), some (.int 0), some (.int a2), some (.int a3), some (.int a4), none, none, none, none, none]) (st1 := [.int a4]) (h1 := zv_h0) rfl ?_
          refine Wp.ifF (i := .nop) rfl (zq_F rfl (by decide) (show a4.toInt ≥ 0 by omega)) ?_
          show Wp _ _ 87 19 [some (.ref 0), some (.int 0), some (.int a2), some (.int a3), some (.int a4), none, none, none, none, none] [] zv_h0 _
          refine Wp.steps 2 (pc1 := 23) (lo1 := [some (.ref 0), some (.int 0), some (.int a2), some (.int a3), some (.int a4), none, none, none, none, none]) (st1 := [.int 20, .int a4]) (h1 := zv_h0) rfl ?_
          refine Wp.icF (i := .nop) rfl (zq_F rfl (by decide) (show a4.toInt > 20 by omega)) ?_
          show Wp _ _ 87 26 [some (.ref 0), some (.int 0), some (.int a2), some (.int a3), some (.int a4), none, none, none, none, none] [] zv_h0 _
          refine Wp.steps 1 (pc1 := 27) (lo1 := [some (.ref 0), some (.int 0), some (.int a2), some (.int a3), some (.int a4), none, none, none, none, none]) (st1 := [.int (-1)]) (h1 := zv_h0) rfl ?_
          exact Wp.ret rfl rfl rfl ⟨rfl, rfl⟩
        · show Wp _ _ 186 0 [some (.ref 113), some (.int 0), some (.int a2), some (.int a3), some (.int a4), none, none, none, none, none, none] [] zv_h0 _
          refine Wp.steps 2 (pc1 := 2) (lo1 := [some (.ref 113), some (.int 0), some (.int a2), some (.int a3), some (.int a4), none, none, none, none, none, none]) (st1 := [.int a2, .int 0]) (h1 := zv_h0) rfl ?_
          refine Wp.call (as := [.int 0, .int a2]) (rest := []) rfl rfl rfl rfl rfl rfl rfl rfl rfl ?_
          show Wp _ _ 183 0 [some (.int 0), some (.int a2)] [] zv_h0 _
          refine Wp.steps 4 (pc1 := 6) (lo1 := [some (.int 0), some (.int a2)]) (st1 := [.long 3, .long 0, .long 0]) (h1 := zv_h0) rfl ?_
          refine Wp.call (as := [.long 0, .long 0, .long 3]) (rest := []) rfl rfl rfl rfl rfl rfl rfl rfl rfl ?_
          show Wp _ _ 107 0 [some (.long 0), none, some (.long 0), none, some (.long 3), none] [] zv_h0 _
          refine Wp.steps 9 (pc1 := 14) (lo1 := [some (.long 0), none, some (.long 0), none, some (.long 3), none]) (st1 := [.int 1]) (h1 := zv_h0) rfl ?_
          refine Wp.steps 1 (pc1 := 18) (lo1 := [some (.long 0), none, some (.long 0), none, some (.long 3), none]) (st1 := [.int 1]) (h1 := zv_h0) rfl ?_
          refine Wp.ret rfl rfl rfl ?_
          show Wp _ _ 183 9 [some (.int 0), some (.int a2)] [.int 1] zv_h0 _
          refine Wp.steps 5 (pc1 := 18) (lo1 := [some (.int 0), some (.int a2)]) (st1 := [.long 2, .long 0, .long (a2).toInt64]) (h1 := zv_h0) rfl ?_
          refine Wp.call (as := [.long (a2).toInt64, .long 0, .long 2]) (rest := []) rfl rfl rfl rfl rfl rfl rfl rfl rfl ?_
          refine zin_T (Int32.toInt_toInt64 _) (by decide) (by decide) (show (0 : Int) ≤ a2.toInt by omega) (show a2.toInt ≤ (2 : Int) by omega) ?_
          show Wp _ _ 183 21 [some (.int 0), some (.int a2)] [.int 1] zv_h0 _
          refine Wp.steps 3 (pc1 := 29) (lo1 := [some (.int 0), some (.int a2)]) (st1 := [.int 1]) (h1 := zv_h0) rfl ?_
          refine Wp.ret rfl rfl rfl ?_
          show Wp _ _ 186 5 [some (.ref 113), some (.int 0), some (.int a2), some (.int a3), some (.int a4), none, none, none, none, none, none] [.int 1] zv_h0 _
          refine Wp.steps 5 (pc1 := 15) (lo1 := [some (.ref 113), some (.int 0), some (.int a2), some (.int a3), some (.int a4), none, none, none, none, none, none]) (st1 := [.long 20, .long 0, .long (a4).toInt64]) (h1 := zv_h0) rfl ?_
          refine Wp.call (as := [.long (a4).toInt64, .long 0, .long 20]) (rest := []) rfl rfl rfl rfl rfl rfl rfl rfl rfl ?_
          refine zin_F (Int32.toInt_toInt64 _) (by decide) (by decide) (show a4.toInt < (0 : Int) ∨ (20 : Int) < a4.toInt by omega) ?_
          show Wp _ _ 186 18 [some (.ref 113), some (.int 0), some (.int a2), some (.int a3), some (.int a4), none, none, none, none, none, none] [.int 0] zv_h0 _
          refine Wp.steps 2 (pc1 := 22) (lo1 := [some (.ref 113), some (.int 0), some (.int a2), some (.int a3), some (.int a4), none, none, none, none, none, none]) (st1 := [.int (-1)]) (h1 := zv_h0) rfl ?_
          exact Wp.ret rfl rfl rfl ⟨rfl, rfl⟩
      · skip
        obtain rfl : a4 = 0 := Int32.toInt_inj.mp (h3.trans (by decide))
        refine ⟨0, zv_h0, zv_h0, ?_, rfl, ?_, zv_len⟩
        · show Wp _ _ 87 0 [some (.ref 0), some (.int 0), some (.int a2), some (.int a3), some (.int 0), none, none, none, none, none] [] zv_h0 _
          refine Wp.steps 1 (pc1 := 1) (lo1 := [some (.ref 0), some (.int 0), some (.int a2), some (.int a3), some (.int 0), none, none, none, none, none]) (st1 := [.int 0]) (h1 := zv_h0) rfl ?_
          refine Wp.call (as := [.int 0]) (rest := []) rfl rfl rfl rfl rfl rfl rfl rfl rfl ?_
          show Wp _ _ 93 0 [some (.int 0)] [] zv_h0 _
          refine Wp.steps 6 (pc1 := 14) (lo1 := [some (.int 0)]) (st1 := [.int 0]) (h1 := zv_h0) rfl ?_
          refine Wp.ret rfl rfl rfl ?_
          show Wp _ _ 87 4 [some (.ref 0), some (.int 0), some (.int a2), some (.int a3), some (.int 0), none, none, none, none, none] [.int 0] zv_h0 _
          refine Wp.steps 2 (pc1 := 8) (lo1 := [some (.ref 0), some (.int 0), some (.int a2), some (.int a3), some (.int 0), none, none, none, none, none]) (st1 := [.int a2]) (h1 := zv_h0) rfl ?_
          refine Wp.call (as := [.int a2]) (rest := []) rfl rfl rfl rfl rfl rfl rfl rfl rfl ?_
          show Wp _ _ 94 0 [some (.int a2)] [] zv_h0 _
          refine Wp.steps 1 (pc1 := 1) (lo1 := [some (.int a2)]) (st1 := [.int a2]) (h1 := zv_h0) rfl ?_
          refine Wp.ifF (i := .nop) rfl (zq_F rfl (by decide) (show a2.toInt ≥ 0 by omega)) ?_
          show Wp _ _ 94 4 [some (.int a2)] [] zv_h0 _
          refine Wp.steps 2 (pc1 := 6) (lo1 := [some (.int a2)]) (st1 := [.int 2, .int a2]) (h1 := zv_h0) rfl ?_
          refine Wp.icT (i := .nop) rfl (zq_T rfl (by decide) (show a2.toInt ≤ 2 by omega)) ?_
          show Wp _ _ 94 13 [some (.int a2)] [] zv_h0 _
          refine Wp.steps 1 (pc1 := 14) (lo1 := [some (.int a2)]) (st1 := [.int 0]) (h1 := zv_h0) rfl ?_
          refine Wp.ret rfl rfl rfl ?_
          show Wp _ _ 87 11 [some (.ref 0), some (.int 0), some (.int a2), some (.int a3), some (.int 0), none, none, none, none, none] [.int 0] zv_h0 _
          refine Wp.steps 8 (pc1 := 32) (lo1 := [some (.ref 0), some (.int 0), some (.int a2), some (.int a3), some (.int 0), none, none, none, none, none]) (st1 := [.ref 104]) (h1 := zv_h0) rfl ?_
          refine Wp.steps 5 (pc1 := 39) (lo1 := [some (.ref 0), some (.int 0), some (.int a2), some (.int a3), some (.int 0), some (.ref 105), none, none, none, none]) (st1 := [.int a2, .ref 105]) (h1 := zv_h0) rfl ?_
          refine Wp.call (as := [.ref 105, .int a2]) (rest := []) rfl rfl rfl rfl rfl rfl rfl rfl rfl ?_
          show Wp _ _ 48 0 [some (.ref 105), some (.int a2)] [] zv_h0 _
          refine Wp.steps 1 (pc1 := 1) (lo1 := [some (.ref 105), some (.int a2)]) (st1 := [.ref 105]) (h1 := zv_h0) rfl ?_
          refine Wp.call (as := [.ref 105]) (rest := []) rfl rfl rfl rfl rfl rfl rfl rfl rfl ?_
          show Wp _ _ 46 0 [some (.ref 105)] [] zv_h0 _
          refine Wp.steps 6 (pc1 := 13) (lo1 := [some (.ref 105)]) (st1 := [.int 1]) (h1 := zv_h0) rfl ?_
          refine Wp.ret rfl rfl rfl ?_
          show Wp _ _ 48 4 [some (.ref 105), some (.int a2)] [.int 1] zv_h0 _
          refine Wp.steps 3 (pc1 := 20) (lo1 := [some (.ref 105), some (.int a2)]) (st1 := [.int 0]) (h1 := zv_h0) rfl ?_
          refine Wp.ret rfl rfl rfl ?_
          show Wp _ _ 87 42 [some (.ref 0), some (.int 0), some (.int a2), some (.int a3), some (.int 0), some (.ref 105), none, none, none, none] [.int 0] zv_h0 _
          refine Wp.steps 9 (pc1 := 128) (lo1 := [some (.ref 0), some (.int 0), some (.int a2), some (.int a3), some (.int 0), some (.ref 105), some (.int 0), some (.int 0), some (.int 0), none]) (st1 := [.int 0]) (h1 := zv_h0) rfl ?_
          refine Wp.steps 8 (pc1 := 188) (lo1 := [some (.ref 0), some (.int 0), some (.int a2), some (.int a3), some (.int 0), some (.ref 105), some (.int 0), some (.int 0), some (.int 0), none]) (st1 := [.int 0]) (h1 := zv_h0) rfl ?_
          exact Wp.ret rfl rfl rfl ⟨rfl, rfl⟩
        · show Wp _ _ 186 0 [some (.ref 113), some (.int 0), some (.int a2), some (.int a3), some (.int 0), none, none, none, none, none, none] [] zv_h0 _
          refine Wp.steps 2 (pc1 := 2) (lo1 := [some (.ref 113), some (.int 0), some (.int a2), some (.int a3), some (.int 0), none, none, none, none, none, none]) (st1 := [.int a2, .int 0]) (h1 := zv_h0) rfl ?_
          refine Wp.call (as := [.int 0, .int a2]) (rest := []) rfl rfl rfl rfl rfl rfl rfl rfl rfl ?_
          show Wp _ _ 183 0 [some (.int 0), some (.int a2)] [] zv_h0 _
          refine Wp.steps 4 (pc1 := 6) (lo1 := [some (.int 0), some (.int a2)]) (st1 := [.long 3, .long 0, .long 0]) (h1 := zv_h0) rfl ?_
          refine Wp.call (as := [.long 0, .long 0, .long 3]) (rest := []) rfl rfl rfl rfl rfl rfl rfl rfl rfl ?_
          show Wp _ _ 107 0 [some (.long 0), none, some (.long 0), none, some (.long 3), none] [] zv_h0 _
          refine Wp.steps 9 (pc1 := 14) (lo1 := [some (.long 0), none, some (.long 0), none, some (.long 3), none]) (st1 := [.int 1]) (h1 := zv_h0) rfl ?_
          refine Wp.steps 1 (pc1 := 18) (lo1 := [some (.long 0), none, some (.long 0), none, some (.long 3), none]) (st1 := [.int 1]) (h1 := zv_h0) rfl ?_
          refine Wp.ret rfl rfl rfl ?_
          show Wp _ _ 183 9 [some (.int 0), some (.int a2)] [.int 1] zv_h0 _
          refine Wp.steps 5 (pc1 := 18) (lo1 := [some (.int 0), some (.int a2)]) (st1 := [.long 2, .long 0, .long (a2).toInt64]) (h1 := zv_h0) rfl ?_
          refine Wp.call (as := [.long (a2).toInt64, .long 0, .long 2]) (rest := []) rfl rfl rfl rfl rfl rfl rfl rfl rfl ?_
          refine zin_T (Int32.toInt_toInt64 _) (by decide) (by decide) (show (0 : Int) ≤ a2.toInt by omega) (show a2.toInt ≤ (2 : Int) by omega) ?_
          show Wp _ _ 183 21 [some (.int 0), some (.int a2)] [.int 1] zv_h0 _
          refine Wp.steps 3 (pc1 := 29) (lo1 := [some (.int 0), some (.int a2)]) (st1 := [.int 1]) (h1 := zv_h0) rfl ?_
          refine Wp.ret rfl rfl rfl ?_
          show Wp _ _ 186 5 [some (.ref 113), some (.int 0), some (.int a2), some (.int a3), some (.int 0), none, none, none, none, none, none] [.int 1] zv_h0 _
          refine Wp.steps 5 (pc1 := 15) (lo1 := [some (.ref 113), some (.int 0), some (.int a2), some (.int a3), some (.int 0), none, none, none, none, none, none]) (st1 := [.long 20, .long 0, .long 0]) (h1 := zv_h0) rfl ?_
          refine Wp.call (as := [.long 0, .long 0, .long 20]) (rest := []) rfl rfl rfl rfl rfl rfl rfl rfl rfl ?_
          show Wp _ _ 107 0 [some (.long 0), none, some (.long 0), none, some (.long 20), none] [] zv_h0 _
          refine Wp.steps 9 (pc1 := 14) (lo1 := [some (.long 0), none, some (.long 0), none, some (.long 20), none]) (st1 := [.int 1]) (h1 := zv_h0) rfl ?_
          refine Wp.steps 1 (pc1 := 18) (lo1 := [some (.long 0), none, some (.long 0), none, some (.long 20), none]) (st1 := [.int 1]) (h1 := zv_h0) rfl ?_
          refine Wp.ret rfl rfl rfl ?_
          show Wp _ _ 186 18 [some (.ref 113), some (.int 0), some (.int a2), some (.int a3), some (.int 0), none, none, none, none, none, none] [.int 1] zv_h0 _
          refine Wp.steps 1 (pc1 := 23) (lo1 := [some (.ref 113), some (.int 0), some (.int a2), some (.int a3), some (.int 0), none, none, none, none, none, none]) (st1 := []) (h1 := zv_h0) rfl ?_
          refine zrd_0 0 a2 a3 0 ?_
          show Wp _ _ 186 53 [some (.ref 113), some (.int 0), some (.int a2), some (.int a3), some (.int 0), some (.int 8), none, none, none, none, none] [] zv_h0 _
          refine Wp.steps 8 (pc1 := 66) (lo1 := [some (.ref 113), some (.int 0), some (.int a2), some (.int a3), some (.int 0), some (.int 0), some (.int 0), some (.int 0), none, none, none]) (st1 := [.int 0, .int 0]) (h1 := zv_h0) rfl ?_
          refine Wp.steps 5 (pc1 := 266) (lo1 := [some (.ref 113), some (.int 0), some (.int a2), some (.int a3), some (.int 0), some (.int 0), some (.int 0), some (.int 0), none, none, none]) (st1 := [.int 0]) (h1 := zv_h0) rfl ?_
          exact Wp.ret rfl rfl rfl ⟨rfl, rfl⟩
      · skip
        obtain rfl : a4 = 1 := Int32.toInt_inj.mp (h3.trans (by decide))
        refine ⟨0, (zv_h0.set 0 (.inr (.inr (7, [.ref 1, .ref 30, .ref 25, .ref 28, .ref 54, .ref 55, .ref 104, .int 1])))), ((zv_h0.set 0 (.inr (.inr (7, [.ref 1, .ref 30, .ref 25, .ref 28, .ref 54, .ref 55, .ref 104, .int 1])))).set 113 (.inr (.inr (8, [.ref 114, .ref 115, .int 4, .int 0, .ref 116, .int 4, .int 0, .int 0, .int 0, .int 0, .int (-4), .int (-4), .int (-4), .ref 117, .int 0, .int 0, .int 0, .int 0, .int 0, .int 0, .int 0, .int 0, .ref 118, .ref 119, .ref 120, .ref 121, .int 1, .ref 122])))), ?_, rfl, ?_, (zv_ls rfl rfl (zv_ls rfl rfl zv_len))⟩
        · show Wp _ _ 87 0 [some (.ref 0), some (.int 0), some (.int a2), some (.int a3), some (.int 1), none, none, none, none, none] [] zv_h0 _
          refine Wp.steps 1 (pc1 := 1) (lo1 := [some (.ref 0), some (.int 0), some (.int a2), some (.int a3), some (.int 1), none, none, none, none, none]) (st1 := [.int 0]) (h1 := zv_h0) rfl ?_
          refine Wp.call (as := [.int 0]) (rest := []) rfl rfl rfl rfl rfl rfl rfl rfl rfl ?_
          show Wp _ _ 93 0 [some (.int 0)] [] zv_h0 _
          refine Wp.steps 6 (pc1 := 14) (lo1 := [some (.int 0)]) (st1 := [.int 0]) (h1 := zv_h0) rfl ?_
          refine Wp.ret rfl rfl rfl ?_
          show Wp _ _ 87 4 [some (.ref 0), some (.int 0), some (.int a2), some (.int a3), some (.int 1), none, none, none, none, none] [.int 0] zv_h0 _
          refine Wp.steps 2 (pc1 := 8) (lo1 := [some (.ref 0), some (.int 0), some (.int a2), some (.int a3), some (.int 1), none, none, none, none, none]) (st1 := [.int a2]) (h1 := zv_h0) rfl ?_
          refine Wp.call (as := [.int a2]) (rest := []) rfl rfl rfl rfl rfl rfl rfl rfl rfl ?_
          show Wp _ _ 94 0 [some (.int a2)] [] zv_h0 _
          refine Wp.steps 1 (pc1 := 1) (lo1 := [some (.int a2)]) (st1 := [.int a2]) (h1 := zv_h0) rfl ?_
          refine Wp.ifF (i := .nop) rfl (zq_F rfl (by decide) (show a2.toInt ≥ 0 by omega)) ?_
          show Wp _ _ 94 4 [some (.int a2)] [] zv_h0 _
          refine Wp.steps 2 (pc1 := 6) (lo1 := [some (.int a2)]) (st1 := [.int 2, .int a2]) (h1 := zv_h0) rfl ?_
          refine Wp.icT (i := .nop) rfl (zq_T rfl (by decide) (show a2.toInt ≤ 2 by omega)) ?_
          show Wp _ _ 94 13 [some (.int a2)] [] zv_h0 _
          refine Wp.steps 1 (pc1 := 14) (lo1 := [some (.int a2)]) (st1 := [.int 0]) (h1 := zv_h0) rfl ?_
          refine Wp.ret rfl rfl rfl ?_
          show Wp _ _ 87 11 [some (.ref 0), some (.int 0), some (.int a2), some (.int a3), some (.int 1), none, none, none, none, none] [.int 0] zv_h0 _
          refine Wp.steps 8 (pc1 := 32) (lo1 := [some (.ref 0), some (.int 0), some (.int a2), some (.int a3), some (.int 1), none, none, none, none, none]) (st1 := [.ref 104]) (h1 := zv_h0) rfl ?_
          refine Wp.steps 5 (pc1 := 39) (lo1 := [some (.ref 0), some (.int 0), some (.int a2), some (.int a3), some (.int 1), some (.ref 105), none, none, none, none]) (st1 := [.int a2, .ref 105]) (h1 := zv_h0) rfl ?_
          refine Wp.call (as := [.ref 105, .int a2]) (rest := []) rfl rfl rfl rfl rfl rfl rfl rfl rfl ?_
          show Wp _ _ 48 0 [some (.ref 105), some (.int a2)] [] zv_h0 _
          refine Wp.steps 1 (pc1 := 1) (lo1 := [some (.ref 105), some (.int a2)]) (st1 := [.ref 105]) (h1 := zv_h0) rfl ?_
          refine Wp.call (as := [.ref 105]) (rest := []) rfl rfl rfl rfl rfl rfl rfl rfl rfl ?_
          show Wp _ _ 46 0 [some (.ref 105)] [] zv_h0 _
          refine Wp.steps 6 (pc1 := 13) (lo1 := [some (.ref 105)]) (st1 := [.int 1]) (h1 := zv_h0) rfl ?_
          refine Wp.ret rfl rfl rfl ?_
          show Wp _ _ 48 4 [some (.ref 105), some (.int a2)] [.int 1] zv_h0 _
          refine Wp.steps 3 (pc1 := 20) (lo1 := [some (.ref 105), some (.int a2)]) (st1 := [.int 0]) (h1 := zv_h0) rfl ?_
          refine Wp.ret rfl rfl rfl ?_
          show Wp _ _ 87 42 [some (.ref 0), some (.int 0), some (.int a2), some (.int a3), some (.int 1), some (.ref 105), none, none, none, none] [.int 0] zv_h0 _
          refine Wp.steps 9 (pc1 := 59) (lo1 := [some (.ref 0), some (.int 0), some (.int a2), some (.int a3), some (.int 1), some (.ref 105), some (.int 0), some (.int 0), some (.int 0), none]) (st1 := [.int 0]) (h1 := zv_h0) rfl ?_
          refine Wp.steps 8 (pc1 := 72) (lo1 := [some (.ref 0), some (.int 0), some (.int a2), some (.int a3), some (.int 1), some (.ref 105), some (.int 0), some (.int 0), some (.int 0), some (.int (a3 + 0))]) (st1 := [.ref 105]) (h1 := zv_h0) rfl ?_
          refine Wp.steps 1 (pc1 := 74) (lo1 := [some (.ref 0), some (.int 0), some (.int a2), some (.int a3), some (.int 1), some (.ref 105), some (.int 0), some (.int 0), some (.int 0), some (.int (a3 + 0))]) (st1 := [.int (a3 + 0), .ref 105]) (h1 := zv_h0) rfl ?_
          refine Wp.call (as := [.ref 105, .int (a3 + 0)]) (rest := []) rfl rfl rfl rfl rfl rfl rfl rfl rfl ?_
          show Wp _ _ 50 0 [some (.ref 105), some (.int (a3 + 0)), none] [] zv_h0 _
          refine Wp.steps 2 (pc1 := 2) (lo1 := [some (.ref 105), some (.int (a3 + 0)), none]) (st1 := [.int (a3 + 0), .ref 105]) (h1 := zv_h0) rfl ?_
          refine Wp.call (as := [.ref 105, .int (a3 + 0)]) (rest := []) rfl rfl rfl rfl rfl rfl rfl rfl rfl ?_
          show Wp _ _ 49 0 [some (.ref 105), some (.int (a3 + 0))] [] zv_h0 _
          refine Wp.steps 1 (pc1 := 1) (lo1 := [some (.ref 105), some (.int (a3 + 0))]) (st1 := [.ref 105]) (h1 := zv_h0) rfl ?_
          refine Wp.call (as := [.ref 105]) (rest := []) rfl rfl rfl rfl rfl rfl rfl rfl rfl ?_
          show Wp _ _ 46 0 [some (.ref 105)] [] zv_h0 _
          refine Wp.steps 6 (pc1 := 13) (lo1 := [some (.ref 105)]) (st1 := [.int 1]) (h1 := zv_h0) rfl ?_
          refine Wp.ret rfl rfl rfl ?_
          show Wp _ _ 49 4 [some (.ref 105), some (.int (a3 + 0))] [.int 1] zv_h0 _
          refine Wp.steps 2 (pc1 := 8) (lo1 := [some (.ref 105), some (.int (a3 + 0))]) (st1 := [.int 1]) (h1 := zv_h0) rfl ?_
          refine Wp.ret rfl rfl rfl ?_
          show Wp _ _ 50 5 [some (.ref 105), some (.int (a3 + 0)), none] [.int 1] zv_h0 _
          refine Wp.steps 5 (pc1 := 21) (lo1 := [some (.ref 105), some (.int (a3 + 0)), some (.int 1)]) (st1 := [.int 1]) (h1 := zv_h0) rfl ?_
          refine Wp.ret rfl rfl rfl ?_
          show Wp _ _ 87 77 [some (.ref 0), some (.int 0), some (.int a2), some (.int a3), some (.int 1), some (.ref 105), some (.int 0), some (.int 0), some (.int 0), some (.int (a3 + 0))] [.int 1] zv_h0 _
          refine Wp.steps 9 (pc1 := 128) (lo1 := [some (.ref 0), some (.int 0), some (.int a2), some (.int a3), some (.int 1), some (.ref 105), some (.int 1), some (.int 0), some (.int 1), some (.int (a3 + 0))]) (st1 := [.int 0]) (h1 := zv_h0) rfl ?_
          refine Wp.steps 8 (pc1 := 188) (lo1 := [some (.ref 0), some (.int 0), some (.int a2), some (.int a3), some (.int 1), some (.ref 105), some (.int 1), some (.int 0), some (.int 0), some (.int (a3 + 0))]) (st1 := [.int 0]) (h1 := (zv_h0.set 0 (.inr (.inr (7, [.ref 1, .ref 30, .ref 25, .ref 28, .ref 54, .ref 55, .ref 104, .int 1]))))) rfl ?_
          exact Wp.ret rfl rfl rfl ⟨rfl, rfl⟩
        · show Wp _ _ 186 0 [some (.ref 113), some (.int 0), some (.int a2), some (.int a3), some (.int 1), none, none, none, none, none, none] [] (zv_h0.set 0 (.inr (.inr (7, [.ref 1, .ref 30, .ref 25, .ref 28, .ref 54, .ref 55, .ref 104, .int 1])))) _
          refine Wp.steps 2 (pc1 := 2) (lo1 := [some (.ref 113), some (.int 0), some (.int a2), some (.int a3), some (.int 1), none, none, none, none, none, none]) (st1 := [.int a2, .int 0]) (h1 := (zv_h0.set 0 (.inr (.inr (7, [.ref 1, .ref 30, .ref 25, .ref 28, .ref 54, .ref 55, .ref 104, .int 1]))))) rfl ?_
          refine Wp.call (as := [.int 0, .int a2]) (rest := []) rfl rfl rfl rfl rfl rfl rfl rfl rfl ?_
          show Wp _ _ 183 0 [some (.int 0), some (.int a2)] [] (zv_h0.set 0 (.inr (.inr (7, [.ref 1, .ref 30, .ref 25, .ref 28, .ref 54, .ref 55, .ref 104, .int 1])))) _
          refine Wp.steps 4 (pc1 := 6) (lo1 := [some (.int 0), some (.int a2)]) (st1 := [.long 3, .long 0, .long 0]) (h1 := (zv_h0.set 0 (.inr (.inr (7, [.ref 1, .ref 30, .ref 25, .ref 28, .ref 54, .ref 55, .ref 104, .int 1]))))) rfl ?_
          refine Wp.call (as := [.long 0, .long 0, .long 3]) (rest := []) rfl rfl rfl rfl rfl rfl rfl rfl rfl ?_
          show Wp _ _ 107 0 [some (.long 0), none, some (.long 0), none, some (.long 3), none] [] (zv_h0.set 0 (.inr (.inr (7, [.ref 1, .ref 30, .ref 25, .ref 28, .ref 54, .ref 55, .ref 104, .int 1])))) _
          refine Wp.steps 9 (pc1 := 14) (lo1 := [some (.long 0), none, some (.long 0), none, some (.long 3), none]) (st1 := [.int 1]) (h1 := (zv_h0.set 0 (.inr (.inr (7, [.ref 1, .ref 30, .ref 25, .ref 28, .ref 54, .ref 55, .ref 104, .int 1]))))) rfl ?_
          refine Wp.steps 1 (pc1 := 18) (lo1 := [some (.long 0), none, some (.long 0), none, some (.long 3), none]) (st1 := [.int 1]) (h1 := (zv_h0.set 0 (.inr (.inr (7, [.ref 1, .ref 30, .ref 25, .ref 28, .ref 54, .ref 55, .ref 104, .int 1]))))) rfl ?_
          refine Wp.ret rfl rfl rfl ?_
          show Wp _ _ 183 9 [some (.int 0), some (.int a2)] [.int 1] (zv_h0.set 0 (.inr (.inr (7, [.ref 1, .ref 30, .ref 25, .ref 28, .ref 54, .ref 55, .ref 104, .int 1])))) _
          refine Wp.steps 5 (pc1 := 18) (lo1 := [some (.int 0), some (.int a2)]) (st1 := [.long 2, .long 0, .long (a2).toInt64]) (h1 := (zv_h0.set 0 (.inr (.inr (7, [.ref 1, .ref 30, .ref 25, .ref 28, .ref 54, .ref 55, .ref 104, .int 1]))))) rfl ?_
          refine Wp.call (as := [.long (a2).toInt64, .long 0, .long 2]) (rest := []) rfl rfl rfl rfl rfl rfl rfl rfl rfl ?_
          refine zin_T (Int32.toInt_toInt64 _) (by decide) (by decide) (show (0 : Int) ≤ a2.toInt by omega) (show a2.toInt ≤ (2 : Int) by omega) ?_
          show Wp _ _ 183 21 [some (.int 0), some (.int a2)] [.int 1] (zv_h0.set 0 (.inr (.inr (7, [.ref 1, .ref 30, .ref 25, .ref 28, .ref 54, .ref 55, .ref 104, .int 1])))) _
          refine Wp.steps 3 (pc1 := 29) (lo1 := [some (.int 0), some (.int a2)]) (st1 := [.int 1]) (h1 := (zv_h0.set 0 (.inr (.inr (7, [.ref 1, .ref 30, .ref 25, .ref 28, .ref 54, .ref 55, .ref 104, .int 1]))))) rfl ?_
          refine Wp.ret rfl rfl rfl ?_
          show Wp _ _ 186 5 [some (.ref 113), some (.int 0), some (.int a2), some (.int a3), some (.int 1), none, none, none, none, none, none] [.int 1] (zv_h0.set 0 (.inr (.inr (7, [.ref 1, .ref 30, .ref 25, .ref 28, .ref 54, .ref 55, .ref 104, .int 1])))) _
          refine Wp.steps 5 (pc1 := 15) (lo1 := [some (.ref 113), some (.int 0), some (.int a2), some (.int a3), some (.int 1), none, none, none, none, none, none]) (st1 := [.long 20, .long 0, .long 1]) (h1 := (zv_h0.set 0 (.inr (.inr (7, [.ref 1, .ref 30, .ref 25, .ref 28, .ref 54, .ref 55, .ref 104, .int 1]))))) rfl ?_
          refine Wp.call (as := [.long 1, .long 0, .long 20]) (rest := []) rfl rfl rfl rfl rfl rfl rfl rfl rfl ?_
          show Wp _ _ 107 0 [some (.long 1), none, some (.long 0), none, some (.long 20), none] [] (zv_h0.set 0 (.inr (.inr (7, [.ref 1, .ref 30, .ref 25, .ref 28, .ref 54, .ref 55, .ref 104, .int 1])))) _
          refine Wp.steps 9 (pc1 := 14) (lo1 := [some (.long 1), none, some (.long 0), none, some (.long 20), none]) (st1 := [.int 1]) (h1 := (zv_h0.set 0 (.inr (.inr (7, [.ref 1, .ref 30, .ref 25, .ref 28, .ref 54, .ref 55, .ref 104, .int 1]))))) rfl ?_
          refine Wp.steps 1 (pc1 := 18) (lo1 := [some (.long 1), none, some (.long 0), none, some (.long 20), none]) (st1 := [.int 1]) (h1 := (zv_h0.set 0 (.inr (.inr (7, [.ref 1, .ref 30, .ref 25, .ref 28, .ref 54, .ref 55, .ref 104, .int 1]))))) rfl ?_
          refine Wp.ret rfl rfl rfl ?_
          show Wp _ _ 186 18 [some (.ref 113), some (.int 0), some (.int a2), some (.int a3), some (.int 1), none, none, none, none, none, none] [.int 1] (zv_h0.set 0 (.inr (.inr (7, [.ref 1, .ref 30, .ref 25, .ref 28, .ref 54, .ref 55, .ref 104, .int 1])))) _
          refine Wp.steps 1 (pc1 := 23) (lo1 := [some (.ref 113), some (.int 0), some (.int a2), some (.int a3), some (.int 1), none, none, none, none, none, none]) (st1 := []) (h1 := (zv_h0.set 0 (.inr (.inr (7, [.ref 1, .ref 30, .ref 25, .ref 28, .ref 54, .ref 55, .ref 104, .int 1]))))) rfl ?_
          refine zrd_1 0 a2 a3 1 ?_
          show Wp _ _ 186 53 [some (.ref 113), some (.int 0), some (.int a2), some (.int a3), some (.int 1), some (.int 8), none, none, none, none, none] [] (zv_h0.set 0 (.inr (.inr (7, [.ref 1, .ref 30, .ref 25, .ref 28, .ref 54, .ref 55, .ref 104, .int 1])))) _
          refine Wp.steps 8 (pc1 := 66) (lo1 := [some (.ref 113), some (.int 0), some (.int a2), some (.int a3), some (.int 1), some (.int 0), some (.int 0), some (.int 0), none, none, none]) (st1 := [.int 1, .int 0]) (h1 := (zv_h0.set 0 (.inr (.inr (7, [.ref 1, .ref 30, .ref 25, .ref 28, .ref 54, .ref 55, .ref 104, .int 1]))))) rfl ?_
          refine Wp.steps 9 (pc1 := 85) (lo1 := [some (.ref 113), some (.int 0), some (.int a2), some (.int a3), some (.int 1), some (.int 0), some (.int 0), some (.int 0), some (.int 0), none, none]) (st1 := [.int 0]) (h1 := (zv_h0.set 0 (.inr (.inr (7, [.ref 1, .ref 30, .ref 25, .ref 28, .ref 54, .ref 55, .ref 104, .int 1]))))) rfl ?_
          refine Wp.steps 8 (pc1 := 96) (lo1 := [some (.ref 113), some (.int 0), some (.int a2), some (.int a3), some (.int 1), some (.int 0), some (.int 0), some (.int 0), some (.int 0), none, none]) (st1 := [.long ((a3).toInt64 + 0)]) (h1 := (zv_h0.set 0 (.inr (.inr (7, [.ref 1, .ref 30, .ref 25, .ref 28, .ref 54, .ref 55, .ref 104, .int 1]))))) rfl ?_
          refine Wp.steps 8 (pc1 := 108) (lo1 := [some (.ref 113), some (.int 0), some (.int a2), some (.int a3), some (.int 1), some (.int 0), some (.int 0), some (.int 0), some (.int 0), some (.long (((a3).toInt64 + 0) + 0)), none]) (st1 := [.int (-4)]) (h1 := (zv_h0.set 0 (.inr (.inr (7, [.ref 1, .ref 30, .ref 25, .ref 28, .ref 54, .ref 55, .ref 104, .int 1]))))) rfl ?_
          refine Wp.steps 8 (pc1 := 79) (lo1 := [some (.ref 113), some (.int 0), some (.int a2), some (.int a3), some (.int 1), some (.int 1), some (.int 0), some (.int 0), some (.int 1), some (.long (((a3).toInt64 + 0) + 0)), none]) (st1 := [.int 1]) (h1 := (zv_h0.set 0 (.inr (.inr (7, [.ref 1, .ref 30, .ref 25, .ref 28, .ref 54, .ref 55, .ref 104, .int 1]))))) rfl ?_
          refine Wp.steps 8 (pc1 := 62) (lo1 := [some (.ref 113), some (.int 0), some (.int a2), some (.int a3), some (.int 1), some (.int 1), some (.int 0), some (.int 1), some (.int 1), some (.long (((a3).toInt64 + 0) + 0)), none]) (st1 := []) (h1 := (zv_h0.set 0 (.inr (.inr (7, [.ref 1, .ref 30, .ref 25, .ref 28, .ref 54, .ref 55, .ref 104, .int 1]))))) rfl ?_
          refine Wp.steps 7 (pc1 := 266) (lo1 := [some (.ref 113), some (.int 0), some (.int a2), some (.int a3), some (.int 1), some (.int 1), some (.int 0), some (.int 1), some (.int 1), some (.long (((a3).toInt64 + 0) + 0)), none]) (st1 := [.int 0]) (h1 := ((zv_h0.set 0 (.inr (.inr (7, [.ref 1, .ref 30, .ref 25, .ref 28, .ref 54, .ref 55, .ref 104, .int 1])))).set 113 (.inr (.inr (8, [.ref 114, .ref 115, .int 4, .int 0, .ref 116, .int 4, .int 0, .int 0, .int 0, .int 0, .int (-4), .int (-4), .int (-4), .ref 117, .int 0, .int 0, .int 0, .int 0, .int 0, .int 0, .int 0, .int 0, .ref 118, .ref 119, .ref 120, .ref 121, .int 1, .ref 122]))))) rfl ?_
          exact Wp.ret rfl rfl rfl ⟨rfl, rfl⟩
      · skip
        refine ⟨0, (zv_h0.set 0 (.inr (.inr (7, [.ref 1, .ref 30, .ref 25, .ref 28, .ref 54, .ref 55, .ref 104, .int 1])))), ((zv_h0.set 0 (.inr (.inr (7, [.ref 1, .ref 30, .ref 25, .ref 28, .ref 54, .ref 55, .ref 104, .int 1])))).set 113 (.inr (.inr (8, [.ref 114, .ref 115, .int 4, .int 0, .ref 116, .int 4, .int 0, .int 0, .int 0, .int 0, .int (-4), .int (-4), .int (-4), .ref 117, .int 0, .int 0, .int 0, .int 0, .int 0, .int 0, .int 0, .int 0, .ref 118, .ref 119, .ref 120, .ref 121, .int 1, .ref 122])))), ?_, rfl, ?_, (zv_ls rfl rfl (zv_ls rfl rfl zv_len))⟩
        · show Wp _ _ 87 0 [some (.ref 0), some (.int 0), some (.int a2), some (.int a3), some (.int a4), none, none, none, none, none] [] zv_h0 _
          refine Wp.steps 1 (pc1 := 1) (lo1 := [some (.ref 0), some (.int 0), some (.int a2), some (.int a3), some (.int a4), none, none, none, none, none]) (st1 := [.int 0]) (h1 := zv_h0) rfl ?_
          refine Wp.call (as := [.int 0]) (rest := []) rfl rfl rfl rfl rfl rfl rfl rfl rfl ?_
          show Wp _ _ 93 0 [some (.int 0)] [] zv_h0 _
          refine Wp.steps 6 (pc1 := 14) (lo1 := [some (.int 0)]) (st1 := [.int 0]) (h1 := zv_h0) rfl ?_
          refine Wp.ret rfl rfl rfl ?_
          show Wp _ _ 87 4 [some (.ref 0), some (.int 0), some (.int a2), some (.int a3), some (.int a4), none, none, none, none, none] [.int 0] zv_h0 _
          refine Wp.steps 2 (pc1 := 8) (lo1 := [some (.ref 0), some (.int 0), some (.int a2), some (.int a3), some (.int a4), none, none, none, none, none]) (st1 := [.int a2]) (h1 := zv_h0) rfl ?_
          refine Wp.call (as := [.int a2]) (rest := []) rfl rfl rfl rfl rfl rfl rfl rfl rfl ?_
          show Wp _ _ 94 0 [some (.int a2)] [] zv_h0 _
          refine Wp.steps 1 (pc1 := 1) (lo1 := [some (.int a2)]) (st1 := [.int a2]) (h1 := zv_h0) rfl ?_
          refine Wp.ifF (i := .nop) rfl (zq_F rfl (by decide) (show a2.toInt ≥ 0 by omega)) ?_
          show Wp _ _ 94 4 [some (.int a2)] [] zv_h0 _
          refine Wp.steps 2 (pc1 := 6) (lo1 := [some (.int a2)]) (st1 := [.int 2, .int a2]) (h1 := zv_h0) rfl ?_
          refine Wp.icT (i := .nop) rfl (zq_T rfl (by decide) (show a2.toInt ≤ 2 by omega)) ?_
          show Wp _ _ 94 13 [some (.int a2)] [] zv_h0 _
          refine Wp.steps 1 (pc1 := 14) (lo1 := [some (.int a2)]) (st1 := [.int 0]) (h1 := zv_h0) rfl ?_
          refine Wp.ret rfl rfl rfl ?_
          show Wp _ _ 87 11 [some (.ref 0), some (.int 0), some (.int a2), some (.int a3), some (.int a4), none, none, none, none, none] [.int 0] zv_h0 _
          refine Wp.steps 2 (pc1 := 16) (lo1 := [some (.ref 0), some (.int 0), some (.int a2), some (.int a3), some (.int a4), none, none, none, none, none]) (st1 := [.int a4]) (h1 := zv_h0) rfl ?_
          refine Wp.ifF (i := .nop) rfl (zq_F rfl (by decide) (show a4.toInt ≥ 0 by omega)) ?_
          show Wp _ _ 87 19 [some (.ref 0), some (.int 0), some (.int a2), some (.int a3), some (.int a4), none, none, none, none, none] [] zv_h0 _
          refine Wp.steps 2 (pc1 := 23) (lo1 := [some (.ref 0), some (.int 0), some (.int a2), some (.int a3), some (.int a4), none, none, none, none, none]) (st1 := [.int 20, .int a4]) (h1 := zv_h0) rfl ?_
          refine Wp.icT (i := .nop) rfl (zq_T rfl (by decide) (show a4.toInt ≤ 20 by omega)) ?_
          show Wp _ _ 87 28 [some (.ref 0), some (.int 0), some (.int a2), some (.int a3), some (.int a4), none, none, none, none, none] [] zv_h0 _
          refine Wp.steps 7 (pc1 := 39) (lo1 := [some (.ref 0), some (.int 0), some (.int a2), some (.int a3), some (.int a4), some (.ref 105), none, none, none, none]) (st1 := [.int a2, .ref 105]) (h1 := zv_h0) rfl ?_
          refine Wp.call (as := [.ref 105, .int a2]) (rest := []) rfl rfl rfl rfl rfl rfl rfl rfl rfl ?_
          show Wp _ _ 48 0 [some (.ref 105), some (.int a2)] [] zv_h0 _
          refine Wp.steps 1 (pc1 := 1) (lo1 := [some (.ref 105), some (.int a2)]) (st1 := [.ref 105]) (h1 := zv_h0) rfl ?_
          refine Wp.call (as := [.ref 105]) (rest := []) rfl rfl rfl rfl rfl rfl rfl rfl rfl ?_
          show Wp _ _ 46 0 [some (.ref 105)] [] zv_h0 _
          refine Wp.steps 6 (pc1 := 13) (lo1 := [some (.ref 105)]) (st1 := [.int 1]) (h1 := zv_h0) rfl ?_
          refine Wp.ret rfl rfl rfl ?_
          show Wp _ _ 48 4 [some (.ref 105), some (.int a2)] [.int 1] zv_h0 _
          refine Wp.steps 3 (pc1 := 20) (lo1 := [some (.ref 105), some (.int a2)]) (st1 := [.int 0]) (h1 := zv_h0) rfl ?_
          refine Wp.ret rfl rfl rfl ?_
          show Wp _ _ 87 42 [some (.ref 0), some (.int 0), some (.int a2), some (.int a3), some (.int a4), some (.ref 105), none, none, none, none] [.int 0] zv_h0 _
          refine Wp.steps 7 (pc1 := 54) (lo1 := [some (.ref 0), some (.int 0), some (.int a2), some (.int a3), some (.int a4), some (.ref 105), some (.int 0), some (.int 0), some (.int 0), none]) (st1 := [.int a4, .int 0]) (h1 := zv_h0) rfl ?_
          refine Wp.icF (i := .nop) rfl (zq_F (by decide) rfl (show 0 < a4.toInt by omega)) ?_
          show Wp _ _ 87 57 [some (.ref 0), some (.int 0), some (.int a2), some (.int a3), some (.int a4), some (.ref 105), some (.int 0), some (.int 0), some (.int 0), none] [] zv_h0 _
          refine Wp.steps 8 (pc1 := 70) (lo1 := [some (.ref 0), some (.int 0), some (.int a2), some (.int a3), some (.int a4), some (.ref 105), some (.int 0), some (.int 0), some (.int 0), some (.int (a3 + 0))]) (st1 := []) (h1 := zv_h0) rfl ?_
          refine Wp.steps 2 (pc1 := 74) (lo1 := [some (.ref 0), some (.int 0), some (.int a2), some (.int a3), some (.int a4), some (.ref 105), some (.int 0), some (.int 0), some (.int 0), some (.int (a3 + 0))]) (st1 := [.int (a3 + 0), .ref 105]) (h1 := zv_h0) rfl ?_
          refine Wp.call (as := [.ref 105, .int (a3 + 0)]) (rest := []) rfl rfl rfl rfl rfl rfl rfl rfl rfl ?_
          show Wp _ _ 50 0 [some (.ref 105), some (.int (a3 + 0)), none] [] zv_h0 _
          refine Wp.steps 2 (pc1 := 2) (lo1 := [some (.ref 105), some (.int (a3 + 0)), none]) (st1 := [.int (a3 + 0), .ref 105]) (h1 := zv_h0) rfl ?_
          refine Wp.call (as := [.ref 105, .int (a3 + 0)]) (rest := []) rfl rfl rfl rfl rfl rfl rfl rfl rfl ?_
          show Wp _ _ 49 0 [some (.ref 105), some (.int (a3 + 0))] [] zv_h0 _
          refine Wp.steps 1 (pc1 := 1) (lo1 := [some (.ref 105), some (.int (a3 + 0))]) (st1 := [.ref 105]) (h1 := zv_h0) rfl ?_
          refine Wp.call (as := [.ref 105]) (rest := []) rfl rfl rfl rfl rfl rfl rfl rfl rfl ?_
          show Wp _ _ 46 0 [some (.ref 105)] [] zv_h0 _
          refine Wp.steps 6 (pc1 := 13) (lo1 := [some (.ref 105)]) (st1 := [.int 1]) (h1 := zv_h0) rfl ?_
          refine Wp.ret rfl rfl rfl ?_
          show Wp _ _ 49 4 [some (.ref 105), some (.int (a3 + 0))] [.int 1] zv_h0 _
          refine Wp.steps 2 (pc1 := 8) (lo1 := [some (.ref 105), some (.int (a3 + 0))]) (st1 := [.int 1]) (h1 := zv_h0) rfl ?_
          refine Wp.ret rfl rfl rfl ?_
          show Wp _ _ 50 5 [some (.ref 105), some (.int (a3 + 0)), none] [.int 1] zv_h0 _
          refine Wp.steps 5 (pc1 := 21) (lo1 := [some (.ref 105), some (.int (a3 + 0)), some (.int 1)]) (st1 := [.int 1]) (h1 := zv_h0) rfl ?_
          refine Wp.ret rfl rfl rfl ?_
          show Wp _ _ 87 77 [some (.ref 0), some (.int 0), some (.int a2), some (.int a3), some (.int a4), some (.ref 105), some (.int 0), some (.int 0), some (.int 0), some (.int (a3 + 0))] [.int 1] zv_h0 _
          refine Wp.steps 7 (pc1 := 54) (lo1 := [some (.ref 0), some (.int 0), some (.int a2), some (.int a3), some (.int a4), some (.ref 105), some (.int 1), some (.int 0), some (.int 1), some (.int (a3 + 0))]) (st1 := [.int a4, .int 1]) (h1 := zv_h0) rfl ?_
          refine Wp.icF (i := .nop) rfl (zq_F (by decide) rfl (show 1 < a4.toInt by omega)) ?_
          show Wp _ _ 87 57 [some (.ref 0), some (.int 0), some (.int a2), some (.int a3), some (.int a4), some (.ref 105), some (.int 1), some (.int 0), some (.int 1), some (.int (a3 + 0))] [] zv_h0 _
          refine Wp.steps 8 (pc1 := 181) (lo1 := [some (.ref 0), some (.int 0), some (.int a2), some (.int a3), some (.int a4), some (.ref 105), some (.int 1), some (.int 0), some (.int 0), some (.int (a3 + 0))]) (st1 := [.ref 0]) (h1 := zv_h0) rfl ?_
          refine Wp.steps 3 (pc1 := 188) (lo1 := [some (.ref 0), some (.int 0), some (.int a2), some (.int a3), some (.int a4), some (.ref 105), some (.int 1), some (.int 0), some (.int 0), some (.int (a3 + 0))]) (st1 := [.int 0]) (h1 := (zv_h0.set 0 (.inr (.inr (7, [.ref 1, .ref 30, .ref 25, .ref 28, .ref 54, .ref 55, .ref 104, .int 1]))))) rfl ?_
          exact Wp.ret rfl rfl rfl ⟨rfl, rfl⟩
        · show Wp _ _ 186 0 [some (.ref 113), some (.int 0), some (.int a2), some (.int a3), some (.int a4), none, none, none, none, none, none] [] (zv_h0.set 0 (.inr (.inr (7, [.ref 1, .ref 30, .ref 25, .ref 28, .ref 54, .ref 55, .ref 104, .int 1])))) _
          refine Wp.steps 2 (pc1 := 2) (lo1 := [some (.ref 113), some (.int 0), some (.int a2), some (.int a3), some (.int a4), none, none, none, none, none, none]) (st1 := [.int a2, .int 0]) (h1 := (zv_h0.set 0 (.inr (.inr (7, [.ref 1, .ref 30, .ref 25, .ref 28, .ref 54, .ref 55, .ref 104, .int 1]))))) rfl ?_
          refine Wp.call (as := [.int 0, .int a2]) (rest := []) rfl rfl rfl rfl rfl rfl rfl rfl rfl ?_
          show Wp _ _ 183 0 [some (.int 0), some (.int a2)] [] (zv_h0.set 0 (.inr (.inr (7, [.ref 1, .ref 30, .ref 25, .ref 28, .ref 54, .ref 55, .ref 104, .int 1])))) _
          refine Wp.steps 4 (pc1 := 6) (lo1 := [some (.int 0), some (.int a2)]) (st1 := [.long 3, .long 0, .long 0]) (h1 := (zv_h0.set 0 (.inr (.inr (7, [.ref 1, .ref 30, .ref 25, .ref 28, .ref 54, .ref 55, .ref 104, .int 1]))))) rfl ?_
          refine Wp.call (as := [.long 0, .long 0, .long 3]) (rest := []) rfl rfl rfl rfl rfl rfl rfl rfl rfl ?_
          show Wp _ _ 107 0 [some (.long 0), none, some (.long 0), none, some (.long 3), none] [] (zv_h0.set 0 (.inr (.inr (7, [.ref 1, .ref 30, .ref 25, .ref 28, .ref 54, .ref 55, .ref 104, .int 1])))) _
          refine Wp.steps 9 (pc1 := 14) (lo1 := [some (.long 0), none, some (.long 0), none, some (.long 3), none]) (st1 := [.int 1]) (h1 := (zv_h0.set 0 (.inr (.inr (7, [.ref 1, .ref 30, .ref 25, .ref 28, .ref 54, .ref 55, .ref 104, .int 1]))))) rfl ?_
          refine Wp.steps 1 (pc1 := 18) (lo1 := [some (.long 0), none, some (.long 0), none, some (.long 3), none]) (st1 := [.int 1]) (h1 := (zv_h0.set 0 (.inr (.inr (7, [.ref 1, .ref 30, .ref 25, .ref 28, .ref 54, .ref 55, .ref 104, .int 1]))))) rfl ?_
          refine Wp.ret rfl rfl rfl ?_
          show Wp _ _ 183 9 [some (.int 0), some (.int a2)] [.int 1] (zv_h0.set 0 (.inr (.inr (7, [.ref 1, .ref 30, .ref 25, .ref 28, .ref 54, .ref 55, .ref 104, .int 1])))) _
          refine Wp.steps 5 (pc1 := 18) (lo1 := [some (.int 0), some (.int a2)]) (st1 := [.long 2, .long 0, .long (a2).toInt64]) (h1 := (zv_h0.set 0 (.inr (.inr (7, [.ref 1, .ref 30, .ref 25, .ref 28, .ref 54, .ref 55, .ref 104, .int 1]))))) rfl ?_
          refine Wp.call (as := [.long (a2).toInt64, .long 0, .long 2]) (rest := []) rfl rfl rfl rfl rfl rfl rfl rfl rfl ?_
          refine zin_T (Int32.toInt_toInt64 _) (by decide) (by decide) (show (0 : Int) ≤ a2.toInt by omega) (show a2.toInt ≤ (2 : Int) by omega) ?_
          show Wp _ _ 183 21 [some (.int 0), some (.int a2)] [.int 1] (zv_h0.set 0 (.inr (.inr (7, [.ref 1, .ref 30, .ref 25, .ref 28, .ref 54, .ref 55, .ref 104, .int 1])))) _
          refine Wp.steps 3 (pc1 := 29) (lo1 := [some (.int 0), some (.int a2)]) (st1 := [.int 1]) (h1 := (zv_h0.set 0 (.inr (.inr (7, [.ref 1, .ref 30, .ref 25, .ref 28, .ref 54, .ref 55, .ref 104, .int 1]))))) rfl ?_
          refine Wp.ret rfl rfl rfl ?_
          show Wp _ _ 186 5 [some (.ref 113), some (.int 0), some (.int a2), some (.int a3), some (.int a4), none, none, none, none, none, none] [.int 1] (zv_h0.set 0 (.inr (.inr (7, [.ref 1, .ref 30, .ref 25, .ref 28, .ref 54, .ref 55, .ref 104, .int 1])))) _
          refine Wp.steps 5 (pc1 := 15) (lo1 := [some (.ref 113), some (.int 0), some (.int a2), some (.int a3), some (.int a4), none, none, none, none, none, none]) (st1 := [.long 20, .long 0, .long (a4).toInt64]) (h1 := (zv_h0.set 0 (.inr (.inr (7, [.ref 1, .ref 30, .ref 25, .ref 28, .ref 54, .ref 55, .ref 104, .int 1]))))) rfl ?_
          refine Wp.call (as := [.long (a4).toInt64, .long 0, .long 20]) (rest := []) rfl rfl rfl rfl rfl rfl rfl rfl rfl ?_
          refine zin_T (Int32.toInt_toInt64 _) (by decide) (by decide) (show (0 : Int) ≤ a4.toInt by omega) (show a4.toInt ≤ (20 : Int) by omega) ?_
          show Wp _ _ 186 18 [some (.ref 113), some (.int 0), some (.int a2), some (.int a3), some (.int a4), none, none, none, none, none, none] [.int 1] (zv_h0.set 0 (.inr (.inr (7, [.ref 1, .ref 30, .ref 25, .ref 28, .ref 54, .ref 55, .ref 104, .int 1])))) _
          refine Wp.steps 1 (pc1 := 23) (lo1 := [some (.ref 113), some (.int 0), some (.int a2), some (.int a3), some (.int a4), none, none, none, none, none, none]) (st1 := []) (h1 := (zv_h0.set 0 (.inr (.inr (7, [.ref 1, .ref 30, .ref 25, .ref 28, .ref 54, .ref 55, .ref 104, .int 1]))))) rfl ?_
          refine zrd_1 0 a2 a3 a4 ?_
          show Wp _ _ 186 53 [some (.ref 113), some (.int 0), some (.int a2), some (.int a3), some (.int a4), some (.int 8), none, none, none, none, none] [] (zv_h0.set 0 (.inr (.inr (7, [.ref 1, .ref 30, .ref 25, .ref 28, .ref 54, .ref 55, .ref 104, .int 1])))) _
          refine Wp.steps 8 (pc1 := 66) (lo1 := [some (.ref 113), some (.int 0), some (.int a2), some (.int a3), some (.int a4), some (.int 0), some (.int 0), some (.int 0), none, none, none]) (st1 := [.int a4, .int 0]) (h1 := (zv_h0.set 0 (.inr (.inr (7, [.ref 1, .ref 30, .ref 25, .ref 28, .ref 54, .ref 55, .ref 104, .int 1]))))) rfl ?_
          refine Wp.icF (i := .nop) rfl (zq_F (by decide) rfl (show 0 < a4.toInt by omega)) ?_
          show Wp _ _ 186 69 [some (.ref 113), some (.int 0), some (.int a2), some (.int a3), some (.int a4), some (.int 0), some (.int 0), some (.int 0), none, none, none] [] (zv_h0.set 0 (.inr (.inr (7, [.ref 1, .ref 30, .ref 25, .ref 28, .ref 54, .ref 55, .ref 104, .int 1])))) _
          refine Wp.steps 8 (pc1 := 85) (lo1 := [some (.ref 113), some (.int 0), some (.int a2), some (.int a3), some (.int a4), some (.int 0), some (.int 0), some (.int 0), some (.int 0), none, none]) (st1 := [.int 0]) (h1 := (zv_h0.set 0 (.inr (.inr (7, [.ref 1, .ref 30, .ref 25, .ref 28, .ref 54, .ref 55, .ref 104, .int 1]))))) rfl ?_
          refine Wp.steps 8 (pc1 := 96) (lo1 := [some (.ref 113), some (.int 0), some (.int a2), some (.int a3), some (.int a4), some (.int 0), some (.int 0), some (.int 0), some (.int 0), none, none]) (st1 := [.long ((a3).toInt64 + 0)]) (h1 := (zv_h0.set 0 (.inr (.inr (7, [.ref 1, .ref 30, .ref 25, .ref 28, .ref 54, .ref 55, .ref 104, .int 1]))))) rfl ?_
          refine Wp.steps 8 (pc1 := 108) (lo1 := [some (.ref 113), some (.int 0), some (.int a2), some (.int a3), some (.int a4), some (.int 0), some (.int 0), some (.int 0), some (.int 0), some (.long (((a3).toInt64 + 0) + 0)), none]) (st1 := [.int (-4)]) (h1 := (zv_h0.set 0 (.inr (.inr (7, [.ref 1, .ref 30, .ref 25, .ref 28, .ref 54, .ref 55, .ref 104, .int 1]))))) rfl ?_
          refine Wp.steps 8 (pc1 := 79) (lo1 := [some (.ref 113), some (.int 0), some (.int a2), some (.int a3), some (.int a4), some (.int 1), some (.int 0), some (.int 0), some (.int 1), some (.long (((a3).toInt64 + 0) + 0)), none]) (st1 := [.int 1]) (h1 := (zv_h0.set 0 (.inr (.inr (7, [.ref 1, .ref 30, .ref 25, .ref 28, .ref 54, .ref 55, .ref 104, .int 1]))))) rfl ?_
          refine Wp.steps 8 (pc1 := 62) (lo1 := [some (.ref 113), some (.int 0), some (.int a2), some (.int a3), some (.int a4), some (.int 1), some (.int 0), some (.int 1), some (.int 1), some (.long (((a3).toInt64 + 0) + 0)), none]) (st1 := []) (h1 := (zv_h0.set 0 (.inr (.inr (7, [.ref 1, .ref 30, .ref 25, .ref 28, .ref 54, .ref 55, .ref 104, .int 1]))))) rfl ?_
          refine Wp.steps 2 (pc1 := 66) (lo1 := [some (.ref 113), some (.int 0), some (.int a2), some (.int a3), some (.int a4), some (.int 1), some (.int 0), some (.int 1), some (.int 1), some (.long (((a3).toInt64 + 0) + 0)), none]) (st1 := [.int a4, .int 1]) (h1 := (zv_h0.set 0 (.inr (.inr (7, [.ref 1, .ref 30, .ref 25, .ref 28, .ref 54, .ref 55, .ref 104, .int 1]))))) rfl ?_
          refine Wp.icF (i := .nop) rfl (zq_F (by decide) rfl (show 1 < a4.toInt by omega)) ?_
          show Wp _ _ 186 69 [some (.ref 113), some (.int 0), some (.int a2), some (.int a3), some (.int a4), some (.int 1), some (.int 0), some (.int 1), some (.int 1), some (.long (((a3).toInt64 + 0) + 0)), none] [] (zv_h0.set 0 (.inr (.inr (7, [.ref 1, .ref 30, .ref 25, .ref 28, .ref 54, .ref 55, .ref 104, .int 1])))) _
          refine Wp.steps 6 (pc1 := 266) (lo1 := [some (.ref 113), some (.int 0), some (.int a2), some (.int a3), some (.int a4), some (.int 1), some (.int 0), some (.int 1), some (.int 1), some (.long (((a3).toInt64 + 0) + 0)), none]) (st1 := [.int 0]) (h1 := ((zv_h0.set 0 (.inr (.inr (7, [.ref 1, .ref 30, .ref 25, .ref 28, .ref 54, .ref 55, .ref 104, .int 1])))).set 113 (.inr (.inr (8, [.ref 114, .ref 115, .int 4, .int 0, .ref 116, .int 4, .int 0, .int 0, .int 0, .int 0, .int (-4), .int (-4), .int (-4), .ref 117, .int 0, .int 0, .int 0, .int 0, .int 0, .int 0, .int 0, .int 0, .ref 118, .ref 119, .ref 120, .ref 121, .int 1, .ref 122]))))) rfl ?_
          exact Wp.ret rfl rfl rfl ⟨rfl, rfl⟩
  · skip
    obtain rfl : a1 = 1 := Int32.toInt_inj.mp (h0.trans (by decide))
    rcases (by omega : (a2.toInt ≤ -1) ∨ (3 ≤ a2.toInt) ∨ (0 ≤ a2.toInt ∧ a2.toInt ≤ 2)) with h1 | h1 | h1
    · skip
      refine ⟨(-1), zv_h0, zv_h0, ?_, rfl, ?_, zv_len⟩
      · show Wp _ _ 87 0 [some (.ref 0), some (.int 1), some (.int a2), some (.int a3), some (.int a4), none, none, none, none, none] [] zv_h0 _
        refine Wp.steps 1 (pc1 := 1) (lo1 := [some (.ref 0), some (.int 1), some (.int a2), some (.int a3), some (.int a4), none, none, none, none, none]) (st1 := [.int 1]) (h1 := zv_h0) rfl ?_
        refine Wp.call (as := [.int 1]) (rest := []) rfl rfl rfl rfl rfl rfl rfl rfl rfl ?_
        show Wp _ _ 93 0 [some (.int 1)] [] zv_h0 _
        refine Wp.steps 6 (pc1 := 14) (lo1 := [some (.int 1)]) (st1 := [.int 0]) (h1 := zv_h0) rfl ?_
        refine Wp.ret rfl rfl rfl ?_
        show Wp _ _ 87 4 [some (.ref 0), some (.int 1), some (.int a2), some (.int a3), some (.int a4), none, none, none, none, none] [.int 0] zv_h0 _
        refine Wp.steps 2 (pc1 := 8) (lo1 := [some (.ref 0), some (.int 1), some (.int a2), some (.int a3), some (.int a4), none, none, none, none, none]) (st1 := [.int a2]) (h1 := zv_h0) rfl ?_
        refine Wp.call (as := [.int a2]) (rest := []) rfl rfl rfl rfl rfl rfl rfl rfl rfl ?_
        show Wp _ _ 94 0 [some (.int a2)] [] zv_h0 _
        refine Wp.steps 1 (pc1 := 1) (lo1 := [some (.int a2)]) (st1 := [.int a2]) (h1 := zv_h0) rfl ?_
        refine Wp.ifT (i := .nop) rfl (zq_T rfl (by decide) (show a2.toInt < 0 by omega)) ?_
        show Wp _ _ 94 9 [some (.int a2)] [] zv_h0 _
        refine Wp.steps 2 (pc1 := 14) (lo1 := [some (.int a2)]) (st1 := [.int 1]) (h1 := zv_h0) rfl ?_
        refine Wp.ret rfl rfl rfl ?_
        show Wp _ _ 87 11 [some (.ref 0), some (.int 1), some (.int a2), some (.int a3), some (.int a4), none, none, none, none, none] [.int 1] zv_h0 _
        refine Wp.steps 2 (pc1 := 27) (lo1 := [some (.ref 0), some (.int 1), some (.int a2), some (.int a3), some (.int a4), none, none, none, none, none]) (st1 := [.int (-1)]) (h1 := zv_h0) rfl ?_
        exact Wp.ret rfl rfl rfl ⟨rfl, rfl⟩
      · show Wp _ _ 186 0 [some (.ref 113), some (.int 1), some (.int a2), some (.int a3), some (.int a4), none, none, none, none, none, none] [] zv_h0 _
        refine Wp.steps 2 (pc1 := 2) (lo1 := [some (.ref 113), some (.int 1), some (.int a2), some (.int a3), some (.int a4), none, none, none, none, none, none]) (st1 := [.int a2, .int 1]) (h1 := zv_h0) rfl ?_
        refine Wp.call (as := [.int 1, .int a2]) (rest := []) rfl rfl rfl rfl rfl rfl rfl rfl rfl ?_
        show Wp _ _ 183 0 [some (.int 1), some (.int a2)] [] zv_h0 _
        refine Wp.steps 4 (pc1 := 6) (lo1 := [some (.int 1), some (.int a2)]) (st1 := [.long 3, .long 0, .long 1]) (h1 := zv_h0) rfl ?_
        refine Wp.call (as := [.long 1, .long 0, .long 3]) (rest := []) rfl rfl rfl rfl rfl rfl rfl rfl rfl ?_
        show Wp _ _ 107 0 [some (.long 1), none, some (.long 0), none, some (.long 3), none] [] zv_h0 _
        refine Wp.steps 9 (pc1 := 14) (lo1 := [some (.long 1), none, some (.long 0), none, some (.long 3), none]) (st1 := [.int 1]) (h1 := zv_h0) rfl ?_
        refine Wp.steps 1 (pc1 := 18) (lo1 := [some (.long 1), none, some (.long 0), none, some (.long 3), none]) (st1 := [.int 1]) (h1 := zv_h0) rfl ?_
        refine Wp.ret rfl rfl rfl ?_
        show Wp _ _ 183 9 [some (.int 1), some (.int a2)] [.int 1] zv_h0 _
        refine Wp.steps 5 (pc1 := 18) (lo1 := [some (.int 1), some (.int a2)]) (st1 := [.long 2, .long 0, .long (a2).toInt64]) (h1 := zv_h0) rfl ?_
        refine Wp.call (as := [.long (a2).toInt64, .long 0, .long 2]) (rest := []) rfl rfl rfl rfl rfl rfl rfl rfl rfl ?_
        refine zin_F (Int32.toInt_toInt64 _) (by decide) (by decide) (show a2.toInt < (0 : Int) ∨ (2 : Int) < a2.toInt by omega) ?_
        show Wp _ _ 183 21 [some (.int 1), some (.int a2)] [.int 0] zv_h0 _
        refine Wp.steps 2 (pc1 := 29) (lo1 := [some (.int 1), some (.int a2)]) (st1 := [.int 0]) (h1 := zv_h0) rfl ?_
        refine Wp.ret rfl rfl rfl ?_
        show Wp _ _ 186 5 [some (.ref 113), some (.int 1), some (.int a2), some (.int a3), some (.int a4), none, none, none, none, none, none] [.int 0] zv_h0 _
        refine Wp.steps 2 (pc1 := 22) (lo1 := [some (.ref 113), some (.int 1), some (.int a2), some (.int a3), some (.int a4), none, none, none, none, none, none]) (st1 := [.int (-1)]) (h1 := zv_h0) rfl ?_
        exact Wp.ret rfl rfl rfl ⟨rfl, rfl⟩
    · skip
      refine ⟨(-1), zv_h0, zv_h0, ?_, rfl, ?_, zv_len⟩
      · show Wp _ _ 87 0 [some (.ref 0), some (.int 1), some (.int a2), some (.int a3), some (.int a4), none, none, none, none, none] [] zv_h0 _
        refine Wp.steps 1 (pc1 := 1) (lo1 := [some (.ref 0), some (.int 1), some (.int a2), some (.int a3), some (.int a4), none, none, none, none, none]) (st1 := [.int 1]) (h1 := zv_h0) rfl ?_
        refine Wp.call (as := [.int 1]) (rest := []) rfl rfl rfl rfl rfl rfl rfl rfl rfl ?_
        show Wp _ _ 93 0 [some (.int 1)] [] zv_h0 _
        refine Wp.steps 6 (pc1 := 14) (lo1 := [some (.int 1)]) (st1 := [.int 0]) (h1 := zv_h0) rfl ?_
        refine Wp.ret rfl rfl rfl ?_
        show Wp _ _ 87 4 [some (.ref 0), some (.int 1), some (.int a2), some (.int a3), some (.int a4), none, none, none, none, none] [.int 0] zv_h0 _
        refine Wp.steps 2 (pc1 := 8) (lo1 := [some (.ref 0), some (.int 1), some (.int a2), some (.int a3), some (.int a4), none, none, none, none, none]) (st1 := [.int a2]) (h1 := zv_h0) rfl ?_
        refine Wp.call (as := [.int a2]) (rest := []) rfl rfl rfl rfl rfl rfl rfl rfl rfl ?_
        show Wp _ _ 94 0 [some (.int a2)] [] zv_h0 _
        refine Wp.steps 1 (pc1 := 1) (lo1 := [some (.int a2)]) (st1 := [.int a2]) (h1 := zv_h0) rfl ?_
        refine Wp.ifF (i := .nop) rfl (zq_F rfl (by decide) (show a2.toInt ≥ 0 by omega)) ?_
        show Wp _ _ 94 4 [some (.int a2)] [] zv_h0 _
        refine Wp.steps 2 (pc1 := 6) (lo1 := [some (.int a2)]) (st1 := [.int 2, .int a2]) (h1 := zv_h0) rfl ?_
        refine Wp.icF (i := .nop) rfl (zq_F rfl (by decide) (show a2.toInt > 2 by omega)) ?_
        show Wp _ _ 94 9 [some (.int a2)] [] zv_h0 _
        refine Wp.steps 2 (pc1 := 14) (lo1 := [some (.int a2)]) (st1 := [.int 1]) (h1 := zv_h0) rfl ?_
        refine Wp.ret rfl rfl rfl ?_
        show Wp _ _ 87 11 [some (.ref 0), some (.int 1), some (.int a2), some (.int a3), some (.int a4), none, none, none, none, none] [.int 1] zv_h0 _
        refine Wp.steps 2 (pc1 := 27) (lo1 := [some (.ref 0), some (.int 1), some (.int a2), some (.int a3), some (.int a4), none, none, none, none, none]) (st1 := [.int (-1)]) (h1 := zv_h0) rfl ?_
        exact Wp.ret rfl rfl rfl ⟨rfl, rfl⟩
      · show Wp _ _ 186 0 [some (.ref 113), some (.int 1), some (.int a2), some (.int a3), some (.int a4), none, none, none, none, none, none] [] zv_h0 _
        refine Wp.steps 2 (pc1 := 2) (lo1 := [some (.ref 113), some (.int 1), some (.int a2), some (.int a3), some (.int a4), none, none, none, none, none, none]) (st1 := [.int a2, .int 1]) (h1 := zv_h0) rfl ?_
        refine Wp.call (as := [.int 1, .int a2]) (rest := []) rfl rfl rfl rfl rfl rfl rfl rfl rfl ?_
        show Wp _ _ 183 0 [some (.int 1), some (.int a2)] [] zv_h0 _
        refine Wp.steps 4 (pc1 := 6) (lo1 := [some (.int 1), some (.int a2)]) (st1 := [.long 3, .long 0, .long 1]) (h1 := zv_h0) rfl ?_
        refine Wp.call (as := [.long 1, .long 0, .long 3]) (rest := []) rfl rfl rfl rfl rfl rfl rfl rfl rfl ?_
        show Wp _ _ 107 0 [some (.long 1), none, some (.long 0), none, some (.long 3), none] [] zv_h0 _
        refine Wp.steps 9 (pc1 := 14) (lo1 := [some (.long 1), none, some (.long 0), none, some (.long 3), none]) (st1 := [.int 1]) (h1 := zv_h0) rfl ?_
        refine Wp.steps 1 (pc1 := 18) (lo1 := [some (.long 1), none, some (.long 0), none, some (.long 3), none]) (st1 := [.int 1]) (h1 := zv_h0) rfl ?_
        refine Wp.ret rfl rfl rfl ?_
        show Wp _ _ 183 9 [some (.int 1), some (.int a2)] [.int 1] zv_h0 _
        refine Wp.steps 5 (pc1 := 18) (lo1 := [some (.int 1), some (.int a2)]) (st1 := [.long 2, .long 0, .long (a2).toInt64]) (h1 := zv_h0) rfl ?_
        refine Wp.call (as := [.long (a2).toInt64, .long 0, .long 2]) (rest := []) rfl rfl rfl rfl rfl rfl rfl rfl rfl ?_
        refine zin_F (Int32.toInt_toInt64 _) (by decide) (by decide) (show a2.toInt < (0 : Int) ∨ (2 : Int) < a2.toInt by omega) ?_
        show Wp _ _ 183 21 [some (.int 1), some (.int a2)] [.int 0] zv_h0 _
        refine Wp.steps 2 (pc1 := 29) (lo1 := [some (.int 1), some (.int a2)]) (st1 := [.int 0]) (h1 := zv_h0) rfl ?_
        refine Wp.ret rfl rfl rfl ?_
        show Wp _ _ 186 5 [some (.ref 113), some (.int 1), some (.int a2), some (.int a3), some (.int a4), none, none, none, none, none, none] [.int 0] zv_h0 _
        refine Wp.steps 2 (pc1 := 22) (lo1 := [some (.ref 113), some (.int 1), some (.int a2), some (.int a3), some (.int a4), none, none, none, none, none, none]) (st1 := [.int (-1)]) (h1 := zv_h0) rfl ?_
        exact Wp.ret rfl rfl rfl ⟨rfl, rfl⟩
    · skip
      rcases (by omega : (a4.toInt ≤ -1) ∨ (21 ≤ a4.toInt) ∨ (a4.toInt = 0) ∨ (a4.toInt = 1) ∨ (2 ≤ a4.toInt ∧ a4.toInt ≤ 20)) with h3 | h3 | h3 | h3 | h3
      · skip
        refine ⟨(-1), zv_h0, zv_h0, ?_, rfl, ?_, zv_len⟩
        · show Wp _ _ 87 0 [some (.ref 0), some (.int 1), some (.int a2), some (.int a3), some (.int a4), none, none, none, none, none] [] zv_h0 _
          refine Wp.steps 1 (pc1 := 1) (lo1 := [some (.ref 0), some (.int 1), some (.int a2), some (.int a3), some (.int a4), none, none, none, none, none]) (st1 := [.int 1]) (h1 := zv_h0) rfl ?_
          refine Wp.call (as := [.int 1]) (rest := []) rfl rfl rfl rfl rfl rfl rfl rfl rfl ?_
          show Wp _ _ 93 0 [some (.int 1)] [] zv_h0 _
          refine Wp.steps 6 (pc1 := 14) (lo1 := [some (.int 1)]) (st1 := [.int 0]) (h1 := zv_h0) rfl ?_
          refine Wp.ret rfl rfl rfl ?_
          show Wp _ _ 87 4 [some (.ref 0), some (.int 1), some (.int a2), some (.int a3), some (.int a4), none, none, none, none, none] [.int 0] zv_h0 _
          refine Wp.steps 2 (pc1 := 8) (lo1 := [some (.ref 0), some (.int 1), some (.int a2), some (.int a3), some (.int a4), none, none, none, none, none]) (st1 := [.int a2]) (h1 := zv_h0) rfl ?_
          refine Wp.call (as := [.int a2]) (rest := []) rfl rfl rfl rfl rfl rfl rfl rfl rfl ?_
          show Wp _ _ 94 0 [some (.int a2)] [] zv_h0 _
          refine Wp.steps 1 (pc1 := 1) (lo1 := [some (.int a2)]) (st1 := [.int a2]) (h1 := zv_h0) rfl ?_
          refine Wp.ifF (i := .nop) rfl (zq_F rfl (by decide) (show a2.toInt ≥ 0 by omega)) ?_
          show Wp _ _ 94 4 [some (.int a2)] [] zv_h0 _
          refine Wp.steps 2 (pc1 := 6) (lo1 := [some (.int a2)]) (st1 := [.int 2, .int a2]) (h1 := zv_h0) rfl ?_
          refine Wp.icT (i := .nop) rfl (zq_T rfl (by decide) (show a2.toInt ≤ 2 by omega)) ?_
          show Wp _ _ 94 13 [some (.int a2)] [] zv_h0 _
          refine Wp.steps 1 (pc1 := 14) (lo1 := [some (.int a2)]) (st1 := [.int 0]) (h1 := zv_h0) rfl ?_
          refine Wp.ret rfl rfl rfl ?_
          show Wp _ _ 87 11 [some (.ref 0), some (.int 1), some (.int a2), some (.int a3), some (.int a4), none, none, none, none, none] [.int 0] zv_h0 _
          refine Wp.steps 2 (pc1 := 16) (lo1 := [some (.ref 0), some (.int 1), some (.int a2), some (.int a3), some (.int a4), none, none, none, none, none]) (st1 := [.int a4]) (h1 := zv_h0) rfl ?_
          refine Wp.ifT (i := .nop) rfl (zq_T rfl (by decide) (show a4.toInt < 0 by omega)) ?_
          show Wp _ _ 87 26 [some (.ref 0), some (.int 1), some (.int a2), some (.int a3), some (.int a4), none, none, none, none, none] [] zv_h0 _
          refine Wp.steps 1 (pc1 := 27) (lo1 := [some (.ref 0), some (.int 1), some (.int a2), some (.int a3), some (.int a4), none, none, none, none, none]) (st1 := [.int (-1)]) (h1 := zv_h0) rfl ?_
          exact Wp.ret rfl rfl rfl ⟨rfl, rfl⟩
        · show Wp _ _ 186 0 [some (.ref 113), some (.int 1), some (.int a2), some (.int a3), some (.int a4), none, none, none, none, none, none] [] zv_h0 _
          refine Wp.steps 2 (pc1 := 2) (lo1 := [some (.ref 113), some (.int 1), some (.int a2), some (.int a3), some (.int a4), none, none, none, none, none, none]) (st1 := [.int a2, .int 1]) (h1 := zv_h0) rfl ?_
          refine Wp.call (as := [.int 1, .int a2]) (rest := []) rfl rfl rfl rfl rfl rfl rfl rfl rfl ?_
          show Wp _ _ 183 0 [some (.int 1), some (.int a2)] [] zv_h0 _
          refine Wp.steps 4 (pc1 := 6) (lo1 := [some (.int 1), some (.int a2)]) (st1 := [.long 3, .long 0, .long 1]) (h1 := zv_h0) rfl ?_
          refine Wp.call (as := [.long 1, .long 0, .long 3]) (rest := []) rfl rfl rfl rfl rfl rfl rfl rfl rfl ?_
          show Wp _ _ 107 0 [some (.long 1), none, some (.long 0), none, some (.long 3), none] [] zv_h0 _
          refine Wp.steps 9 (pc1 := 14) (lo1 := [some (.long 1), none, some (.long 0), none, some (.long 3), none]) (st1 := [.int 1]) (h1 := zv_h0) rfl ?_
          refine Wp.steps 1 (pc1 := 18) (lo1 := [some (.long 1), none, some (.long 0), none, some (.long 3), none]) (st1 := [.int 1]) (h1 := zv_h0) rfl ?_
          refine Wp.ret rfl rfl rfl ?_
          show Wp _ _ 183 9 [some (.int 1), some (.int a2)] [.int 1] zv_h0 _
          refine Wp.steps 5 (pc1 := 18) (lo1 := [some (.int 1), some (.int a2)]) (st1 := [.long 2, .long 0, .long (a2).toInt64]) (h1 := zv_h0) rfl ?_
          refine Wp.call (as := [.long (a2).toInt64, .long 0, .long 2]) (rest := []) rfl rfl rfl rfl rfl rfl rfl rfl rfl ?_
          refine zin_T (Int32.toInt_toInt64 _) (by decide) (by decide) (show (0 : Int) ≤ a2.toInt by omega) (show a2.toInt ≤ (2 : Int) by omega) ?_
          show Wp _ _ 183 21 [some (.int 1), some (.int a2)] [.int 1] zv_h0 _
          refine Wp.steps 3 (pc1 := 29) (lo1 := [some (.int 1), some (.int a2)]) (st1 := [.int 1]) (h1 := zv_h0) rfl ?_
          refine Wp.ret rfl rfl rfl ?_
          show Wp _ _ 186 5 [some (.ref 113), some (.int 1), some (.int a2), some (.int a3), some (.int a4), none, none, none, none, none, none] [.int 1] zv_h0 _
          refine Wp.steps 5 (pc1 := 15) (lo1 := [some (.ref 113), some (.int 1), some (.int a2), some (.int a3), some (.int a4), none, none, none, none, none, none]) (st1 := [.long 20, .long 0, .long (a4).toInt64]) (h1 := zv_h0) rfl ?_
          refine Wp.call (as := [.long (a4).toInt64, .long 0, .long 20]) (rest := []) rfl rfl rfl rfl rfl rfl rfl rfl rfl ?_
          refine zin_F (Int32.toInt_toInt64 _) (by decide) (by decide) (show a4.toInt < (0 : Int) ∨ (20 : Int) < a4.toInt by omega) ?_
          show Wp _ _ 186 18 [some (.ref 113), some (.int 1), some (.int a2), some (.int a3), some (.int a4), none, none, none, none, none, none] [.int 0] zv_h0 _
          refine Wp.steps 2 (pc1 := 22) (lo1 := [some (.ref 113), some (.int 1), some (.int a2), some (.int a3), some (.int a4), none, none, none, none, none, none]) (st1 := [.int (-1)]) (h1 := zv_h0) rfl ?_
          exact Wp.ret rfl rfl rfl ⟨rfl, rfl⟩
      · skip
        refine ⟨(-1), zv_h0, zv_h0, ?_, rfl, ?_, zv_len⟩
        · show Wp _ _ 87 0 [some (.ref 0), some (.int 1), some (.int a2), some (.int a3), some (.int a4), none, none, none, none, none] [] zv_h0 _
          refine Wp.steps 1 (pc1 := 1) (lo1 := [some (.ref 0), some (.int 1), some (.int a2), some (.int a3), some (.int a4), none, none, none, none, none]) (st1 := [.int 1]) (h1 := zv_h0) rfl ?_
          refine Wp.call (as := [.int 1]) (rest := []) rfl rfl rfl rfl rfl rfl rfl rfl rfl ?_
          show Wp _ _ 93 0 [some (.int 1)] [] zv_h0 _
          refine Wp.steps 6 (pc1 := 14) (lo1 := [some (.int 1)]) (st1 := [.int 0]) (h1 := zv_h0) rfl ?_
          refine Wp.ret rfl rfl rfl ?_
          show Wp _ _ 87 4 [some (.ref 0), some (.int 1), some (.int a2), some (.int a3), some (.int a4), none, none, none, none, none] [.int 0] zv_h0 _
          refine Wp.steps 2 (pc1 := 8) (lo1 := [some (.ref 0), some (.int 1), some (.int a2), some (.int a3), some (.int a4), none, none, none, none, none]) (st1 := [.int a2]) (h1 := zv_h0) rfl ?_
          refine Wp.call (as := [.int a2]) (rest := []) rfl rfl rfl rfl rfl rfl rfl rfl rfl ?_
          show Wp _ _ 94 0 [some (.int a2)] [] zv_h0 _
          refine Wp.steps 1 (pc1 := 1) (lo1 := [some (.int a2)]) (st1 := [.int a2]) (h1 := zv_h0) rfl ?_
          refine Wp.ifF (i := .nop) rfl (zq_F rfl (by decide) (show a2.toInt ≥ 0 by omega)) ?_
          show Wp _ _ 94 4 [some (.int a2)] [] zv_h0 _
          refine Wp.steps 2 (pc1 := 6) (lo1 := [some (.int a2)]) (st1 := [.int 2, .int a2]) (h1 := zv_h0) rfl ?_
          refine Wp.icT (i := .nop) rfl (zq_T rfl (by decide) (show a2.toInt ≤ 2 by omega)) ?_
          show Wp _ _ 94 13 [some (.int a2)] [] zv_h0 _
          refine Wp.steps 1 (pc1 := 14) (lo1 := [some (.int a2)]) (st1 := [.int 0]) (h1 := zv_h0) rfl ?_
          refine Wp.ret rfl rfl rfl ?_
          show Wp _ _ 87 11 [some (.ref 0), some (.int 1), some (.int a2), some (.int a3), some (.int a4), none, none, none, none, none] [.int 0] zv_h0 _
          refine Wp.steps 2 (pc1 := 16) (lo1 := [some (.ref 0), some (.int 1), some (.int a2), some (.int a3), some (.int a4), none, none, none, none, none]) (st1 := [.int a4]) (h1 := zv_h0) rfl ?_
          refine Wp.ifF (i := .nop) rfl (zq_F rfl (by decide) (show a4.toInt ≥ 0 by omega)) ?_
          show Wp _ _ 87 19 [some (.ref 0), some (.int 1), some (.int a2), some (.int a3), some (.int a4), none, none, none, none, none] [] zv_h0 _
          refine Wp.steps 2 (pc1 := 23) (lo1 := [some (.ref 0), some (.int 1), some (.int a2), some (.int a3), some (.int a4), none, none, none, none, none]) (st1 := [.int 20, .int a4]) (h1 := zv_h0) rfl ?_
          refine Wp.icF (i := .nop) rfl (zq_F rfl (by decide) (show a4.toInt > 20 by omega)) ?_
          show Wp _ _ 87 26 [some (.ref 0), some (.int 1), some (.int a2), some (.int a3), some (.int a4), none, none, none, none, none] [] zv_h0 _
          refine Wp.steps 1 (pc1 := 27) (lo1 := [some (.ref 0), some (.int 1), some (.int a2), some (.int a3), some (.int a4), none, none, none, none, none]) (st1 := [.int (-1)]) (h1 := zv_h0) rfl ?_
          exact Wp.ret rfl rfl rfl ⟨rfl, rfl⟩
        · show Wp _ _ 186 0 [some (.ref 113), some (.int 1), some (.int a2), some (.int a3), some (.int a4), none, none, none, none, none, none] [] zv_h0 _
          refine Wp.steps 2 (pc1 := 2) (lo1 := [some (.ref 113), some (.int 1), some (.int a2), some (.int a3), some (.int a4), none, none, none, none, none, none]) (st1 := [.int a2, .int 1]) (h1 := zv_h0) rfl ?_
          refine Wp.call (as := [.int 1, .int a2]) (rest := []) rfl rfl rfl rfl rfl rfl rfl rfl rfl ?_
          show Wp _ _ 183 0 [some (.int 1), some (.int a2)] [] zv_h0 _
          refine Wp.steps 4 (pc1 := 6) (lo1 := [some (.int 1), some (.int a2)]) (st1 := [.long 3, .long 0, .long 1]) (h1 := zv_h0) rfl ?_
          refine Wp.call (as := [.long 1, .long 0, .long 3]) (rest := []) rfl rfl rfl rfl rfl rfl rfl rfl rfl ?_
          show Wp _ _ 107 0 [some (.long 1), none, some (.long 0), none, some (.long 3), none] [] zv_h0 _
          refine Wp.steps 9 (pc1 := 14) (lo1 := [some (.long 1), none, some (.long 0), none, some (.long 3), none]) (st1 := [.int 1]) (h1 := zv_h0) rfl ?_
          refine Wp.steps 1 (pc1 := 18) (lo1 := [some (.long 1), none, some (.long 0), none, some (.long 3), none]) (st1 := [.int 1]) (h1 := zv_h0) rfl ?_
          refine Wp.ret rfl rfl rfl ?_
          show Wp _ _ 183 9 [some (.int 1), some (.int a2)] [.int 1] zv_h0 _
          refine Wp.steps 5 (pc1 := 18) (lo1 := [some (.int 1), some (.int a2)]) (st1 := [.long 2, .long 0, .long (a2).toInt64]) (h1 := zv_h0) rfl ?_
          refine Wp.call (as := [.long (a2).toInt64, .long 0, .long 2]) (rest := []) rfl rfl rfl rfl rfl rfl rfl rfl rfl ?_
          refine zin_T (Int32.toInt_toInt64 _) (by decide) (by decide) (show (0 : Int) ≤ a2.toInt by omega) (show a2.toInt ≤ (2 : Int) by omega) ?_
          show Wp _ _ 183 21 [some (.int 1), some (.int a2)] [.int 1] zv_h0 _
          refine Wp.steps 3 (pc1 := 29) (lo1 := [some (.int 1), some (.int a2)]) (st1 := [.int 1]) (h1 := zv_h0) rfl ?_
          refine Wp.ret rfl rfl rfl ?_
          show Wp _ _ 186 5 [some (.ref 113), some (.int 1), some (.int a2), some (.int a3), some (.int a4), none, none, none, none, none, none] [.int 1] zv_h0 _
          refine Wp.steps 5 (pc1 := 15) (lo1 := [some (.ref 113), some (.int 1), some (.int a2), some (.int a3), some (.int a4), none, none, none, none, none, none]) (st1 := [.long 20, .long 0, .long (a4).toInt64]) (h1 := zv_h0) rfl ?_
          refine Wp.call (as := [.long (a4).toInt64, .long 0, .long 20]) (rest := []) rfl rfl rfl rfl rfl rfl rfl rfl rfl ?_
          refine zin_F (Int32.toInt_toInt64 _) (by decide) (by decide) (show a4.toInt < (0 : Int) ∨ (20 : Int) < a4.toInt by omega) ?_
          show Wp _ _ 186 18 [some (.ref 113), some (.int 1), some (.int a2), some (.int a3), some (.int a4), none, none, none, none, none, none] [.int 0] zv_h0 _
          refine Wp.steps 2 (pc1 := 22) (lo1 := [some (.ref 113), some (.int 1), some (.int a2), some (.int a3), some (.int a4), none, none, none, none, none, none]) (st1 := [.int (-1)]) (h1 := zv_h0) rfl ?_
          exact Wp.ret rfl rfl rfl ⟨rfl, rfl⟩
      · skip
        obtain rfl : a4 = 0 := Int32.toInt_inj.mp (h3.trans (by decide))
        refine ⟨0, zv_h0, zv_h0, ?_, rfl, ?_, zv_len⟩
        · show Wp _ _ 87 0 [some (.ref 0), some (.int 1), some (.int a2), some (.int a3), some (.int 0), none, none, none, none, none] [] zv_h0 _
          refine Wp.steps 1 (pc1 := 1) (lo1 := [some (.ref 0), some (.int 1), some (.int a2), some (.int a3), some (.int 0), none, none, none, none, none]) (st1 := [.int 1]) (h1 := zv_h0) rfl ?_
          refine Wp.call (as := [.int 1]) (rest := []) rfl rfl rfl rfl rfl rfl rfl rfl rfl ?_
          show Wp _ _ 93 0 [some (.int 1)] [] zv_h0 _
          refine Wp.steps 6 (pc1 := 14) (lo1 := [some (.int 1)]) (st1 := [.int 0]) (h1 := zv_h0) rfl ?_
          refine Wp.ret rfl rfl rfl ?_
          show Wp _ _ 87 4 [some (.ref 0), some (.int 1), some (.int a2), some (.int a3), some (.int 0), none, none, none, none, none] [.int 0] zv_h0 _
          refine Wp.steps 2 (pc1 := 8) (lo1 := [some (.ref 0), some (.int 1), some (.int a2), some (.int a3), some (.int 0), none, none, none, none, none]) (st1 := [.int a2]) (h1 := zv_h0) rfl ?_
          refine Wp.call (as := [.int a2]) (rest := []) rfl rfl rfl rfl rfl rfl rfl rfl rfl ?_
          show Wp _ _ 94 0 [some (.int a2)] [] zv_h0 _
          refine Wp.steps 1 (pc1 := 1) (lo1 := [some (.int a2)]) (st1 := [.int a2]) (h1 := zv_h0) rfl ?_
          refine Wp.ifF (i := .nop) rfl (zq_F rfl (by decide) (show a2.toInt ≥ 0 by omega)) ?_
          show Wp _ _ 94 4 [some (.int a2)] [] zv_h0 _
          refine Wp.steps 2 (pc1 := 6) (lo1 := [some (.int a2)]) (st1 := [.int 2, .int a2]) (h1 := zv_h0) rfl ?_
          refine Wp.icT (i := .nop) rfl (zq_T rfl (by decide) (show a2.toInt ≤ 2 by omega)) ?_
          show Wp _ _ 94 13 [some (.int a2)] [] zv_h0 _
          refine Wp.steps 1 (pc1 := 14) (lo1 := [some (.int a2)]) (st1 := [.int 0]) (h1 := zv_h0) rfl ?_
          refine Wp.ret rfl rfl rfl ?_
          show Wp _ _ 87 11 [some (.ref 0), some (.int 1), some (.int a2), some (.int a3), some (.int 0), none, none, none, none, none] [.int 0] zv_h0 _
          refine Wp.steps 8 (pc1 := 32) (lo1 := [some (.ref 0), some (.int 1), some (.int a2), some (.int a3), some (.int 0), none, none, none, none, none]) (st1 := [.ref 104]) (h1 := zv_h0) rfl ?_
          refine Wp.steps 5 (pc1 := 39) (lo1 := [some (.ref 0), some (.int 1), some (.int a2), some (.int a3), some (.int 0), some (.ref 107), none, none, none, none]) (st1 := [.int a2, .ref 107]) (h1 := zv_h0) rfl ?_
          refine Wp.call (as := [.ref 107, .int a2]) (rest := []) rfl rfl rfl rfl rfl rfl rfl rfl rfl ?_
          show Wp _ _ 48 0 [some (.ref 107), some (.int a2)] [] zv_h0 _
          refine Wp.steps 1 (pc1 := 1) (lo1 := [some (.ref 107), some (.int a2)]) (st1 := [.ref 107]) (h1 := zv_h0) rfl ?_
          refine Wp.call (as := [.ref 107]) (rest := []) rfl rfl rfl rfl rfl rfl rfl rfl rfl ?_
          show Wp _ _ 46 0 [some (.ref 107)] [] zv_h0 _
          refine Wp.steps 6 (pc1 := 13) (lo1 := [some (.ref 107)]) (st1 := [.int 1]) (h1 := zv_h0) rfl ?_
          refine Wp.ret rfl rfl rfl ?_
          show Wp _ _ 48 4 [some (.ref 107), some (.int a2)] [.int 1] zv_h0 _
          refine Wp.steps 3 (pc1 := 20) (lo1 := [some (.ref 107), some (.int a2)]) (st1 := [.int 0]) (h1 := zv_h0) rfl ?_
          refine Wp.ret rfl rfl rfl ?_
          show Wp _ _ 87 42 [some (.ref 0), some (.int 1), some (.int a2), some (.int a3), some (.int 0), some (.ref 107), none, none, none, none] [.int 0] zv_h0 _
          refine Wp.steps 9 (pc1 := 128) (lo1 := [some (.ref 0), some (.int 1), some (.int a2), some (.int a3), some (.int 0), some (.ref 107), some (.int 0), some (.int 0), some (.int 0), none]) (st1 := [.int 0]) (h1 := zv_h0) rfl ?_
          refine Wp.steps 8 (pc1 := 188) (lo1 := [some (.ref 0), some (.int 1), some (.int a2), some (.int a3), some (.int 0), some (.ref 107), some (.int 0), some (.int 0), some (.int 0), none]) (st1 := [.int 0]) (h1 := zv_h0) rfl ?_
          exact Wp.ret rfl rfl rfl ⟨rfl, rfl⟩
        · show Wp _ _ 186 0 [some (.ref 113), some (.int 1), some (.int a2), some (.int a3), some (.int 0), none, none, none, none, none, none] [] zv_h0 _
          refine Wp.steps 2 (pc1 := 2) (lo1 := [some (.ref 113), some (.int 1), some (.int a2), some (.int a3), some (.int 0), none, none, none, none, none, none]) (st1 := [.int a2, .int 1]) (h1 := zv_h0) rfl ?_
          refine Wp.call (as := [.int 1, .int a2]) (rest := []) rfl rfl rfl rfl rfl rfl rfl rfl rfl ?_
          show Wp _ _ 183 0 [some (.int 1), some (.int a2)] [] zv_h0 _
          refine Wp.steps 4 (pc1 := 6) (lo1 := [some (.int 1), some (.int a2)]) (st1 := [.long 3, .long 0, .long 1]) (h1 := zv_h0) rfl ?_
          refine Wp.call (as := [.long 1, .long 0, .long 3]) (rest := []) rfl rfl rfl rfl rfl rfl rfl rfl rfl ?_
          show Wp _ _ 107 0 [some (.long 1), none, some (.long 0), none, some (.long 3), none] [] zv_h0 _
          refine Wp.steps 9 (pc1 := 14) (lo1 := [some (.long 1), none, some (.long 0), none, some (.long 3), none]) (st1 := [.int 1]) (h1 := zv_h0) rfl ?_
          refine Wp.steps 1 (pc1 := 18) (lo1 := [some (.long 1), none, some (.long 0), none, some (.long 3), none]) (st1 := [.int 1]) (h1 := zv_h0) rfl ?_
          refine Wp.ret rfl rfl rfl ?_
          show Wp _ _ 183 9 [some (.int 1), some (.int a2)] [.int 1] zv_h0 _
          refine Wp.steps 5 (pc1 := 18) (lo1 := [some (.int 1), some (.int a2)]) (st1 := [.long 2, .long 0, .long (a2).toInt64]) (h1 := zv_h0) rfl ?_
          refine Wp.call (as := [.long (a2).toInt64, .long 0, .long 2]) (rest := []) rfl rfl rfl rfl rfl rfl rfl rfl rfl ?_
          refine zin_T (Int32.toInt_toInt64 _) (by decide) (by decide) (show (0 : Int) ≤ a2.toInt by omega) (show a2.toInt ≤ (2 : Int) by omega) ?_
          show Wp _ _ 183 21 [some (.int 1), some (.int a2)] [.int 1] zv_h0 _
          refine Wp.steps 3 (pc1 := 29) (lo1 := [some (.int 1), some (.int a2)]) (st1 := [.int 1]) (h1 := zv_h0) rfl ?_
          refine Wp.ret rfl rfl rfl ?_
          show Wp _ _ 186 5 [some (.ref 113), some (.int 1), some (.int a2), some (.int a3), some (.int 0), none, none, none, none, none, none] [.int 1] zv_h0 _
          refine Wp.steps 5 (pc1 := 15) (lo1 := [some (.ref 113), some (.int 1), some (.int a2), some (.int a3), some (.int 0), none, none, none, none, none, none]) (st1 := [.long 20, .long 0, .long 0]) (h1 := zv_h0) rfl ?_
          refine Wp.call (as := [.long 0, .long 0, .long 20]) (rest := []) rfl rfl rfl rfl rfl rfl rfl rfl rfl ?_
          show Wp _ _ 107 0 [some (.long 0), none, some (.long 0), none, some (.long 20), none] [] zv_h0 _
          refine Wp.steps 9 (pc1 := 14) (lo1 := [some (.long 0), none, some (.long 0), none, some (.long 20), none]) (st1 := [.int 1]) (h1 := zv_h0) rfl ?_
          refine Wp.steps 1 (pc1 := 18) (lo1 := [some (.long 0), none, some (.long 0), none, some (.long 20), none]) (st1 := [.int 1]) (h1 := zv_h0) rfl ?_
          refine Wp.ret rfl rfl rfl ?_
          show Wp _ _ 186 18 [some (.ref 113), some (.int 1), some (.int a2), some (.int a3), some (.int 0), none, none, none, none, none, none] [.int 1] zv_h0 _
          refine Wp.steps 1 (pc1 := 23) (lo1 := [some (.ref 113), some (.int 1), some (.int a2), some (.int a3), some (.int 0), none, none, none, none, none, none]) (st1 := []) (h1 := zv_h0) rfl ?_
          refine zrd_0 1 a2 a3 0 ?_
          show Wp _ _ 186 53 [some (.ref 113), some (.int 1), some (.int a2), some (.int a3), some (.int 0), some (.int 8), none, none, none, none, none] [] zv_h0 _
          refine Wp.steps 8 (pc1 := 66) (lo1 := [some (.ref 113), some (.int 1), some (.int a2), some (.int a3), some (.int 0), some (.int 0), some (.int 0), some (.int 0), none, none, none]) (st1 := [.int 0, .int 0]) (h1 := zv_h0) rfl ?_
          refine Wp.steps 5 (pc1 := 266) (lo1 := [some (.ref 113), some (.int 1), some (.int a2), some (.int a3), some (.int 0), some (.int 0), some (.int 0), some (.int 0), none, none, none]) (st1 := [.int 0]) (h1 := zv_h0) rfl ?_
          exact Wp.ret rfl rfl rfl ⟨rfl, rfl⟩
      · skip
        obtain rfl : a4 = 1 := Int32.toInt_inj.mp (h3.trans (by decide))
        refine ⟨0, (zv_h0.set 0 (.inr (.inr (7, [.ref 1, .ref 30, .ref 25, .ref 28, .ref 54, .ref 55, .ref 104, .int 1])))), ((zv_h0.set 0 (.inr (.inr (7, [.ref 1, .ref 30, .ref 25, .ref 28, .ref 54, .ref 55, .ref 104, .int 1])))).set 113 (.inr (.inr (8, [.ref 114, .ref 115, .int 4, .int 0, .ref 116, .int 4, .int 0, .int 0, .int 0, .int 0, .int (-4), .int (-4), .int (-4), .ref 117, .int 0, .int 0, .int 0, .int 0, .int 0, .int 0, .int 0, .int 0, .ref 118, .ref 119, .ref 120, .ref 121, .int 1, .ref 122])))), ?_, rfl, ?_, (zv_ls rfl rfl (zv_ls rfl rfl zv_len))⟩
        · show Wp _ _ 87 0 [some (.ref 0), some (.int 1), some (.int a2), some (.int a3), some (.int 1), none, none, none, none, none] [] zv_h0 _
          refine Wp.steps 1 (pc1 := 1) (lo1 := [some (.ref 0), some (.int 1), some (.int a2), some (.int a3), some (.int 1), none, none, none, none, none]) (st1 := [.int 1]) (h1 := zv_h0) rfl ?_
          refine Wp.call (as := [.int 1]) (rest := []) rfl rfl rfl rfl rfl rfl rfl rfl rfl ?_
          show Wp _ _ 93 0 [some (.int 1)] [] zv_h0 _
          refine Wp.steps 6 (pc1 := 14) (lo1 := [some (.int 1)]) (st1 := [.int 0]) (h1 := zv_h0) rfl ?_
          refine Wp.ret rfl rfl rfl ?_
          show Wp _ _ 87 4 [some (.ref 0), some (.int 1), some (.int a2), some (.int a3), some (.int 1), none, none, none, none, none] [.int 0] zv_h0 _
          refine Wp.steps 2 (pc1 := 8) (lo1 := [some (.ref 0), some (.int 1), some (.int a2), some (.int a3), some (.int 1), none, none, none, none, none]) (st1 := [.int a2]) (h1 := zv_h0) rfl ?_
          refine Wp.call (as := [.int a2]) (rest := []) rfl rfl rfl rfl rfl rfl rfl rfl rfl ?_
          show Wp _ _ 94 0 [some (.int a2)] [] zv_h0 _
          refine Wp.steps 1 (pc1 := 1) (lo1 := [some (.int a2)]) (st1 := [.int a2]) (h1 := zv_h0) rfl ?_
          refine Wp.ifF (i := .nop) rfl (zq_F rfl (by decide) (show a2.toInt ≥ 0 by omega)) ?_
          show Wp _ _ 94 4 [some (.int a2)] [] zv_h0 _
          refine Wp.steps 2 (pc1 := 6) (lo1 := [some (.int a2)]) (st1 := [.int 2, .int a2]) (h1 := zv_h0) rfl ?_
          refine Wp.icT (i := .nop) rfl (zq_T rfl (by decide) (show a2.toInt ≤ 2 by omega)) ?_
          show Wp _ _ 94 13 [some (.int a2)] [] zv_h0 _
          refine Wp.steps 1 (pc1 := 14) (lo1 := [some (.int a2)]) (st1 := [.int 0]) (h1 := zv_h0) rfl ?_
          refine Wp.ret rfl rfl rfl ?_
          show Wp _ _ 87 11 [some (.ref 0), some (.int 1), some (.int a2), some (.int a3), some (.int 1), none, none, none, none, none] [.int 0] zv_h0 _
          refine Wp.steps 8 (pc1 := 32) (lo1 := [some (.ref 0), some (.int 1), some (.int a2), some (.int a3), some (.int 1), none, none, none, none, none]) (st1 := [.ref 104]) (h1 := zv_h0) rfl ?_
          refine Wp.steps 5 (pc1 := 39) (lo1 := [some (.ref 0), some (.int 1), some (.int a2), some (.int a3), some (.int 1), some (.ref 107), none, none, none, none]) (st1 := [.int a2, .ref 107]) (h1 := zv_h0) rfl ?_
          refine Wp.call (as := [.ref 107, .int a2]) (rest := []) rfl rfl rfl rfl rfl rfl rfl rfl rfl ?_
          show Wp _ _ 48 0 [some (.ref 107), some (.int a2)] [] zv_h0 _
          refine Wp.steps 1 (pc1 := 1) (lo1 := [some (.ref 107), some (.int a2)]) (st1 := [.ref 107]) (h1 := zv_h0) rfl ?_
          refine Wp.call (as := [.ref 107]) (rest := []) rfl rfl rfl rfl rfl rfl rfl rfl rfl ?_
          show Wp _ _ 46 0 [some (.ref 107)] [] zv_h0 _
          refine Wp.steps 6 (pc1 := 13) (lo1 := [some (.ref 107)]) (st1 := [.int 1]) (h1 := zv_h0) rfl ?_
          refine Wp.ret rfl rfl rfl ?_
          show Wp _ _ 48 4 [some (.ref 107), some (.int a2)] [.int 1] zv_h0 _
          refine Wp.steps 3 (pc1 := 20) (lo1 := [some (.ref 107), some (.int a2)]) (st1 := [.int 0]) (h1 := zv_h0) rfl ?_
          refine Wp.ret rfl rfl rfl ?_
          show Wp _ _ 87 42 [some (.ref 0), some (.int 1), some (.int a2), some (.int a3), some (.int 1), some (.ref 107), none, none, none, none] [.int 0] zv_h0 _
          refine Wp.steps 9 (pc1 := 59) (lo1 := [some (.ref 0), some (.int 1), some (.int a2), some (.int a3), some (.int 1), some (.ref 107), some (.int 0), some (.int 0), some (.int 0), none]) (st1 := [.int 0]) (h1 := zv_h0) rfl ?_
          refine Wp.steps 8 (pc1 := 72) (lo1 := [some (.ref 0), some (.int 1), some (.int a2), some (.int a3), some (.int 1), some (.ref 107), some (.int 0), some (.int 0), some (.int 0), some (.int (a3 + 0))]) (st1 := [.ref 107]) (h1 := zv_h0) rfl ?_
          refine Wp.steps 1 (pc1 := 74) (lo1 := [some (.ref 0), some (.int 1), some (.int a2), some (.int a3), some (.int 1), some (.ref 107), some (.int 0), some (.int 0), some (.int 0), some (.int (a3 + 0))]) (st1 := [.int (a3 + 0), .ref 107]) (h1 := zv_h0) rfl ?_
          refine Wp.call (as := [.ref 107, .int (a3 + 0)]) (rest := []) rfl rfl rfl rfl rfl rfl rfl rfl rfl ?_
          show Wp _ _ 50 0 [some (.ref 107), some (.int (a3 + 0)), none] [] zv_h0 _
          refine Wp.steps 2 (pc1 := 2) (lo1 := [some (.ref 107), some (.int (a3 + 0)), none]) (st1 := [.int (a3 + 0), .ref 107]) (h1 := zv_h0) rfl ?_
          refine Wp.call (as := [.ref 107, .int (a3 + 0)]) (rest := []) rfl rfl rfl rfl rfl rfl rfl rfl rfl ?_
          show Wp _ _ 49 0 [some (.ref 107), some (.int (a3 + 0))] [] zv_h0 _
          refine Wp.steps 1 (pc1 := 1) (lo1 := [some (.ref 107), some (.int (a3 + 0))]) (st1 := [.ref 107]) (h1 := zv_h0) rfl ?_
          refine Wp.call (as := [.ref 107]) (rest := []) rfl rfl rfl rfl rfl rfl rfl rfl rfl ?_
          show Wp _ _ 46 0 [some (.ref 107)] [] zv_h0 _
          refine Wp.steps 6 (pc1 := 13) (lo1 := [some (.ref 107)]) (st1 := [.int 1]) (h1 := zv_h0) rfl ?_
          refine Wp.ret rfl rfl rfl ?_
          show Wp _ _ 49 4 [some (.ref 107), some (.int (a3 + 0))] [.int 1] zv_h0 _
          refine Wp.steps 2 (pc1 := 8) (lo1 := [some (.ref 107), some (.int (a3 + 0))]) (st1 := [.int 1]) (h1 := zv_h0) rfl ?_
          refine Wp.ret rfl rfl rfl ?_
          show Wp _ _ 50 5 [some (.ref 107), some (.int (a3 + 0)), none] [.int 1] zv_h0 _
          refine Wp.steps 5 (pc1 := 21) (lo1 := [some (.ref 107), some (.int (a3 + 0)), some (.int 1)]) (st1 := [.int 1]) (h1 := zv_h0) rfl ?_
          refine Wp.ret rfl rfl rfl ?_
          show Wp _ _ 87 77 [some (.ref 0), some (.int 1), some (.int a2), some (.int a3), some (.int 1), some (.ref 107), some (.int 0), some (.int 0), some (.int 0), some (.int (a3 + 0))] [.int 1] zv_h0 _
          refine Wp.steps 9 (pc1 := 128) (lo1 := [some (.ref 0), some (.int 1), some (.int a2), some (.int a3), some (.int 1), some (.ref 107), some (.int 1), some (.int 0), some (.int 1), some (.int (a3 + 0))]) (st1 := [.int 0]) (h1 := zv_h0) rfl ?_
          refine Wp.steps 8 (pc1 := 188) (lo1 := [some (.ref 0), some (.int 1), some (.int a2), some (.int a3), some (.int 1), some (.ref 107), some (.int 1), some (.int 0), some (.int 0), some (.int (a3 + 0))]) (st1 := [.int 0]) (h1 := (zv_h0.set 0 (.inr (.inr (7, [.ref 1, .ref 30, .ref 25, .ref 28, .ref 54, .ref 55, .ref 104, .int 1]))))) rfl ?_
          exact Wp.ret rfl rfl rfl ⟨rfl, rfl⟩
        · show Wp _ _ 186 0 [some (.ref 113), some (.int 1), some (.int a2), some (.int a3), some (.int 1), none, none, none, none, none, none] [] (zv_h0.set 0 (.inr (.inr (7, [.ref 1, .ref 30, .ref 25, .ref 28, .ref 54, .ref 55, .ref 104, .int 1])))) _
          refine Wp.steps 2 (pc1 := 2) (lo1 := [some (.ref 113), some (.int 1), some (.int a2), some (.int a3), some (.int 1), none, none, none, none, none, none]) (st1 := [.int a2, .int 1]) (h1 := (zv_h0.set 0 (.inr (.inr (7, [.ref 1, .ref 30, .ref 25, .ref 28, .ref 54, .ref 55, .ref 104, .int 1]))))) rfl ?_
          refine Wp.call (as := [.int 1, .int a2]) (rest := []) rfl rfl rfl rfl rfl rfl rfl rfl rfl ?_
          show Wp _ _ 183 0 [some (.int 1), some (.int a2)] [] (zv_h0.set 0 (.inr (.inr (7, [.ref 1, .ref 30, .ref 25, .ref 28, .ref 54, .ref 55, .ref 104, .int 1])))) _
          refine Wp.steps 4 (pc1 := 6) (lo1 := [some (.int 1), some (.int a2)]) (st1 := [.long 3, .long 0, .long 1]) (h1 := (zv_h0.set 0 (.inr (.inr (7, [.ref 1, .ref 30, .ref 25, .ref 28, .ref 54, .ref 55, .ref 104, .int 1]))))) rfl ?_
          refine Wp.call (as := [.long 1, .long 0, .long 3]) (rest := []) rfl rfl rfl rfl rfl rfl rfl rfl rfl ?_
          show Wp _ _ 107 0 [some (.long 1), none, some (.long 0), none, some (.long 3), none] [] (zv_h0.set 0 (.inr (.inr (7, [.ref 1, .ref 30, .ref 25, .ref 28, .ref 54, .ref 55, .ref 104, .int 1])))) _
          refine Wp.steps 9 (pc1 := 14) (lo1 := [some (.long 1), none, some (.long 0), none, some (.long 3), none]) (st1 := [.int 1]) (h1 := (zv_h0.set 0 (.inr (.inr (7, [.ref 1, .ref 30, .ref 25, .ref 28, .ref 54, .ref 55, .ref 104, .int 1]))))) rfl ?_
          refine Wp.steps 1 (pc1 := 18) (lo1 := [some (.long 1), none, some (.long 0), none, some (.long 3), none]) (st1 := [.int 1]) (h1 := (zv_h0.set 0 (.inr (.inr (7, [.ref 1, .ref 30, .ref 25, .ref 28, .ref 54, .ref 55, .ref 104, .int 1]))))) rfl ?_
          refine Wp.ret rfl rfl rfl ?_
          show Wp _ _ 183 9 [some (.int 1), some (.int a2)] [.int 1] (zv_h0.set 0 (.inr (.inr (7, [.ref 1, .ref 30, .ref 25, .ref 28, .ref 54, .ref 55, .ref 104, .int 1])))) _
          refine Wp.steps 5 (pc1 := 18) (lo1 := [some (.int 1), some (.int a2)]) (st1 := [.long 2, .long 0, .long (a2).toInt64]) (h1 := (zv_h0.set 0 (.inr (.inr (7, [.ref 1, .ref 30, .ref 25, .ref 28, .ref 54, .ref 55, .ref 104, .int 1]))))) rfl ?_
          refine Wp.call (as := [.long (a2).toInt64, .long 0, .long 2]) (rest := []) rfl rfl rfl rfl rfl rfl rfl rfl rfl ?_
          refine zin_T (Int32.toInt_toInt64 _) (by decide) (by decide) (show (0 : Int) ≤ a2.toInt by omega) (show a2.toInt ≤ (2 : Int) by omega) ?_
          show Wp _ _ 183 21 [some (.int 1), some (.int a2)] [.int 1] (zv_h0.set 0 (.inr (.inr (7, [.ref 1, .ref 30, .ref 25, .ref 28, .ref 54, .ref 55, .ref 104, .int 1])))) _
          refine Wp.steps 3 (pc1 := 29) (lo1 := [some (.int 1), some (.int a2)]) (st1 := [.int 1]) (h1 := (zv_h0.set 0 (.inr (.inr (7, [.ref 1, .ref 30, .ref 25, .ref 28, .ref 54, .ref 55, .ref 104, .int 1]))))) rfl ?_
          refine Wp.ret rfl rfl rfl ?_
          show Wp _ _ 186 5 [some (.ref 113), some (.int 1), some (.int a2), some (.int a3), some (.int 1), none, none, none, none, none, none] [.int 1] (zv_h0.set 0 (.inr (.inr (7, [.ref 1, .ref 30, .ref 25, .ref 28, .ref 54, .ref 55, .ref 104, .int 1])))) _
          refine Wp.steps 5 (pc1 := 15) (lo1 := [some (.ref 113), some (.int 1), some (.int a2), some (.int a3), some (.int 1), none, none, none, none, none, none]) (st1 := [.long 20, .long 0, .long 1]) (h1 := (zv_h0.set 0 (.inr (.inr (7, [.ref 1, .ref 30, .ref 25, .ref 28, .ref 54, .ref 55, .ref 104, .int 1]))))) rfl ?_
          refine Wp.call (as := [.long 1, .long 0, .long 20]) (rest := []) rfl rfl rfl rfl rfl rfl rfl rfl rfl ?_
          show Wp _ _ 107 0 [some (.long 1), none, some (.long 0), none, some (.long 20), none] [] (zv_h0.set 0 (.inr (.inr (7, [.ref 1, .ref 30, .ref 25, .ref 28, .ref 54, .ref 55, .ref 104, .int 1])))) _
          refine Wp.steps 9 (pc1 := 14) (lo1 := [some (.long 1), none, some (.long 0), none, some (.long 20), none]) (st1 := [.int 1]) (h1 := (zv_h0.set 0 (.inr (.inr (7, [.ref 1, .ref 30, .ref 25, .ref 28, .ref 54, .ref 55, .ref 104, .int 1]))))) rfl ?_
          refine Wp.steps 1 (pc1 := 18) (lo1 := [some (.long 1), none, some (.long 0), none, some (.long 20), none]) (st1 := [.int 1]) (h1 := (zv_h0.set 0 (.inr (.inr (7, [.ref 1, .ref 30, .ref 25, .ref 28, .ref 54, .ref 55, .ref 104, .int 1]))))) rfl ?_
          refine Wp.ret rfl rfl rfl ?_
          show Wp _ _ 186 18 [some (.ref 113), some (.int 1), some (.int a2), some (.int a3), some (.int 1), none, none, none, none, none, none] [.int 1] (zv_h0.set 0 (.inr (.inr (7, [.ref 1, .ref 30, .ref 25, .ref 28, .ref 54, .ref 55, .ref 104, .int 1])))) _
          refine Wp.steps 1 (pc1 := 23) (lo1 := [some (.ref 113), some (.int 1), some (.int a2), some (.int a3), some (.int 1), none, none, none, none, none, none]) (st1 := []) (h1 := (zv_h0.set 0 (.inr (.inr (7, [.ref 1, .ref 30, .ref 25, .ref 28, .ref 54, .ref 55, .ref 104, .int 1]))))) rfl ?_
          refine zrd_1 1 a2 a3 1 ?_
          show Wp _ _ 186 53 [some (.ref 113), some (.int 1), some (.int a2), some (.int a3), some (.int 1), some (.int 8), none, none, none, none, none] [] (zv_h0.set 0 (.inr (.inr (7, [.ref 1, .ref 30, .ref 25, .ref 28, .ref 54, .ref 55, .ref 104, .int 1])))) _
          refine Wp.steps 8 (pc1 := 66) (lo1 := [some (.ref 113), some (.int 1), some (.int a2), some (.int a3), some (.int 1), some (.int 0), some (.int 0), some (.int 0), none, none, none]) (st1 := [.int 1, .int 0]) (h1 := (zv_h0.set 0 (.inr (.inr (7, [.ref 1, .ref 30, .ref 25, .ref 28, .ref 54, .ref 55, .ref 104, .int 1]))))) rfl ?_
          refine Wp.steps 9 (pc1 := 85) (lo1 := [some (.ref 113), some (.int 1), some (.int a2), some (.int a3), some (.int 1), some (.int 0), some (.int 0), some (.int 0), some (.int 0), none, none]) (st1 := [.int 0]) (h1 := (zv_h0.set 0 (.inr (.inr (7, [.ref 1, .ref 30, .ref 25, .ref 28, .ref 54, .ref 55, .ref 104, .int 1]))))) rfl ?_
          refine Wp.steps 8 (pc1 := 96) (lo1 := [some (.ref 113), some (.int 1), some (.int a2), some (.int a3), some (.int 1), some (.int 0), some (.int 0), some (.int 0), some (.int 0), none, none]) (st1 := [.long ((a3).toInt64 + 0)]) (h1 := (zv_h0.set 0 (.inr (.inr (7, [.ref 1, .ref 30, .ref 25, .ref 28, .ref 54, .ref 55, .ref 104, .int 1]))))) rfl ?_
          refine Wp.steps 8 (pc1 := 108) (lo1 := [some (.ref 113), some (.int 1), some (.int a2), some (.int a3), some (.int 1), some (.int 0), some (.int 0), some (.int 0), some (.int 0), some (.long (((a3).toInt64 + 0) + 0)), none]) (st1 := [.int (-4)]) (h1 := (zv_h0.set 0 (.inr (.inr (7, [.ref 1, .ref 30, .ref 25, .ref 28, .ref 54, .ref 55, .ref 104, .int 1]))))) rfl ?_
          refine Wp.steps 8 (pc1 := 79) (lo1 := [some (.ref 113), some (.int 1), some (.int a2), some (.int a3), some (.int 1), some (.int 1), some (.int 0), some (.int 0), some (.int 1), some (.long (((a3).toInt64 + 0) + 0)), none]) (st1 := [.int 1]) (h1 := (zv_h0.set 0 (.inr (.inr (7, [.ref 1, .ref 30, .ref 25, .ref 28, .ref 54, .ref 55, .ref 104, .int 1]))))) rfl ?_
          refine Wp.steps 8 (pc1 := 62) (lo1 := [some (.ref 113), some (.int 1), some (.int a2), some (.int a3), some (.int 1), some (.int 1), some (.int 0), some (.int 1), some (.int 1), some (.long (((a3).toInt64 + 0) + 0)), none]) (st1 := []) (h1 := (zv_h0.set 0 (.inr (.inr (7, [.ref 1, .ref 30, .ref 25, .ref 28, .ref 54, .ref 55, .ref 104, .int 1]))))) rfl ?_
          refine Wp.steps 7 (pc1 := 266) (lo1 := [some (.ref 113), some (.int 1), some (.int a2), some (.int a3), some (.int 1), some (.int 1), some (.int 0), some (.int 1), some (.int 1), some (.long (((a3).toInt64 + 0) + 0)), none]) (st1 := [.int 0]) (h1 := ((zv_h0.set 0 (.inr (.inr (7, [.ref 1, .ref 30, .ref 25, .ref 28, .ref 54, .ref 55, .ref 104, .int 1])))).set 113 (.inr (.inr (8, [.ref 114, .ref 115, .int 4, .int 0, .ref 116, .int 4, .int 0, .int 0, .int 0, .int 0, .int (-4), .int (-4), .int (-4), .ref 117, .int 0, .int 0, .int 0, .int 0, .int 0, .int 0, .int 0, .int 0, .ref 118, .ref 119, .ref 120, .ref 121, .int 1, .ref 122]))))) rfl ?_
          exact Wp.ret rfl rfl rfl ⟨rfl, rfl⟩
      · skip
        refine ⟨0, (zv_h0.set 0 (.inr (.inr (7, [.ref 1, .ref 30, .ref 25, .ref 28, .ref 54, .ref 55, .ref 104, .int 1])))), ((zv_h0.set 0 (.inr (.inr (7, [.ref 1, .ref 30, .ref 25, .ref 28, .ref 54, .ref 55, .ref 104, .int 1])))).set 113 (.inr (.inr (8, [.ref 114, .ref 115, .int 4, .int 0, .ref 116, .int 4, .int 0, .int 0, .int 0, .int 0, .int (-4), .int (-4), .int (-4), .ref 117, .int 0, .int 0, .int 0, .int 0, .int 0, .int 0, .int 0, .int 0, .ref 118, .ref 119, .ref 120, .ref 121, .int 1, .ref 122])))), ?_, rfl, ?_, (zv_ls rfl rfl (zv_ls rfl rfl zv_len))⟩
        · show Wp _ _ 87 0 [some (.ref 0), some (.int 1), some (.int a2), some (.int a3), some (.int a4), none, none, none, none, none] [] zv_h0 _
          refine Wp.steps 1 (pc1 := 1) (lo1 := [some (.ref 0), some (.int 1), some (.int a2), some (.int a3), some (.int a4), none, none, none, none, none]) (st1 := [.int 1]) (h1 := zv_h0) rfl ?_
          refine Wp.call (as := [.int 1]) (rest := []) rfl rfl rfl rfl rfl rfl rfl rfl rfl ?_
          show Wp _ _ 93 0 [some (.int 1)] [] zv_h0 _
          refine Wp.steps 6 (pc1 := 14) (lo1 := [some (.int 1)]) (st1 := [.int 0]) (h1 := zv_h0) rfl ?_
          refine Wp.ret rfl rfl rfl ?_
          show Wp _ _ 87 4 [some (.ref 0), some (.int 1), some (.int a2), some (.int a3), some (.int a4), none, none, none, none, none] [.int 0] zv_h0 _
          refine Wp.steps 2 (pc1 := 8) (lo1 := [some (.ref 0), some (.int 1), some (.int a2), some (.int a3), some (.int a4), none, none, none, none, none]) (st1 := [.int a2]) (h1 := zv_h0) rfl ?_
          refine Wp.call (as := [.int a2]) (rest := []) rfl rfl rfl rfl rfl rfl rfl rfl rfl ?_
          show Wp _ _ 94 0 [some (.int a2)] [] zv_h0 _
          refine Wp.steps 1 (pc1 := 1) (lo1 := [some (.int a2)]) (st1 := [.int a2]) (h1 := zv_h0) rfl ?_
          refine Wp.ifF (i := .nop) rfl (zq_F rfl (by decide) (show a2.toInt ≥ 0 by omega)) ?_
          show Wp _ _ 94 4 [some (.int a2)] [] zv_h0 _
          refine Wp.steps 2 (pc1 := 6) (lo1 := [some (.int a2)]) (st1 := [.int 2, .int a2]) (h1 := zv_h0) rfl ?_
          refine Wp.icT (i := .nop) rfl (zq_T rfl (by decide) (show a2.toInt ≤ 2 by omega)) ?_
          show Wp _ _ 94 13 [some (.int a2)] [] zv_h0 _
          refine Wp.steps 1 (pc1 := 14) (lo1 := [some (.int a2)]) (st1 := [.int 0]) (h1 := zv_h0) rfl ?_
          refine Wp.ret rfl rfl rfl ?_
          show Wp _ _ 87 11 [some (.ref 0), some (.int 1), some (.int a2), some (.int a3), some (.int a4), none, none, none, none, none] [.int 0] zv_h0 _
          refine Wp.steps 2 (pc1 := 16) (lo1 := [some (.ref 0), some (.int 1), some (.int a2), some (.int a3), some (.int a4), none, none, none, none, none]) (st1 := [.int a4]) (h1 := zv_h0) rfl ?_
          refine Wp.ifF (i := .nop) rfl (zq_F rfl (by decide) (show a4.toInt ≥ 0 by omega)) ?_
          show Wp _ _ 87 19 [some (.ref 0), some (.int 1), some (.int a2), some (.int a3), some (.int a4), none, none, none, none, none] [] zv_h0 _
          refine Wp.steps 2 (pc1 := 23) (lo1 := [some (.ref 0), some (.int 1), some (.int a2), some (.int a3), some (.int a4), none, none, none, none, none]) (st1 := [.int 20, .int a4]) (h1 := zv_h0) rfl ?_
          refine Wp.icT (i := .nop) rfl (zq_T rfl (by decide) (show a4.toInt ≤ 20 by omega)) ?_
          show Wp _ _ 87 28 [some (.ref 0), some (.int 1), some (.int a2), some (.int a3), some (.int a4), none, none, none, none, none] [] zv_h0 _
          refine Wp.steps 7 (pc1 := 39) (lo1 := [some (.ref 0), some (.int 1), some (.int a2), some (.int a3), some (.int a4), some (.ref 107), none, none, none, none]) (st1 := [.int a2, .ref 107]) (h1 := zv_h0) rfl ?_
          refine Wp.call (as := [.ref 107, .int a2]) (rest := []) rfl rfl rfl rfl rfl rfl rfl rfl rfl ?_
          show Wp _ _ 48 0 [some (.ref 107), some (.int a2)] [] zv_h0 _
          refine Wp.steps 1 (pc1 := 1) (lo1 := [some (.ref 107), some (.int a2)]) (st1 := [.ref 107]) (h1 := zv_h0) rfl ?_
          refine Wp.call (as := [.ref 107]) (rest := []) rfl rfl rfl rfl rfl rfl rfl rfl rfl ?_
          show Wp _ _ 46 0 [some (.ref 107)] [] zv_h0 _
          refine Wp.steps 6 (pc1 := 13) (lo1 := [some (.ref 107)]) (st1 := [.int 1]) (h1 := zv_h0) rfl ?_
          refine Wp.ret rfl rfl rfl ?_
          show Wp _ _ 48 4 [some (.ref 107), some (.int a2)] [.int 1] zv_h0 _
          refine Wp.steps 3 (pc1 := 20) (lo1 := [some (.ref 107), some (.int a2)]) (st1 := [.int 0]) (h1 := zv_h0) rfl ?_
          refine Wp.ret rfl rfl rfl ?_
          show Wp _ _ 87 42 [some (.ref 0), some (.int 1), some (.int a2), some (.int a3), some (.int a4), some (.ref 107), none, none, none, none] [.int 0] zv_h0 _
          refine Wp.steps 7 (pc1 := 54) (lo1 := [some (.ref 0), some (.int 1), some (.int a2), some (.int a3), some (.int a4), some (.ref 107), some (.int 0), some (.int 0), some (.int 0), none]) (st1 := [.int a4, .int 0]) (h1 := zv_h0) rfl ?_
          refine Wp.icF (i := .nop) rfl (zq_F (by decide) rfl (show 0 < a4.toInt by omega)) ?_
          show Wp _ _ 87 57 [some (.ref 0), some (.int 1), some (.int a2), some (.int a3), some (.int a4), some (.ref 107), some (.int 0), some (.int 0), some (.int 0), none] [] zv_h0 _
          refine Wp.steps 8 (pc1 := 70) (lo1 := [some (.ref 0), some (.int 1), some (.int a2), some (.int a3), some (.int a4), some (.ref 107), some (.int 0), some (.int 0), some (.int 0), some (.int (a3 + 0))]) (st1 := []) (h1 := zv_h0) rfl ?_
          refine Wp.steps 2 (pc1 := 74) (lo1 := [some (.ref 0), some (.int 1), some (.int a2), some (.int a3), some (.int a4), some (.ref 107), some (.int 0), some (.int 0), some (.int 0), some (.int (a3 + 0))]) (st1 := [.int (a3 + 0), .ref 107]) (h1 := zv_h0) rfl ?_
          refine Wp.call (as := [.ref 107, .int (a3 + 0)]) (rest := []) rfl rfl rfl rfl rfl rfl rfl rfl rfl ?_
          show Wp _ _ 50 0 [some (.ref 107), some (.int (a3 + 0)), none] [] zv_h0 _
          refine Wp.steps 2 (pc1 := 2) (lo1 := [some (.ref 107), some (.int (a3 + 0)), none]) (st1 := [.int (a3 + 0), .ref 107]) (h1 := zv_h0) rfl ?_
          refine Wp.call (as := [.ref 107, .int (a3 + 0)]) (rest := []) rfl rfl rfl rfl rfl rfl rfl rfl rfl ?_
          show Wp _ _ 49 0 [some (.ref 107), some (.int (a3 + 0))] [] zv_h0 _
          refine Wp.steps 1 (pc1 := 1) (lo1 := [some (.ref 107), some (.int (a3 + 0))]) (st1 := [.ref 107]) (h1 := zv_h0) rfl ?_
          refine Wp.call (as := [.ref 107]) (rest := []) rfl rfl rfl rfl rfl rfl rfl rfl rfl ?_
          show Wp _ _ 46 0 [some (.ref 107)] [] zv_h0 _
          refine Wp.steps 6 (pc1 := 13) (lo1 := [some (.ref 107)]) (st1 := [.int 1]) (h1 := zv_h0) rfl ?_
          refine Wp.ret rfl rfl rfl ?_
          show Wp _ _ 49 4 [some (.ref 107), some (.int (a3 + 0))] [.int 1] zv_h0 _
          refine Wp.steps 2 (pc1 := 8) (lo1 := [some (.ref 107), some (.int (a3 + 0))]) (st1 := [.int 1]) (h1 := zv_h0) rfl ?_
          refine Wp.ret rfl rfl rfl ?_
          show Wp _ _ 50 5 [some (.ref 107), some (.int (a3 + 0)), none] [.int 1] zv_h0 _
          refine Wp.steps 5 (pc1 := 21) (lo1 := [some (.ref 107), some (.int (a3 + 0)), some (.int 1)]) (st1 := [.int 1]) (h1 := zv_h0) rfl ?_
          refine Wp.ret rfl rfl rfl ?_
          show Wp _ _ 87 77 [some (.ref 0), some (.int 1), some (.int a2), some (.int a3), some (.int a4), some (.ref 107), some (.int 0), some (.int 0), some (.int 0), some (.int (a3 + 0))] [.int 1] zv_h0 _
          refine Wp.steps 7 (pc1 := 54) (lo1 := [some (.ref 0), some (.int 1), some (.int a2), some (.int a3), some (.int a4), some (.ref 107), some (.int 1), some (.int 0), some (.int 1), some (.int (a3 + 0))]) (st1 := [.int a4, .int 1]) (h1 := zv_h0) rfl ?_
          refine Wp.icF (i := .nop) rfl (zq_F (by decide) rfl (show 1 < a4.toInt by omega)) ?_
          show Wp _ _ 87 57 [some (.ref 0), some (.int 1), some (.int a2), some (.int a3), some (.int a4), some (.ref 107), some (.int 1), some (.int 0), some (.int 1), some (.int (a3 + 0))] [] zv_h0 _
          refine Wp.steps 8 (pc1 := 181) (lo1 := [some (.ref 0), some (.int 1), some (.int a2), some (.int a3), some (.int a4), some (.ref 107), some (.int 1), some (.int 0), some (.int 0), some (.int (a3 + 0))]) (st1 := [.ref 0]) (h1 := zv_h0) rfl ?_
          refine Wp.steps 3 (pc1 := 188) (lo1 := [some (.ref 0), some (.int 1), some (.int a2), some (.int a3), some (.int a4), some (.ref 107), some (.int 1), some (.int 0), some (.int 0), some (.int (a3 + 0))]) (st1 := [.int 0]) (h1 := (zv_h0.set 0 (.inr (.inr (7, [.ref 1, .ref 30, .ref 25, .ref 28, .ref 54, .ref 55, .ref 104, .int 1]))))) rfl ?_
          exact Wp.ret rfl rfl rfl ⟨rfl, rfl⟩
        · show Wp _ _ 186 0 [some (.ref 113), some (.int 1), some (.int a2), some (.int a3), some (.int a4), none, none, none, none, none, none] [] (zv_h0.set 0 (.inr (.inr (7, [.ref 1, .ref 30, .ref 25, .ref 28, .ref 54, .ref 55, .ref 104, .int 1])))) _
          refine Wp.steps 2 (pc1 := 2) (lo1 := [some (.ref 113), some (.int 1), some (.int a2), some (.int a3), some (.int a4), none, none, none, none, none, none]) (st1 := [.int a2, .int 1]) (h1 := (zv_h0.set 0 (.inr (.inr (7, [.ref 1, .ref 30, .ref 25, .ref 28, .ref 54, .ref 55, .ref 104, .int 1]))))) rfl ?_
          refine Wp.call (as := [.int 1, .int a2]) (rest := []) rfl rfl rfl rfl rfl rfl rfl rfl rfl ?_
          show Wp _ _ 183 0 [some (.int 1), some (.int a2)] [] (zv_h0.set 0 (.inr (.inr (7, [.ref 1, .ref 30, .ref 25, .ref 28, .ref 54, .ref 55, .ref 104, .int 1])))) _
          refine Wp.steps 4 (pc1 := 6) (lo1 := [some (.int 1), some (.int a2)]) (st1 := [.long 3, .long 0, .long 1]) (h1 := (zv_h0.set 0 (.inr (.inr (7, [.ref 1, .ref 30, .ref 25, .ref 28, .ref 54, .ref 55, .ref 104, .int 1]))))) rfl ?_
          refine Wp.call (as := [.long 1, .long 0, .long 3]) (rest := []) rfl rfl rfl rfl rfl rfl rfl rfl rfl ?_
          show Wp _ _ 107 0 [some (.long 1), none, some (.long 0), none, some (.long 3), none] [] (zv_h0.set 0 (.inr (.inr (7, [.ref 1, .ref 30, .ref 25, .ref 28, .ref 54, .ref 55, .ref 104, .int 1])))) _
          refine Wp.steps 9 (pc1 := 14) (lo1 := [some (.long 1), none, some (.long 0), none, some (.long 3), none]) (st1 := [.int 1]) (h1 := (zv_h0.set 0 (.inr (.inr (7, [.ref 1, .ref 30, .ref 25, .ref 28, .ref 54, .ref 55, .ref 104, .int 1]))))) rfl ?_
          refine Wp.steps 1 (pc1 := 18) (lo1 := [some (.long 1), none, some (.long 0), none, some (.long 3), none]) (st1 := [.int 1]) (h1 := (zv_h0.set 0 (.inr (.inr (7, [.ref 1, .ref 30, .ref 25, .ref 28, .ref 54, .ref 55, .ref 104, .int 1]))))) rfl ?_
          refine Wp.ret rfl rfl rfl ?_
          show Wp _ _ 183 9 [some (.int 1), some (.int a2)] [.int 1] (zv_h0.set 0 (.inr (.inr (7, [.ref 1, .ref 30, .ref 25, .ref 28, .ref 54, .ref 55, .ref 104, .int 1])))) _
          refine Wp.steps 5 (pc1 := 18) (lo1 := [some (.int 1), some (.int a2)]) (st1 := [.long 2, .long 0, .long (a2).toInt64]) (h1 := (zv_h0.set 0 (.inr (.inr (7, [.ref 1, .ref 30, .ref 25, .ref 28, .ref 54, .ref 55, .ref 104, .int 1]))))) rfl ?_
          refine Wp.call (as := [.long (a2).toInt64, .long 0, .long 2]) (rest := []) rfl rfl rfl rfl rfl rfl rfl rfl rfl ?_
          refine zin_T (Int32.toInt_toInt64 _) (by decide) (by decide) (show (0 : Int) ≤ a2.toInt by omega) (show a2.toInt ≤ (2 : Int) by omega) ?_
          show Wp _ _ 183 21 [some (.int 1), some (.int a2)] [.int 1] (zv_h0.set 0 (.inr (.inr (7, [.ref 1, .ref 30, .ref 25, .ref 28, .ref 54, .ref 55, .ref 104, .int 1])))) _
          refine Wp.steps 3 (pc1 := 29) (lo1 := [some (.int 1), some (.int a2)]) (st1 := [.int 1]) (h1 := (zv_h0.set 0 (.inr (.inr (7, [.ref 1, .ref 30, .ref 25, .ref 28, .ref 54, .ref 55, .ref 104, .int 1]))))) rfl ?_
          refine Wp.ret rfl rfl rfl ?_
          show Wp _ _ 186 5 [some (.ref 113), some (.int 1), some (.int a2), some (.int a3), some (.int a4), none, none, none, none, none, none] [.int 1] (zv_h0.set 0 (.inr (.inr (7, [.ref 1, .ref 30, .ref 25, .ref 28, .ref 54, .ref 55, .ref 104, .int 1])))) _
          refine Wp.steps 5 (pc1 := 15) (lo1 := [some (.ref 113), some (.int 1), some (.int a2), some (.int a3), some (.int a4), none, none, none, none, none, none]) (st1 := [.long 20, .long 0, .long (a4).toInt64]) (h1 := (zv_h0.set 0 (.inr (.inr (7, [.ref 1, .ref 30, .ref 25, .ref 28, .ref 54, .ref 55, .ref 104, .int 1]))))) rfl ?_
          refine Wp.call (as := [.long (a4).toInt64, .long 0, .long 20]) (rest := []) rfl rfl rfl rfl rfl rfl rfl rfl rfl ?_
          refine zin_T (Int32.toInt_toInt64 _) (by decide) (by decide) (show (0 : Int) ≤ a4.toInt by omega) (show a4.toInt ≤ (20 : Int) by omega) ?_
          show Wp _ _ 186 18 [some (.ref 113), some (.int 1), some (.int a2), some (.int a3), some (.int a4), none, none, none, none, none, none] [.int 1] (zv_h0.set 0 (.inr (.inr (7, [.ref 1, .ref 30, .ref 25, .ref 28, .ref 54, .ref 55, .ref 104, .int 1])))) _
          refine Wp.steps 1 (pc1 := 23) (lo1 := [some (.ref 113), some (.int 1), some (.int a2), some (.int a3), some (.int a4), none, none, none, none, none, none]) (st1 := []) (h1 := (zv_h0.set 0 (.inr (.inr (7, [.ref 1, .ref 30, .ref 25, .ref 28, .ref 54, .ref 55, .ref 104, .int 1]))))) rfl ?_
          refine zrd_1 1 a2 a3 a4 ?_
          show Wp _ _ 186 53 [some (.ref 113), some (.int 1), some (.int a2), some (.int a3), some (.int a4), some (.int 8), none, none, none, none, none] [] (zv_h0.set 0 (.inr (.inr (7, [.ref 1, .ref 30, .ref 25, .ref 28, .ref 54, .ref 55, .ref 104, .int 1])))) _
          refine Wp.steps 8 (pc1 := 66) (lo1 := [some (.ref 113), some (.int 1), some (.int a2), some (.int a3), some (.int a4), some (.int 0), some (.int 0), some (.int 0), none, none, none]) (st1 := [.int a4, .int 0]) (h1 := (zv_h0.set 0 (.inr (.inr (7, [.ref 1, .ref 30, .ref 25, .ref 28, .ref 54, .ref 55, .ref 104, .int 1]))))) rfl ?_
          refine Wp.icF (i := .nop) rfl (zq_F (by decide) rfl (show 0 < a4.toInt by omega)) ?_
          show Wp _ _ 186 69 [some (.ref 113), some (.int 1), some (.int a2), some (.int a3), some (.int a4), some (.int 0), some (.int 0), some (.int 0), none, none, none] [] (zv_h0.set 0 (.inr (.inr (7, [.ref 1, .ref 30, .ref 25, .ref 28, .ref 54, .ref 55, .ref 104, .int 1])))) _
          refine Wp.steps 8 (pc1 := 85) (lo1 := [some (.ref 113), some (.int 1), some (.int a2), some (.int a3), some (.int a4), some (.int 0), some (.int 0), some (.int 0), some (.int 0), none, none]) (st1 := [.int 0]) (h1 := (zv_h0.set 0 (.inr (.inr (7, [.ref 1, .ref 30, .ref 25, .ref 28, .ref 54, .ref 55, .ref 104, .int 1]))))) rfl ?_
          refine Wp.steps 8 (pc1 := 96) (lo1 := [some (.ref 113), some (.int 1), some (.int a2), some (.int a3), some (.int a4), some (.int 0), some (.int 0), some (.int 0), some (.int 0), none, none]) (st1 := [.long ((a3).toInt64 + 0)]) (h1 := (zv_h0.set 0 (.inr (.inr (7, [.ref 1, .ref 30, .ref 25, .ref 28, .ref 54, .ref 55, .ref 104, .int 1]))))) rfl ?_
          refine Wp.steps 8 (pc1 := 108) (lo1 := [some (.ref 113), some (.int 1), some (.int a2), some (.int a3), some (.int a4), some (.int 0), some (.int 0), some (.int 0), some (.int 0), some (.long (((a3).toInt64 + 0) + 0)), none]) (st1 := [.int (-4)]) (h1 := (zv_h0.set 0 (.inr (.inr (7, [.ref 1, .ref 30, .ref 25, .ref 28, .ref 54, .ref 55, .ref 104, .int 1]))))) rfl ?_
          refine Wp.steps 8 (pc1 := 79) (lo1 := [some (.ref 113), some (.int 1), some (.int a2), some (.int a3), some (.int a4), some (.int 1), some (.int 0), some (.int 0), some (.int 1), some (.long (((a3).toInt64 + 0) + 0)), none]) (st1 := [.int 1]) (h1 := (zv_h0.set 0 (.inr (.inr (7, [.ref 1, .ref 30, .ref 25, .ref 28, .ref 54, .ref 55, .ref 104, .int 1]))))) rfl ?_
          refine Wp.steps 8 (pc1 := 62) (lo1 := [some (.ref 113), some (.int 1), some (.int a2), some (.int a3), some (.int a4), some (.int 1), some (.int 0), some (.int 1), some (.int 1), some (.long (((a3).toInt64 + 0) + 0)), none]) (st1 := []) (h1 := (zv_h0.set 0 (.inr (.inr (7, [.ref 1, .ref 30, .ref 25, .ref 28, .ref 54, .ref 55, .ref 104, .int 1]))))) rfl ?_
          refine Wp.steps 2 (pc1 := 66) (lo1 := [some (.ref 113), some (.int 1), some (.int a2), some (.int a3), some (.int a4), some (.int 1), some (.int 0), some (.int 1), some (.int 1), some (.long (((a3).toInt64 + 0) + 0)), none]) (st1 := [.int a4, .int 1]) (h1 := (zv_h0.set 0 (.inr (.inr (7, [.ref 1, .ref 30, .ref 25, .ref 28, .ref 54, .ref 55, .ref 104, .int 1]))))) rfl ?_
          refine Wp.icF (i := .nop) rfl (zq_F (by decide) rfl (show 1 < a4.toInt by omega)) ?_
          show Wp _ _ 186 69 [some (.ref 113), some (.int 1), some (.int a2), some (.int a3), some (.int a4), some (.int 1), some (.int 0), some (.int 1), some (.int 1), some (.long (((a3).toInt64 + 0) + 0)), none] [] (zv_h0.set 0 (.inr (.inr (7, [.ref 1, .ref 30, .ref 25, .ref 28, .ref 54, .ref 55, .ref 104, .int 1])))) _
          refine Wp.steps 6 (pc1 := 266) (lo1 := [some (.ref 113), some (.int 1), some (.int a2), some (.int a3), some (.int a4), some (.int 1), some (.int 0), some (.int 1), some (.int 1), some (.long (((a3).toInt64 + 0) + 0)), none]) (st1 := [.int 0]) (h1 := ((zv_h0.set 0 (.inr (.inr (7, [.ref 1, .ref 30, .ref 25, .ref 28, .ref 54, .ref 55, .ref 104, .int 1])))).set 113 (.inr (.inr (8, [.ref 114, .ref 115, .int 4, .int 0, .ref 116, .int 4, .int 0, .int 0, .int 0, .int 0, .int (-4), .int (-4), .int (-4), .ref 117, .int 0, .int 0, .int 0, .int 0, .int 0, .int 0, .int 0, .int 0, .ref 118, .ref 119, .ref 120, .ref 121, .int 1, .ref 122]))))) rfl ?_
          exact Wp.ret rfl rfl rfl ⟨rfl, rfl⟩
  · skip
    obtain rfl : a1 = 2 := Int32.toInt_inj.mp (h0.trans (by decide))
    rcases (by omega : (a2.toInt ≤ -1) ∨ (3 ≤ a2.toInt) ∨ (0 ≤ a2.toInt ∧ a2.toInt ≤ 2)) with h1 | h1 | h1
    · skip
      refine ⟨(-1), zv_h0, zv_h0, ?_, rfl, ?_, zv_len⟩
      · show Wp _ _ 87 0 [some (.ref 0), some (.int 2), some (.int a2), some (.int a3), some (.int a4), none, none, none, none, none] [] zv_h0 _
        refine Wp.steps 1 (pc1 := 1) (lo1 := [some (.ref 0), some (.int 2), some (.int a2), some (.int a3), some (.int a4), none, none, none, none, none]) (st1 := [.int 2]) (h1 := zv_h0) rfl ?_
        refine Wp.call (as := [.int 2]) (rest := []) rfl rfl rfl rfl rfl rfl rfl rfl rfl ?_
        show Wp _ _ 93 0 [some (.int 2)] [] zv_h0 _
        refine Wp.steps 6 (pc1 := 14) (lo1 := [some (.int 2)]) (st1 := [.int 0]) (h1 := zv_h0) rfl ?_
        refine Wp.ret rfl rfl rfl ?_
        show Wp _ _ 87 4 [some (.ref 0), some (.int 2), some (.int a2), some (.int a3), some (.int a4), none, none, none, none, none] [.int 0] zv_h0 _
        refine Wp.steps 2 (pc1 := 8) (lo1 := [some (.ref 0), some (.int 2), some (.int a2), some (.int a3), some (.int a4), none, none, none, none, none]) (st1 := [.int a2]) (h1 := zv_h0) rfl ?_
        refine Wp.call (as := [.int a2]) (rest := []) rfl rfl rfl rfl rfl rfl rfl rfl rfl ?_
        show Wp _ _ 94 0 [some (.int a2)] [] zv_h0 _
        refine Wp.steps 1 (pc1 := 1) (lo1 := [some (.int a2)]) (st1 := [.int a2]) (h1 := zv_h0) rfl ?_
        refine Wp.ifT (i := .nop) rfl (zq_T rfl (by decide) (show a2.toInt < 0 by omega)) ?_
        show Wp _ _ 94 9 [some (.int a2)] [] zv_h0 _
        refine Wp.steps 2 (pc1 := 14) (lo1 := [some (.int a2)]) (st1 := [.int 1]) (h1 := zv_h0) rfl ?_
        refine Wp.ret rfl rfl rfl ?_
        show Wp _ _ 87 11 [some (.ref 0), some (.int 2), some (.int a2), some (.int a3), some (.int a4), none, none, none, none, none] [.int 1] zv_h0 _
        refine Wp.steps 2 (pc1 := 27) (lo1 := [some (.ref 0), some (.int 2), some (.int a2), some (.int a3), some (.int a4), none, none, none, none, none]) (st1 := [.int (-1)]) (h1 := zv_h0) rfl ?_
        exact Wp.ret rfl rfl rfl ⟨rfl, rfl⟩
      · show Wp _ _ 186 0 [some (.ref 113), some (.int 2), some (.int a2), some (.int a3), some (.int a4), none, none, none, none, none, none] [] zv_h0 _
        refine Wp.steps 2 (pc1 := 2) (lo1 := [some (.ref 113), some (.int 2), some (.int a2), some (.int a3), some (.int a4), none, none, none, none, none, none]) (st1 := [.int a2, .int 2]) (h1 := zv_h0) rfl ?_
        refine Wp.call (as := [.int 2, .int a2]) (rest := []) rfl rfl rfl rfl rfl rfl rfl rfl rfl ?_
        show Wp _ _ 183 0 [some (.int 2), some (.int a2)] [] zv_h0 _
        refine Wp.steps 4 (pc1 := 6) (lo1 := [some (.int 2), some (.int a2)]) (st1 := [.long 3, .long 0, .long 2]) (h1 := zv_h0) rfl ?_
        refine Wp.call (as := [.long 2, .long 0, .long 3]) (rest := []) rfl rfl rfl rfl rfl rfl rfl rfl rfl ?_
        show Wp _ _ 107 0 [some (.long 2), none, some (.long 0), none, some (.long 3), none] [] zv_h0 _
        refine Wp.steps 9 (pc1 := 14) (lo1 := [some (.long 2), none, some (.long 0), none, some (.long 3), none]) (st1 := [.int 1]) (h1 := zv_h0) rfl ?_
        refine Wp.steps 1 (pc1 := 18) (lo1 := [some (.long 2), none, some (.long 0), none, some (.long 3), none]) (st1 := [.int 1]) (h1 := zv_h0) rfl ?_
        refine Wp.ret rfl rfl rfl ?_
        show Wp _ _ 183 9 [some (.int 2), some (.int a2)] [.int 1] zv_h0 _
        refine Wp.steps 5 (pc1 := 18) (lo1 := [some (.int 2), some (.int a2)]) (st1 := [.long 2, .long 0, .long (a2).toInt64]) (h1 := zv_h0) rfl ?_
        refine Wp.call (as := [.long (a2).toInt64, .long 0, .long 2]) (rest := []) rfl rfl rfl rfl rfl rfl rfl rfl rfl ?_
        refine zin_F (Int32.toInt_toInt64 _) (by decide) (by decide) (show a2.toInt < (0 : Int) ∨ (2 : Int) < a2.toInt by omega) ?_
        show Wp _ _ 183 21 [some (.int 2), some (.int a2)] [.int 0] zv_h0 _
        refine Wp.steps 2 (pc1 := 29) (lo1 := [some (.int 2), some (.int a2)]) (st1 := [.int 0]) (h1 := zv_h0) rfl ?_
        refine Wp.ret rfl rfl rfl ?_
        show Wp _ _ 186 5 [some (.ref 113), some (.int 2), some (.int a2), some (.int a3), some (.int a4), none, none, none, none, none, none] [.int 0] zv_h0 _
        refine Wp.steps 2 (pc1 := 22) (lo1 := [some (.ref 113), some (.int 2), some (.int a2), some (.int a3), some (.int a4), none, none, none, none, none, none]) (st1 := [.int (-1)]) (h1 := zv_h0) rfl ?_
        exact Wp.ret rfl rfl rfl ⟨rfl, rfl⟩
    · skip
      refine ⟨(-1), zv_h0, zv_h0, ?_, rfl, ?_, zv_len⟩
      · show Wp _ _ 87 0 [some (.ref 0), some (.int 2), some (.int a2), some (.int a3), some (.int a4), none, none, none, none, none] [] zv_h0 _
        refine Wp.steps 1 (pc1 := 1) (lo1 := [some (.ref 0), some (.int 2), some (.int a2), some (.int a3), some (.int a4), none, none, none, none, none]) (st1 := [.int 2]) (h1 := zv_h0) rfl ?_
        refine Wp.call (as := [.int 2]) (rest := []) rfl rfl rfl rfl rfl rfl rfl rfl rfl ?_
        show Wp _ _ 93 0 [some (.int 2)] [] zv_h0 _
        refine Wp.steps 6 (pc1 := 14) (lo1 := [some (.int 2)]) (st1 := [.int 0]) (h1 := zv_h0) rfl ?_
        refine Wp.ret rfl rfl rfl ?_
        show Wp _ _ 87 4 [some (.ref 0), some (.int 2), some (.int a2), some (.int a3), some (.int a4), none, none, none, none, none] [.int 0] zv_h0 _
        refine Wp.steps 2 (pc1 := 8) (lo1 := [some (.ref 0), some (.int 2), some (.int a2), some (.int a3), some (.int a4), none, none, none, none, none]) (st1 := [.int a2]) (h1 := zv_h0) rfl ?_
        refine Wp.call (as := [.int a2]) (rest := []) rfl rfl rfl rfl rfl rfl rfl rfl rfl ?_
        show Wp _ _ 94 0 [some (.int a2)] [] zv_h0 _
        refine Wp.steps 1 (pc1 := 1) (lo1 := [some (.int a2)]) (st1 := [.int a2]) (h1 := zv_h0) rfl ?_
        refine Wp.ifF (i := .nop) rfl (zq_F rfl (by decide) (show a2.toInt ≥ 0 by omega)) ?_
        show Wp _ _ 94 4 [some (.int a2)] [] zv_h0 _
        refine Wp.steps 2 (pc1 := 6) (lo1 := [some (.int a2)]) (st1 := [.int 2, .int a2]) (h1 := zv_h0) rfl ?_
        refine Wp.icF (i := .nop) rfl (zq_F rfl (by decide) (show a2.toInt > 2 by omega)) ?_
        show Wp _ _ 94 9 [some (.int a2)] [] zv_h0 _
        refine Wp.steps 2 (pc1 := 14) (lo1 := [some (.int a2)]) (st1 := [.int 1]) (h1 := zv_h0) rfl ?_
        refine Wp.ret rfl rfl rfl ?_
        show Wp _ _ 87 11 [some (.ref 0), some (.int 2), some (.int a2), some (.int a3), some (.int a4), none, none, none, none, none] [.int 1] zv_h0 _
        refine Wp.steps 2 (pc1 := 27) (lo1 := [some (.ref 0), some (.int 2), some (.int a2), some (.int a3), some (.int a4), none, none, none, none, none]) (st1 := [.int (-1)]) (h1 := zv_h0) rfl ?_
        exact Wp.ret rfl rfl rfl ⟨rfl, rfl⟩
      · show Wp _ _ 186 0 [some (.ref 113), some (.int 2), some (.int a2), some (.int a3), some (.int a4), none, none, none, none, none, none] [] zv_h0 _
        refine Wp.steps 2 (pc1 := 2) (lo1 := [some (.ref 113), some (.int 2), some (.int a2), some (.int a3), some (.int a4), none, none, none, none, none, none]) (st1 := [.int a2, .int 2]) (h1 := zv_h0) rfl ?_
        refine Wp.call (as := [.int 2, .int a2]) (rest := []) rfl rfl rfl rfl rfl rfl rfl rfl rfl ?_
        show Wp _ _ 183 0 [some (.int 2), some (.int a2)] [] zv_h0 _
        refine Wp.steps 4 (pc1 := 6) (lo1 := [some (.int 2), some (.int a2)]) (st1 := [.long 3, .long 0, .long 2]) (h1 := zv_h0) rfl ?_
        refine Wp.call (as := [.long 2, .long 0, .long 3]) (rest := []) rfl rfl rfl rfl rfl rfl rfl rfl rfl ?_
        show Wp _ _ 107 0 [some (.long 2), none, some (.long 0), none, some (.long 3), none] [] zv_h0 _
        refine Wp.steps 9 (pc1 := 14) (lo1 := [some (.long 2), none, some (.long 0), none, some (.long 3), none]) (st1 := [.int 1]) (h1 := zv_h0) rfl ?_
        refine Wp.steps 1 (pc1 := 18) (lo1 := [some (.long 2), none, some (.long 0), none, some (.long 3), none]) (st1 := [.int 1]) (h1 := zv_h0) rfl ?_
        refine Wp.ret rfl rfl rfl ?_
        show Wp _ _ 183 9 [some (.int 2), some (.int a2)] [.int 1] zv_h0 _
        refine Wp.steps 5 (pc1 := 18) (lo1 := [some (.int 2), some (.int a2)]) (st1 := [.long 2, .long 0, .long (a2).toInt64]) (h1 := zv_h0) rfl ?_
        refine Wp.call (as := [.long (a2).toInt64, .long 0, .long 2]) (rest := []) rfl rfl rfl rfl rfl rfl rfl rfl rfl ?_
        refine zin_F (Int32.toInt_toInt64 _) (by decide) (by decide) (show a2.toInt < (0 : Int) ∨ (2 : Int) < a2.toInt by omega) ?_
        show Wp _ _ 183 21 [some (.int 2), some (.int a2)] [.int 0] zv_h0 _
        refine Wp.steps 2 (pc1 := 29) (lo1 := [some (.int 2), some (.int a2)]) (st1 := [.int 0]) (h1 := zv_h0) rfl ?_
        refine Wp.ret rfl rfl rfl ?_
        show Wp _ _ 186 5 [some (.ref 113), some (.int 2), some (.int a2), some (.int a3), some (.int a4), none, none, none, none, none, none] [.int 0] zv_h0 _
        refine Wp.steps 2 (pc1 := 22) (lo1 := [some (.ref 113), some (.int 2), some (.int a2), some (.int a3), some (.int a4), none, none, none, none, none, none]) (st1 := [.int (-1)]) (h1 := zv_h0) rfl ?_
        exact Wp.ret rfl rfl rfl ⟨rfl, rfl⟩
    · skip
      rcases (by omega : (a4.toInt ≤ -1) ∨ (21 ≤ a4.toInt) ∨ (a4.toInt = 0) ∨ (a4.toInt = 1) ∨ (2 ≤ a4.toInt ∧ a4.toInt ≤ 20)) with h3 | h3 | h3 | h3 | h3
      · skip
        refine ⟨(-1), zv_h0, zv_h0, ?_, rfl, ?_, zv_len⟩
        · show Wp _ _ 87 0 [some (.ref 0), some (.int 2), some (.int a2), some (.int a3), some (.int a4), none, none, none, none, none] [] zv_h0 _
          refine Wp.steps 1 (pc1 := 1) (lo1 := [some (.ref 0), some (.int 2), some (.int a2), some (.int a3), some (.int a4), none, none, none, none, none]) (st1 := [.int 2]) (h1 := zv_h0) rfl ?_
          refine Wp.call (as := [.int 2]) (rest := []) rfl rfl rfl rfl rfl rfl rfl rfl rfl ?_
          show Wp _ _ 93 0 [some (.int 2)] [] zv_h0 _
          refine Wp.steps 6 (pc1 := 14) (lo1 := [some (.int 2)]) (st1 := [.int 0]) (h1 := zv_h0) rfl ?_
          refine Wp.ret rfl rfl rfl ?_
          show Wp _ _ 87 4 [some (.ref 0), some (.int 2), some (.int a2), some (.int a3), some (.int a4), none, none, none, none, none] [.int 0] zv_h0 _
          refine Wp.steps 2 (pc1 := 8) (lo1 := [some (.ref 0), some (.int 2), some (.int a2), some (.int a3), some (.int a4), none, none, none, none, none]) (st1 := [.int a2]) (h1 := zv_h0) rfl ?_
          refine Wp.call (as := [.int a2]) (rest := []) rfl rfl rfl rfl rfl rfl rfl rfl rfl ?_
          show Wp _ _ 94 0 [some (.int a2)] [] zv_h0 _
          refine Wp.steps 1 (pc1 := 1) (lo1 := [some (.int a2)]) (st1 := [.int a2]) (h1 := zv_h0) rfl ?_
          refine Wp.ifF (i := .nop) rfl (zq_F rfl (by decide) (show a2.toInt ≥ 0 by omega)) ?_
          show Wp _ _ 94 4 [some (.int a2)] [] zv_h0 _
          refine Wp.steps 2 (pc1 := 6) (lo1 := [some (.int a2)]) (st1 := [.int 2, .int a2]) (h1 := zv_h0) rfl ?_
          refine Wp.icT (i := .nop) rfl (zq_T rfl (by decide) (show a2.toInt ≤ 2 by omega)) ?_
          show Wp _ _ 94 13 [some (.int a2)] [] zv_h0 _
          refine Wp.steps 1 (pc1 := 14) (lo1 := [some (.int a2)]) (st1 := [.int 0]) (h1 := zv_h0) rfl ?_
          refine Wp.ret rfl rfl rfl ?_
          show Wp _ _ 87 11 [some (.ref 0), some (.int 2), some (.int a2), some (.int a3), some (.int a4), none, none, none, none, none] [.int 0] zv_h0 _
          refine Wp.steps 2 (pc1 := 16) (lo1 := [some (.ref 0), some (.int 2), some (.int a2), some (.int a3), some (.int a4), none, none, none, none, none]) (st1 := [.int a4]) (h1 := zv_h0) rfl ?_
          refine Wp.ifT (i := .nop) rfl (zq_T rfl (by decide) (show a4.toInt < 0 by omega)) ?_
          show Wp _ _ 87 26 [some (.ref 0), some (.int 2), some (.int a2), some (.int a3), some (.int a4), none, none, none, none, none] [] zv_h0 _
          refine Wp.steps 1 (pc1 := 27) (lo1 := [some (.ref 0), some (.int 2), some (.int a2), some (.int a3), some (.int a4), none, none, none, none, none]) (st1 := [.int (-1)]) (h1 := zv_h0) rfl ?_
          exact Wp.ret rfl rfl rfl ⟨rfl, rfl⟩
        · show Wp _ _ 186 0 [some (.ref 113), some (.int 2), some (.int a2), some (.int a3), some (.int a4), none, none, none, none, none, none] [] zv_h0 _
          refine Wp.steps 2 (pc1 := 2) (lo1 := [some (.ref 113), some (.int 2), some (.int a2), some (.int a3), some (.int a4), none, none, none, none, none, none]) (st1 := [.int a2, .int 2]) (h1 := zv_h0) rfl ?_
          refine Wp.call (as := [.int 2, .int a2]) (rest := []) rfl rfl rfl rfl rfl rfl rfl rfl rfl ?_
          show Wp _ _ 183 0 [some (.int 2), some (.int a2)] [] zv_h0 _
          refine Wp.steps 4 (pc1 := 6) (lo1 := [some (.int 2), some (.int a2)]) (st1 := [.long 3, .long 0, .long 2]) (h1 := zv_h0) rfl ?_
          refine Wp.call (as := [.long 2, .long 0, .long 3]) (rest := []) rfl rfl rfl rfl rfl rfl rfl rfl rfl ?_
          show Wp _ _ 107 0 [some (.long 2), none, some (.long 0), none, some (.long 3), none] [] zv_h0 _
          refine Wp.steps 9 (pc1 := 14) (lo1 := [some (.long 2), none, some (.long 0), none, some (.long 3), none]) (st1 := [.int 1]) (h1 := zv_h0) rfl ?_
          refine Wp.steps 1 (pc1 := 18) (lo1 := [some (.long 2), none, some (.long 0), none, some (.long 3), none]) (st1 := [.int 1]) (h1 := zv_h0) rfl ?_
          refine Wp.ret rfl rfl rfl ?_
          show Wp _ _ 183 9 [some (.int 2), some (.int a2)] [.int 1] zv_h0 _
          refine Wp.steps 5 (pc1 := 18) (lo1 := [some (.int 2), some (.int a2)]) (st1 := [.long 2, .long 0, .long (a2).toInt64]) (h1 := zv_h0) rfl ?_
          refine Wp.call (as := [.long (a2).toInt64, .long 0, .long 2]) (rest := []) rfl rfl rfl rfl rfl rfl rfl rfl rfl ?_
          refine zin_T (Int32.toInt_toInt64 _) (by decide) (by decide) (show (0 : Int) ≤ a2.toInt by omega) (show a2.toInt ≤ (2 : Int) by omega) ?_
          show Wp _ _ 183 21 [some (.int 2), some (.int a2)] [.int 1] zv_h0 _
          refine Wp.steps 3 (pc1 := 29) (lo1 := [some (.int 2), some (.int a2)]) (st1 := [.int 1]) (h1 := zv_h0) rfl ?_
          refine Wp.ret rfl rfl rfl ?_
          show Wp _ _ 186 5 [some (.ref 113), some (.int 2), some (.int a2), some (.int a3), some (.int a4), none, none, none, none, none, none] [.int 1] zv_h0 _
          refine Wp.steps 5 (pc1 := 15) (lo1 := [some (.ref 113), some (.int 2), some (.int a2), some (.int a3), some (.int a4), none, none, none, none, none, none]) (st1 := [.long 20, .long 0, .long (a4).toInt64]) (h1 := zv_h0) rfl ?_
          refine Wp.call (as := [.long (a4).toInt64, .long 0, .long 20]) (rest := []) rfl rfl rfl rfl rfl rfl rfl rfl rfl ?_
          refine zin_F (Int32.toInt_toInt64 _) (by decide) (by decide) (show a4.toInt < (0 : Int) ∨ (20 : Int) < a4.toInt by omega) ?_
          show Wp _ _ 186 18 [some (.ref 113), some (.int 2), some (.int a2), some (.int a3), some (.int a4), none, none, none, none, none, none] [.int 0] zv_h0 _
          refine Wp.steps 2 (pc1 := 22) (lo1 := [some (.ref 113), some (.int 2), some (.int a2), some (.int a3), some (.int a4), none, none, none, none, none, none]) (st1 := [.int (-1)]) (h1 := zv_h0) rfl ?_
          exact Wp.ret rfl rfl rfl ⟨rfl, rfl⟩
      · skip
        refine ⟨(-1), zv_h0, zv_h0, ?_, rfl, ?_, zv_len⟩
        · show Wp _ _ 87 0 [some (.ref 0), some (.int 2), some (.int a2), some (.int a3), some (.int a4), none, none, none, none, none] [] zv_h0 _
          refine Wp.steps 1 (pc1 := 1) (lo1 := [some (.ref 0), some (.int 2), some (.int a2), some (.int a3), some (.int a4), none, none, none, none, none]) (st1 := [.int 2]) (h1 := zv_h0) rfl ?_
          refine Wp.call (as := [.int 2]) (rest := []) rfl rfl rfl rfl rfl rfl rfl rfl rfl ?_
          show Wp _ _ 93 0 [some (.int 2)] [] zv_h0 _
          refine Wp.steps 6 (pc1 := 14) (lo1 := [some (.int 2)]) (st1 := [.int 0]) (h1 := zv_h0) rfl ?_
          refine Wp.ret rfl rfl rfl ?_
          show Wp _ _ 87 4 [some (.ref 0), some (.int 2), some (.int a2), some (.int a3), some (.int a4), none, none, none, none, none] [.int 0] zv_h0 _
          refine Wp.steps 2 (pc1 := 8) (lo1 := [some (.ref 0), some (.int 2), some (.int a2), some (.int a3), some (.int a4), none, none, none, none, none]) (st1 := [.int a2]) (h1 := zv_h0) rfl ?_
          refine Wp.call (as := [.int a2]) (rest := []) rfl rfl rfl rfl rfl rfl rfl rfl rfl ?_
          show Wp _ _ 94 0 [some (.int a2)] [] zv_h0 _
          refine Wp.steps 1 (pc1 := 1) (lo1 := [some (.int a2)]) (st1 := [.int a2]) (h1 := zv_h0) rfl ?_
          refine Wp.ifF (i := .nop) rfl (zq_F rfl (by decide) (show a2.toInt ≥ 0 by omega)) ?_
          show Wp _ _ 94 4 [some (.int a2)] [] zv_h0 _
          refine Wp.steps 2 (pc1 := 6) (lo1 := [some (.int a2)]) (st1 := [.int 2, .int a2]) (h1 := zv_h0) rfl ?_
          refine Wp.icT (i := .nop) rfl (zq_T rfl (by decide) (show a2.toInt ≤ 2 by omega)) ?_
          show Wp _ _ 94 13 [some (.int a2)] [] zv_h0 _
          refine Wp.steps 1 (pc1 := 14) (lo1 := [some (.int a2)]) (st1 := [.int 0]) (h1 := zv_h0) rfl ?_
          refine Wp.ret rfl rfl rfl ?_
          show Wp _ _ 87 11 [some (.ref 0), some (.int 2), some (.int a2), some (.int a3), some (.int a4), none, none, none, none, none] [.int 0] zv_h0 _
          refine Wp.steps 2 (pc1 := 16) (lo1 := [some (.ref 0), some (.int 2), some (.int a2), some (.int a3), some (.int a4), none, none, none, none, none]) (st1 := [.int a4]) (h1 := zv_h0) rfl ?_
          refine Wp.ifF (i := .nop) rfl (zq_F rfl (by decide) (show a4.toInt ≥ 0 by omega)) ?_
          show Wp _ _ 87 19 [some (.ref 0), some (.int 2), some (.int a2), some (.int a3), some (.int a4), none, none, none, none, none] [] zv_h0 _
          refine Wp.steps 2 (pc1 := 23) (lo1 := [some (.ref 0), some (.int 2), some (.int a2), some (.int a3), some (.int a4), none, none, none, none, none]) (st1 := [.int 20, .int a4]) (h1 := zv_h0) rfl ?_
          refine Wp.icF (i := .nop) rfl (zq_F rfl (by decide) (show a4.toInt > 20 by omega)) ?_
          show Wp _ _ 87 26 [some (.ref 0), some (.int 2), some (.int a2), some (.int a3), some (.int a4), none, none, none, none, none] [] zv_h0 _
          refine Wp.steps 1 (pc1 := 27) (lo1 := [some (.ref 0), some (.int 2), some (.int a2), some (.int a3), some (.int a4), none, none, none, none, none]) (st1 := [.int (-1)]) (h1 := zv_h0) rfl ?_
          exact Wp.ret rfl rfl rfl ⟨rfl, rfl⟩
        · show Wp _ _ 186 0 [some (.ref 113), some (.int 2), some (.int a2), some (.int a3), some (.int a4), none, none, none, none, none, none] [] zv_h0 _
          refine Wp.steps 2 (pc1 := 2) (lo1 := [some (.ref 113), some (.int 2), some (.int a2), some (.int a3), some (.int a4), none, none, none, none, none, none]) (st1 := [.int a2, .int 2]) (h1 := zv_h0) rfl ?_
          refine Wp.call (as := [.int 2, .int a2]) (rest := []) rfl rfl rfl rfl rfl rfl rfl rfl rfl ?_
          show Wp _ _ 183 0 [some (.int 2), some (.int a2)] [] zv_h0 _
          refine Wp.steps 4 (pc1 := 6) (lo1 := [some (.int 2), some (.int a2)]) (st1 := [.long 3, .long 0, .long 2]) (h1 := zv_h0) rfl ?_
          refine Wp.call (as := [.long 2, .long 0, .long 3]) (rest := []) rfl rfl rfl rfl rfl rfl rfl rfl rfl ?_
          show Wp _ _ 107 0 [some (.long 2), none, some (.long 0), none, some (.long 3), none] [] zv_h0 _
          refine Wp.steps 9 (pc1 := 14) (lo1 := [some (.long 2), none, some (.long 0), none, some (.long 3), none]) (st1 := [.int 1]) (h1 := zv_h0) rfl ?_
          refine Wp.steps 1 (pc1 := 18) (lo1 := [some (.long 2), none, some (.long 0), none, some (.long 3), none]) (st1 := [.int 1]) (h1 := zv_h0) rfl ?_
          refine Wp.ret rfl rfl rfl ?_
          show Wp _ _ 183 9 [some (.int 2), some (.int a2)] [.int 1] zv_h0 _
          refine Wp.steps 5 (pc1 := 18) (lo1 := [some (.int 2), some (.int a2)]) (st1 := [.long 2, .long 0, .long (a2).toInt64]) (h1 := zv_h0) rfl ?_
          refine Wp.call (as := [.long (a2).toInt64, .long 0, .long 2]) (rest := []) rfl rfl rfl rfl rfl rfl rfl rfl rfl ?_
          refine zin_T (Int32.toInt_toInt64 _) (by decide) (by decide) (show (0 : Int) ≤ a2.toInt by omega) (show a2.toInt ≤ (2 : Int) by omega) ?_
          show Wp _ _ 183 21 [some (.int 2), some (.int a2)] [.int 1] zv_h0 _
          refine Wp.steps 3 (pc1 := 29) (lo1 := [some (.int 2), some (.int a2)]) (st1 := [.int 1]) (h1 := zv_h0) rfl ?_
          refine Wp.ret rfl rfl rfl ?_
          show Wp _ _ 186 5 [some (.ref 113), some (.int 2), some (.int a2), some (.int a3), some (.int a4), none, none, none, none, none, none] [.int 1] zv_h0 _
          refine Wp.steps 5 (pc1 := 15) (lo1 := [some (.ref 113), some (.int 2), some (.int a2), some (.int a3), some (.int a4), none, none, none, none, none, none]) (st1 := [.long 20, .long 0, .long (a4).toInt64]) (h1 := zv_h0) rfl ?_
          refine Wp.call (as := [.long (a4).toInt64, .long 0, .long 20]) (rest := []) rfl rfl rfl rfl rfl rfl rfl rfl rfl ?_
          refine zin_F (Int32.toInt_toInt64 _) (by decide) (by decide) (show a4.toInt < (0 : Int) ∨ (20 : Int) < a4.toInt by omega) ?_
          show Wp _ _ 186 18 [some (.ref 113), some (.int 2), some (.int a2), some (.int a3), some (.int a4), none, none, none, none, none, none] [.int 0] zv_h0 _
          refine Wp.steps 2 (pc1 := 22) (lo1 := [some (.ref 113), some (.int 2), some (.int a2), some (.int a3), some (.int a4), none, none, none, none, none, none]) (st1 := [.int (-1)]) (h1 := zv_h0) rfl ?_
          exact Wp.ret rfl rfl rfl ⟨rfl, rfl⟩
      · skip
        obtain rfl : a4 = 0 := Int32.toInt_inj.mp (h3.trans (by decide))
        refine ⟨0, zv_h0, zv_h0, ?_, rfl, ?_, zv_len⟩
        · show Wp _ _ 87 0 [some (.ref 0), some (.int 2), some (.int a2), some (.int a3), some (.int 0), none, none, none, none, none] [] zv_h0 _
          refine Wp.steps 1 (pc1 := 1) (lo1 := [some (.ref 0), some (.int 2), some (.int a2), some (.int a3), some (.int 0), none, none, none, none, none]) (st1 := [.int 2]) (h1 := zv_h0) rfl ?_
          refine Wp.call (as := [.int 2]) (rest := []) rfl rfl rfl rfl rfl rfl rfl rfl rfl ?_
          show Wp _ _ 93 0 [some (.int 2)] [] zv_h0 _
          refine Wp.steps 6 (pc1 := 14) (lo1 := [some (.int 2)]) (st1 := [.int 0]) (h1 := zv_h0) rfl ?_
          refine Wp.ret rfl rfl rfl ?_
          show Wp _ _ 87 4 [some (.ref 0), some (.int 2), some (.int a2), some (.int a3), some (.int 0), none, none, none, none, none] [.int 0] zv_h0 _
          refine Wp.steps 2 (pc1 := 8) (lo1 := [some (.ref 0), some (.int 2), some (.int a2), some (.int a3), some (.int 0), none, none, none, none, none]) (st1 := [.int a2]) (h1 := zv_h0) rfl ?_
          refine Wp.call (as := [.int a2]) (rest := []) rfl rfl rfl rfl rfl rfl rfl rfl rfl ?_
          show Wp _ _ 94 0 [some (.int a2)] [] zv_h0 _
          refine Wp.steps 1 (pc1 := 1) (lo1 := [some (.int a2)]) (st1 := [.int a2]) (h1 := zv_h0) rfl ?_
          refine Wp.ifF (i := .nop) rfl (zq_F rfl (by decide) (show a2.toInt ≥ 0 by omega)) ?_
          show Wp _ _ 94 4 [some (.int a2)] [] zv_h0 _
          refine Wp.steps 2 (pc1 := 6) (lo1 := [some (.int a2)]) (st1 := [.int 2, .int a2]) (h1 := zv_h0) rfl ?_
          refine Wp.icT (i := .nop) rfl (zq_T rfl (by decide) (show a2.toInt ≤ 2 by omega)) ?_
          show Wp _ _ 94 13 [some (.int a2)] [] zv_h0 _
          refine Wp.steps 1 (pc1 := 14) (lo1 := [some (.int a2)]) (st1 := [.int 0]) (h1 := zv_h0) rfl ?_
          refine Wp.ret rfl rfl rfl ?_
          show Wp _ _ 87 11 [some (.ref 0), some (.int 2), some (.int a2), some (.int a3), some (.int 0), none, none, none, none, none] [.int 0] zv_h0 _
          refine Wp.steps 8 (pc1 := 32) (lo1 := [some (.ref 0), some (.int 2), some (.int a2), some (.int a3), some (.int 0), none, none, none, none, none]) (st1 := [.ref 104]) (h1 := zv_h0) rfl ?_
          refine Wp.steps 5 (pc1 := 39) (lo1 := [some (.ref 0), some (.int 2), some (.int a2), some (.int a3), some (.int 0), some (.ref 109), none, none, none, none]) (st1 := [.int a2, .ref 109]) (h1 := zv_h0) rfl ?_
          refine Wp.call (as := [.ref 109, .int a2]) (rest := []) rfl rfl rfl rfl rfl rfl rfl rfl rfl ?_
          show Wp _ _ 48 0 [some (.ref 109), some (.int a2)] [] zv_h0 _
          refine Wp.steps 1 (pc1 := 1) (lo1 := [some (.ref 109), some (.int a2)]) (st1 := [.ref 109]) (h1 := zv_h0) rfl ?_
          refine Wp.call (as := [.ref 109]) (rest := []) rfl rfl rfl rfl rfl rfl rfl rfl rfl ?_
          show Wp _ _ 46 0 [some (.ref 109)] [] zv_h0 _
          refine Wp.steps 6 (pc1 := 13) (lo1 := [some (.ref 109)]) (st1 := [.int 1]) (h1 := zv_h0) rfl ?_
          refine Wp.ret rfl rfl rfl ?_
          show Wp _ _ 48 4 [some (.ref 109), some (.int a2)] [.int 1] zv_h0 _
          refine Wp.steps 3 (pc1 := 20) (lo1 := [some (.ref 109), some (.int a2)]) (st1 := [.int 0]) (h1 := zv_h0) rfl ?_
          refine Wp.ret rfl rfl rfl ?_
          show Wp _ _ 87 42 [some (.ref 0), some (.int 2), some (.int a2), some (.int a3), some (.int 0), some (.ref 109), none, none, none, none] [.int 0] zv_h0 _
          refine Wp.steps 9 (pc1 := 128) (lo1 := [some (.ref 0), some (.int 2), some (.int a2), some (.int a3), some (.int 0), some (.ref 109), some (.int 0), some (.int 0), some (.int 0), none]) (st1 := [.int 0]) (h1 := zv_h0) rfl ?_
          refine Wp.steps 8 (pc1 := 188) (lo1 := [some (.ref 0), some (.int 2), some (.int a2), some (.int a3), some (.int 0), some (.ref 109), some (.int 0), some (.int 0), some (.int 0), none]) (st1 := [.int 0]) (h1 := zv_h0) rfl ?_
          exact Wp.ret rfl rfl rfl ⟨rfl, rfl⟩
        · show Wp _ _ 186 0 [some (.ref 113), some (.int 2), some (.int a2), some (.int a3), some (.int 0), none, none, none, none, none, none] [] zv_h0 _
          refine Wp.steps 2 (pc1 := 2) (lo1 := [some (.ref 113), some (.int 2), some (.int a2), some (.int a3), some (.int 0), none, none, none, none, none, none]) (st1 := [.int a2, .int 2]) (h1 := zv_h0) rfl ?_
          refine Wp.call (as := [.int 2, .int a2]) (rest := []) rfl rfl rfl rfl rfl rfl rfl rfl rfl ?_
          show Wp _ _ 183 0 [some (.int 2), some (.int a2)] [] zv_h0 _
          refine Wp.steps 4 (pc1 := 6) (lo1 := [some (.int 2), some (.int a2)]) (st1 := [.long 3, .long 0, .long 2]) (h1 := zv_h0) rfl ?_
          refine Wp.call (as := [.long 2, .long 0, .long 3]) (rest := []) rfl rfl rfl rfl rfl rfl rfl rfl rfl ?_
          show Wp _ _ 107 0 [some (.long 2), none, some (.long 0), none, some (.long 3), none] [] zv_h0 _
          refine Wp.steps 9 (pc1 := 14) (lo1 := [some (.long 2), none, some (.long 0), none, some (.long 3), none]) (st1 := [.int 1]) (h1 := zv_h0) rfl ?_
          refine Wp.steps 1 (pc1 := 18) (lo1 := [some (.long 2), none, some (.long 0), none, some (.long 3), none]) (st1 := [.int 1]) (h1 := zv_h0) rfl ?_
          refine Wp.ret rfl rfl rfl ?_
          show Wp _ _ 183 9 [some (.int 2), some (.int a2)] [.int 1] zv_h0 _
          refine Wp.steps 5 (pc1 := 18) (lo1 := [some (.int 2), some (.int a2)]) (st1 := [.long 2, .long 0, .long (a2).toInt64]) (h1 := zv_h0) rfl ?_
          refine Wp.call (as := [.long (a2).toInt64, .long 0, .long 2]) (rest := []) rfl rfl rfl rfl rfl rfl rfl rfl rfl ?_
          refine zin_T (Int32.toInt_toInt64 _) (by decide) (by decide) (show (0 : Int) ≤ a2.toInt by omega) (show a2.toInt ≤ (2 : Int) by omega) ?_
          show Wp _ _ 183 21 [some (.int 2), some (.int a2)] [.int 1] zv_h0 _
          refine Wp.steps 3 (pc1 := 29) (lo1 := [some (.int 2), some (.int a2)]) (st1 := [.int 1]) (h1 := zv_h0) rfl ?_
          refine Wp.ret rfl rfl rfl ?_
          show Wp _ _ 186 5 [some (.ref 113), some (.int 2), some (.int a2), some (.int a3), some (.int 0), none, none, none, none, none, none] [.int 1] zv_h0 _
          refine Wp.steps 5 (pc1 := 15) (lo1 := [some (.ref 113), some (.int 2), some (.int a2), some (.int a3), some (.int 0), none, none, none, none, none, none]) (st1 := [.long 20, .long 0, .long 0]) (h1 := zv_h0) rfl ?_
          refine Wp.call (as := [.long 0, .long 0, .long 20]) (rest := []) rfl rfl rfl rfl rfl rfl rfl rfl rfl ?_
          show Wp _ _ 107 0 [some (.long 0), none, some (.long 0), none, some (.long 20), none] [] zv_h0 _
          refine Wp.steps 9 (pc1 := 14) (lo1 := [some (.long 0), none, some (.long 0), none, some (.long 20), none]) (st1 := [.int 1]) (h1 := zv_h0) rfl ?_
          refine Wp.steps 1 (pc1 := 18) (lo1 := [some (.long 0), none, some (.long 0), none, some (.long 20), none]) (st1 := [.int 1]) (h1 := zv_h0) rfl ?_
          refine Wp.ret rfl rfl rfl ?_
          show Wp _ _ 186 18 [some (.ref 113), some (.int 2), some (.int a2), some (.int a3), some (.int 0), none, none, none, none, none, none] [.int 1] zv_h0 _
          refine Wp.steps 1 (pc1 := 23) (lo1 := [some (.ref 113), some (.int 2), some (.int a2), some (.int a3), some (.int 0), none, none, none, none, none, none]) (st1 := []) (h1 := zv_h0) rfl ?_
          refine zrd_0 2 a2 a3 0 ?_
          show Wp _ _ 186 53 [some (.ref 113), some (.int 2), some (.int a2), some (.int a3), some (.int 0), some (.int 8), none, none, none, none, none] [] zv_h0 _
          refine Wp.steps 8 (pc1 := 66) (lo1 := [some (.ref 113), some (.int 2), some (.int a2), some (.int a3), some (.int 0), some (.int 0), some (.int 0), some (.int 0), none, none, none]) (st1 := [.int 0, .int 0]) (h1 := zv_h0) rfl ?_
          refine Wp.steps 5 (pc1 := 266) (lo1 := [some (.ref 113), some (.int 2), some (.int a2), some (.int a3), some (.int 0), some (.int 0), some (.int 0), some (.int 0), none, none, none]) (st1 := [.int 0]) (h1 := zv_h0) rfl ?_
          exact Wp.ret rfl rfl rfl ⟨rfl, rfl⟩
      · skip
        obtain rfl : a4 = 1 := Int32.toInt_inj.mp (h3.trans (by decide))
        refine ⟨0, (zv_h0.set 0 (.inr (.inr (7, [.ref 1, .ref 30, .ref 25, .ref 28, .ref 54, .ref 55, .ref 104, .int 1])))), ((zv_h0.set 0 (.inr (.inr (7, [.ref 1, .ref 30, .ref 25, .ref 28, .ref 54, .ref 55, .ref 104, .int 1])))).set 113 (.inr (.inr (8, [.ref 114, .ref 115, .int 4, .int 0, .ref 116, .int 4, .int 0, .int 0, .int 0, .int 0, .int (-4), .int (-4), .int (-4), .ref 117, .int 0, .int 0, .int 0, .int 0, .int 0, .int 0, .int 0, .int 0, .ref 118, .ref 119, .ref 120, .ref 121, .int 1, .ref 122])))), ?_, rfl, ?_, (zv_ls rfl rfl (zv_ls rfl rfl zv_len))⟩
        · show Wp _ _ 87 0 [some (.ref 0), some (.int 2), some (.int a2), some (.int a3), some (.int 1), none, none, none, none, none] [] zv_h0 _
          refine Wp.steps 1 (pc1 := 1) (lo1 := [some (.ref 0), some (.int 2), some (.int a2), some (.int a3), some (.int 1), none, none, none, none, none]) (st1 := [.int 2]) (h1 := zv_h0) rfl ?_
          refine Wp.call (as := [.int 2]) (rest := []) rfl rfl rfl rfl rfl rfl rfl rfl rfl ?_
          show Wp _ _ 93 0 [some (.int 2)] [] zv_h0 _
          refine Wp.steps 6 (pc1 := 14) (lo1 := [some (.int 2)]) (st1 := [.int 0]) (h1 := zv_h0) rfl ?_
          refine Wp.ret rfl rfl rfl ?_
          show Wp _ _ 87 4 [some (.ref 0), some (.int 2), some (.int a2), some (.int a3), some (.int 1), none, none, none, none, none] [.int 0] zv_h0 _
          refine Wp.steps 2 (pc1 := 8) (lo1 := [some (.ref 0), some (.int 2), some (.int a2), some (.int a3), some (.int 1), none, none, none, none, none]) (st1 := [.int a2]) (h1 := zv_h0) rfl ?_
          refine Wp.call (as := [.int a2]) (rest := []) rfl rfl rfl rfl rfl rfl rfl rfl rfl ?_
          show Wp _ _ 94 0 [some (.int a2)] [] zv_h0 _
          refine Wp.steps 1 (pc1 := 1) (lo1 := [some (.int a2)]) (st1 := [.int a2]) (h1 := zv_h0) rfl ?_
          refine Wp.ifF (i := .nop) rfl (zq_F rfl (by decide) (show a2.toInt ≥ 0 by omega)) ?_
          show Wp _ _ 94 4 [some (.int a2)] [] zv_h0 _
          refine Wp.steps 2 (pc1 := 6) (lo1 := [some (.int a2)]) (st1 := [.int 2, .int a2]) (h1 := zv_h0) rfl ?_
          refine Wp.icT (i := .nop) rfl (zq_T rfl (by decide) (show a2.toInt ≤ 2 by omega)) ?_
          show Wp _ _ 94 13 [some (.int a2)] [] zv_h0 _
          refine Wp.steps 1 (pc1 := 14) (lo1 := [some (.int a2)]) (st1 := [.int 0]) (h1 := zv_h0) rfl ?_
          refine Wp.ret rfl rfl rfl ?_
          show Wp _ _ 87 11 [some (.ref 0), some (.int 2), some (.int a2), some (.int a3), some (.int 1), none, none, none, none, none] [.int 0] zv_h0 _
          refine Wp.steps 8 (pc1 := 32) (lo1 := [some (.ref 0), some (.int 2), some (.int a2), some (.int a3), some (.int 1), none, none, none, none, none]) (st1 := [.ref 104]) (h1 := zv_h0) rfl ?_
          refine Wp.steps 5 (pc1 := 39) (lo1 := [some (.ref 0), some (.int 2), some (.int a2), some (.int a3), some (.int 1), some (.ref 109), none, none, none, none]) (st1 := [.int a2, .ref 109]) (h1 := zv_h0) rfl ?_
          refine Wp.call (as := [.ref 109, .int a2]) (rest := []) rfl rfl rfl rfl rfl rfl rfl rfl rfl ?_
          show Wp _ _ 48 0 [some (.ref 109), some (.int a2)] [] zv_h0 _
          refine Wp.steps 1 (pc1 := 1) (lo1 := [some (.ref 109), some (.int a2)]) (st1 := [.ref 109]) (h1 := zv_h0) rfl ?_
          refine Wp.call (as := [.ref 109]) (rest := []) rfl rfl rfl rfl rfl rfl rfl rfl rfl ?_
          show Wp _ _ 46 0 [some (.ref 109)] [] zv_h0 _
          refine Wp.steps 6 (pc1 := 13) (lo1 := [some (.ref 109)]) (st1 := [.int 1]) (h1 := zv_h0) rfl ?_
          refine Wp.ret rfl rfl rfl ?_
          show Wp _ _ 48 4 [some (.ref 109), some (.int a2)] [.int 1] zv_h0 _
          refine Wp.steps 3 (pc1 := 20) (lo1 := [some (.ref 109), some (.int a2)]) (st1 := [.int 0]) (h1 := zv_h0) rfl ?_
          refine Wp.ret rfl rfl rfl ?_
          show Wp _ _ 87 42 [some (.ref 0), some (.int 2), some (.int a2), some (.int a3), some (.int 1), some (.ref 109), none, none, none, none] [.int 0] zv_h0 _
          refine Wp.steps 9 (pc1 := 59) (lo1 := [some (.ref 0), some (.int 2), some (.int a2), some (.int a3), some (.int 1), some (.ref 109), some (.int 0), some (.int 0), some (.int 0), none]) (st1 := [.int 0]) (h1 := zv_h0) rfl ?_
          refine Wp.steps 8 (pc1 := 72) (lo1 := [some (.ref 0), some (.int 2), some (.int a2), some (.int a3), some (.int 1), some (.ref 109), some (.int 0), some (.int 0), some (.int 0), some (.int (a3 + 0))]) (st1 := [.ref 109]) (h1 := zv_h0) rfl ?_
          refine Wp.steps 1 (pc1 := 74) (lo1 := [some (.ref 0), some (.int 2), some (.int a2), some (.int a3), some (.int 1), some (.ref 109), some (.int 0), some (.int 0), some (.int 0), some (.int (a3 + 0))]) (st1 := [.int (a3 + 0), .ref 109]) (h1 := zv_h0) rfl ?_
          refine Wp.call (as := [.ref 109, .int (a3 + 0)]) (rest := []) rfl rfl rfl rfl rfl rfl rfl rfl rfl ?_
          show Wp _ _ 50 0 [some (.ref 109), some (.int (a3 + 0)), none] [] zv_h0 _
          refine Wp.steps 2 (pc1 := 2) (lo1 := [some (.ref 109), some (.int (a3 + 0)), none]) (st1 := [.int (a3 + 0), .ref 109]) (h1 := zv_h0) rfl ?_
          refine Wp.call (as := [.ref 109, .int (a3 + 0)]) (rest := []) rfl rfl rfl rfl rfl rfl rfl rfl rfl ?_
          show Wp _ _ 49 0 [some (.ref 109), some (.int (a3 + 0))] [] zv_h0 _
          refine Wp.steps 1 (pc1 := 1) (lo1 := [some (.ref 109), some (.int (a3 + 0))]) (st1 := [.ref 109]) (h1 := zv_h0) rfl ?_
          refine Wp.call (as := [.ref 109]) (rest := []) rfl rfl rfl rfl rfl rfl rfl rfl rfl ?_
          show Wp _ _ 46 0 [some (.ref 109)] [] zv_h0 _
          refine Wp.steps 6 (pc1 := 13) (lo1 := [some (.ref 109)]) (st1 := [.int 1]) (h1 := zv_h0) rfl ?_
          refine Wp.ret rfl rfl rfl ?_
          show Wp _ _ 49 4 [some (.ref 109), some (.int (a3 + 0))] [.int 1] zv_h0 _
          refine Wp.steps 2 (pc1 := 8) (lo1 := [some (.ref 109), some (.int (a3 + 0))]) (st1 := [.int 1]) (h1 := zv_h0) rfl ?_
          refine Wp.ret rfl rfl rfl ?_
          show Wp _ _ 50 5 [some (.ref 109), some (.int (a3 + 0)), none] [.int 1] zv_h0 _
          refine Wp.steps 5 (pc1 := 21) (lo1 := [some (.ref 109), some (.int (a3 + 0)), some (.int 1)]) (st1 := [.int 1]) (h1 := zv_h0) rfl ?_
          refine Wp.ret rfl rfl rfl ?_
          show Wp _ _ 87 77 [some (.ref 0), some (.int 2), some (.int a2), some (.int a3), some (.int 1), some (.ref 109), some (.int 0), some (.int 0), some (.int 0), some (.int (a3 + 0))] [.int 1] zv_h0 _
          refine Wp.steps 9 (pc1 := 128) (lo1 := [some (.ref 0), some (.int 2), some (.int a2), some (.int a3), some (.int 1), some (.ref 109), some (.int 1), some (.int 0), some (.int 1), some (.int (a3 + 0))]) (st1 := [.int 0]) (h1 := zv_h0) rfl ?_
          refine Wp.steps 8 (pc1 := 188) (lo1 := [some (.ref 0), some (.int 2), some (.int a2), some (.int a3), some (.int 1), some (.ref 109), some (.int 1), some (.int 0), some (.int 0), some (.int (a3 + 0))]) (st1 := [.int 0]) (h1 := (zv_h0.set 0 (.inr (.inr (7, [.ref 1, .ref 30, .ref 25, .ref 28, .ref 54, .ref 55, .ref 104, .int 1]))))) rfl ?_
          exact Wp.ret rfl rfl rfl ⟨rfl, rfl⟩
        · show Wp _ _ 186 0 [some (.ref 113), some (.int 2), some (.int a2), some (.int a3), some (.int 1), none, none, none, none, none, none] [] (zv_h0.set 0 (.inr (.inr (7, [.ref 1, .ref 30, .ref 25, .ref 28, .ref 54, .ref 55, .ref 104, .int 1])))) _
          refine Wp.steps 2 (pc1 := 2) (lo1 := [some (.ref 113), some (.int 2), some (.int a2), some (.int a3), some (.int 1), none, none, none, none, none, none]) (st1 := [.int a2, .int 2]) (h1 := (zv_h0.set 0 (.inr (.inr (7, [.ref 1, .ref 30, .ref 25, .ref 28, .ref 54, .ref 55, .ref 104, .int 1]))))) rfl ?_
          refine Wp.call (as := [.int 2, .int a2]) (rest := []) rfl rfl rfl rfl rfl rfl rfl rfl rfl ?_
          show Wp _ _ 183 0 [some (.int 2), some (.int a2)] [] (zv_h0.set 0 (.inr (.inr (7, [.ref 1, .ref 30, .ref 25, .ref 28, .ref 54, .ref 55, .ref 104, .int 1])))) _
          refine Wp.steps 4 (pc1 := 6) (lo1 := [some (.int 2), some (.int a2)]) (st1 := [.long 3, .long 0, .long 2]) (h1 := (zv_h0.set 0 (.inr (.inr (7, [.ref 1, .ref 30, .ref 25, .ref 28, .ref 54, .ref 55, .ref 104, .int 1]))))) rfl ?_
          refine Wp.call (as := [.long 2, .long 0, .long 3]) (rest := []) rfl rfl rfl rfl rfl rfl rfl rfl rfl ?_
          show Wp _ _ 107 0 [some (.long 2), none, some (.long 0), none, some (.long 3), none] [] (zv_h0.set 0 (.inr (.inr (7, [.ref 1, .ref 30, .ref 25, .ref 28, .ref 54, .ref 55, .ref 104, .int 1])))) _
          refine Wp.steps 9 (pc1 := 14) (lo1 := [some (.long 2), none, some (.long 0), none, some (.long 3), none]) (st1 := [.int 1]) (h1 := (zv_h0.set 0 (.inr (.inr (7, [.ref 1, .ref 30, .ref 25, .ref 28, .ref 54, .ref 55, .ref 104, .int 1]))))) rfl ?_
          refine Wp.steps 1 (pc1 := 18) (lo1 := [some (.long 2), none, some (.long 0), none, some (.long 3), none]) (st1 := [.int 1]) (h1 := (zv_h0.set 0 (.inr (.inr (7, [.ref 1, .ref 30, .ref 25, .ref 28, .ref 54, .ref 55, .ref 104, .int 1]))))) rfl ?_
          refine Wp.ret rfl rfl rfl ?_
          show Wp _ _ 183 9 [some (.int 2), some (.int a2)] [.int 1] (zv_h0.set 0 (.inr (.inr (7, [.ref 1, .ref 30, .ref 25, .ref 28, .ref 54, .ref 55, .ref 104, .int 1])))) _
          refine Wp.steps 5 (pc1 := 18) (lo1 := [some (.int 2), some (.int a2)]) (st1 := [.long 2, .long 0, .long (a2).toInt64]) (h1 := (zv_h0.set 0 (.inr (.inr (7, [.ref 1, .ref 30, .ref 25, .ref 28, .ref 54, .ref 55, .ref 104, .int 1]))))) rfl ?_
          refine Wp.call (as := [.long (a2).toInt64, .long 0, .long 2]) (rest := []) rfl rfl rfl rfl rfl rfl rfl rfl rfl ?_
          refine zin_T (Int32.toInt_toInt64 _) (by decide) (by decide) (show (0 : Int) ≤ a2.toInt by omega) (show a2.toInt ≤ (2 : Int) by omega) ?_
          show Wp _ _ 183 21 [some (.int 2), some (.int a2)] [.int 1] (zv_h0.set 0 (.inr (.inr (7, [.ref 1, .ref 30, .ref 25, .ref 28, .ref 54, .ref 55, .ref 104, .int 1])))) _
          refine Wp.steps 3 (pc1 := 29) (lo1 := [some (.int 2), some (.int a2)]) (st1 := [.int 1]) (h1 := (zv_h0.set 0 (.inr (.inr (7, [.ref 1, .ref 30, .ref 25, .ref 28, .ref 54, .ref 55, .ref 104, .int 1]))))) rfl ?_
          refine Wp.ret rfl rfl rfl ?_
          show Wp _ _ 186 5 [some (.ref 113), some (.int 2), some (.int a2), some (.int a3), some (.int 1), none, none, none, none, none, none] [.int 1] (zv_h0.set 0 (.inr (.inr (7, [.ref 1, .ref 30, .ref 25, .ref 28, .ref 54, .ref 55, .ref 104, .int 1])))) _
          refine Wp.steps 5 (pc1 := 15) (lo1 := [some (.ref 113), some (.int 2), some (.int a2), some (.int a3), some (.int 1), none, none, none, none, none, none]) (st1 := [.long 20, .long 0, .long 1]) (h1 := (zv_h0.set 0 (.inr (.inr (7, [.ref 1, .ref 30, .ref 25, .ref 28, .ref 54, .ref 55, .ref 104, .int 1]))))) rfl ?_
          refine Wp.call (as := [.long 1, .long 0, .long 20]) (rest := []) rfl rfl rfl rfl rfl rfl rfl rfl rfl ?_
          show Wp _ _ 107 0 [some (.long 1), none, some (.long 0), none, some (.long 20), none] [] (zv_h0.set 0 (.inr (.inr (7, [.ref 1, .ref 30, .ref 25, .ref 28, .ref 54, .ref 55, .ref 104, .int 1])))) _
          refine Wp.steps 9 (pc1 := 14) (lo1 := [some (.long 1), none, some (.long 0), none, some (.long 20), none]) (st1 := [.int 1]) (h1 := (zv_h0.set 0 (.inr (.inr (7, [.ref 1, .ref 30, .ref 25, .ref 28, .ref 54, .ref 55, .ref 104, .int 1]))))) rfl ?_
          refine Wp.steps 1 (pc1 := 18) (lo1 := [some (.long 1), none, some (.long 0), none, some (.long 20), none]) (st1 := [.int 1]) (h1 := (zv_h0.set 0 (.inr (.inr (7, [.ref 1, .ref 30, .ref 25, .ref 28, .ref 54, .ref 55, .ref 104, .int 1]))))) rfl ?_
          refine Wp.ret rfl rfl rfl ?_
          show Wp _ _ 186 18 [some (.ref 113), some (.int 2), some (.int a2), some (.int a3), some (.int 1), none, none, none, none, none, none] [.int 1] (zv_h0.set 0 (.inr (.inr (7, [.ref 1, .ref 30, .ref 25, .ref 28, .ref 54, .ref 55, .ref 104, .int 1])))) _
          refine Wp.steps 1 (pc1 := 23) (lo1 := [some (.ref 113), some (.int 2), some (.int a2), some (.int a3), some (.int 1), none, none, none, none, none, none]) (st1 := []) (h1 := (zv_h0.set 0 (.inr (.inr (7, [.ref 1, .ref 30, .ref 25, .ref 28, .ref 54, .ref 55, .ref 104, .int 1]))))) rfl ?_
          refine zrd_1 2 a2 a3 1 ?_
          show Wp _ _ 186 53 [some (.ref 113), some (.int 2), some (.int a2), some (.int a3), some (.int 1), some (.int 8), none, none, none, none, none] [] (zv_h0.set 0 (.inr (.inr (7, [.ref 1, .ref 30, .ref 25, .ref 28, .ref 54, .ref 55, .ref 104, .int 1])))) _
          refine Wp.steps 8 (pc1 := 66) (lo1 := [some (.ref 113), some (.int 2), some (.int a2), some (.int a3), some (.int 1), some (.int 0), some (.int 0), some (.int 0), none, none, none]) (st1 := [.int 1, .int 0]) (h1 := (zv_h0.set 0 (.inr (.inr (7, [.ref 1, .ref 30, .ref 25, .ref 28, .ref 54, .ref 55, .ref 104, .int 1]))))) rfl ?_
          refine Wp.steps 9 (pc1 := 85) (lo1 := [some (.ref 113), some (.int 2), some (.int a2), some (.int a3), some (.int 1), some (.int 0), some (.int 0), some (.int 0), some (.int 0), none, none]) (st1 := [.int 0]) (h1 := (zv_h0.set 0 (.inr (.inr (7, [.ref 1, .ref 30, .ref 25, .ref 28, .ref 54, .ref 55, .ref 104, .int 1]))))) rfl ?_
          refine Wp.steps 8 (pc1 := 96) (lo1 := [some (.ref 113), some (.int 2), some (.int a2), some (.int a3), some (.int 1), some (.int 0), some (.int 0), some (.int 0), some (.int 0), none, none]) (st1 := [.long ((a3).toInt64 + 0)]) (h1 := (zv_h0.set 0 (.inr (.inr (7, [.ref 1, .ref 30, .ref 25, .ref 28, .ref 54, .ref 55, .ref 104, .int 1]))))) rfl ?_
          refine Wp.steps 8 (pc1 := 108) (lo1 := [some (.ref 113), some (.int 2), some (.int a2), some (.int a3), some (.int 1), some (.int 0), some (.int 0), some (.int 0), some (.int 0), some (.long (((a3).toInt64 + 0) + 0)), none]) (st1 := [.int (-4)]) (h1 := (zv_h0.set 0 (.inr (.inr (7, [.ref 1, .ref 30, .ref 25, .ref 28, .ref 54, .ref 55, .ref 104, .int 1]))))) rfl ?_
          refine Wp.steps 8 (pc1 := 79) (lo1 := [some (.ref 113), some (.int 2), some (.int a2), some (.int a3), some (.int 1), some (.int 1), some (.int 0), some (.int 0), some (.int 1), some (.long (((a3).toInt64 + 0) + 0)), none]) (st1 := [.int 1]) (h1 := (zv_h0.set 0 (.inr (.inr (7, [.ref 1, .ref 30, .ref 25, .ref 28, .ref 54, .ref 55, .ref 104, .int 1]))))) rfl ?_
          refine Wp.steps 8 (pc1 := 62) (lo1 := [some (.ref 113), some (.int 2), some (.int a2), some (.int a3), some (.int 1), some (.int 1), some (.int 0), some (.int 1), some (.int 1), some (.long (((a3).toInt64 + 0) + 0)), none]) (st1 := []) (h1 := (zv_h0.set 0 (.inr (.inr (7, [.ref 1, .ref 30, .ref 25, .ref 28, .ref 54, .ref 55, .ref 104, .int 1]))))) rfl ?_
          refine Wp.steps 7 (pc1 := 266) (lo1 := [some (.ref 113), some (.int 2), some (.int a2), some (.int a3), some (.int 1), some (.int 1), some (.int 0), some (.int 1), some (.int 1), some (.long (((a3).toInt64 + 0) + 0)), none]) (st1 := [.int 0]) (h1 := ((zv_h0.set 0 (.inr (.inr (7, [.ref 1, .ref 30, .ref 25, .ref 28, .ref 54, .ref 55, .ref 104, .int 1])))).set 113 (.inr (.inr (8, [.ref 114, .ref 115, .int 4, .int 0, .ref 116, .int 4, .int 0, .int 0, .int 0, .int 0, .int (-4), .int (-4), .int (-4), .ref 117, .int 0, .int 0, .int 0, .int 0, .int 0, .int 0, .int 0, .int 0, .ref 118, .ref 119, .ref 120, .ref 121, .int 1, .ref 122]))))) rfl ?_
          exact Wp.ret rfl rfl rfl ⟨rfl, rfl⟩
      · skip
        refine ⟨0, (zv_h0.set 0 (.inr (.inr (7, [.ref 1, .ref 30, .ref 25, .ref 28, .ref 54, .ref 55, .ref 104, .int 1])))), ((zv_h0.set 0 (.inr (.inr (7, [.ref 1, .ref 30, .ref 25, .ref 28, .ref 54, .ref 55, .ref 104, .int 1])))).set 113 (.inr (.inr (8, [.ref 114, .ref 115, .int 4, .int 0, .ref 116, .int 4, .int 0, .int 0, .int 0, .int 0, .int (-4), .int (-4), .int (-4), .ref 117, .int 0, .int 0, .int 0, .int 0, .int 0, .int 0, .int 0, .int 0, .ref 118, .ref 119, .ref 120, .ref 121, .int 1, .ref 122])))), ?_, rfl, ?_, (zv_ls rfl rfl (zv_ls rfl rfl zv_len))⟩
        · show Wp _ _ 87 0 [some (.ref 0), some (.int 2), some (.int a2), some (.int a3), some (.int a4), none, none, none, none, none] [] zv_h0 _
          refine Wp.steps 1 (pc1 := 1) (lo1 := [some (.ref 0), some (.int 2), some (.int a2), some (.int a3), some (.int a4), none, none, none, none, none]) (st1 := [.int 2]) (h1 := zv_h0) rfl ?_
          refine Wp.call (as := [.int 2]) (rest := []) rfl rfl rfl rfl rfl rfl rfl rfl rfl ?_
          show Wp _ _ 93 0 [some (.int 2)] [] zv_h0 _
          refine Wp.steps 6 (pc1 := 14) (lo1 := [some (.int 2)]) (st1 := [.int 0]) (h1 := zv_h0) rfl ?_
          refine Wp.ret rfl rfl rfl ?_
          show Wp _ _ 87 4 [some (.ref 0), some (.int 2), some (.int a2), some (.int a3), some (.int a4), none, none, none, none, none] [.int 0] zv_h0 _
          refine Wp.steps 2 (pc1 := 8) (lo1 := [some (.ref 0), some (.int 2), some (.int a2), some (.int a3), some (.int a4), none, none, none, none, none]) (st1 := [.int a2]) (h1 := zv_h0) rfl ?_
          refine Wp.call (as := [.int a2]) (rest := []) rfl rfl rfl rfl rfl rfl rfl rfl rfl ?_
          show Wp _ _ 94 0 [some (.int a2)] [] zv_h0 _
          refine Wp.steps 1 (pc1 := 1) (lo1 := [some (.int a2)]) (st1 := [.int a2]) (h1 := zv_h0) rfl ?_
          refine Wp.ifF (i := .nop) rfl (zq_F rfl (by decide) (show a2.toInt ≥ 0 by omega)) ?_
          show Wp _ _ 94 4 [some (.int a2)] [] zv_h0 _
          refine Wp.steps 2 (pc1 := 6) (lo1 := [some (.int a2)]) (st1 := [.int 2, .int a2]) (h1 := zv_h0) rfl ?_
          refine Wp.icT (i := .nop) rfl (zq_T rfl (by decide) (show a2.toInt ≤ 2 by omega)) ?_
          show Wp _ _ 94 13 [some (.int a2)] [] zv_h0 _
          refine Wp.steps 1 (pc1 := 14) (lo1 := [some (.int a2)]) (st1 := [.int 0]) (h1 := zv_h0) rfl ?_
          refine Wp.ret rfl rfl rfl ?_
          show Wp _ _ 87 11 [some (.ref 0), some (.int 2), some (.int a2), some (.int a3), some (.int a4), none, none, none, none, none] [.int 0] zv_h0 _
          refine Wp.steps 2 (pc1 := 16) (lo1 := [some (.ref 0), some (.int 2), some (.int a2), some (.int a3), some (.int a4), none, none, none, none, none]) (st1 := [.int a4]) (h1 := zv_h0) rfl ?_
          refine Wp.ifF (i := .nop) rfl (zq_F rfl (by decide) (show a4.toInt ≥ 0 by omega)) ?_
          show Wp _ _ 87 19 [some (.ref 0), some (.int 2), some (.int a2), some (.int a3), some (.int a4), none, none, none, none, none] [] zv_h0 _
          refine Wp.steps 2 (pc1 := 23) (lo1 := [some (.ref 0), some (.int 2), some (.int a2), some (.int a3), some (.int a4), none, none, none, none, none]) (st1 := [.int 20, .int a4]) (h1 := zv_h0) rfl ?_
          refine Wp.icT (i := .nop) rfl (zq_T rfl (by decide) (show a4.toInt ≤ 20 by omega)) ?_
          show Wp _ _ 87 28 [some (.ref 0), some (.int 2), some (.int a2), some (.int a3), some (.int a4), none, none, none, none, none] [] zv_h0 _
          refine Wp.steps 7 (pc1 := 39) (lo1 := [some (.ref 0), some (.int 2), some (.int a2), some (.int a3), some (.int a4), some (.ref 109), none, none, none, none]) (st1 := [.int a2, .ref 109]) (h1 := zv_h0) rfl ?_
          refine Wp.call (as := [.ref 109, .int a2]) (rest := []) rfl rfl rfl rfl rfl rfl rfl rfl rfl ?_
          show Wp _ _ 48 0 [some (.ref 109), some (.int a2)] [] zv_h0 _
          refine Wp.steps 1 (pc1 := 1) (lo1 := [some (.ref 109), some (.int a2)]) (st1 := [.ref 109]) (h1 := zv_h0) rfl ?_
          refine Wp.call (as := [.ref 109]) (rest := []) rfl rfl rfl rfl rfl rfl rfl rfl rfl ?_
          show Wp _ _ 46 0 [some (.ref 109)] [] zv_h0 _
          refine Wp.steps 6 (pc1 := 13) (lo1 := [some (.ref 109)]) (st1 := [.int 1]) (h1 := zv_h0) rfl ?_
          refine Wp.ret rfl rfl rfl ?_
          show Wp _ _ 48 4 [some (.ref 109), some (.int a2)] [.int 1] zv_h0 _
          refine Wp.steps 3 (pc1 := 20) (lo1 := [some (.ref 109), some (.int a2)]) (st1 := [.int 0]) (h1 := zv_h0) rfl ?_
          refine Wp.ret rfl rfl rfl ?_
          show Wp _ _ 87 42 [some (.ref 0), some (.int 2), some (.int a2), some (.int a3), some (.int a4), some (.ref 109), none, none, none, none] [.int 0] zv_h0 _
          refine Wp.steps 7 (pc1 := 54) (lo1 := [some (.ref 0), some (.int 2), some (.int a2), some (.int a3), some (.int a4), some (.ref 109), some (.int 0), some (.int 0), some (.int 0), none]) (st1 := [.int a4, .int 0]) (h1 := zv_h0) rfl ?_
          refine Wp.icF (i := .nop) rfl (zq_F (by decide) rfl (show 0 < a4.toInt by omega)) ?_
          show Wp _ _ 87 57 [some (.ref 0), some (.int 2), some (.int a2), some (.int a3), some (.int a4), some (.ref 109), some (.int 0), some (.int 0), some (.int 0), none] [] zv_h0 _
          refine Wp.steps 8 (pc1 := 70) (lo1 := [some (.ref 0), some (.int 2), some (.int a2), some (.int a3), some (.int a4), some (.ref 109), some (.int 0), some (.int 0), some (.int 0), some (.int (a3 + 0))]) (st1 := []) (h1 := zv_h0) rfl ?_
          refine Wp.steps 2 (pc1 := 74) (lo1 := [some (.ref 0), some (.int 2), some (.int a2), some (.int a3), some (.int a4), some (.ref 109), some (.int 0), some (.int 0), some (.int 0), some (.int (a3 + 0))]) (st1 := [.int (a3 + 0), .ref 109]) (h1 := zv_h0) rfl ?_
          refine Wp.call (as := [.ref 109, .int (a3 + 0)]) (rest := []) rfl rfl rfl rfl rfl rfl rfl rfl rfl ?_
          show Wp _ _ 50 0 [some (.ref 109), some (.int (a3 + 0)), none] [] zv_h0 _
          refine Wp.steps 2 (pc1 := 2) (lo1 := [some (.ref 109), some (.int (a3 + 0)), none]) (st1 := [.int (a3 + 0), .ref 109]) (h1 := zv_h0) rfl ?_
          refine Wp.call (as := [.ref 109, .int (a3 + 0)]) (rest := []) rfl rfl rfl rfl rfl rfl rfl rfl rfl ?_
          show Wp _ _ 49 0 [some (.ref 109), some (.int (a3 + 0))] [] zv_h0 _
          refine Wp.steps 1 (pc1 := 1) (lo1 := [some (.ref 109), some (.int (a3 + 0))]) (st1 := [.ref 109]) (h1 := zv_h0) rfl ?_
          refine Wp.call (as := [.ref 109]) (rest := []) rfl rfl rfl rfl rfl rfl rfl rfl rfl ?_
          show Wp _ _ 46 0 [some (.ref 109)] [] zv_h0 _
          refine Wp.steps 6 (pc1 := 13) (lo1 := [some (.ref 109)]) (st1 := [.int 1]) (h1 := zv_h0) rfl ?_
          refine Wp.ret rfl rfl rfl ?_
          show Wp _ _ 49 4 [some (.ref 109), some (.int (a3 + 0))] [.int 1] zv_h0 _
          refine Wp.steps 2 (pc1 := 8) (lo1 := [some (.ref 109), some (.int (a3 + 0))]) (st1 := [.int 1]) (h1 := zv_h0) rfl ?_
          refine Wp.ret rfl rfl rfl ?_
          show Wp _ _ 50 5 [some (.ref 109), some (.int (a3 + 0)), none] [.int 1] zv_h0 _
          refine Wp.steps 5 (pc1 := 21) (lo1 := [some (.ref 109), some (.int (a3 + 0)), some (.int 1)]) (st1 := [.int 1]) (h1 := zv_h0) rfl ?_
          refine Wp.ret rfl rfl rfl ?_
          show Wp _ _ 87 77 [some (.ref 0), some (.int 2), some (.int a2), some (.int a3), some (.int a4), some (.ref 109), some (.int 0), some (.int 0), some (.int 0), some (.int (a3 + 0))] [.int 1] zv_h0 _
          refine Wp.steps 7 (pc1 := 54) (lo1 := [some (.ref 0), some (.int 2), some (.int a2), some (.int a3), some (.int a4), some (.ref 109), some (.int 1), some (.int 0), some (.int 1), some (.int (a3 + 0))]) (st1 := [.int a4, .int 1]) (h1 := zv_h0) rfl ?_
          refine Wp.icF (i := .nop) rfl (zq_F (by decide) rfl (show 1 < a4.toInt by omega)) ?_
          show Wp _ _ 87 57 [some (.ref 0), some (.int 2), some (.int a2), some (.int a3), some (.int a4), some (.ref 109), some (.int 1), some (.int 0), some (.int 1), some (.int (a3 + 0))] [] zv_h0 _
          refine Wp.steps 8 (pc1 := 181) (lo1 := [some (.ref 0), some (.int 2), some (.int a2), some (.int a3), some (.int a4), some (.ref 109), some (.int 1), some (.int 0), some (.int 0), some (.int (a3 + 0))]) (st1 := [.ref 0]) (h1 := zv_h0) rfl ?_
          refine Wp.steps 3 (pc1 := 188) (lo1 := [some (.ref 0), some (.int 2), some (.int a2), some (.int a3), some (.int a4), some (.ref 109), some (.int 1), some (.int 0), some (.int 0), some (.int (a3 + 0))]) (st1 := [.int 0]) (h1 := (zv_h0.set 0 (.inr (.inr (7, [.ref 1, .ref 30, .ref 25, .ref 28, .ref 54, .ref 55, .ref 104, .int 1]))))) rfl ?_
          exact Wp.ret rfl rfl rfl ⟨rfl, rfl⟩
        · show Wp _ _ 186 0 [some (.ref 113), some (.int 2), some (.int a2), some (.int a3), some (.int a4), none, none, none, none, none, none] [] (zv_h0.set 0 (.inr (.inr (7, [.ref 1, .ref 30, .ref 25, .ref 28, .ref 54, .ref 55, .ref 104, .int 1])))) _
          refine Wp.steps 2 (pc1 := 2) (lo1 := [some (.ref 113), some (.int 2), some (.int a2), some (.int a3), some (.int a4), none, none, none, none, none, none]) (st1 := [.int a2, .int 2]) (h1 := (zv_h0.set 0 (.inr (.inr (7, [.ref 1, .ref 30, .ref 25, .ref 28, .ref 54, .ref 55, .ref 104, .int 1]))))) rfl ?_
          refine Wp.call (as := [.int 2, .int a2]) (rest := []) rfl rfl rfl rfl rfl rfl rfl rfl rfl ?_
          show Wp _ _ 183 0 [some (.int 2), some (.int a2)] [] (zv_h0.set 0 (.inr (.inr (7, [.ref 1, .ref 30, .ref 25, .ref 28, .ref 54, .ref 55, .ref 104, .int 1])))) _
          refine Wp.steps 4 (pc1 := 6) (lo1 := [some (.int 2), some (.int a2)]) (st1 := [.long 3, .long 0, .long 2]) (h1 := (zv_h0.set 0 (.inr (.inr (7, [.ref 1, .ref 30, .ref 25, .ref 28, .ref 54, .ref 55, .ref 104, .int 1]))))) rfl ?_
          refine Wp.call (as := [.long 2, .long 0, .long 3]) (rest := []) rfl rfl rfl rfl rfl rfl rfl rfl rfl ?_
          show Wp _ _ 107 0 [some (.long 2), none, some (.long 0), none, some (.long 3), none] [] (zv_h0.set 0 (.inr (.inr (7, [.ref 1, .ref 30, .ref 25, .ref 28, .ref 54, .ref 55, .ref 104, .int 1])))) _
          refine Wp.steps 9 (pc1 := 14) (lo1 := [some (.long 2), none, some (.long 0), none, some (.long 3), none]) (st1 := [.int 1]) (h1 := (zv_h0.set 0 (.inr (.inr (7, [.ref 1, .ref 30, .ref 25, .ref 28, .ref 54, .ref 55, .ref 104, .int 1]))))) rfl ?_
          refine Wp.steps 1 (pc1 := 18) (lo1 := [some (.long 2), none, some (.long 0), none, some (.long 3), none]) (st1 := [.int 1]) (h1 := (zv_h0.set 0 (.inr (.inr (7, [.ref 1, .ref 30, .ref 25, .ref 28, .ref 54, .ref 55, .ref 104, .int 1]))))) rfl ?_
          refine Wp.ret rfl rfl rfl ?_
          show Wp _ _ 183 9 [some (.int 2), some (.int a2)] [.int 1] (zv_h0.set 0 (.inr (.inr (7, [.ref 1, .ref 30, .ref 25, .ref 28, .ref 54, .ref 55, .ref 104, .int 1])))) _
          refine Wp.steps 5 (pc1 := 18) (lo1 := [some (.int 2), some (.int a2)]) (st1 := [.long 2, .long 0, .long (a2).toInt64]) (h1 := (zv_h0.set 0 (.inr (.inr (7, [.ref 1, .ref 30, .ref 25, .ref 28, .ref 54, .ref 55, .ref 104, .int 1]))))) rfl ?_
          refine Wp.call (as := [.long (a2).toInt64, .long 0, .long 2]) (rest := []) rfl rfl rfl rfl rfl rfl rfl rfl rfl ?_
          refine zin_T (Int32.toInt_toInt64 _) (by decide) (by decide) (show (0 : Int) ≤ a2.toInt by omega) (show a2.toInt ≤ (2 : Int) by omega) ?_
          show Wp _ _ 183 21 [some (.int 2), some (.int a2)] [.int 1] (zv_h0.set 0 (.inr (.inr (7, [.ref 1, .ref 30, .ref 25, .ref 28, .ref 54, .ref 55, .ref 104, .int 1])))) _
          refine Wp.steps 3 (pc1 := 29) (lo1 := [some (.int 2), some (.int a2)]) (st1 := [.int 1]) (h1 := (zv_h0.set 0 (.inr (.inr (7, [.ref 1, .ref 30, .ref 25, .ref 28, .ref 54, .ref 55, .ref 104, .int 1]))))) rfl ?_
          refine Wp.ret rfl rfl rfl ?_
          show Wp _ _ 186 5 [some (.ref 113), some (.int 2), some (.int a2), some (.int a3), some (.int a4), none, none, none, none, none, none] [.int 1] (zv_h0.set 0 (.inr (.inr (7, [.ref 1, .ref 30, .ref 25, .ref 28, .ref 54, .ref 55, .ref 104, .int 1])))) _
          refine Wp.steps 5 (pc1 := 15) (lo1 := [some (.ref 113), some (.int 2), some (.int a2), some (.int a3), some (.int a4), none, none, none, none, none, none]) (st1 := [.long 20, .long 0, .long (a4).toInt64]) (h1 := (zv_h0.set 0 (.inr (.inr (7, [.ref 1, .ref 30, .ref 25, .ref 28, .ref 54, .ref 55, .ref 104, .int 1]))))) rfl ?_
          refine Wp.call (as := [.long (a4).toInt64, .long 0, .long 20]) (rest := []) rfl rfl rfl rfl rfl rfl rfl rfl rfl ?_
          refine zin_T (Int32.toInt_toInt64 _) (by decide) (by decide) (show (0 : Int) ≤ a4.toInt by omega) (show a4.toInt ≤ (20 : Int) by omega) ?_
          show Wp _ _ 186 18 [some (.ref 113), some (.int 2), some (.int a2), some (.int a3), some (.int a4), none, none, none, none, none, none] [.int 1] (zv_h0.set 0 (.inr (.inr (7, [.ref 1, .ref 30, .ref 25, .ref 28, .ref 54, .ref 55, .ref 104, .int 1])))) _
          refine Wp.steps 1 (pc1 := 23) (lo1 := [some (.ref 113), some (.int 2), some (.int a2), some (.int a3), some (.int a4), none, none, none, none, none, none]) (st1 := []) (h1 := (zv_h0.set 0 (.inr (.inr (7, [.ref 1, .ref 30, .ref 25, .ref 28, .ref 54, .ref 55, .ref 104, .int 1]))))) rfl ?_
          refine zrd_1 2 a2 a3 a4 ?_
          show Wp _ _ 186 53 [some (.ref 113), some (.int 2), some (.int a2), some (.int a3), some (.int a4), some (.int 8), none, none, none, none, none] [] (zv_h0.set 0 (.inr (.inr (7, [.ref 1, .ref 30, .ref 25, .ref 28, .ref 54, .ref 55, .ref 104, .int 1])))) _
          refine Wp.steps 8 (pc1 := 66) (lo1 := [some (.ref 113), some (.int 2), some (.int a2), some (.int a3), some (.int a4), some (.int 0), some (.int 0), some (.int 0), none, none, none]) (st1 := [.int a4, .int 0]) (h1 := (zv_h0.set 0 (.inr (.inr (7, [.ref 1, .ref 30, .ref 25, .ref 28, .ref 54, .ref 55, .ref 104, .int 1]))))) rfl ?_
          refine Wp.icF (i := .nop) rfl (zq_F (by decide) rfl (show 0 < a4.toInt by omega)) ?_
          show Wp _ _ 186 69 [some (.ref 113), some (.int 2), some (.int a2), some (.int a3), some (.int a4), some (.int 0), some (.int 0), some (.int 0), none, none, none] [] (zv_h0.set 0 (.inr (.inr (7, [.ref 1, .ref 30, .ref 25, .ref 28, .ref 54, .ref 55, .ref 104, .int 1])))) _
          refine Wp.steps 8 (pc1 := 85) (lo1 := [some (.ref 113), some (.int 2), some (.int a2), some (.int a3), some (.int a4), some (.int 0), some (.int 0), some (.int 0), some (.int 0), none, none]) (st1 := [.int 0]) (h1 := (zv_h0.set 0 (.inr (.inr (7, [.ref 1, .ref 30, .ref 25, .ref 28, .ref 54, .ref 55, .ref 104, .int 1]))))) rfl ?_
          refine Wp.steps 8 (pc1 := 96) (lo1 := [some (.ref 113), some (.int 2), some (.int a2), some (.int a3), some (.int a4), some (.int 0), some (.int 0), some (.int 0), some (.int 0), none, none]) (st1 := [.long ((a3).toInt64 + 0)]) (h1 := (zv_h0.set 0 (.inr (.inr (7, [.ref 1, .ref 30, .ref 25, .ref 28, .ref 54, .ref 55, .ref 104, .int 1]))))) rfl ?_
          refine Wp.steps 8 (pc1 := 108) (lo1 := [some (.ref 113), some (.int 2), some (.int a2), some (.int a3), some (.int a4), some (.int 0), some (.int 0), some (.int 0), some (.int 0), some (.long (((a3).toInt64 + 0) + 0)), none]) (st1 := [.int (-4)]) (h1 := (zv_h0.set 0 (.inr (.inr (7, [.ref 1, .ref 30, .ref 25, .ref 28, .ref 54, .ref 55, .ref 104, .int 1]))))) rfl ?_
          refine Wp.steps 8 (pc1 := 79) (lo1 := [some (.ref 113), some (.int 2), some (.int a2), some (.int a3), some (.int a4), some (.int 1), some (.int 0), some (.int 0), some (.int 1), some (.long (((a3).toInt64 + 0) + 0)), none]) (st1 := [.int 1]) (h1 := (zv_h0.set 0 (.inr (.inr (7, [.ref 1, .ref 30, .ref 25, .ref 28, .ref 54, .ref 55, .ref 104, .int 1]))))) rfl ?_
          refine Wp.steps 8 (pc1 := 62) (lo1 := [some (.ref 113), some (.int 2), some (.int a2), some (.int a3), some (.int a4), some (.int 1), some (.int 0), some (.int 1), some (.int 1), some (.long (((a3).toInt64 + 0) + 0)), none]) (st1 := []) (h1 := (zv_h0.set 0 (.inr (.inr (7, [.ref 1, .ref 30, .ref 25, .ref 28, .ref 54, .ref 55, .ref 104, .int 1]))))) rfl ?_
          refine Wp.steps 2 (pc1 := 66) (lo1 := [some (.ref 113), some (.int 2), some (.int a2), some (.int a3), some (.int a4), some (.int 1), some (.int 0), some (.int 1), some (.int 1), some (.long (((a3).toInt64 + 0) + 0)), none]) (st1 := [.int a4, .int 1]) (h1 := (zv_h0.set 0 (.inr (.inr (7, [.ref 1, .ref 30, .ref 25, .ref 28, .ref 54, .ref 55, .ref 104, .int 1]))))) rfl ?_
          refine Wp.icF (i := .nop) rfl (zq_F (by decide) rfl (show 1 < a4.toInt by omega)) ?_
          show Wp _ _ 186 69 [some (.ref 113), some (.int 2), some (.int a2), some (.int a3), some (.int a4), some (.int 1), some (.int 0), some (.int 1), some (.int 1), some (.long (((a3).toInt64 + 0) + 0)), none] [] (zv_h0.set 0 (.inr (.inr (7, [.ref 1, .ref 30, .ref 25, .ref 28, .ref 54, .ref 55, .ref 104, .int 1])))) _
          refine Wp.steps 6 (pc1 := 266) (lo1 := [some (.ref 113), some (.int 2), some (.int a2), some (.int a3), some (.int a4), some (.int 1), some (.int 0), some (.int 1), some (.int 1), some (.long (((a3).toInt64 + 0) + 0)), none]) (st1 := [.int 0]) (h1 := ((zv_h0.set 0 (.inr (.inr (7, [.ref 1, .ref 30, .ref 25, .ref 28, .ref 54, .ref 55, .ref 104, .int 1])))).set 113 (.inr (.inr (8, [.ref 114, .ref 115, .int 4, .int 0, .ref 116, .int 4, .int 0, .int 0, .int 0, .int 0, .int (-4), .int (-4), .int (-4), .ref 117, .int 0, .int 0, .int 0, .int 0, .int 0, .int 0, .int 0, .int 0, .ref 118, .ref 119, .ref 120, .ref 121, .int 1, .ref 122]))))) rfl ?_
          exact Wp.ret rfl rfl rfl ⟨rfl, rfl⟩
  · skip
    obtain rfl : a1 = 3 := Int32.toInt_inj.mp (h0.trans (by decide))
    rcases (by omega : (a2.toInt ≤ -1) ∨ (3 ≤ a2.toInt) ∨ (0 ≤ a2.toInt ∧ a2.toInt ≤ 2)) with h1 | h1 | h1
    · skip
      refine ⟨(-1), zv_h0, zv_h0, ?_, rfl, ?_, zv_len⟩
      · show Wp _ _ 87 0 [some (.ref 0), some (.int 3), some (.int a2), some (.int a3), some (.int a4), none, none, none, none, none] [] zv_h0 _
        refine Wp.steps 1 (pc1 := 1) (lo1 := [some (.ref 0), some (.int 3), some (.int a2), some (.int a3), some (.int a4), none, none, none, none, none]) (st1 := [.int 3]) (h1 := zv_h0) rfl ?_
        refine Wp.call (as := [.int 3]) (rest := []) rfl rfl rfl rfl rfl rfl rfl rfl rfl ?_
        show Wp _ _ 93 0 [some (.int 3)] [] zv_h0 _
        refine Wp.steps 6 (pc1 := 14) (lo1 := [some (.int 3)]) (st1 := [.int 0]) (h1 := zv_h0) rfl ?_
        refine Wp.ret rfl rfl rfl ?_
        show Wp _ _ 87 4 [some (.ref 0), some (.int 3), some (.int a2), some (.int a3), some (.int a4), none, none, none, none, none] [.int 0] zv_h0 _
        refine Wp.steps 2 (pc1 := 8) (lo1 := [some (.ref 0), some (.int 3), some (.int a2), some (.int a3), some (.int a4), none, none, none, none, none]) (st1 := [.int a2]) (h1 := zv_h0) rfl ?_
        refine Wp.call (as := [.int a2]) (rest := []) rfl rfl rfl rfl rfl rfl rfl rfl rfl ?_
        show Wp _ _ 94 0 [some (.int a2)] [] zv_h0 _
        refine Wp.steps 1 (pc1 := 1) (lo1 := [some (.int a2)]) (st1 := [.int a2]) (h1 := zv_h0) rfl ?_
        refine Wp.ifT (i := .nop) rfl (zq_T rfl (by decide) (show a2.toInt < 0 by omega)) ?_
        show Wp _ _ 94 9 [some (.int a2)] [] zv_h0 _
        refine Wp.steps 2 (pc1 := 14) (lo1 := [some (.int a2)]) (st1 := [.int 1]) (h1 := zv_h0) rfl ?_
        refine Wp.ret rfl rfl rfl ?_
        show Wp _ _ 87 11 [some (.ref 0), some (.int 3), some (.int a2), some (.int a3), some (.int a4), none, none, none, none, none] [.int 1] zv_h0 _
        refine Wp.steps 2 (pc1 := 27) (lo1 := [some (.ref 0), some (.int 3), some (.int a2), some (.int a3), some (.int a4), none, none, none, none, none]) (st1 := [.int (-1)]) (h1 := zv_h0) rfl ?_
        exact Wp.ret rfl rfl rfl ⟨rfl, rfl⟩
      · show Wp _ _ 186 0 [some (.ref 113), some (.int 3), some (.int a2), some (.int a3), some (.int a4), none, none, none, none, none, none] [] zv_h0 _
        refine Wp.steps 2 (pc1 := 2) (lo1 := [some (.ref 113), some (.int 3), some (.int a2), some (.int a3), some (.int a4), none, none, none, none, none, none]) (st1 := [.int a2, .int 3]) (h1 := zv_h0) rfl ?_
        refine Wp.call (as := [.int 3, .int a2]) (rest := []) rfl rfl rfl rfl rfl rfl rfl rfl rfl ?_
        show Wp _ _ 183 0 [some (.int 3), some (.int a2)] [] zv_h0 _
        refine Wp.steps 4 (pc1 := 6) (lo1 := [some (.int 3), some (.int a2)]) (st1 := [.long 3, .long 0, .long 3]) (h1 := zv_h0) rfl ?_
        refine Wp.call (as := [.long 3, .long 0, .long 3]) (rest := []) rfl rfl rfl rfl rfl rfl rfl rfl rfl ?_
        show Wp _ _ 107 0 [some (.long 3), none, some (.long 0), none, some (.long 3), none] [] zv_h0 _
        refine Wp.steps 9 (pc1 := 14) (lo1 := [some (.long 3), none, some (.long 0), none, some (.long 3), none]) (st1 := [.int 1]) (h1 := zv_h0) rfl ?_
        refine Wp.steps 1 (pc1 := 18) (lo1 := [some (.long 3), none, some (.long 0), none, some (.long 3), none]) (st1 := [.int 1]) (h1 := zv_h0) rfl ?_
        refine Wp.ret rfl rfl rfl ?_
        show Wp _ _ 183 9 [some (.int 3), some (.int a2)] [.int 1] zv_h0 _
        refine Wp.steps 5 (pc1 := 18) (lo1 := [some (.int 3), some (.int a2)]) (st1 := [.long 2, .long 0, .long (a2).toInt64]) (h1 := zv_h0) rfl ?_
        refine Wp.call (as := [.long (a2).toInt64, .long 0, .long 2]) (rest := []) rfl rfl rfl rfl rfl rfl rfl rfl rfl ?_
        refine zin_F (Int32.toInt_toInt64 _) (by decide) (by decide) (show a2.toInt < (0 : Int) ∨ (2 : Int) < a2.toInt by omega) ?_
        show Wp _ _ 183 21 [some (.int 3), some (.int a2)] [.int 0] zv_h0 _
        refine Wp.steps 2 (pc1 := 29) (lo1 := [some (.int 3), some (.int a2)]) (st1 := [.int 0]) (h1 := zv_h0) rfl ?_
        refine Wp.ret rfl rfl rfl ?_
        show Wp _ _ 186 5 [some (.ref 113), some (.int 3), some (.int a2), some (.int a3), some (.int a4), none, none, none, none, none, none] [.int 0] zv_h0 _
        refine Wp.steps 2 (pc1 := 22) (lo1 := [some (.ref 113), some (.int 3), some (.int a2), some (.int a3), some (.int a4), none, none, none, none, none, none]) (st1 := [.int (-1)]) (h1 := zv_h0) rfl ?_
        exact Wp.ret rfl rfl rfl ⟨rfl, rfl⟩
    · skip
      refine ⟨(-1), zv_h0, zv_h0, ?_, rfl, ?_, zv_len⟩
      · show Wp _ _ 87 0 [some (.ref 0), some (.int 3), some (.int a2), some (.int a3), some (.int a4), none, none, none, none, none] [] zv_h0 _
        refine Wp.steps 1 (pc1 := 1) (lo1 := [some (.ref 0), some (.int 3), some (.int a2), some (.int a3), some (.int a4), none, none, none, none, none]) (st1 := [.int 3]) (h1 := zv_h0) rfl ?_
        refine Wp.call (as := [.int 3]) (rest := []) rfl rfl rfl rfl rfl rfl rfl rfl rfl ?_
        show Wp _ _ 93 0 [some (.int 3)] [] zv_h0 _
        refine Wp.steps 6 (pc1 := 14) (lo1 := [some (.int 3)]) (st1 := [.int 0]) (h1 := zv_h0) rfl ?_
        refine Wp.ret rfl rfl rfl ?_
        show Wp _ _ 87 4 [some (.ref 0), some (.int 3), some (.int a2), some (.int a3), some (.int a4), none, none, none, none, none] [.int 0] zv_h0 _
        refine Wp.steps 2 (pc1 := 8) (lo1 := [some (.ref 0), some (.int 3), some (.int a2), some (.int a3), some (.int a4), none, none, none, none, none]) (st1 := [.int a2]) (h1 := zv_h0) rfl ?_
        refine Wp.call (as := [.int a2]) (rest := []) rfl rfl rfl rfl rfl rfl rfl rfl rfl ?_
        show Wp _ _ 94 0 [some (.int a2)] [] zv_h0 _
        refine Wp.steps 1 (pc1 := 1) (lo1 := [some (.int a2)]) (st1 := [.int a2]) (h1 := zv_h0) rfl ?_
        refine Wp.ifF (i := .nop) rfl (zq_F rfl (by decide) (show a2.toInt ≥ 0 by omega)) ?_
        show Wp _ _ 94 4 [some (.int a2)] [] zv_h0 _
        refine Wp.steps 2 (pc1 := 6) (lo1 := [some (.int a2)]) (st1 := [.int 2, .int a2]) (h1 := zv_h0) rfl ?_
        refine Wp.icF (i := .nop) rfl (zq_F rfl (by decide) (show a2.toInt > 2 by omega)) ?_
        show Wp _ _ 94 9 [some (.int a2)] [] zv_h0 _
        refine Wp.steps 2 (pc1 := 14) (lo1 := [some (.int a2)]) (st1 := [.int 1]) (h1 := zv_h0) rfl ?_
        refine Wp.ret rfl rfl rfl ?_
        show Wp _ _ 87 11 [some (.ref 0), some (.int 3), some (.int a2), some (.int a3), some (.int a4), none, none, none, none, none] [.int 1] zv_h0 _
        refine Wp.steps 2 (pc1 := 27) (lo1 := [some (.ref 0), some (.int 3), some (.int a2), some (.int a3), some (.int a4), none, none, none, none, none]) (st1 := [.int (-1)]) (h1 := zv_h0) rfl ?_
        exact Wp.ret rfl rfl rfl ⟨rfl, rfl⟩
      · show Wp _ _ 186 0 [some (.ref 113), some (.int 3), some (.int a2), some (.int a3), some (.int a4), none, none, none, none, none, none] [] zv_h0 _
        refine Wp.steps 2 (pc1 := 2) (lo1 := [some (.ref 113), some (.int 3), some (.int a2), some (.int a3), some (.int a4), none, none, none, none, none, none]) (st1 := [.int a2, .int 3]) (h1 := zv_h0) rfl ?_
        refine Wp.call (as := [.int 3, .int a2]) (rest := []) rfl rfl rfl rfl rfl rfl rfl rfl rfl ?_
        show Wp _ _ 183 0 [some (.int 3), some (.int a2)] [] zv_h0 _
        refine Wp.steps 4 (pc1 := 6) (lo1 := [some (.int 3), some (.int a2)]) (st1 := [.long 3, .long 0, .long 3]) (h1 := zv_h0) rfl ?_
        refine Wp.call (as := [.long 3, .long 0, .long 3]) (rest := []) rfl rfl rfl rfl rfl rfl rfl rfl rfl ?_
        show Wp _ _ 107 0 [some (.long 3), none, some (.long 0), none, some (.long 3), none] [] zv_h0 _
        refine Wp.steps 9 (pc1 := 14) (lo1 := [some (.long 3), none, some (.long 0), none, some (.long 3), none]) (st1 := [.int 1]) (h1 := zv_h0) rfl ?_
        refine Wp.steps 1 (pc1 := 18) (lo1 := [some (.long 3), none, some (.long 0), none, some (.long 3), none]) (st1 := [.int 1]) (h1 := zv_h0) rfl ?_
        refine Wp.ret rfl rfl rfl ?_
        show Wp _ _ 183 9 [some (.int 3), some (.int a2)] [.int 1] zv_h0 _
        refine Wp.steps 5 (pc1 := 18) (lo1 := [some (.int 3), some (.int a2)]) (st1 := [.long 2, .long 0, .long (a2).toInt64]) (h1 := zv_h0) rfl ?_
        refine Wp.call (as := [.long (a2).toInt64, .long 0, .long 2]) (rest := []) rfl rfl rfl rfl rfl rfl rfl rfl rfl ?_
        refine zin_F (Int32.toInt_toInt64 _) (by decide) (by decide) (show a2.toInt < (0 : Int) ∨ (2 : Int) < a2.toInt by omega) ?_
        show Wp _ _ 183 21 [some (.int 3), some (.int a2)] [.int 0] zv_h0 _
        refine Wp.steps 2 (pc1 := 29) (lo1 := [some (.int 3), some (.int a2)]) (st1 := [.int 0]) (h1 := zv_h0) rfl ?_
        refine Wp.ret rfl rfl rfl ?_
        show Wp _ _ 186 5 [some (.ref 113), some (.int 3), some (.int a2), some (.int a3), some (.int a4), none, none, none, none, none, none] [.int 0] zv_h0 _
        refine Wp.steps 2 (pc1 := 22) (lo1 := [some (.ref 113), some (.int 3), some (.int a2), some (.int a3), some (.int a4), none, none, none, none, none, none]) (st1 := [.int (-1)]) (h1 := zv_h0) rfl ?_
        exact Wp.ret rfl rfl rfl ⟨rfl, rfl⟩
    · skip
      rcases (by omega : (a4.toInt ≤ -1) ∨ (21 ≤ a4.toInt) ∨ (a4.toInt = 0) ∨ (a4.toInt = 1) ∨ (2 ≤ a4.toInt ∧ a4.toInt ≤ 20)) with h3 | h3 | h3 | h3 | h3
      · skip
        refine ⟨(-1), zv_h0, zv_h0, ?_, rfl, ?_, zv_len⟩
        · show Wp _ _ 87 0 [some (.ref 0), some (.int 3), some (.int a2), some (.int a3), some (.int a4), none, none, none, none, none] [] zv_h0 _
          refine Wp.steps 1 (pc1 := 1) (lo1 := [some (.ref 0), some (.int 3), some (.int a2), some (.int a3), some (.int a4), none, none, none, none, none]) (st1 := [.int 3]) (h1 := zv_h0) rfl ?_
          refine Wp.call (as := [.int 3]) (rest := []) rfl rfl rfl rfl rfl rfl rfl rfl rfl ?_
          show Wp _ _ 93 0 [some (.int 3)] [] zv_h0 _
          refine Wp.steps 6 (pc1 := 14) (lo1 := [some (.int 3)]) (st1 := [.int 0]) (h1 := zv_h0) rfl ?_
          refine Wp.ret rfl rfl rfl ?_
          show Wp _ _ 87 4 [some (.ref 0), some (.int 3), some (.int a2), some (.int a3), some (.int a4), none, none, none, none, none] [.int 0] zv_h0 _
          refine Wp.steps 2 (pc1 := 8) (lo1 := [some (.ref 0), some (.int 3), some (.int a2), some (.int a3), some (.int a4), none, none, none, none, none]) (st1 := [.int a2]) (h1 := zv_h0) rfl ?_
          refine Wp.call (as := [.int a2]) (rest := []) rfl rfl rfl rfl rfl rfl rfl rfl rfl ?_
          show Wp _ _ 94 0 [some (.int a2)] [] zv_h0 _
          refine Wp.steps 1 (pc1 := 1) (lo1 := [some (.int a2)]) (st1 := [.int a2]) (h1 := zv_h0) rfl ?_
          refine Wp.ifF (i := .nop) rfl (zq_F rfl (by decide) (show a2.toInt ≥ 0 by omega)) ?_
          show Wp _ _ 94 4 [some (.int a2)] [] zv_h0 _
          refine Wp.steps 2 (pc1 := 6) (lo1 := [some (.int a2)]) (st1 := [.int 2, .int a2]) (h1 := zv_h0) rfl ?_
          refine Wp.icT (i := .nop) rfl (zq_T rfl (by decide) (show a2.toInt ≤ 2 by omega)) ?_
          show Wp _ _ 94 13 [some (.int a2)] [] zv_h0 _
          refine Wp.steps 1 (pc1 := 14) (lo1 := [some (.int a2)]) (st1 := [.int 0]) (h1 := zv_h0) rfl ?_
          refine Wp.ret rfl rfl rfl ?_
          show Wp _ _ 87 11 [some (.ref 0), some (.int 3), some (.int a2), some (.int a3), some (.int a4), none, none, none, none, none] [.int 0] zv_h0 _
          refine Wp.steps 2 (pc1 := 16) (lo1 := [some (.ref 0), some (.int 3), some (.int a2), some (.int a3), some (.int a4), none, none, none, none, none]) (st1 := [.int a4]) (h1 := zv_h0) rfl ?_
          refine Wp.ifT (i := .nop) rfl (zq_T rfl (by decide) (show a4.toInt < 0 by omega)) ?_
          show Wp _ _ 87 26 [some (.ref 0), some (.int 3), some (.int a2), some (.int a3), some (.int a4), none, none, none, none, none] [] zv_h0 _
          refine Wp.steps 1 (pc1 := 27) (lo1 := [some (.ref 0), some (.int 3), some (.int a2), some (.int a3), some (.int a4), none, none, none, none, none]) (st1 := [.int (-1)]) (h1 := zv_h0) rfl ?_
          exact Wp.ret rfl rfl rfl ⟨rfl, rfl⟩
        · show Wp _ _ 186 0 [some (.ref 113), some (.int 3), some (.int a2), some (.int a3), some (.int a4), none, none, none, none, none, none] [] zv_h0 _
          refine Wp.steps 2 (pc1 := 2) (lo1 := [some (.ref 113), some (.int 3), some (.int a2), some (.int a3), some (.int a4), none, none, none, none, none, none]) (st1 := [.int a2, .int 3]) (h1 := zv_h0) rfl ?_
          refine Wp.call (as := [.int 3, .int a2]) (rest := []) rfl rfl rfl rfl rfl rfl rfl rfl rfl ?_
          show Wp _ _ 183 0 [some (.int 3), some (.int a2)] [] zv_h0 _
          refine Wp.steps 4 (pc1 := 6) (lo1 := [some (.int 3), some (.int a2)]) (st1 := [.long 3, .long 0, .long 3]) (h1 := zv_h0) rfl ?_
          refine Wp.call (as := [.long 3, .long 0, .long 3]) (rest := []) rfl rfl rfl rfl rfl rfl rfl rfl rfl ?_
          show Wp _ _ 107 0 [some (.long 3), none, some (.long 0), none, some (.long 3), none] [] zv_h0 _
          refine Wp.steps 9 (pc1 := 14) (lo1 := [some (.long 3), none, some (.long 0), none, some (.long 3), none]) (st1 := [.int 1]) (h1 := zv_h0) rfl ?_
          refine Wp.steps 1 (pc1 := 18) (lo1 := [some (.long 3), none, some (.long 0), none, some (.long 3), none]) (st1 := [.int 1]) (h1 := zv_h0) rfl ?_
          refine Wp.ret rfl rfl rfl ?_
          show Wp _ _ 183 9 [some (.int 3), some (.int a2)] [.int 1] zv_h0 _
          refine Wp.steps 5 (pc1 := 18) (lo1 := [some (.int 3), some (.int a2)]) (st1 := [.long 2, .long 0, .long (a2).toInt64]) (h1 := zv_h0) rfl ?_
          refine Wp.call (as := [.long (a2).toInt64, .long 0, .long 2]) (rest := []) rfl rfl rfl rfl rfl rfl rfl rfl rfl ?_
          refine zin_T (Int32.toInt_toInt64 _) (by decide) (by decide) (show (0 : Int) ≤ a2.toInt by omega) (show a2.toInt ≤ (2 : Int) by omega) ?_
          show Wp _ _ 183 21 [some (.int 3), some (.int a2)] [.int 1] zv_h0 _
          refine Wp.steps 3 (pc1 := 29) (lo1 := [some (.int 3), some (.int a2)]) (st1 := [.int 1]) (h1 := zv_h0) rfl ?_
          refine Wp.ret rfl rfl rfl ?_
          show Wp _ _ 186 5 [some (.ref 113), some (.int 3), some (.int a2), some (.int a3), some (.int a4), none, none, none, none, none, none] [.int 1] zv_h0 _
          refine Wp.steps 5 (pc1 := 15) (lo1 := [some (.ref 113), some (.int 3), some (.int a2), some (.int a3), some (.int a4), none, none, none, none, none, none]) (st1 := [.long 20, .long 0, .long (a4).toInt64]) (h1 := zv_h0) rfl ?_
          refine Wp.call (as := [.long (a4).toInt64, .long 0, .long 20]) (rest := []) rfl rfl rfl rfl rfl rfl rfl rfl rfl ?_
          refine zin_F (Int32.toInt_toInt64 _) (by decide) (by decide) (show a4.toInt < (0 : Int) ∨ (20 : Int) < a4.toInt by omega) ?_
          show Wp _ _ 186 18 [some (.ref 113), some (.int 3), some (.int a2), some (.int a3), some (.int a4), none, none, none, none, none, none] [.int 0] zv_h0 _
          refine Wp.steps 2 (pc1 := 22) (lo1 := [some (.ref 113), some (.int 3), some (.int a2), some (.int a3), some (.int a4), none, none, none, none, none, none]) (st1 := [.int (-1)]) (h1 := zv_h0) rfl ?_
          exact Wp.ret rfl rfl rfl ⟨rfl, rfl⟩
      · skip
        refine ⟨(-1), zv_h0, zv_h0, ?_, rfl, ?_, zv_len⟩
        · show Wp _ _ 87 0 [some (.ref 0), some (.int 3), some (.int a2), some (.int a3), some (.int a4), none, none, none, none, none] [] zv_h0 _
          refine Wp.steps 1 (pc1 := 1) (lo1 := [some (.ref 0), some (.int 3), some (.int a2), some (.int a3), some (.int a4), none, none, none, none, none]) (st1 := [.int 3]) (h1 := zv_h0) rfl ?_
          refine Wp.call (as := [.int 3]) (rest := []) rfl rfl rfl rfl rfl rfl rfl rfl rfl ?_
          show Wp _ _ 93 0 [some (.int 3)] [] zv_h0 _
          refine Wp.steps 6 (pc1 := 14) (lo1 := [some (.int 3)]) (st1 := [.int 0]) (h1 := zv_h0) rfl ?_
          refine Wp.ret rfl rfl rfl ?_
          show Wp _ _ 87 4 [some (.ref 0), some (.int 3), some (.int a2), some (.int a3), some (.int a4), none, none, none, none, none] [.int 0] zv_h0 _
          refine Wp.steps 2 (pc1 := 8) (lo1 := [some (.ref 0), some (.int 3), some (.int a2), some (.int a3), some (.int a4), none, none, none, none, none]) (st1 := [.int a2]) (h1 := zv_h0) rfl ?_
          refine Wp.call (as := [.int a2]) (rest := []) rfl rfl rfl rfl rfl rfl rfl rfl rfl ?_
          show Wp _ _ 94 0 [some (.int a2)] [] zv_h0 _
          refine Wp.steps 1 (pc1 := 1) (lo1 := [some (.int a2)]) (st1 := [.int a2]) (h1 := zv_h0) rfl ?_
          refine Wp.ifF (i := .nop) rfl (zq_F rfl (by decide) (show a2.toInt ≥ 0 by omega)) ?_
          show Wp _ _ 94 4 [some (.int a2)] [] zv_h0 _
          refine Wp.steps 2 (pc1 := 6) (lo1 := [some (.int a2)]) (st1 := [.int 2, .int a2]) (h1 := zv_h0) rfl ?_
          refine Wp.icT (i := .nop) rfl (zq_T rfl (by decide) (show a2.toInt ≤ 2 by omega)) ?_
          show Wp _ _ 94 13 [some (.int a2)] [] zv_h0 _
          refine Wp.steps 1 (pc1 := 14) (lo1 := [some (.int a2)]) (st1 := [.int 0]) (h1 := zv_h0) rfl ?_
          refine Wp.ret rfl rfl rfl ?_
          show Wp _ _ 87 11 [some (.ref 0), some (.int 3), some (.int a2), some (.int a3), some (.int a4), none, none, none, none, none] [.int 0] zv_h0 _
          refine Wp.steps 2 (pc1 := 16) (lo1 := [some (.ref 0), some (.int 3), some (.int a2), some (.int a3), some (.int a4), none, none, none, none, none]) (st1 := [.int a4]) (h1 := zv_h0) rfl ?_
          refine Wp.ifF (i := .nop) rfl (zq_F rfl (by decide) (show a4.toInt ≥ 0 by omega)) ?_
          show Wp _ _ 87 19 [some (.ref 0), some (.int 3), some (.int a2), some (.int a3), some (.int a4), none, none, none, none, none] [] zv_h0 _
          refine Wp.steps 2 (pc1 := 23) (lo1 := [some (.ref 0), some (.int 3), some (.int a2), some (.int a3), some (.int a4), none, none, none, none, none]) (st1 := [.int 20, .int a4]) (h1 := zv_h0) rfl ?_
          refine Wp.icF (i := .nop) rfl (zq_F rfl (by decide) (show a4.toInt > 20 by omega)) ?_
          show Wp _ _ 87 26 [some (.ref 0), some (.int 3), some (.int a2), some (.int a3), some (.int a4), none, none, none, none, none] [] zv_h0 _
          refine Wp.steps 1 (pc1 := 27) (lo1 := [some (.ref 0), some (.int 3), some (.int a2), some (.int a3), some (.int a4), none, none, none, none, none]) (st1 := [.int (-1)]) (h1 := zv_h0) rfl ?_
          exact Wp.ret rfl rfl rfl ⟨rfl, rfl⟩
        · show Wp _ _ 186 0 [some (.ref 113), some (.int 3), some (.int a2), some (.int a3), some (.int a4), none, none, none, none, none, none] [] zv_h0 _
          refine Wp.steps 2 (pc1 := 2) (lo1 := [some (.ref 113), some (.int 3), some (.int a2), some (.int a3), some (.int a4), none, none, none, none, none, none]) (st1 := [.int a2, .int 3]) (h1 := zv_h0) rfl ?_
          refine Wp.call (as := [.int 3, .int a2]) (rest := []) rfl rfl rfl rfl rfl rfl rfl rfl rfl ?_
          show Wp _ _ 183 0 [some (.int 3), some (.int a2)] [] zv_h0 _
          refine Wp.steps 4 (pc1 := 6) (lo1 := [some (.int 3), some (.int a2)]) (st1 := [.long 3, .long 0, .long 3]) (h1 := zv_h0) rfl ?_
          refine Wp.call (as := [.long 3, .long 0, .long 3]) (rest := []) rfl rfl rfl rfl rfl rfl rfl rfl rfl ?_
          show Wp _ _ 107 0 [some (.long 3), none, some (.long 0), none, some (.long 3), none] [] zv_h0 _
          refine Wp.steps 9 (pc1 := 14) (lo1 := [some (.long 3), none, some (.long 0), none, some (.long 3), none]) (st1 := [.int 1]) (h1 := zv_h0) rfl ?_
          refine Wp.steps 1 (pc1 := 18) (lo1 := [some (.long 3), none, some (.long 0), none, some (.long 3), none]) (st1 := [.int 1]) (h1 := zv_h0) rfl ?_
          refine Wp.ret rfl rfl rfl ?_
          show Wp _ _ 183 9 [some (.int 3), some (.int a2)] [.int 1] zv_h0 _
          refine Wp.steps 5 (pc1 := 18) (lo1 := [some (.int 3), some (.int a2)]) (st1 := [.long 2, .long 0, .long (a2).toInt64]) (h1 := zv_h0) rfl ?_
          refine Wp.call (as := [.long (a2).toInt64, .long 0, .long 2]) (rest := []) rfl rfl rfl rfl rfl rfl rfl rfl rfl ?_
          refine zin_T (Int32.toInt_toInt64 _) (by decide) (by decide) (show (0 : Int) ≤ a2.toInt by omega) (show a2.toInt ≤ (2 : Int) by omega) ?_
          show Wp _ _ 183 21 [some (.int 3), some (.int a2)] [.int 1] zv_h0 _
          refine Wp.steps 3 (pc1 := 29) (lo1 := [some (.int 3), some (.int a2)]) (st1 := [.int 1]) (h1 := zv_h0) rfl ?_
          refine Wp.ret rfl rfl rfl ?_
          show Wp _ _ 186 5 [some (.ref 113), some (.int 3), some (.int a2), some (.int a3), some (.int a4), none, none, none, none, none, none] [.int 1] zv_h0 _
          refine Wp.steps 5 (pc1 := 15) (lo1 := [some (.ref 113), some (.int 3), some (.int a2), some (.int a3), some (.int a4), none, none, none, none, none, none]) (st1 := [.long 20, .long 0, .long (a4).toInt64]) (h1 := zv_h0) rfl ?_
          refine Wp.call (as := [.long (a4).toInt64, .long 0, .long 20]) (rest := []) rfl rfl rfl rfl rfl rfl rfl rfl rfl ?_
          refine zin_F (Int32.toInt_toInt64 _) (by decide) (by decide) (show a4.toInt < (0 : Int) ∨ (20 : Int) < a4.toInt by omega) ?_
          show Wp _ _ 186 18 [some (.ref 113), some (.int 3), some (.int a2), some (.int a3), some (.int a4), none, none, none, none, none, none] [.int 0] zv_h0 _
          refine Wp.steps 2 (pc1 := 22) (lo1 := [some (.ref 113), some (.int 3), some (.int a2), some (.int a3), some (.int a4), none, none, none, none, none, none]) (st1 := [.int (-1)]) (h1 := zv_h0) rfl ?_
          exact Wp.ret rfl rfl rfl ⟨rfl, rfl⟩
      · skip
        obtain rfl : a4 = 0 := Int32.toInt_inj.mp (h3.trans (by decide))
        refine ⟨0, zv_h0, zv_h0, ?_, rfl, ?_, zv_len⟩
        · show Wp _ _ 87 0 [some (.ref 0), some (.int 3), some (.int a2), some (.int a3), some (.int 0), none, none, none, none, none] [] zv_h0 _
          refine Wp.steps 1 (pc1 := 1) (lo1 := [some (.ref 0), some (.int 3), some (.int a2), some (.int a3), some (.int 0), none, none, none, none, none]) (st1 := [.int 3]) (h1 := zv_h0) rfl ?_
          refine Wp.call (as := [.int 3]) (rest := []) rfl rfl rfl rfl rfl rfl rfl rfl rfl ?_
          show Wp _ _ 93 0 [some (.int 3)] [] zv_h0 _
          refine Wp.steps 6 (pc1 := 14) (lo1 := [some (.int 3)]) (st1 := [.int 0]) (h1 := zv_h0) rfl ?_
          refine Wp.ret rfl rfl rfl ?_
          show Wp _ _ 87 4 [some (.ref 0), some (.int 3), some (.int a2), some (.int a3), some (.int 0), none, none, none, none, none] [.int 0] zv_h0 _
          refine Wp.steps 2 (pc1 := 8) (lo1 := [some (.ref 0), some (.int 3), some (.int a2), some (.int a3), some (.int 0), none, none, none, none, none]) (st1 := [.int a2]) (h1 := zv_h0) rfl ?_
          refine Wp.call (as := [.int a2]) (rest := []) rfl rfl rfl rfl rfl rfl rfl rfl rfl ?_
          show Wp _ _ 94 0 [some (.int a2)] [] zv_h0 _
          refine Wp.steps 1 (pc1 := 1) (lo1 := [some (.int a2)]) (st1 := [.int a2]) (h1 := zv_h0) rfl ?_
          refine Wp.ifF (i := .nop) rfl (zq_F rfl (by decide) (show a2.toInt ≥ 0 by omega)) ?_
          show Wp _ _ 94 4 [some (.int a2)] [] zv_h0 _
          refine Wp.steps 2 (pc1 := 6) (lo1 := [some (.int a2)]) (st1 := [.int 2, .int a2]) (h1 := zv_h0) rfl ?_
          refine Wp.icT (i := .nop) rfl (zq_T rfl (by decide) (show a2.toInt ≤ 2 by omega)) ?_
          show Wp _ _ 94 13 [some (.int a2)] [] zv_h0 _
          refine Wp.steps 1 (pc1 := 14) (lo1 := [some (.int a2)]) (st1 := [.int 0]) (h1 := zv_h0) rfl ?_
          refine Wp.ret rfl rfl rfl ?_
          show Wp _ _ 87 11 [some (.ref 0), some (.int 3), some (.int a2), some (.int a3), some (.int 0), none, none, none, none, none] [.int 0] zv_h0 _
          refine Wp.steps 8 (pc1 := 32) (lo1 := [some (.ref 0), some (.int 3), some (.int a2), some (.int a3), some (.int 0), none, none, none, none, none]) (st1 := [.ref 104]) (h1 := zv_h0) rfl ?_
          refine Wp.steps 5 (pc1 := 39) (lo1 := [some (.ref 0), some (.int 3), some (.int a2), some (.int a3), some (.int 0), some (.ref 111), none, none, none, none]) (st1 := [.int a2, .ref 111]) (h1 := zv_h0) rfl ?_
          refine Wp.call (as := [.ref 111, .int a2]) (rest := []) rfl rfl rfl rfl rfl rfl rfl rfl rfl ?_
          show Wp _ _ 48 0 [some (.ref 111), some (.int a2)] [] zv_h0 _
          refine Wp.steps 1 (pc1 := 1) (lo1 := [some (.ref 111), some (.int a2)]) (st1 := [.ref 111]) (h1 := zv_h0) rfl ?_
          refine Wp.call (as := [.ref 111]) (rest := []) rfl rfl rfl rfl rfl rfl rfl rfl rfl ?_
          show Wp _ _ 46 0 [some (.ref 111)] [] zv_h0 _
          refine Wp.steps 6 (pc1 := 13) (lo1 := [some (.ref 111)]) (st1 := [.int 1]) (h1 := zv_h0) rfl ?_
          refine Wp.ret rfl rfl rfl ?_
          show Wp _ _ 48 4 [some (.ref 111), some (.int a2)] [.int 1] zv_h0 _
          refine Wp.steps 3 (pc1 := 20) (lo1 := [some (.ref 111), some (.int a2)]) (st1 := [.int 0]) (h1 := zv_h0) rfl ?_
          refine Wp.ret rfl rfl rfl ?_
          show Wp _ _ 87 42 [some (.ref 0), some (.int 3), some (.int a2), some (.int a3), some (.int 0), some (.ref 111), none, none, none, none] [.int 0] zv_h0 _
          refine Wp.steps 9 (pc1 := 128) (lo1 := [some (.ref 0), some (.int 3), some (.int a2), some (.int a3), some (.int 0), some (.ref 111), some (.int 0), some (.int 0), some (.int 0), none]) (st1 := [.int 0]) (h1 := zv_h0) rfl ?_
          refine Wp.steps 8 (pc1 := 188) (lo1 := [some (.ref 0), some (.int 3), some (.int a2), some (.int a3), some (.int 0), some (.ref 111), some (.int 0), some (.int 0), some (.int 0), none]) (st1 := [.int 0]) (h1 := zv_h0) rfl ?_
          exact Wp.ret rfl rfl rfl ⟨rfl, rfl⟩
        · show Wp _ _ 186 0 [some (.ref 113), some (.int 3), some (.int a2), some (.int a3), some (.int 0), none, none, none, none, none, none] [] zv_h0 _
          refine Wp.steps 2 (pc1 := 2) (lo1 := [some (.ref 113), some (.int 3), some (.int a2), some (.int a3), some (.int 0), none, none, none, none, none, none]) (st1 := [.int a2, .int 3]) (h1 := zv_h0) rfl ?_
          refine Wp.call (as := [.int 3, .int a2]) (rest := []) rfl rfl rfl rfl rfl rfl rfl rfl rfl ?_
          show Wp _ _ 183 0 [some (.int 3), some (.int a2)] [] zv_h0 _
          refine Wp.steps 4 (pc1 := 6) (lo1 := [some (.int 3), some (.int a2)]) (st1 := [.long 3, .long 0, .long 3]) (h1 := zv_h0) rfl ?_
          refine Wp.call (as := [.long 3, .long 0, .long 3]) (rest := []) rfl rfl rfl rfl rfl rfl rfl rfl rfl ?_
          show Wp _ _ 107 0 [some (.long 3), none, some (.long 0), none, some (.long 3), none] [] zv_h0 _
          refine Wp.steps 9 (pc1 := 14) (lo1 := [some (.long 3), none, some (.long 0), none, some (.long 3), none]) (st1 := [.int 1]) (h1 := zv_h0) rfl ?_
          refine Wp.steps 1 (pc1 := 18) (lo1 := [some (.long 3), none, some (.long 0), none, some (.long 3), none]) (st1 := [.int 1]) (h1 := zv_h0) rfl ?_
          refine Wp.ret rfl rfl rfl ?_
          show Wp _ _ 183 9 [some (.int 3), some (.int a2)] [.int 1] zv_h0 _
          refine Wp.steps 5 (pc1 := 18) (lo1 := [some (.int 3), some (.int a2)]) (st1 := [.long 2, .long 0, .long (a2).toInt64]) (h1 := zv_h0) rfl ?_
          refine Wp.call (as := [.long (a2).toInt64, .long 0, .long 2]) (rest := []) rfl rfl rfl rfl rfl rfl rfl rfl rfl ?_
          refine zin_T (Int32.toInt_toInt64 _) (by decide) (by decide) (show (0 : Int) ≤ a2.toInt by omega) (show a2.toInt ≤ (2 : Int) by omega) ?_
          show Wp _ _ 183 21 [some (.int 3), some (.int a2)] [.int 1] zv_h0 _
          refine Wp.steps 3 (pc1 := 29) (lo1 := [some (.int 3), some (.int a2)]) (st1 := [.int 1]) (h1 := zv_h0) rfl ?_
          refine Wp.ret rfl rfl rfl ?_
          show Wp _ _ 186 5 [some (.ref 113), some (.int 3), some (.int a2), some (.int a3), some (.int 0), none, none, none, none, none, none] [.int 1] zv_h0 _
          refine Wp.steps 5 (pc1 := 15) (lo1 := [some (.ref 113), some (.int 3), some (.int a2), some (.int a3), some (.int 0), none, none, none, none, none, none]) (st1 := [.long 20, .long 0, .long 0]) (h1 := zv_h0) rfl ?_
          refine Wp.call (as := [.long 0, .long 0, .long 20]) (rest := []) rfl rfl rfl rfl rfl rfl rfl rfl rfl ?_
          show Wp _ _ 107 0 [some (.long 0), none, some (.long 0), none, some (.long 20), none] [] zv_h0 _
          refine Wp.steps 9 (pc1 := 14) (lo1 := [some (.long 0), none, some (.long 0), none, some (.long 20), none]) (st1 := [.int 1]) (h1 := zv_h0) rfl ?_
          refine Wp.steps 1 (pc1 := 18) (lo1 := [some (.long 0), none, some (.long 0), none, some (.long 20), none]) (st1 := [.int 1]) (h1 := zv_h0) rfl ?_
          refine Wp.ret rfl rfl rfl ?_
          show Wp _ _ 186 18 [some (.ref 113), some (.int 3), some (.int a2), some (.int a3), some (.int 0), none, none, none, none, none, none] [.int 1] zv_h0 _
          refine Wp.steps 1 (pc1 := 23) (lo1 := [some (.ref 113), some (.int 3), some (.int a2), some (.int a3), some (.int 0), none, none, none, none, none, none]) (st1 := []) (h1 := zv_h0) rfl ?_
          refine zrd_0 3 a2 a3 0 ?_
          show Wp _ _ 186 53 [some (.ref 113), some (.int 3), some (.int a2), some (.int a3), some (.int 0), some (.int 8), none, none, none, none, none] [] zv_h0 _
          refine Wp.steps 8 (pc1 := 66) (lo1 := [some (.ref 113), some (.int 3), some (.int a2), some (.int a3), some (.int 0), some (.int 0), some (.int 0), some (.int 0), none, none, none]) (st1 := [.int 0, .int 0]) (h1 := zv_h0) rfl ?_
          refine Wp.steps 5 (pc1 := 266) (lo1 := [some (.ref 113), some (.int 3), some (.int a2), some (.int a3), some (.int 0), some (.int 0), some (.int 0), some (.int 0), none, none, none]) (st1 := [.int 0]) (h1 := zv_h0) rfl ?_
          exact Wp.ret rfl rfl rfl ⟨rfl, rfl⟩
      · skip
        obtain rfl : a4 = 1 := Int32.toInt_inj.mp (h3.trans (by decide))
        refine ⟨0, (zv_h0.set 0 (.inr (.inr (7, [.ref 1, .ref 30, .ref 25, .ref 28, .ref 54, .ref 55, .ref 104, .int 1])))), ((zv_h0.set 0 (.inr (.inr (7, [.ref 1, .ref 30, .ref 25, .ref 28, .ref 54, .ref 55, .ref 104, .int 1])))).set 113 (.inr (.inr (8, [.ref 114, .ref 115, .int 4, .int 0, .ref 116, .int 4, .int 0, .int 0, .int 0, .int 0, .int (-4), .int (-4), .int (-4), .ref 117, .int 0, .int 0, .int 0, .int 0, .int 0, .int 0, .int 0, .int 0, .ref 118, .ref 119, .ref 120, .ref 121, .int 1, .ref 122])))), ?_, rfl, ?_, (zv_ls rfl rfl (zv_ls rfl rfl zv_len))⟩
        · show Wp _ _ 87 0 [some (.ref 0), some (.int 3), some (.int a2), some (.int a3), some (.int 1), none, none, none, none, none] [] zv_h0 _
          refine Wp.steps 1 (pc1 := 1) (lo1 := [some (.ref 0), some (.int 3), some (.int a2), some (.int a3), some (.int 1), none, none, none, none, none]) (st1 := [.int 3]) (h1 := zv_h0) rfl ?_
          refine Wp.call (as := [.int 3]) (rest := []) rfl rfl rfl rfl rfl rfl rfl rfl rfl ?_
          show Wp _ _ 93 0 [some (.int 3)] [] zv_h0 _
          refine Wp.steps 6 (pc1 := 14) (lo1 := [some (.int 3)]) (st1 := [.int 0]) (h1 := zv_h0) rfl ?_
          refine Wp.ret rfl rfl rfl ?_
          show Wp _ _ 87 4 [some (.ref 0), some (.int 3), some (.int a2), some (.int a3), some (.int 1), none, none, none, none, none] [.int 0] zv_h0 _
          refine Wp.steps 2 (pc1 := 8) (lo1 := [some (.ref 0), some (.int 3), some (.int a2), some (.int a3), some (.int 1), none, none, none, none, none]) (st1 := [.int a2]) (h1 := zv_h0) rfl ?_
          refine Wp.call (as := [.int a2]) (rest := []) rfl rfl rfl rfl rfl rfl rfl rfl rfl ?_
          show Wp _ _ 94 0 [some (.int a2)] [] zv_h0 _
          refine Wp.steps 1 (pc1 := 1) (lo1 := [some (.int a2)]) (st1 := [.int a2]) (h1 := zv_h0) rfl ?_
          refine Wp.ifF (i := .nop) rfl (zq_F rfl (by decide) (show a2.toInt ≥ 0 by omega)) ?_
          show Wp _ _ 94 4 [some (.int a2)] [] zv_h0 _
          refine Wp.steps 2 (pc1 := 6) (lo1 := [some (.int a2)]) (st1 := [.int 2, .int a2]) (h1 := zv_h0) rfl ?_
          refine Wp.icT (i := .nop) rfl (zq_T rfl (by decide) (show a2.toInt ≤ 2 by omega)) ?_
          show Wp _ _ 94 13 [some (.int a2)] [] zv_h0 _
          refine Wp.steps 1 (pc1 := 14) (lo1 := [some (.int a2)]) (st1 := [.int 0]) (h1 := zv_h0) rfl ?_
          refine Wp.ret rfl rfl rfl ?_
          show Wp _ _ 87 11 [some (.ref 0), some (.int 3), some (.int a2), some (.int a3), some (.int 1), none, none, none, none, none] [.int 0] zv_h0 _
          refine Wp.steps 8 (pc1 := 32) (lo1 := [some (.ref 0), some (.int 3), some (.int a2), some (.int a3), some (.int 1), none, none, none, none, none]) (st1 := [.ref 104]) (h1 := zv_h0) rfl ?_
          refine Wp.steps 5 (pc1 := 39) (lo1 := [some (.ref 0), some (.int 3), some (.int a2), some (.int a3), some (.int 1), some (.ref 111), none, none, none, none]) (st1 := [.int a2, .ref 111]) (h1 := zv_h0) rfl ?_
          refine Wp.call (as := [.ref 111, .int a2]) (rest := []) rfl rfl rfl rfl rfl rfl rfl rfl rfl ?_
          show Wp _ _ 48 0 [some (.ref 111), some (.int a2)] [] zv_h0 _
          refine Wp.steps 1 (pc1 := 1) (lo1 := [some (.ref 111), some (.int a2)]) (st1 := [.ref 111]) (h1 := zv_h0) rfl ?_
          refine Wp.call (as := [.ref 111]) (rest := []) rfl rfl rfl rfl rfl rfl rfl rfl rfl ?_
          show Wp _ _ 46 0 [some (.ref 111)] [] zv_h0 _
          refine Wp.steps 6 (pc1 := 13) (lo1 := [some (.ref 111)]) (st1 := [.int 1]) (h1 := zv_h0) rfl ?_
          refine Wp.ret rfl rfl rfl ?_
          show Wp _ _ 48 4 [some (.ref 111), some (.int a2)] [.int 1] zv_h0 _
          refine Wp.steps 3 (pc1 := 20) (lo1 := [some (.ref 111), some (.int a2)]) (st1 := [.int 0]) (h1 := zv_h0) rfl ?_
          refine Wp.ret rfl rfl rfl ?_
          show Wp _ _ 87 42 [some (.ref 0), some (.int 3), some (.int a2), some (.int a3), some (.int 1), some (.ref 111), none, none, none, none] [.int 0] zv_h0 _
          refine Wp.steps 9 (pc1 := 59) (lo1 := [some (.ref 0), some (.int 3), some (.int a2), some (.int a3), some (.int 1), some (.ref 111), some (.int 0), some (.int 0), some (.int 0), none]) (st1 := [.int 0]) (h1 := zv_h0) rfl ?_
          refine Wp.steps 8 (pc1 := 72) (lo1 := [some (.ref 0), some (.int 3), some (.int a2), some (.int a3), some (.int 1), some (.ref 111), some (.int 0), some (.int 0), some (.int 0), some (.int (a3 + 0))]) (st1 := [.ref 111]) (h1 := zv_h0) rfl ?_
          refine Wp.steps 1 (pc1 := 74) (lo1 := [some (.ref 0), some (.int 3), some (.int a2), some (.int a3), some (.int 1), some (.ref 111), some (.int 0), some (.int 0), some (.int 0), some (.int (a3 + 0))]) (st1 := [.int (a3 + 0), .ref 111]) (h1 := zv_h0) rfl ?_
          refine Wp.call (as := [.ref 111, .int (a3 + 0)]) (rest := []) rfl rfl rfl rfl rfl rfl rfl rfl rfl ?_
          show Wp _ _ 50 0 [some (.ref 111), some (.int (a3 + 0)), none] [] zv_h0 _
          refine Wp.steps 2 (pc1 := 2) (lo1 := [some (.ref 111), some (.int (a3 + 0)), none]) (st1 := [.int (a3 + 0), .ref 111]) (h1 := zv_h0) rfl ?_
          refine Wp.call (as := [.ref 111, .int (a3 + 0)]) (rest := []) rfl rfl rfl rfl rfl rfl rfl rfl rfl ?_
          show Wp _ _ 49 0 [some (.ref 111), some (.int (a3 + 0))] [] zv_h0 _
          refine Wp.steps 1 (pc1 := 1) (lo1 := [some (.ref 111), some (.int (a3 + 0))]) (st1 := [.ref 111]) (h1 := zv_h0) rfl ?_
          refine Wp.call (as := [.ref 111]) (rest := []) rfl rfl rfl rfl rfl rfl rfl rfl rfl ?_
          show Wp _ _ 46 0 [some (.ref 111)] [] zv_h0 _
          refine Wp.steps 6 (pc1 := 13) (lo1 := [some (.ref 111)]) (st1 := [.int 1]) (h1 := zv_h0) rfl ?_
          refine Wp.ret rfl rfl rfl ?_
          show Wp _ _ 49 4 [some (.ref 111), some (.int (a3 + 0))] [.int 1] zv_h0 _
          refine Wp.steps 2 (pc1 := 8) (lo1 := [some (.ref 111), some (.int (a3 + 0))]) (st1 := [.int 1]) (h1 := zv_h0) rfl ?_
          refine Wp.ret rfl rfl rfl ?_
          show Wp _ _ 50 5 [some (.ref 111), some (.int (a3 + 0)), none] [.int 1] zv_h0 _
          refine Wp.steps 5 (pc1 := 21) (lo1 := [some (.ref 111), some (.int (a3 + 0)), some (.int 1)]) (st1 := [.int 1]) (h1 := zv_h0) rfl ?_
          refine Wp.ret rfl rfl rfl ?_
          show Wp _ _ 87 77 [some (.ref 0), some (.int 3), some (.int a2), some (.int a3), some (.int 1), some (.ref 111), some (.int 0), some (.int 0), some (.int 0), some (.int (a3 + 0))] [.int 1] zv_h0 _
          refine Wp.steps 9 (pc1 := 128) (lo1 := [some (.ref 0), some (.int 3), some (.int a2), some (.int a3), some (.int 1), some (.ref 111), some (.int 1), some (.int 0), some (.int 1), some (.int (a3 + 0))]) (st1 := [.int 0]) (h1 := zv_h0) rfl ?_
          refine Wp.steps 8 (pc1 := 188) (lo1 := [some (.ref 0), some (.int 3), some (.int a2), some (.int a3), some (.int 1), some (.ref 111), some (.int 1), some (.int 0), some (.int 0), some (.int (a3 + 0))]) (st1 := [.int 0]) (h1 := (zv_h0.set 0 (.inr (.inr (7, [.ref 1, .ref 30, .ref 25, .ref 28, .ref 54, .ref 55, .ref 104, .int 1]))))) rfl ?_
          exact Wp.ret rfl rfl rfl ⟨rfl, rfl⟩
        · show Wp _ _ 186 0 [some (.ref 113), some (.int 3), some (.int a2), some (.int a3), some (.int 1), none, none, none, none, none, none] [] (zv_h0.set 0 (.inr (.inr (7, [.ref 1, .ref 30, .ref 25, .ref 28, .ref 54, .ref 55, .ref 104, .int 1])))) _
          refine Wp.steps 2 (pc1 := 2) (lo1 := [some (.ref 113), some (.int 3), some (.int a2), some (.int a3), some (.int 1), none, none, none, none, none, none]) (st1 := [.int a2, .int 3]) (h1 := (zv_h0.set 0 (.inr (.inr (7, [.ref 1, .ref 30, .ref 25, .ref 28, .ref 54, .ref 55, .ref 104, .int 1]))))) rfl ?_
          refine Wp.call (as := [.int 3, .int a2]) (rest := []) rfl rfl rfl rfl rfl rfl rfl rfl rfl ?_
          show Wp _ _ 183 0 [some (.int 3), some (.int a2)] [] (zv_h0.set 0 (.inr (.inr (7, [.ref 1, .ref 30, .ref 25, .ref 28, .ref 54, .ref 55, .ref 104, .int 1])))) _
          refine Wp.steps 4 (pc1 := 6) (lo1 := [some (.int 3), some (.int a2)]) (st1 := [.long 3, .long 0, .long 3]) (h1 := (zv_h0.set 0 (.inr (.inr (7, [.ref 1, .ref 30, .ref 25, .ref 28, .ref 54, .ref 55, .ref 104, .int 1]))))) rfl ?_
          refine Wp.call (as := [.long 3, .long 0, .long 3]) (rest := []) rfl rfl rfl rfl rfl rfl rfl rfl rfl ?_
          show Wp _ _ 107 0 [some (.long 3), none, some (.long 0), none, some (.long 3), none] [] (zv_h0.set 0 (.inr (.inr (7, [.ref 1, .ref 30, .ref 25, .ref 28, .ref 54, .ref 55, .ref 104, .int 1])))) _
          refine Wp.steps 9 (pc1 := 14) (lo1 := [some (.long 3), none, some (.long 0), none, some (.long 3), none]) (st1 := [.int 1]) (h1 := (zv_h0.set 0 (.inr (.inr (7, [.ref 1, .ref 30, .ref 25, .ref 28, .ref 54, .ref 55, .ref 104, .int 1]))))) rfl ?_
          refine Wp.steps 1 (pc1 := 18) (lo1 := [some (.long 3), none, some (.long 0), none, some (.long 3), none]) (st1 := [.int 1]) (h1 := (zv_h0.set 0 (.inr (.inr (7, [.ref 1, .ref 30, .ref 25, .ref 28, .ref 54, .ref 55, .ref 104, .int 1]))))) rfl ?_
          refine Wp.ret rfl rfl rfl ?_
          show Wp _ _ 183 9 [some (.int 3), some (.int a2)] [.int 1] (zv_h0.set 0 (.inr (.inr (7, [.ref 1, .ref 30, .ref 25, .ref 28, .ref 54, .ref 55, .ref 104, .int 1])))) _
          refine Wp.steps 5 (pc1 := 18) (lo1 := [some (.int 3), some (.int a2)]) (st1 := [.long 2, .long 0, .long (a2).toInt64]) (h1 := (zv_h0.set 0 (.inr (.inr (7, [.ref 1, .ref 30, .ref 25, .ref 28, .ref 54, .ref 55, .ref 104, .int 1]))))) rfl ?_
          refine Wp.call (as := [.long (a2).toInt64, .long 0, .long 2]) (rest := []) rfl rfl rfl rfl rfl rfl rfl rfl rfl ?_
          refine zin_T (Int32.toInt_toInt64 _) (by decide) (by decide) (show (0 : Int) ≤ a2.toInt by omega) (show a2.toInt ≤ (2 : Int) by omega) ?_
          show Wp _ _ 183 21 [some (.int 3), some (.int a2)] [.int 1] (zv_h0.set 0 (.inr (.inr (7, [.ref 1, .ref 30, .ref 25, .ref 28, .ref 54, .ref 55, .ref 104, .int 1])))) _
          refine Wp.steps 3 (pc1 := 29) (lo1 := [some (.int 3), some (.int a2)]) (st1 := [.int 1]) (h1 := (zv_h0.set 0 (.inr (.inr (7, [.ref 1, .ref 30, .ref 25, .ref 28, .ref 54, .ref 55, .ref 104, .int 1]))))) rfl ?_
          refine Wp.ret rfl rfl rfl ?_
          show Wp _ _ 186 5 [some (.ref 113), some (.int 3), some (.int a2), some (.int a3), some (.int 1), none, none, none, none, none, none] [.int 1] (zv_h0.set 0 (.inr (.inr (7, [.ref 1, .ref 30, .ref 25, .ref 28, .ref 54, .ref 55, .ref 104, .int 1])))) _
          refine Wp.steps 5 (pc1 := 15) (lo1 := [some (.ref 113), some (.int 3), some (.int a2), some (.int a3), some (.int 1), none, none, none, none, none, none]) (st1 := [.long 20, .long 0, .long 1]) (h1 := (zv_h0.set 0 (.inr (.inr (7, [.ref 1, .ref 30, .ref 25, .ref 28, .ref 54, .ref 55, .ref 104, .int 1]))))) rfl ?_
          refine Wp.call (as := [.long 1, .long 0, .long 20]) (rest := []) rfl rfl rfl rfl rfl rfl rfl rfl rfl ?_
          show Wp _ _ 107 0 [some (.long 1), none, some (.long 0), none, some (.long 20), none] [] (zv_h0.set 0 (.inr (.inr (7, [.ref 1, .ref 30, .ref 25, .ref 28, .ref 54, .ref 55, .ref 104, .int 1])))) _
          refine Wp.steps 9 (pc1 := 14) (lo1 := [some (.long 1), none, some (.long 0), none, some (.long 20), none]) (st1 := [.int 1]) (h1 := (zv_h0.set 0 (.inr (.inr (7, [.ref 1, .ref 30, .ref 25, .ref 28, .ref 54, .ref 55, .ref 104, .int 1]))))) rfl ?_
          refine Wp.steps 1 (pc1 := 18) (lo1 := [some (.long 1), none, some (.long 0), none, some (.long 20), none]) (st1 := [.int 1]) (h1 := (zv_h0.set 0 (.inr (.inr (7, [.ref 1, .ref 30, .ref 25, .ref 28, .ref 54, .ref 55, .ref 104, .int 1]))))) rfl ?_
          refine Wp.ret rfl rfl rfl ?_
          show Wp _ _ 186 18 [some (.ref 113), some (.int 3), some (.int a2), some (.int a3), some (.int 1), none, none, none, none, none, none] [.int 1] (zv_h0.set 0 (.inr (.inr (7, [.ref 1, .ref 30, .ref 25, .ref 28, .ref 54, .ref 55, .ref 104, .int 1])))) _
          refine Wp.steps 1 (pc1 := 23) (lo1 := [some (.ref 113), some (.int 3), some (.int a2), some (.int a3), some (.int 1), none, none, none, none, none, none]) (st1 := []) (h1 := (zv_h0.set 0 (.inr (.inr (7, [.ref 1, .ref 30, .ref 25, .ref 28, .ref 54, .ref 55, .ref 104, .int 1]))))) rfl ?_
          refine zrd_1 3 a2 a3 1 ?_
          show Wp _ _ 186 53 [some (.ref 113), some (.int 3), some (.int a2), some (.int a3), some (.int 1), some (.int 8), none, none, none, none, none] [] (zv_h0.set 0 (.inr (.inr (7, [.ref 1, .ref 30, .ref 25, .ref 28, .ref 54, .ref 55, .ref 104, .int 1])))) _
          refine Wp.steps 8 (pc1 := 66) (lo1 := [some (.ref 113), some (.int 3), some (.int a2), some (.int a3), some (.int 1), some (.int 0), some (.int 0), some (.int 0), none, none, none]) (st1 := [.int 1, .int 0]) (h1 := (zv_h0.set 0 (.inr (.inr (7, [.ref 1, .ref 30, .ref 25, .ref 28, .ref 54, .ref 55, .ref 104, .int 1]))))) rfl ?_
          refine Wp.steps 9 (pc1 := 85) (lo1 := [some (.ref 113), some (.int 3), some (.int a2), some (.int a3), some (.int 1), some (.int 0), some (.int 0), some (.int 0), some (.int 0), none, none]) (st1 := [.int 0]) (h1 := (zv_h0.set 0 (.inr (.inr (7, [.ref 1, .ref 30, .ref 25, .ref 28, .ref 54, .ref 55, .ref 104, .int 1]))))) rfl ?_
          refine Wp.steps 8 (pc1 := 96) (lo1 := [some (.ref 113), some (.int 3), some (.int a2), some (.int a3), some (.int 1), some (.int 0), some (.int 0), some (.int 0), some (.int 0), none, none]) (st1 := [.long ((a3).toInt64 + 0)]) (h1 := (zv_h0.set 0 (.inr (.inr (7, [.ref 1, .ref 30, .ref 25, .ref 28, .ref 54, .ref 55, .ref 104, .int 1]))))) rfl ?_
          refine Wp.steps 8 (pc1 := 108) (lo1 := [some (.ref 113), some (.int 3), some (.int a2), some (.int a3), some (.int 1), some (.int 0), some (.int 0), some (.int 0), some (.int 0), some (.long (((a3).toInt64 + 0) + 0)), none]) (st1 := [.int (-4)]) (h1 := (zv_h0.set 0 (.inr (.inr (7, [.ref 1, .ref 30, .ref 25, .ref 28, .ref 54, .ref 55, .ref 104, .int 1]))))) rfl ?_
          refine Wp.steps 8 (pc1 := 79) (lo1 := [some (.ref 113), some (.int 3), some (.int a2), some (.int a3), some (.int 1), some (.int 1), some (.int 0), some (.int 0), some (.int 1), some (.long (((a3).toInt64 + 0) + 0)), none]) (st1 := [.int 1]) (h1 := (zv_h0.set 0 (.inr (.inr (7, [.ref 1, .ref 30, .ref 25, .ref 28, .ref 54, .ref 55, .ref 104, .int 1]))))) rfl ?_
          refine Wp.steps 8 (pc1 := 62) (lo1 := [some (.ref 113), some (.int 3), some (.int a2), some (.int a3), some (.int 1), some (.int 1), some (.int 0), some (.int 1), some (.int 1), some (.long (((a3).toInt64 + 0) + 0)), none]) (st1 := []) (h1 := (zv_h0.set 0 (.inr (.inr (7, [.ref 1, .ref 30, .ref 25, .ref 28, .ref 54, .ref 55, .ref 104, .int 1]))))) rfl ?_
          refine Wp.steps 7 (pc1 := 266) (lo1 := [some (.ref 113), some (.int 3), some (.int a2), some (.int a3), some (.int 1), some (.int 1), some (.int 0), some (.int 1), some (.int 1), some (.long (((a3).toInt64 + 0) + 0)), none]) (st1 := [.int 0]) (h1 := ((zv_h0.set 0 (.inr (.inr (7, [.ref 1, .ref 30, .ref 25, .ref 28, .ref 54, .ref 55, .ref 104, .int 1])))).set 113 (.inr (.inr (8, [.ref 114, .ref 115, .int 4, .int 0, .ref 116, .int 4, .int 0, .int 0, .int 0, .int 0, .int (-4), .int (-4), .int (-4), .ref 117, .int 0, .int 0, .int 0, .int 0, .int 0, .int 0, .int 0, .int 0, .ref 118, .ref 119, .ref 120, .ref 121, .int 1, .ref 122]))))) rfl ?_
          exact Wp.ret rfl rfl rfl ⟨rfl, rfl⟩
      · skip
        refine ⟨0, (zv_h0.set 0 (.inr (.inr (7, [.ref 1, .ref 30, .ref 25, .ref 28, .ref 54, .ref 55, .ref 104, .int 1])))), ((zv_h0.set 0 (.inr (.inr (7, [.ref 1, .ref 30, .ref 25, .ref 28, .ref 54, .ref 55, .ref 104, .int 1])))).set 113 (.inr (.inr (8, [.ref 114, .ref 115, .int 4, .int 0, .ref 116, .int 4, .int 0, .int 0, .int 0, .int 0, .int (-4), .int (-4), .int (-4), .ref 117, .int 0, .int 0, .int 0, .int 0, .int 0, .int 0, .int 0, .int 0, .ref 118, .ref 119, .ref 120, .ref 121, .int 1, .ref 122])))), ?_, rfl, ?_, (zv_ls rfl rfl (zv_ls rfl rfl zv_len))⟩
        · show Wp _ _ 87 0 [some (.ref 0), some (.int 3), some (.int a2), some (.int a3), some (.int a4), none, none, none, none, none] [] zv_h0 _
          refine Wp.steps 1 (pc1 := 1) (lo1 := [some (.ref 0), some (.int 3), some (.int a2), some (.int a3), some (.int a4), none, none, none, none, none]) (st1 := [.int 3]) (h1 := zv_h0) rfl ?_
          refine Wp.call (as := [.int 3]) (rest := []) rfl rfl rfl rfl rfl rfl rfl rfl rfl ?_
          show Wp _ _ 93 0 [some (.int 3)] [] zv_h0 _
          refine Wp.steps 6 (pc1 := 14) (lo1 := [some (.int 3)]) (st1 := [.int 0]) (h1 := zv_h0) rfl ?_
          refine Wp.ret rfl rfl rfl ?_
          show Wp _ _ 87 4 [some (.ref 0), some (.int 3), some (.int a2), some (.int a3), some (.int a4), none, none, none, none, none] [.int 0] zv_h0 _
          refine Wp.steps 2 (pc1 := 8) (lo1 := [some (.ref 0), some (.int 3), some (.int a2), some (.int a3), some (.int a4), none, none, none, none, none]) (st1 := [.int a2]) (h1 := zv_h0) rfl ?_
          refine Wp.call (as := [.int a2]) (rest := []) rfl rfl rfl rfl rfl rfl rfl rfl rfl ?_
          show Wp _ _ 94 0 [some (.int a2)] [] zv_h0 _
          refine Wp.steps 1 (pc1 := 1) (lo1 := [some (.int a2)]) (st1 := [.int a2]) (h1 := zv_h0) rfl ?_
          refine Wp.ifF (i := .nop) rfl (zq_F rfl (by decide) (show a2.toInt ≥ 0 by omega)) ?_
          show Wp _ _ 94 4 [some (.int a2)] [] zv_h0 _
          refine Wp.steps 2 (pc1 := 6) (lo1 := [some (.int a2)]) (st1 := [.int 2, .int a2]) (h1 := zv_h0) rfl ?_
          refine Wp.icT (i := .nop) rfl (zq_T rfl (by decide) (show a2.toInt ≤ 2 by omega)) ?_
          show Wp _ _ 94 13 [some (.int a2)] [] zv_h0 _
          refine Wp.steps 1 (pc1 := 14) (lo1 := [some (.int a2)]) (st1 := [.int 0]) (h1 := zv_h0) rfl ?_
          refine Wp.ret rfl rfl rfl ?_
          show Wp _ _ 87 11 [some (.ref 0), some (.int 3), some (.int a2), some (.int a3), some (.int a4), none, none, none, none, none] [.int 0] zv_h0 _
          refine Wp.steps 2 (pc1 := 16) (lo1 := [some (.ref 0), some (.int 3), some (.int a2), some (.int a3), some (.int a4), none, none, none, none, none]) (st1 := [.int a4]) (h1 := zv_h0) rfl ?_
          refine Wp.ifF (i := .nop) rfl (zq_F rfl (by decide) (show a4.toInt ≥ 0 by omega)) ?_
          show Wp _ _ 87 19 [some (.ref 0), some (.int 3), some (.int a2), some (.int a3), some (.int a4), none, none, none, none, none] [] zv_h0 _
          refine Wp.steps 2 (pc1 := 23) (lo1 := [some (.ref 0), some (.int 3), some (.int a2), some (.int a3), some (.int a4), none, none, none, none, none]) (st1 := [.int 20, .int a4]) (h1 := zv_h0) rfl ?_
          refine Wp.icT (i := .nop) rfl (zq_T rfl (by decide) (show a4.toInt ≤ 20 by omega)) ?_
          show Wp _ _ 87 28 [some (.ref 0), some (.int 3), some (.int a2), some (.int a3), some (.int a4), none, none, none, none, none] [] zv_h0 _
          refine Wp.steps 7 (pc1 := 39) (lo1 := [some (.ref 0), some (.int 3), some (.int a2), some (.int a3), some (.int a4), some (.ref 111), none, none, none, none]) (st1 := [.int a2, .ref 111]) (h1 := zv_h0) rfl ?_
          refine Wp.call (as := [.ref 111, .int a2]) (rest := []) rfl rfl rfl rfl rfl rfl rfl rfl rfl ?_
          show Wp _ _ 48 0 [some (.ref 111), some (.int a2)] [] zv_h0 _
          refine Wp.steps 1 (pc1 := 1) (lo1 := [some (.ref 111), some (.int a2)]) (st1 := [.ref 111]) (h1 := zv_h0) rfl ?_
          refine Wp.call (as := [.ref 111]) (rest := []) rfl rfl rfl rfl rfl rfl rfl rfl rfl ?_
          show Wp _ _ 46 0 [some (.ref 111)] [] zv_h0 _
          refine Wp.steps 6 (pc1 := 13) (lo1 := [some (.ref 111)]) (st1 := [.int 1]) (h1 := zv_h0) rfl ?_
          refine Wp.ret rfl rfl rfl ?_
          show Wp _ _ 48 4 [some (.ref 111), some (.int a2)] [.int 1] zv_h0 _
          refine Wp.steps 3 (pc1 := 20) (lo1 := [some (.ref 111), some (.int a2)]) (st1 := [.int 0]) (h1 := zv_h0) rfl ?_
          refine Wp.ret rfl rfl rfl ?_
          show Wp _ _ 87 42 [some (.ref 0), some (.int 3), some (.int a2), some (.int a3), some (.int a4), some (.ref 111), none, none, none, none] [.int 0] zv_h0 _
          refine Wp.steps 7 (pc1 := 54) (lo1 := [some (.ref 0), some (.int 3), some (.int a2), some (.int a3), some (.int a4), some (.ref 111), some (.int 0), some (.int 0), some (.int 0), none]) (st1 := [.int a4, .int 0]) (h1 := zv_h0) rfl ?_
          refine Wp.icF (i := .nop) rfl (zq_F (by decide) rfl (show 0 < a4.toInt by omega)) ?_
          show Wp _ _ 87 57 [some (.ref 0), some (.int 3), some (.int a2), some (.int a3), some (.int a4), some (.ref 111), some (.int 0), some (.int 0), some (.int 0), none] [] zv_h0 _
          refine Wp.steps 8 (pc1 := 70) (lo1 := [some (.ref 0), some (.int 3), some (.int a2), some (.int a3), some (.int a4), some (.ref 111), some (.int 0), some (.int 0), some (.int 0), some (.int (a3 + 0))]) (st1 := []) (h1 := zv_h0) rfl ?_
          refine Wp.steps 2 (pc1 := 74) (lo1 := [some (.ref 0), some (.int 3), some (.int a2), some (.int a3), some (.int a4), some (.ref 111), some (.int 0), some (.int 0), some (.int 0), some (.int (a3 + 0))]) (st1 := [.int (a3 + 0), .ref 111]) (h1 := zv_h0) rfl ?_
          refine Wp.call (as := [.ref 111, .int (a3 + 0)]) (rest := []) rfl rfl rfl rfl rfl rfl rfl rfl rfl ?_
          show Wp _ _ 50 0 [some (.ref 111), some (.int (a3 + 0)), none] [] zv_h0 _
          refine Wp.steps 2 (pc1 := 2) (lo1 := [some (.ref 111), some (.int (a3 + 0)), none]) (st1 := [.int (a3 + 0), .ref 111]) (h1 := zv_h0) rfl ?_
          refine Wp.call (as := [.ref 111, .int (a3 + 0)]) (rest := []) rfl rfl rfl rfl rfl rfl rfl rfl rfl ?_
          show Wp _ _ 49 0 [some (.ref 111), some (.int (a3 + 0))] [] zv_h0 _
          refine Wp.steps 1 (pc1 := 1) (lo1 := [some (.ref 111), some (.int (a3 + 0))]) (st1 := [.ref 111]) (h1 := zv_h0) rfl ?_
          refine Wp.call (as := [.ref 111]) (rest := []) rfl rfl rfl rfl rfl rfl rfl rfl rfl ?_
          show Wp _ _ 46 0 [some (.ref 111)] [] zv_h0 _
          refine Wp.steps 6 (pc1 := 13) (lo1 := [some (.ref 111)]) (st1 := [.int 1]) (h1 := zv_h0) rfl ?_
          refine Wp.ret rfl rfl rfl ?_
          show Wp _ _ 49 4 [some (.ref 111), some (.int (a3 + 0))] [.int 1] zv_h0 _
          refine Wp.steps 2 (pc1 := 8) (lo1 := [some (.ref 111), some (.int (a3 + 0))]) (st1 := [.int 1]) (h1 := zv_h0) rfl ?_
          refine Wp.ret rfl rfl rfl ?_
          show Wp _ _ 50 5 [some (.ref 111), some (.int (a3 + 0)), none] [.int 1] zv_h0 _
          refine Wp.steps 5 (pc1 := 21) (lo1 := [some (.ref 111), some (.int (a3 + 0)), some (.int 1)]) (st1 := [.int 1]) (h1 := zv_h0) rfl ?_
          refine Wp.ret rfl rfl rfl ?_
          show Wp _ _ 87 77 [some (.ref 0), some (.int 3), some (.int a2), some (.int a3), some (.int a4), some (.ref 111), some (.int 0), some (.int 0), some (.int 0), some (.int (a3 + 0))] [.int 1] zv_h0 _
          refine Wp.steps 7 (pc1 := 54) (lo1 := [some (.ref 0), some (.int 3), some (.int a2), some (.int a3), some (.int a4), some (.ref 111), some (.int 1), some (.int 0), some (.int 1), some (.int (a3 + 0))]) (st1 := [.int a4, .int 1]) (h1 := zv_h0) rfl ?_
          refine Wp.icF (i := .nop) rfl (zq_F (by decide) rfl (show 1 < a4.toInt by omega)) ?_
          show Wp _ _ 87 57 [some (.ref 0), some (.int 3), some (.int a2), some (.int a3), some (.int a4), some (.ref 111), some (.int 1), some (.int 0), some (.int 1), some (.int (a3 + 0))] [] zv_h0 _
          refine Wp.steps 8 (pc1 := 181) (lo1 := [some (.ref 0), some (.int 3), some (.int a2), some (.int a3), some (.int a4), some (.ref 111), some (.int 1), some (.int 0), some (.int 0), some (.int (a3 + 0))]) (st1 := [.ref 0]) (h1 := zv_h0) rfl ?_
          refine Wp.steps 3 (pc1 := 188) (lo1 := [some (.ref 0), some (.int 3), some (.int a2), some (.int a3), some (.int a4), some (.ref 111), some (.int 1), some (.int 0), some (.int 0), some (.int (a3 + 0))]) (st1 := [.int 0]) (h1 := (zv_h0.set 0 (.inr (.inr (7, [.ref 1, .ref 30, .ref 25, .ref 28, .ref 54, .ref 55, .ref 104, .int 1]))))) rfl ?_
          exact Wp.ret rfl rfl rfl ⟨rfl, rfl⟩
        · show Wp _ _ 186 0 [some (.ref 113), some (.int 3), some (.int a2), some (.int a3), some (.int a4), none, none, none, none, none, none] [] (zv_h0.set 0 (.inr (.inr (7, [.ref 1, .ref 30, .ref 25, .ref 28, .ref 54, .ref 55, .ref 104, .int 1])))) _
          refine Wp.steps 2 (pc1 := 2) (lo1 := [some (.ref 113), some (.int 3), some (.int a2), some (.int a3), some (.int a4), none, none, none, none, none, none]) (st1 := [.int a2, .int 3]) (h1 := (zv_h0.set 0 (.inr (.inr (7, [.ref 1, .ref 30, .ref 25, .ref 28, .ref 54, .ref 55, .ref 104, .int 1]))))) rfl ?_
          refine Wp.call (as := [.int 3, .int a2]) (rest := []) rfl rfl rfl rfl rfl rfl rfl rfl rfl ?_
          show Wp _ _ 183 0 [some (.int 3), some (.int a2)] [] (zv_h0.set 0 (.inr (.inr (7, [.ref 1, .ref 30, .ref 25, .ref 28, .ref 54, .ref 55, .ref 104, .int 1])))) _
          refine Wp.steps 4 (pc1 := 6) (lo1 := [some (.int 3), some (.int a2)]) (st1 := [.long 3, .long 0, .long 3]) (h1 := (zv_h0.set 0 (.inr (.inr (7, [.ref 1, .ref 30, .ref 25, .ref 28, .ref 54, .ref 55, .ref 104, .int 1]))))) rfl ?_
          refine Wp.call (as := [.long 3, .long 0, .long 3]) (rest := []) rfl rfl rfl rfl rfl rfl rfl rfl rfl ?_
          show Wp _ _ 107 0 [some (.long 3), none, some (.long 0), none, some (.long 3), none] [] (zv_h0.set 0 (.inr (.inr (7, [.ref 1, .ref 30, .ref 25, .ref 28, .ref 54, .ref 55, .ref 104, .int 1])))) _
          refine Wp.steps 9 (pc1 := 14) (lo1 := [some (.long 3), none, some (.long 0), none, some (.long 3), none]) (st1 := [.int 1]) (h1 := (zv_h0.set 0 (.inr (.inr (7, [.ref 1, .ref 30, .ref 25, .ref 28, .ref 54, .ref 55, .ref 104, .int 1]))))) rfl ?_
          refine Wp.steps 1 (pc1 := 18) (lo1 := [some (.long 3), none, some (.long 0), none, some (.long 3), none]) (st1 := [.int 1]) (h1 := (zv_h0.set 0 (.inr (.inr (7, [.ref 1, .ref 30, .ref 25, .ref 28, .ref 54, .ref 55, .ref 104, .int 1]))))) rfl ?_
          refine Wp.ret rfl rfl rfl ?_
          show Wp _ _ 183 9 [some (.int 3), some (.int a2)] [.int 1] (zv_h0.set 0 (.inr (.inr (7, [.ref 1, .ref 30, .ref 25, .ref 28, .ref 54, .ref 55, .ref 104, .int 1])))) _
          refine Wp.steps 5 (pc1 := 18) (lo1 := [some (.int 3), some (.int a2)]) (st1 := [.long 2, .long 0, .long (a2).toInt64]) (h1 := (zv_h0.set 0 (.inr (.inr (7, [.ref 1, .ref 30, .ref 25, .ref 28, .ref 54, .ref 55, .ref 104, .int 1]))))) rfl ?_
          refine Wp.call (as := [.long (a2).toInt64, .long 0, .long 2]) (rest := []) rfl rfl rfl rfl rfl rfl rfl rfl rfl ?_
          refine zin_T (Int32.toInt_toInt64 _) (by decide) (by decide) (show (0 : Int) ≤ a2.toInt by omega) (show a2.toInt ≤ (2 : Int) by omega) ?_
          show Wp _ _ 183 21 [some (.int 3), some (.int a2)] [.int 1] (zv_h0.set 0 (.inr (.inr (7, [.ref 1, .ref 30, .ref 25, .ref 28, .ref 54, .ref 55, .ref 104, .int 1])))) _
          refine Wp.steps 3 (pc1 := 29) (lo1 := [some (.int 3), some (.int a2)]) (st1 := [.int 1]) (h1 := (zv_h0.set 0 (.inr (.inr (7, [.ref 1, .ref 30, .ref 25, .ref 28, .ref 54, .ref 55, .ref 104, .int 1]))))) rfl ?_
          refine Wp.ret rfl rfl rfl ?_
          show Wp _ _ 186 5 [some (.ref 113), some (.int 3), some (.int a2), some (.int a3), some (.int a4), none, none, none, none, none, none] [.int 1] (zv_h0.set 0 (.inr (.inr (7, [.ref 1, .ref 30, .ref 25, .ref 28, .ref 54, .ref 55, .ref 104, .int 1])))) _
          refine Wp.steps 5 (pc1 := 15) (lo1 := [some (.ref 113), some (.int 3), some (.int a2), some (.int a3), some (.int a4), none, none, none, none, none, none]) (st1 := [.long 20, .long 0, .long (a4).toInt64]) (h1 := (zv_h0.set 0 (.inr (.inr (7, [.ref 1, .ref 30, .ref 25, .ref 28, .ref 54, .ref 55, .ref 104, .int 1]))))) rfl ?_
          refine Wp.call (as := [.long (a4).toInt64, .long 0, .long 20]) (rest := []) rfl rfl rfl rfl rfl rfl rfl rfl rfl ?_
          refine zin_T (Int32.toInt_toInt64 _) (by decide) (by decide) (show (0 : Int) ≤ a4.toInt by omega) (show a4.toInt ≤ (20 : Int) by omega) ?_
          show Wp _ _ 186 18 [some (.ref 113), some (.int 3), some (.int a2), some (.int a3), some (.int a4), none, none, none, none, none, none] [.int 1] (zv_h0.set 0 (.inr (.inr (7, [.ref 1, .ref 30, .ref 25, .ref 28, .ref 54, .ref 55, .ref 104, .int 1])))) _
          refine Wp.steps 1 (pc1 := 23) (lo1 := [some (.ref 113), some (.int 3), some (.int a2), some (.int a3), some (.int a4), none, none, none, none, none, none]) (st1 := []) (h1 := (zv_h0.set 0 (.inr (.inr (7, [.ref 1, .ref 30, .ref 25, .ref 28, .ref 54, .ref 55, .ref 104, .int 1]))))) rfl ?_
          refine zrd_1 3 a2 a3 a4 ?_
          show Wp _ _ 186 53 [some (.ref 113), some (.int 3), some (.int a2), some (.int a3), some (.int a4), some (.int 8), none, none, none, none, none] [] (zv_h0.set 0 (.inr (.inr (7, [.ref 1, .ref 30, .ref 25, .ref 28, .ref 54, .ref 55, .ref 104, .int 1])))) _
          refine Wp.steps 8 (pc1 := 66) (lo1 := [some (.ref 113), some (.int 3), some (.int a2), some (.int a3), some (.int a4), some (.int 0), some (.int 0), some (.int 0), none, none, none]) (st1 := [.int a4, .int 0]) (h1 := (zv_h0.set 0 (.inr (.inr (7, [.ref 1, .ref 30, .ref 25, .ref 28, .ref 54, .ref 55, .ref 104, .int 1]))))) rfl ?_
          refine Wp.icF (i := .nop) rfl (zq_F (by decide) rfl (show 0 < a4.toInt by omega)) ?_
          show Wp _ _ 186 69 [some (.ref 113), some (.int 3), some (.int a2), some (.int a3), some (.int a4), some (.int 0), some (.int 0), some (.int 0), none, none, none] [] (zv_h0.set 0 (.inr (.inr (7, [.ref 1, .ref 30, .ref 25, .ref 28, .ref 54, .ref 55, .ref 104, .int 1])))) _
          refine Wp.steps 8 (pc1 := 85) (lo1 := [some (.ref 113), some (.int 3), some (.int a2), some (.int a3), some (.int a4), some (.int 0), some (.int 0), some (.int 0), some (.int 0), none, none]) (st1 := [.int 0]) (h1 := (zv_h0.set 0 (.inr (.inr (7, [.ref 1, .ref 30, .ref 25, .ref 28, .ref 54, .ref 55, .ref 104, .int 1]))))) rfl ?_
          refine Wp.steps 8 (pc1 := 96) (lo1 := [some (.ref 113), some (.int 3), some (.int a2), some (.int a3), some (.int a4), some (.int 0), some (.int 0), some (.int 0), some (.int 0), none, none]) (st1 := [.long ((a3).toInt64 + 0)]) (h1 := (zv_h0.set 0 (.inr (.inr (7, [.ref 1, .ref 30, .ref 25, .ref 28, .ref 54, .ref 55, .ref 104, .int 1]))))) rfl ?_
          refine Wp.steps 8 (pc1 := 108) (lo1 := [some (.ref 113), some (.int 3), some (.int a2), some (.int a3), some (.int a4), some (.int 0), some (.int 0), some (.int 0), some (.int 0), some (.long (((a3).toInt64 + 0) + 0)), none]) (st1 := [.int (-4)]) (h1 := (zv_h0.set 0 (.inr (.inr (7, [.ref 1, .ref 30, .ref 25, .ref 28, .ref 54, .ref 55, .ref 104, .int 1]))))) rfl ?_
          refine Wp.steps 8 (pc1 := 79) (lo1 := [some (.ref 113), some (.int 3), some (.int a2), some (.int a3), some (.int a4), some (.int 1), some (.int 0), some (.int 0), some (.int 1), some (.long (((a3).toInt64 + 0) + 0)), none]) (st1 := [.int 1]) (h1 := (zv_h0.set 0 (.inr (.inr (7, [.ref 1, .ref 30, .ref 25, .ref 28, .ref 54, .ref 55, .ref 104, .int 1]))))) rfl ?_
          refine Wp.steps 8 (pc1 := 62) (lo1 := [some (.ref 113), some (.int 3), some (.int a2), some (.int a3), some (.int a4), some (.int 1), some (.int 0), some (.int 1), some (.int 1), some (.long (((a3).toInt64 + 0) + 0)), none]) (st1 := []) (h1 := (zv_h0.set 0 (.inr (.inr (7, [.ref 1, .ref 30, .ref 25, .ref 28, .ref 54, .ref 55, .ref 104, .int 1]))))) rfl ?_
          refine Wp.steps 2 (pc1 := 66) (lo1 := [some (.ref 113), some (.int 3), some (.int a2), some (.int a3), some (.int a4), some (.int 1), some (.int 0), some (.int 1), some (.int 1), some (.long (((a3).toInt64 + 0) + 0)), none]) (st1 := [.int a4, .int 1]) (h1 := (zv_h0.set 0 (.inr (.inr (7, [.ref 1, .ref 30, .ref 25, .ref 28, .ref 54, .ref 55, .ref 104, .int 1]))))) rfl ?_
          refine Wp.icF (i := .nop) rfl (zq_F (by decide) rfl (show 1 < a4.toInt by omega)) ?_
          show Wp _ _ 186 69 [some (.ref 113), some (.int 3), some (.int a2), some (.int a3), some (.int a4), some (.int 1), some (.int 0), some (.int 1), some (.int 1), some (.long (((a3).toInt64 + 0) + 0)), none] [] (zv_h0.set 0 (.inr (.inr (7, [.ref 1, .ref 30, .ref 25, .ref 28, .ref 54, .ref 55, .ref 104, .int 1])))) _
          refine Wp.steps 6 (pc1 := 266) (lo1 := [some (.ref 113), some (.int 3), some (.int a2), some (.int a3), some (.int a4), some (.int 1), some (.int 0), some (.int 1), some (.int 1), some (.long (((a3).toInt64 + 0) + 0)), none]) (st1 := [.int 0]) (h1 := ((zv_h0.set 0 (.inr (.inr (7, [.ref 1, .ref 30, .ref 25, .ref 28, .ref 54, .ref 55, .ref 104, .int 1])))).set 113 (.inr (.inr (8, [.ref 114, .ref 115, .int 4, .int 0, .ref 116, .int 4, .int 0, .int 0, .int 0, .int 0, .int (-4), .int (-4), .int (-4), .ref 117, .int 0, .int 0, .int 0, .int 0, .int 0, .int 0, .int 0, .int 0, .ref 118, .ref 119, .ref 120, .ref 121, .int 1, .ref 122]))))) rfl ?_
          exact Wp.ret rfl rfl rfl ⟨rfl, rfl⟩
set_option maxRecDepth 100000 in
set_option maxHeartbeats 4000000 in
theorem zr_34 : zv_Pi 88 187 [] := by
  exact zv_Pi_of (by decide +kernel)
set_option maxRecDepth 100000 in
set_option maxHeartbeats 4000000 in
theorem zr_35 (a1 : Int32) : zv_Pi 89 188 [.int a1] := by
  rcases (by omega : (a1.toInt ≤ -1) ∨ (7 ≤ a1.toInt) ∨ (a1.toInt = 0) ∨ (a1.toInt = 1) ∨ (a1.toInt = 2) ∨ (a1.toInt = 3) ∨ (a1.toInt = 4) ∨ (a1.toInt = 5) ∨ (a1.toInt = 6)) with h0 | h0 | h0 | h0 | h0 | h0 | h0 | h0 | h0
  · skip
    refine ⟨(-1), zv_h0, zv_h0, ?_, rfl, ?_, zv_len⟩
    · show Wp _ _ 89 0 [some (.ref 0), some (.int a1)] [] zv_h0 _
      refine Wp.steps 1 (pc1 := 1) (lo1 := [some (.ref 0), some (.int a1)]) (st1 := [.int a1]) (h1 := zv_h0) rfl ?_
      refine Wp.tabOut rfl (Or.inl (show a1.toInt < 0 by omega)) ?_
      show Wp _ _ 89 138 [some (.ref 0), some (.int a1)] [] zv_h0 _
      refine Wp.steps 1 (pc1 := 139) (lo1 := [some (.ref 0), some (.int a1)]) (st1 := [.int (-1)]) (h1 := zv_h0) rfl ?_
      exact Wp.ret rfl rfl rfl ⟨rfl, rfl⟩
    · show Wp _ _ 188 0 [some (.ref 113), some (.int a1)] [] zv_h0 _
      refine Wp.steps 1 (pc1 := 1) (lo1 := [some (.ref 113), some (.int a1)]) (st1 := [.int a1]) (h1 := zv_h0) rfl ?_
      refine Wp.tabOut rfl (Or.inl (show a1.toInt < 0 by omega)) ?_
      show Wp _ _ 188 126 [some (.ref 113), some (.int a1)] [] zv_h0 _
      refine Wp.steps 1 (pc1 := 127) (lo1 := [some (.ref 113), some (.int a1)]) (st1 := [.int (-1)]) (h1 := zv_h0) rfl ?_
      exact Wp.ret rfl rfl rfl ⟨rfl, rfl⟩
  · skip
    refine ⟨(-1), zv_h0, zv_h0, ?_, rfl, ?_, zv_len⟩
    · show Wp _ _ 89 0 [some (.ref 0), some (.int a1)] [] zv_h0 _
      refine Wp.steps 1 (pc1 := 1) (lo1 := [some (.ref 0), some (.int a1)]) (st1 := [.int a1]) (h1 := zv_h0) rfl ?_
      refine Wp.tabOut rfl (Or.inr (show (6 : Int) < a1.toInt by omega)) ?_
      show Wp _ _ 89 138 [some (.ref 0), some (.int a1)] [] zv_h0 _
      refine Wp.steps 1 (pc1 := 139) (lo1 := [some (.ref 0), some (.int a1)]) (st1 := [.int (-1)]) (h1 := zv_h0) rfl ?_
      exact Wp.ret rfl rfl rfl ⟨rfl, rfl⟩
    · show Wp _ _ 188 0 [some (.ref 113), some (.int a1)] [] zv_h0 _
      refine Wp.steps 1 (pc1 := 1) (lo1 := [some (.ref 113), some (.int a1)]) (st1 := [.int a1]) (h1 := zv_h0) rfl ?_
      refine Wp.tabOut rfl (Or.inr (show (6 : Int) < a1.toInt by omega)) ?_
      show Wp _ _ 188 126 [some (.ref 113), some (.int a1)] [] zv_h0 _
      refine Wp.steps 1 (pc1 := 127) (lo1 := [some (.ref 113), some (.int a1)]) (st1 := [.int (-1)]) (h1 := zv_h0) rfl ?_
      exact Wp.ret rfl rfl rfl ⟨rfl, rfl⟩
  · skip
    obtain rfl : a1 = 0 := Int32.toInt_inj.mp (h0.trans (by decide))
    exact zv_Pi_of (by decide +kernel)
  · skip
    obtain rfl : a1 = 1 := Int32.toInt_inj.mp (h0.trans (by decide))
    exact zv_Pi_of (by decide +kernel)
  · skip
    obtain rfl : a1 = 2 := Int32.toInt_inj.mp (h0.trans (by decide))
    exact zv_Pi_of (by decide +kernel)
  · skip
    obtain rfl : a1 = 3 := Int32.toInt_inj.mp (h0.trans (by decide))
    exact zv_Pi_of (by decide +kernel)
  · skip
    obtain rfl : a1 = 4 := Int32.toInt_inj.mp (h0.trans (by decide))
    exact zv_Pi_of (by decide +kernel)
  · skip
    obtain rfl : a1 = 5 := Int32.toInt_inj.mp (h0.trans (by decide))
    exact zv_Pi_of (by decide +kernel)
  · skip
    obtain rfl : a1 = 6 := Int32.toInt_inj.mp (h0.trans (by decide))
    exact zv_Pi_of (by decide +kernel)
