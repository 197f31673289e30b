set_option maxRecDepth 100000 in
set_option maxHeartbeats 4000000 in
theorem zp1_six (a0 a1 a2 a3 a4 a5 : Int32) : Wp (some [a0, a1, a2, a3, a4, a5]) 12 z_law 18 [some (.ref 1000000), some (.ref 0), some (.ref 113), some (.int 0)] [] zv_h0 zs_Q := by
  refine Wp.steps 3 (pc1 := 21) (lo1 := [some (.ref 1000000), some (.ref 0), some (.ref 113), some (.int 0)]) (st1 := [.int 6, .int 0]) (h1 := zv_h0) rfl ?_
  refine Wp.steps 8 (pc1 := 33) (lo1 := [some (.ref 1000000), some (.ref 0), some (.ref 113), some (.int 0)]) (st1 := [.int (a0 &&& 63)]) (h1 := zv_h0) rfl ?_
  obtain ⟨k, hk, e⟩ := pk_andE a0 (m := 63) 6 (by decide)
  rw [e]
  match k, hk with
  | 0, _ =>
    refine Wp.steps 1 (pc1 := 192) (lo1 := [some (.ref 1000000), some (.ref 0), some (.ref 113), some (.int 0)]) (st1 := []) (h1 := zv_h0) rfl ?_
    exact zl_0 a0 a1 a2 a3 a4 a5 (zr_0 a1)
  | 1, _ =>
    refine Wp.steps 1 (pc1 := 215) (lo1 := [some (.ref 1000000), some (.ref 0), some (.ref 113), some (.int 0)]) (st1 := []) (h1 := zv_h0) rfl ?_
    exact zl_1 a0 a1 a2 a3 a4 a5 (zr_1 a1)
  | 2, _ =>
    refine Wp.steps 1 (pc1 := 238) (lo1 := [some (.ref 1000000), some (.ref 0), some (.ref 113), some (.int 0)]) (st1 := []) (h1 := zv_h0) rfl ?_
    exact zl_2 a0 a1 a2 a3 a4 a5 zr_2
  | 3, _ =>
    refine Wp.steps 1 (pc1 := 251) (lo1 := [some (.ref 1000000), some (.ref 0), some (.ref 113), some (.int 0)]) (st1 := []) (h1 := zv_h0) rfl ?_
    exact zl_3 a0 a1 a2 a3 a4 a5 zr_3
  | 4, _ =>
    refine Wp.steps 1 (pc1 := 264) (lo1 := [some (.ref 1000000), some (.ref 0), some (.ref 113), some (.int 0)]) (st1 := []) (h1 := zv_h0) rfl ?_
    exact zl_4 a0 a1 a2 a3 a4 a5 (zr_4 a1)
  | 5, _ =>
    refine Wp.steps 1 (pc1 := 287) (lo1 := [some (.ref 1000000), some (.ref 0), some (.ref 113), some (.int 0)]) (st1 := []) (h1 := zv_h0) rfl ?_
    exact zl_5 a0 a1 a2 a3 a4 a5 (zr_5 a1 a2)
  | 6, _ =>
    refine Wp.steps 1 (pc1 := 320) (lo1 := [some (.ref 1000000), some (.ref 0), some (.ref 113), some (.int 0)]) (st1 := []) (h1 := zv_h0) rfl ?_
    exact zl_6 a0 a1 a2 a3 a4 a5 (zr_6 a1 a2)
  | 7, _ =>
    refine Wp.steps 1 (pc1 := 353) (lo1 := [some (.ref 1000000), some (.ref 0), some (.ref 113), some (.int 0)]) (st1 := []) (h1 := zv_h0) rfl ?_
    exact zl_7 a0 a1 a2 a3 a4 a5 (zr_7 a1 a2)
  | 8, _ =>
    refine Wp.steps 1 (pc1 := 386) (lo1 := [some (.ref 1000000), some (.ref 0), some (.ref 113), some (.int 0)]) (st1 := []) (h1 := zv_h0) rfl ?_
    exact zl_8 a0 a1 a2 a3 a4 a5 (zr_8 a1 a2)
  | 9, _ =>
    refine Wp.steps 1 (pc1 := 419) (lo1 := [some (.ref 1000000), some (.ref 0), some (.ref 113), some (.int 0)]) (st1 := []) (h1 := zv_h0) rfl ?_
    exact zl_9 a0 a1 a2 a3 a4 a5 (zr_9 a1 a2 a3 a4 a5)
  | 10, _ =>
    refine Wp.steps 1 (pc1 := 482) (lo1 := [some (.ref 1000000), some (.ref 0), some (.ref 113), some (.int 0)]) (st1 := []) (h1 := zv_h0) rfl ?_
    exact zl_10 a0 a1 a2 a3 a4 a5 (zr_10 a1 a2)
  | 11, _ =>
    refine Wp.steps 1 (pc1 := 515) (lo1 := [some (.ref 1000000), some (.ref 0), some (.ref 113), some (.int 0)]) (st1 := []) (h1 := zv_h0) rfl ?_
    exact zl_11 a0 a1 a2 a3 a4 a5 (zr_11 a1 a2)
  | 12, _ =>
    refine Wp.steps 1 (pc1 := 548) (lo1 := [some (.ref 1000000), some (.ref 0), some (.ref 113), some (.int 0)]) (st1 := []) (h1 := zv_h0) rfl ?_
    exact zl_12 a0 a1 a2 a3 a4 a5 (zr_12 a1 a2)
  | 13, _ =>
    refine Wp.steps 1 (pc1 := 581) (lo1 := [some (.ref 1000000), some (.ref 0), some (.ref 113), some (.int 0)]) (st1 := []) (h1 := zv_h0) rfl ?_
    exact zl_13 a0 a1 a2 a3 a4 a5 (zr_13 a1 a2 a3)
  | 14, _ =>
    refine Wp.steps 1 (pc1 := 624) (lo1 := [some (.ref 1000000), some (.ref 0), some (.ref 113), some (.int 0)]) (st1 := []) (h1 := zv_h0) rfl ?_
    exact zl_14 a0 a1 a2 a3 a4 a5 (zr_14 a1)
  | 15, _ =>
    refine Wp.steps 1 (pc1 := 647) (lo1 := [some (.ref 1000000), some (.ref 0), some (.ref 113), some (.int 0)]) (st1 := []) (h1 := zv_h0) rfl ?_
    exact zl_15 a0 a1 a2 a3 a4 a5 (zr_15 a1 a2)
  | 16, _ =>
    refine Wp.steps 1 (pc1 := 680) (lo1 := [some (.ref 1000000), some (.ref 0), some (.ref 113), some (.int 0)]) (st1 := []) (h1 := zv_h0) rfl ?_
    exact zl_16 a0 a1 a2 a3 a4 a5 (zr_16 a1)
  | 17, _ =>
    refine Wp.steps 1 (pc1 := 703) (lo1 := [some (.ref 1000000), some (.ref 0), some (.ref 113), some (.int 0)]) (st1 := []) (h1 := zv_h0) rfl ?_
    exact zl_17 a0 a1 a2 a3 a4 a5 zr_17
  | 18, _ =>
    refine Wp.steps 1 (pc1 := 716) (lo1 := [some (.ref 1000000), some (.ref 0), some (.ref 113), some (.int 0)]) (st1 := []) (h1 := zv_h0) rfl ?_
    exact zl_18 a0 a1 a2 a3 a4 a5 (zr_18 a1)
  | 19, _ =>
    refine Wp.steps 1 (pc1 := 739) (lo1 := [some (.ref 1000000), some (.ref 0), some (.ref 113), some (.int 0)]) (st1 := []) (h1 := zv_h0) rfl ?_
    exact zl_19 a0 a1 a2 a3 a4 a5 (zr_19 a1)
  | 20, _ =>
    refine Wp.steps 1 (pc1 := 762) (lo1 := [some (.ref 1000000), some (.ref 0), some (.ref 113), some (.int 0)]) (st1 := []) (h1 := zv_h0) rfl ?_
    exact zl_20 a0 a1 a2 a3 a4 a5 (zr_20 a1 a2 a3 a4)
  | 21, _ =>
    refine Wp.steps 1 (pc1 := 815) (lo1 := [some (.ref 1000000), some (.ref 0), some (.ref 113), some (.int 0)]) (st1 := []) (h1 := zv_h0) rfl ?_
    exact zl_21 a0 a1 a2 a3 a4 a5 (zr_21 a1 a2)
  | 22, _ =>
    refine Wp.steps 1 (pc1 := 848) (lo1 := [some (.ref 1000000), some (.ref 0), some (.ref 113), some (.int 0)]) (st1 := []) (h1 := zv_h0) rfl ?_
    exact zl_22 a0 a1 a2 a3 a4 a5 (zr_22 a1 a2 a3)
  | 23, _ =>
    refine Wp.steps 1 (pc1 := 891) (lo1 := [some (.ref 1000000), some (.ref 0), some (.ref 113), some (.int 0)]) (st1 := []) (h1 := zv_h0) rfl ?_
    exact zl_23 a0 a1 a2 a3 a4 a5 (zr_23 a1)
  | 24, _ =>
    refine Wp.steps 1 (pc1 := 915) (lo1 := [some (.ref 1000000), some (.ref 0), some (.ref 113), some (.int 0)]) (st1 := []) (h1 := zv_h0) rfl ?_
    exact zl_24 a0 a1 a2 a3 a4 a5 (zr_24 a1 a2 a3 a4)
  | 25, _ =>
    refine Wp.steps 1 (pc1 := 969) (lo1 := [some (.ref 1000000), some (.ref 0), some (.ref 113), some (.int 0)]) (st1 := []) (h1 := zv_h0) rfl ?_
    by_cases h4 : a4 = 0
    · exact zl_25_0 a0 a1 a2 a3 a4 a5 h4 (zr_25_0 a1 a2 a3)
    · exact zl_25_1 a0 a1 a2 a3 a4 a5 h4 (zr_25_1 a1 a2 a3)
  | 26, _ =>
    refine Wp.steps 1 (pc1 := 1038) (lo1 := [some (.ref 1000000), some (.ref 0), some (.ref 113), some (.int 0)]) (st1 := []) (h1 := zv_h0) rfl ?_
    exact zl_26 a0 a1 a2 a3 a4 a5 (zr_26 a1)
  | 27, _ =>
    refine Wp.steps 1 (pc1 := 1061) (lo1 := [some (.ref 1000000), some (.ref 0), some (.ref 113), some (.int 0)]) (st1 := []) (h1 := zv_h0) rfl ?_
    exact zl_27 a0 a1 a2 a3 a4 a5 (zr_27 a1)
  | 28, _ =>
    refine Wp.steps 1 (pc1 := 1084) (lo1 := [some (.ref 1000000), some (.ref 0), some (.ref 113), some (.int 0)]) (st1 := []) (h1 := zv_h0) rfl ?_
    exact zl_28 a0 a1 a2 a3 a4 a5 (zr_28 a1 a2)
  | 29, _ =>
    refine Wp.steps 1 (pc1 := 1117) (lo1 := [some (.ref 1000000), some (.ref 0), some (.ref 113), some (.int 0)]) (st1 := []) (h1 := zv_h0) rfl ?_
    exact zl_29 a0 a1 a2 a3 a4 a5 (zr_29 a1)
  | 30, _ =>
    refine Wp.steps 1 (pc1 := 1140) (lo1 := [some (.ref 1000000), some (.ref 0), some (.ref 113), some (.int 0)]) (st1 := []) (h1 := zv_h0) rfl ?_
    exact zl_30 a0 a1 a2 a3 a4 a5 (zr_30 a1)
  | 31, _ =>
    refine Wp.steps 1 (pc1 := 1163) (lo1 := [some (.ref 1000000), some (.ref 0), some (.ref 113), some (.int 0)]) (st1 := []) (h1 := zv_h0) rfl ?_
    exact zl_31 a0 a1 a2 a3 a4 a5 (zr_31 a1 a2 a3)
  | 32, _ =>
    refine Wp.steps 1 (pc1 := 1206) (lo1 := [some (.ref 1000000), some (.ref 0), some (.ref 113), some (.int 0)]) (st1 := []) (h1 := zv_h0) rfl ?_
    exact zl_32 a0 a1 a2 a3 a4 a5 (zr_32 a1 a2 a3)
  | 33, _ =>
    refine Wp.steps 1 (pc1 := 1249) (lo1 := [some (.ref 1000000), some (.ref 0), some (.ref 113), some (.int 0)]) (st1 := []) (h1 := zv_h0) rfl ?_
    exact zl_33 a0 a1 a2 a3 a4 a5 (zr_33 a1 a2 a3 a4)
  | 34, _ =>
    refine Wp.steps 1 (pc1 := 1302) (lo1 := [some (.ref 1000000), some (.ref 0), some (.ref 113), some (.int 0)]) (st1 := []) (h1 := zv_h0) rfl ?_
    exact zl_34 a0 a1 a2 a3 a4 a5 zr_34
  | 35, _ =>
    refine Wp.steps 1 (pc1 := 1315) (lo1 := [some (.ref 1000000), some (.ref 0), some (.ref 113), some (.int 0)]) (st1 := []) (h1 := zv_h0) rfl ?_
    exact zl_35 a0 a1 a2 a3 a4 a5 (zr_35 a1)
  | 36, _ =>
    refine Wp.steps 1 (pc1 := 1338) (lo1 := [some (.ref 1000000), some (.ref 0), some (.ref 113), some (.int 0)]) (st1 := []) (h1 := zv_h0) rfl ?_
    exact zv_foot a0 a1 a2 a3 a4 a5 zv_h0 zv_len
  | 37, _ =>
    refine Wp.steps 1 (pc1 := 1338) (lo1 := [some (.ref 1000000), some (.ref 0), some (.ref 113), some (.int 0)]) (st1 := []) (h1 := zv_h0) rfl ?_
    exact zv_foot a0 a1 a2 a3 a4 a5 zv_h0 zv_len
  | 38, _ =>
    refine Wp.steps 1 (pc1 := 1338) (lo1 := [some (.ref 1000000), some (.ref 0), some (.ref 113), some (.int 0)]) (st1 := []) (h1 := zv_h0) rfl ?_
    exact zv_foot a0 a1 a2 a3 a4 a5 zv_h0 zv_len
  | 39, _ =>
    refine Wp.steps 1 (pc1 := 1338) (lo1 := [some (.ref 1000000), some (.ref 0), some (.ref 113), some (.int 0)]) (st1 := []) (h1 := zv_h0) rfl ?_
    exact zv_foot a0 a1 a2 a3 a4 a5 zv_h0 zv_len
  | 40, _ =>
    refine Wp.steps 1 (pc1 := 1338) (lo1 := [some (.ref 1000000), some (.ref 0), some (.ref 113), some (.int 0)]) (st1 := []) (h1 := zv_h0) rfl ?_
    exact zv_foot a0 a1 a2 a3 a4 a5 zv_h0 zv_len
  | 41, _ =>
    refine Wp.steps 1 (pc1 := 1338) (lo1 := [some (.ref 1000000), some (.ref 0), some (.ref 113), some (.int 0)]) (st1 := []) (h1 := zv_h0) rfl ?_
    exact zv_foot a0 a1 a2 a3 a4 a5 zv_h0 zv_len
  | 42, _ =>
    refine Wp.steps 1 (pc1 := 1338) (lo1 := [some (.ref 1000000), some (.ref 0), some (.ref 113), some (.int 0)]) (st1 := []) (h1 := zv_h0) rfl ?_
    exact zv_foot a0 a1 a2 a3 a4 a5 zv_h0 zv_len
  | 43, _ =>
    refine Wp.steps 1 (pc1 := 1338) (lo1 := [some (.ref 1000000), some (.ref 0), some (.ref 113), some (.int 0)]) (st1 := []) (h1 := zv_h0) rfl ?_
    exact zv_foot a0 a1 a2 a3 a4 a5 zv_h0 zv_len
  | 44, _ =>
    refine Wp.steps 1 (pc1 := 1338) (lo1 := [some (.ref 1000000), some (.ref 0), some (.ref 113), some (.int 0)]) (st1 := []) (h1 := zv_h0) rfl ?_
    exact zv_foot a0 a1 a2 a3 a4 a5 zv_h0 zv_len
  | 45, _ =>
    refine Wp.steps 1 (pc1 := 1338) (lo1 := [some (.ref 1000000), some (.ref 0), some (.ref 113), some (.int 0)]) (st1 := []) (h1 := zv_h0) rfl ?_
    exact zv_foot a0 a1 a2 a3 a4 a5 zv_h0 zv_len
  | 46, _ =>
    refine Wp.steps 1 (pc1 := 1338) (lo1 := [some (.ref 1000000), some (.ref 0), some (.ref 113), some (.int 0)]) (st1 := []) (h1 := zv_h0) rfl ?_
    exact zv_foot a0 a1 a2 a3 a4 a5 zv_h0 zv_len
  | 47, _ =>
    refine Wp.steps 1 (pc1 := 1338) (lo1 := [some (.ref 1000000), some (.ref 0), some (.ref 113), some (.int 0)]) (st1 := []) (h1 := zv_h0) rfl ?_
    exact zv_foot a0 a1 a2 a3 a4 a5 zv_h0 zv_len
  | 48, _ =>
    refine Wp.steps 1 (pc1 := 1338) (lo1 := [some (.ref 1000000), some (.ref 0), some (.ref 113), some (.int 0)]) (st1 := []) (h1 := zv_h0) rfl ?_
    exact zv_foot a0 a1 a2 a3 a4 a5 zv_h0 zv_len
  | 49, _ =>
    refine Wp.steps 1 (pc1 := 1338) (lo1 := [some (.ref 1000000), some (.ref 0), some (.ref 113), some (.int 0)]) (st1 := []) (h1 := zv_h0) rfl ?_
    exact zv_foot a0 a1 a2 a3 a4 a5 zv_h0 zv_len
  | 50, _ =>
    refine Wp.steps 1 (pc1 := 1338) (lo1 := [some (.ref 1000000), some (.ref 0), some (.ref 113), some (.int 0)]) (st1 := []) (h1 := zv_h0) rfl ?_
    exact zv_foot a0 a1 a2 a3 a4 a5 zv_h0 zv_len
  | 51, _ =>
    refine Wp.steps 1 (pc1 := 1338) (lo1 := [some (.ref 1000000), some (.ref 0), some (.ref 113), some (.int 0)]) (st1 := []) (h1 := zv_h0) rfl ?_
    exact zv_foot a0 a1 a2 a3 a4 a5 zv_h0 zv_len
  | 52, _ =>
    refine Wp.steps 1 (pc1 := 1338) (lo1 := [some (.ref 1000000), some (.ref 0), some (.ref 113), some (.int 0)]) (st1 := []) (h1 := zv_h0) rfl ?_
    exact zv_foot a0 a1 a2 a3 a4 a5 zv_h0 zv_len
  | 53, _ =>
    refine Wp.steps 1 (pc1 := 1338) (lo1 := [some (.ref 1000000), some (.ref 0), some (.ref 113), some (.int 0)]) (st1 := []) (h1 := zv_h0) rfl ?_
    exact zv_foot a0 a1 a2 a3 a4 a5 zv_h0 zv_len
  | 54, _ =>
    refine Wp.steps 1 (pc1 := 1338) (lo1 := [some (.ref 1000000), some (.ref 0), some (.ref 113), some (.int 0)]) (st1 := []) (h1 := zv_h0) rfl ?_
    exact zv_foot a0 a1 a2 a3 a4 a5 zv_h0 zv_len
  | 55, _ =>
    refine Wp.steps 1 (pc1 := 1338) (lo1 := [some (.ref 1000000), some (.ref 0), some (.ref 113), some (.int 0)]) (st1 := []) (h1 := zv_h0) rfl ?_
    exact zv_foot a0 a1 a2 a3 a4 a5 zv_h0 zv_len
  | 56, _ =>
    refine Wp.steps 1 (pc1 := 1338) (lo1 := [some (.ref 1000000), some (.ref 0), some (.ref 113), some (.int 0)]) (st1 := []) (h1 := zv_h0) rfl ?_
    exact zv_foot a0 a1 a2 a3 a4 a5 zv_h0 zv_len
  | 57, _ =>
    refine Wp.steps 1 (pc1 := 1338) (lo1 := [some (.ref 1000000), some (.ref 0), some (.ref 113), some (.int 0)]) (st1 := []) (h1 := zv_h0) rfl ?_
    exact zv_foot a0 a1 a2 a3 a4 a5 zv_h0 zv_len
  | 58, _ =>
    refine Wp.steps 1 (pc1 := 1338) (lo1 := [some (.ref 1000000), some (.ref 0), some (.ref 113), some (.int 0)]) (st1 := []) (h1 := zv_h0) rfl ?_
    exact zv_foot a0 a1 a2 a3 a4 a5 zv_h0 zv_len
  | 59, _ =>
    refine Wp.steps 1 (pc1 := 1338) (lo1 := [some (.ref 1000000), some (.ref 0), some (.ref 113), some (.int 0)]) (st1 := []) (h1 := zv_h0) rfl ?_
    exact zv_foot a0 a1 a2 a3 a4 a5 zv_h0 zv_len
  | 60, _ =>
    refine Wp.steps 1 (pc1 := 1338) (lo1 := [some (.ref 1000000), some (.ref 0), some (.ref 113), some (.int 0)]) (st1 := []) (h1 := zv_h0) rfl ?_
    exact zv_foot a0 a1 a2 a3 a4 a5 zv_h0 zv_len
  | 61, _ =>
    refine Wp.steps 1 (pc1 := 1338) (lo1 := [some (.ref 1000000), some (.ref 0), some (.ref 113), some (.int 0)]) (st1 := []) (h1 := zv_h0) rfl ?_
    exact zv_foot a0 a1 a2 a3 a4 a5 zv_h0 zv_len
  | 62, _ =>
    refine Wp.steps 1 (pc1 := 1338) (lo1 := [some (.ref 1000000), some (.ref 0), some (.ref 113), some (.int 0)]) (st1 := []) (h1 := zv_h0) rfl ?_
    exact zv_foot a0 a1 a2 a3 a4 a5 zv_h0 zv_len
  | 63, _ =>
    refine Wp.steps 1 (pc1 := 1338) (lo1 := [some (.ref 1000000), some (.ref 0), some (.ref 113), some (.int 0)]) (st1 := []) (h1 := zv_h0) rfl ?_
    exact zv_foot a0 a1 a2 a3 a4 a5 zv_h0 zv_len
  | k + 64, h => exact absurd h (by omega)
set_option maxRecDepth 100000 in
theorem zp1_all (sc : List Int32) (h : sc.length ≤ 6) : Wp (some sc) 12 z_law 0 (zm_ent (z_L z_law) [.ref zm_SP]) [] [] zs_Q := by
  refine zv_pro sc ?_
  match sc, h with
  | [], _ =>
    refine Wp.steps 3 (pc1 := 21) (lo1 := [some (.ref 1000000), some (.ref 0), some (.ref 113), some (.int 0)]) (st1 := [.int 0, .int 0]) (h1 := zv_h0) rfl ?_
    refine Wp.steps 4 (pc1 := 1345) (lo1 := [some (.ref 1000000), some (.ref 0), some (.ref 113), some (.int 0)]) (st1 := [.int 1]) (h1 := zv_h0) rfl ?_
    exact Wp.ret rfl rfl rfl ⟨rfl, zv_len.1, zv_len.2⟩
  | [b0], _ =>
    refine Wp.steps 3 (pc1 := 21) (lo1 := [some (.ref 1000000), some (.ref 0), some (.ref 113), some (.int 0)]) (st1 := [.int 1, .int 0]) (h1 := zv_h0) rfl ?_
    refine Wp.steps 4 (pc1 := 1345) (lo1 := [some (.ref 1000000), some (.ref 0), some (.ref 113), some (.int 0)]) (st1 := [.int 1]) (h1 := zv_h0) rfl ?_
    exact Wp.ret rfl rfl rfl ⟨rfl, zv_len.1, zv_len.2⟩
  | [b0, b1], _ =>
    refine Wp.steps 3 (pc1 := 21) (lo1 := [some (.ref 1000000), some (.ref 0), some (.ref 113), some (.int 0)]) (st1 := [.int 2, .int 0]) (h1 := zv_h0) rfl ?_
    refine Wp.steps 4 (pc1 := 1345) (lo1 := [some (.ref 1000000), some (.ref 0), some (.ref 113), some (.int 0)]) (st1 := [.int 1]) (h1 := zv_h0) rfl ?_
    exact Wp.ret rfl rfl rfl ⟨rfl, zv_len.1, zv_len.2⟩
  | [b0, b1, b2], _ =>
    refine Wp.steps 3 (pc1 := 21) (lo1 := [some (.ref 1000000), some (.ref 0), some (.ref 113), some (.int 0)]) (st1 := [.int 3, .int 0]) (h1 := zv_h0) rfl ?_
    refine Wp.steps 4 (pc1 := 1345) (lo1 := [some (.ref 1000000), some (.ref 0), some (.ref 113), some (.int 0)]) (st1 := [.int 1]) (h1 := zv_h0) rfl ?_
    exact Wp.ret rfl rfl rfl ⟨rfl, zv_len.1, zv_len.2⟩
  | [b0, b1, b2, b3], _ =>
    refine Wp.steps 3 (pc1 := 21) (lo1 := [some (.ref 1000000), some (.ref 0), some (.ref 113), some (.int 0)]) (st1 := [.int 4, .int 0]) (h1 := zv_h0) rfl ?_
    refine Wp.steps 4 (pc1 := 1345) (lo1 := [some (.ref 1000000), some (.ref 0), some (.ref 113), some (.int 0)]) (st1 := [.int 1]) (h1 := zv_h0) rfl ?_
    exact Wp.ret rfl rfl rfl ⟨rfl, zv_len.1, zv_len.2⟩
  | [b0, b1, b2, b3, b4], _ =>
    refine Wp.steps 3 (pc1 := 21) (lo1 := [some (.ref 1000000), some (.ref 0), some (.ref 113), some (.int 0)]) (st1 := [.int 5, .int 0]) (h1 := zv_h0) rfl ?_
    refine Wp.steps 4 (pc1 := 1345) (lo1 := [some (.ref 1000000), some (.ref 0), some (.ref 113), some (.int 0)]) (st1 := [.int 1]) (h1 := zv_h0) rfl ?_
    exact Wp.ret rfl rfl rfl ⟨rfl, zv_len.1, zv_len.2⟩
  | [a0, a1, a2, a3, a4, a5], _ => exact zp1_six a0 a1 a2 a3 a4 a5
  | _ :: _ :: _ :: _ :: _ :: _ :: _ :: _, h => exact absurd h (by simp)
