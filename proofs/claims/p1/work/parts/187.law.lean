set_option maxRecDepth 100000 in
theorem zl_0 (a0 a1 a2 a3 a4 a5 : Int32) (hP : zv_Pi 54 111 [.int a1]) : Wp (some [a0, a1, a2, a3, a4, a5]) 12 z_law 192 [some (.ref 1000000), some (.ref 0), some (.ref 113), some (.int 0)] [] zv_h0 zs_Q := by
  obtain ⟨v, h1, h2, hx, hk, hm, hl⟩ := hP
  refine Wp.steps 6 (pc1 := 198) (lo1 := [some (.ref 1000000), some (.ref 0), some (.ref 113), some (.int 0)]) (st1 := [.int a1, .ref 0]) (h1 := zv_h0) rfl ?_
  refine Wp.call (as := [.ref 0, .int a1]) (rest := []) rfl rfl rfl rfl rfl rfl rfl rfl rfl ?_
  refine Wp.mono (Wp.anyS hx) ?_
  rintro ⟨pcR, st1, hh⟩ ⟨rfl, rfl⟩
  show Wp (some [a0, a1, a2, a3, a4, a5]) 12 z_law 201 [some (.ref 1000000), some (.ref 0), some (.ref 113), some (.int 0)] [.int v] hh zs_Q
  refine Wp.steps 6 (pc1 := 207) (lo1 := [some (.ref 1000000), some (.ref 0), some (.ref 113), some (.int 0)]) (st1 := [.int a1, .ref 113, .int v]) (h1 := hh) rfl ?_
  refine Wp.call (as := [.ref 113, .int a1]) (rest := [.int v]) rfl rfl rfl rfl rfl rfl rfl (by show (match zm_cls hh 113 with | some c => Nat.beq c (z_O 111) | none => false) = true; rw [hk]; rfl) rfl ?_
  refine Wp.mono (Wp.anyS hm) ?_
  rintro ⟨pcR2, st2, hh2⟩ ⟨rfl, rfl⟩
  show Wp (some [a0, a1, a2, a3, a4, a5]) 12 z_law 210 [some (.ref 1000000), some (.ref 0), some (.ref 113), some (.int 0)] [.int v, .int v] hh2 zs_Q
  refine Wp.icT (i := .nop) rfl (decide_eq_true rfl) ?_
  exact zv_foot a0 a1 a2 a3 a4 a5 hh2 hl
set_option maxRecDepth 100000 in
theorem zl_1 (a0 a1 a2 a3 a4 a5 : Int32) (hP : zv_Pi 55 112 [.int a1]) : Wp (some [a0, a1, a2, a3, a4, a5]) 12 z_law 215 [some (.ref 1000000), some (.ref 0), some (.ref 113), some (.int 0)] [] zv_h0 zs_Q := by
  obtain ⟨v, h1, h2, hx, hk, hm, hl⟩ := hP
  refine Wp.steps 6 (pc1 := 221) (lo1 := [some (.ref 1000000), some (.ref 0), some (.ref 113), some (.int 0)]) (st1 := [.int a1, .ref 0]) (h1 := zv_h0) rfl ?_
  refine Wp.call (as := [.ref 0, .int a1]) (rest := []) rfl rfl rfl rfl rfl rfl rfl rfl rfl ?_
  refine Wp.mono (Wp.anyS hx) ?_
  rintro ⟨pcR, st1, hh⟩ ⟨rfl, rfl⟩
  show Wp (some [a0, a1, a2, a3, a4, a5]) 12 z_law 224 [some (.ref 1000000), some (.ref 0), some (.ref 113), some (.int 0)] [.int v] hh zs_Q
  refine Wp.steps 6 (pc1 := 230) (lo1 := [some (.ref 1000000), some (.ref 0), some (.ref 113), some (.int 0)]) (st1 := [.int a1, .ref 113, .int v]) (h1 := hh) rfl ?_
  refine Wp.call (as := [.ref 113, .int a1]) (rest := [.int v]) rfl rfl rfl rfl rfl rfl rfl (by show (match zm_cls hh 113 with | some c => Nat.beq c (z_O 112) | none => false) = true; rw [hk]; rfl) rfl ?_
  refine Wp.mono (Wp.anyS hm) ?_
  rintro ⟨pcR2, st2, hh2⟩ ⟨rfl, rfl⟩
  show Wp (some [a0, a1, a2, a3, a4, a5]) 12 z_law 233 [some (.ref 1000000), some (.ref 0), some (.ref 113), some (.int 0)] [.int v, .int v] hh2 zs_Q
  refine Wp.icT (i := .nop) rfl (decide_eq_true rfl) ?_
  exact zv_foot a0 a1 a2 a3 a4 a5 hh2 hl
set_option maxRecDepth 100000 in
theorem zl_2 (a0 a1 a2 a3 a4 a5 : Int32) (hP : zv_Pi 56 129 []) : Wp (some [a0, a1, a2, a3, a4, a5]) 12 z_law 238 [some (.ref 1000000), some (.ref 0), some (.ref 113), some (.int 0)] [] zv_h0 zs_Q := by
  obtain ⟨v, h1, h2, hx, hk, hm, hl⟩ := hP
  refine Wp.steps 1 (pc1 := 239) (lo1 := [some (.ref 1000000), some (.ref 0), some (.ref 113), some (.int 0)]) (st1 := [.ref 0]) (h1 := zv_h0) rfl ?_
  refine Wp.call (as := [.ref 0]) (rest := []) rfl rfl rfl rfl rfl rfl rfl rfl rfl ?_
  refine Wp.mono (Wp.anyS hx) ?_
  rintro ⟨pcR, st1, hh⟩ ⟨rfl, rfl⟩
  show Wp (some [a0, a1, a2, a3, a4, a5]) 12 z_law 242 [some (.ref 1000000), some (.ref 0), some (.ref 113), some (.int 0)] [.int v] hh zs_Q
  refine Wp.steps 1 (pc1 := 243) (lo1 := [some (.ref 1000000), some (.ref 0), some (.ref 113), some (.int 0)]) (st1 := [.ref 113, .int v]) (h1 := hh) rfl ?_
  refine Wp.call (as := [.ref 113]) (rest := [.int v]) rfl rfl rfl rfl rfl rfl rfl (by show (match zm_cls hh 113 with | some c => Nat.beq c (z_O 129) | none => false) = true; rw [hk]; rfl) rfl ?_
  refine Wp.mono (Wp.anyS hm) ?_
  rintro ⟨pcR2, st2, hh2⟩ ⟨rfl, rfl⟩
  show Wp (some [a0, a1, a2, a3, a4, a5]) 12 z_law 246 [some (.ref 1000000), some (.ref 0), some (.ref 113), some (.int 0)] [.int v, .int v] hh2 zs_Q
  refine Wp.icT (i := .nop) rfl (decide_eq_true rfl) ?_
  exact zv_foot a0 a1 a2 a3 a4 a5 hh2 hl
set_option maxRecDepth 100000 in
theorem zl_3 (a0 a1 a2 a3 a4 a5 : Int32) (hP : zv_Pi 57 130 []) : Wp (some [a0, a1, a2, a3, a4, a5]) 12 z_law 251 [some (.ref 1000000), some (.ref 0), some (.ref 113), some (.int 0)] [] zv_h0 zs_Q := by
  obtain ⟨v, h1, h2, hx, hk, hm, hl⟩ := hP
  refine Wp.steps 1 (pc1 := 252) (lo1 := [some (.ref 1000000), some (.ref 0), some (.ref 113), some (.int 0)]) (st1 := [.ref 0]) (h1 := zv_h0) rfl ?_
  refine Wp.call (as := [.ref 0]) (rest := []) rfl rfl rfl rfl rfl rfl rfl rfl rfl ?_
  refine Wp.mono (Wp.anyS hx) ?_
  rintro ⟨pcR, st1, hh⟩ ⟨rfl, rfl⟩
  show Wp (some [a0, a1, a2, a3, a4, a5]) 12 z_law 255 [some (.ref 1000000), some (.ref 0), some (.ref 113), some (.int 0)] [.int v] hh zs_Q
  refine Wp.steps 1 (pc1 := 256) (lo1 := [some (.ref 1000000), some (.ref 0), some (.ref 113), some (.int 0)]) (st1 := [.ref 113, .int v]) (h1 := hh) rfl ?_
  refine Wp.call (as := [.ref 113]) (rest := [.int v]) rfl rfl rfl rfl rfl rfl rfl (by show (match zm_cls hh 113 with | some c => Nat.beq c (z_O 130) | none => false) = true; rw [hk]; rfl) rfl ?_
  refine Wp.mono (Wp.anyS hm) ?_
  rintro ⟨pcR2, st2, hh2⟩ ⟨rfl, rfl⟩
  show Wp (some [a0, a1, a2, a3, a4, a5]) 12 z_law 259 [some (.ref 1000000), some (.ref 0), some (.ref 113), some (.int 0)] [.int v, .int v] hh2 zs_Q
  refine Wp.icT (i := .nop) rfl (decide_eq_true rfl) ?_
  exact zv_foot a0 a1 a2 a3 a4 a5 hh2 hl
set_option maxRecDepth 100000 in
theorem zl_4 (a0 a1 a2 a3 a4 a5 : Int32) (hP : zv_Pi 58 139 [.int a1]) : Wp (some [a0, a1, a2, a3, a4, a5]) 12 z_law 264 [some (.ref 1000000), some (.ref 0), some (.ref 113), some (.int 0)] [] zv_h0 zs_Q := by
  obtain ⟨v, h1, h2, hx, hk, hm, hl⟩ := hP
  refine Wp.steps 6 (pc1 := 270) (lo1 := [some (.ref 1000000), some (.ref 0), some (.ref 113), some (.int 0)]) (st1 := [.int a1, .ref 0]) (h1 := zv_h0) rfl ?_
  refine Wp.call (as := [.ref 0, .int a1]) (rest := []) rfl rfl rfl rfl rfl rfl rfl rfl rfl ?_
  refine Wp.mono (Wp.anyS hx) ?_
  rintro ⟨pcR, st1, hh⟩ ⟨rfl, rfl⟩
  show Wp (some [a0, a1, a2, a3, a4, a5]) 12 z_law 273 [some (.ref 1000000), some (.ref 0), some (.ref 113), some (.int 0)] [.int v] hh zs_Q
  refine Wp.steps 6 (pc1 := 279) (lo1 := [some (.ref 1000000), some (.ref 0), some (.ref 113), some (.int 0)]) (st1 := [.int a1, .ref 113, .int v]) (h1 := hh) rfl ?_
  refine Wp.call (as := [.ref 113, .int a1]) (rest := [.int v]) rfl rfl rfl rfl rfl rfl rfl (by show (match zm_cls hh 113 with | some c => Nat.beq c (z_O 139) | none => false) = true; rw [hk]; rfl) rfl ?_
  refine Wp.mono (Wp.anyS hm) ?_
  rintro ⟨pcR2, st2, hh2⟩ ⟨rfl, rfl⟩
  show Wp (some [a0, a1, a2, a3, a4, a5]) 12 z_law 282 [some (.ref 1000000), some (.ref 0), some (.ref 113), some (.int 0)] [.int v, .int v] hh2 zs_Q
  refine Wp.icT (i := .nop) rfl (decide_eq_true rfl) ?_
  exact zv_foot a0 a1 a2 a3 a4 a5 hh2 hl
set_option maxRecDepth 100000 in
theorem zl_5 (a0 a1 a2 a3 a4 a5 : Int32) (hP : zv_Pi 59 140 [.int a1, .int a2]) : Wp (some [a0, a1, a2, a3, a4, a5]) 12 z_law 287 [some (.ref 1000000), some (.ref 0), some (.ref 113), some (.int 0)] [] zv_h0 zs_Q := by
  obtain ⟨v, h1, h2, hx, hk, hm, hl⟩ := hP
  refine Wp.steps 11 (pc1 := 298) (lo1 := [some (.ref 1000000), some (.ref 0), some (.ref 113), some (.int 0)]) (st1 := [.int a2, .int a1, .ref 0]) (h1 := zv_h0) rfl ?_
  refine Wp.call (as := [.ref 0, .int a1, .int a2]) (rest := []) rfl rfl rfl rfl rfl rfl rfl rfl rfl ?_
  refine Wp.mono (Wp.anyS hx) ?_
  rintro ⟨pcR, st1, hh⟩ ⟨rfl, rfl⟩
  show Wp (some [a0, a1, a2, a3, a4, a5]) 12 z_law 301 [some (.ref 1000000), some (.ref 0), some (.ref 113), some (.int 0)] [.int v] hh zs_Q
  refine Wp.steps 11 (pc1 := 312) (lo1 := [some (.ref 1000000), some (.ref 0), some (.ref 113), some (.int 0)]) (st1 := [.int a2, .int a1, .ref 113, .int v]) (h1 := hh) rfl ?_
  refine Wp.call (as := [.ref 113, .int a1, .int a2]) (rest := [.int v]) rfl rfl rfl rfl rfl rfl rfl (by show (match zm_cls hh 113 with | some c => Nat.beq c (z_O 140) | none => false) = true; rw [hk]; rfl) rfl ?_
  refine Wp.mono (Wp.anyS hm) ?_
  rintro ⟨pcR2, st2, hh2⟩ ⟨rfl, rfl⟩
  show Wp (some [a0, a1, a2, a3, a4, a5]) 12 z_law 315 [some (.ref 1000000), some (.ref 0), some (.ref 113), some (.int 0)] [.int v, .int v] hh2 zs_Q
  refine Wp.icT (i := .nop) rfl (decide_eq_true rfl) ?_
  exact zv_foot a0 a1 a2 a3 a4 a5 hh2 hl
set_option maxRecDepth 100000 in
theorem zl_6 (a0 a1 a2 a3 a4 a5 : Int32) (hP : zv_Pi 60 141 [.int a1, .int a2]) : Wp (some [a0, a1, a2, a3, a4, a5]) 12 z_law 320 [some (.ref 1000000), some (.ref 0), some (.ref 113), some (.int 0)] [] zv_h0 zs_Q := by
  obtain ⟨v, h1, h2, hx, hk, hm, hl⟩ := hP
  refine Wp.steps 11 (pc1 := 331) (lo1 := [some (.ref 1000000), some (.ref 0), some (.ref 113), some (.int 0)]) (st1 := [.int a2, .int a1, .ref 0]) (h1 := zv_h0) rfl ?_
  refine Wp.call (as := [.ref 0, .int a1, .int a2]) (rest := []) rfl rfl rfl rfl rfl rfl rfl rfl rfl ?_
  refine Wp.mono (Wp.anyS hx) ?_
  rintro ⟨pcR, st1, hh⟩ ⟨rfl, rfl⟩
  show Wp (some [a0, a1, a2, a3, a4, a5]) 12 z_law 334 [some (.ref 1000000), some (.ref 0), some (.ref 113), some (.int 0)] [.int v] hh zs_Q
  refine Wp.steps 11 (pc1 := 345) (lo1 := [some (.ref 1000000), some (.ref 0), some (.ref 113), some (.int 0)]) (st1 := [.int a2, .int a1, .ref 113, .int v]) (h1 := hh) rfl ?_
  refine Wp.call (as := [.ref 113, .int a1, .int a2]) (rest := [.int v]) rfl rfl rfl rfl rfl rfl rfl (by show (match zm_cls hh 113 with | some c => Nat.beq c (z_O 141) | none => false) = true; rw [hk]; rfl) rfl ?_
  refine Wp.mono (Wp.anyS hm) ?_
  rintro ⟨pcR2, st2, hh2⟩ ⟨rfl, rfl⟩
  show Wp (some [a0, a1, a2, a3, a4, a5]) 12 z_law 348 [some (.ref 1000000), some (.ref 0), some (.ref 113), some (.int 0)] [.int v, .int v] hh2 zs_Q
  refine Wp.icT (i := .nop) rfl (decide_eq_true rfl) ?_
  exact zv_foot a0 a1 a2 a3 a4 a5 hh2 hl
set_option maxRecDepth 100000 in
theorem zl_7 (a0 a1 a2 a3 a4 a5 : Int32) (hP : zv_Pi 61 143 [.int a1, .int a2]) : Wp (some [a0, a1, a2, a3, a4, a5]) 12 z_law 353 [some (.ref 1000000), some (.ref 0), some (.ref 113), some (.int 0)] [] zv_h0 zs_Q := by
  obtain ⟨v, h1, h2, hx, hk, hm, hl⟩ := hP
  refine Wp.steps 11 (pc1 := 364) (lo1 := [some (.ref 1000000), some (.ref 0), some (.ref 113), some (.int 0)]) (st1 := [.int a2, .int a1, .ref 0]) (h1 := zv_h0) rfl ?_
  refine Wp.call (as := [.ref 0, .int a1, .int a2]) (rest := []) rfl rfl rfl rfl rfl rfl rfl rfl rfl ?_
  refine Wp.mono (Wp.anyS hx) ?_
  rintro ⟨pcR, st1, hh⟩ ⟨rfl, rfl⟩
  show Wp (some [a0, a1, a2, a3, a4, a5]) 12 z_law 367 [some (.ref 1000000), some (.ref 0), some (.ref 113), some (.int 0)] [.int v] hh zs_Q
  refine Wp.steps 11 (pc1 := 378) (lo1 := [some (.ref 1000000), some (.ref 0), some (.ref 113), some (.int 0)]) (st1 := [.int a2, .int a1, .ref 113, .int v]) (h1 := hh) rfl ?_
  refine Wp.call (as := [.ref 113, .int a1, .int a2]) (rest := [.int v]) rfl rfl rfl rfl rfl rfl rfl (by show (match zm_cls hh 113 with | some c => Nat.beq c (z_O 143) | none => false) = true; rw [hk]; rfl) rfl ?_
  refine Wp.mono (Wp.anyS hm) ?_
  rintro ⟨pcR2, st2, hh2⟩ ⟨rfl, rfl⟩
  show Wp (some [a0, a1, a2, a3, a4, a5]) 12 z_law 381 [some (.ref 1000000), some (.ref 0), some (.ref 113), some (.int 0)] [.int v, .int v] hh2 zs_Q
  refine Wp.icT (i := .nop) rfl (decide_eq_true rfl) ?_
  exact zv_foot a0 a1 a2 a3 a4 a5 hh2 hl
set_option maxRecDepth 100000 in
theorem zl_8 (a0 a1 a2 a3 a4 a5 : Int32) (hP : zv_Pi 62 145 [.int a1, .int a2]) : Wp (some [a0, a1, a2, a3, a4, a5]) 12 z_law 386 [some (.ref 1000000), some (.ref 0), some (.ref 113), some (.int 0)] [] zv_h0 zs_Q := by
  obtain ⟨v, h1, h2, hx, hk, hm, hl⟩ := hP
  refine Wp.steps 11 (pc1 := 397) (lo1 := [some (.ref 1000000), some (.ref 0), some (.ref 113), some (.int 0)]) (st1 := [.int a2, .int a1, .ref 0]) (h1 := zv_h0) rfl ?_
  refine Wp.call (as := [.ref 0, .int a1, .int a2]) (rest := []) rfl rfl rfl rfl rfl rfl rfl rfl rfl ?_
  refine Wp.mono (Wp.anyS hx) ?_
  rintro ⟨pcR, st1, hh⟩ ⟨rfl, rfl⟩
  show Wp (some [a0, a1, a2, a3, a4, a5]) 12 z_law 400 [some (.ref 1000000), some (.ref 0), some (.ref 113), some (.int 0)] [.int v] hh zs_Q
  refine Wp.steps 11 (pc1 := 411) (lo1 := [some (.ref 1000000), some (.ref 0), some (.ref 113), some (.int 0)]) (st1 := [.int a2, .int a1, .ref 113, .int v]) (h1 := hh) rfl ?_
  refine Wp.call (as := [.ref 113, .int a1, .int a2]) (rest := [.int v]) rfl rfl rfl rfl rfl rfl rfl (by show (match zm_cls hh 113 with | some c => Nat.beq c (z_O 145) | none => false) = true; rw [hk]; rfl) rfl ?_
  refine Wp.mono (Wp.anyS hm) ?_
  rintro ⟨pcR2, st2, hh2⟩ ⟨rfl, rfl⟩
  show Wp (some [a0, a1, a2, a3, a4, a5]) 12 z_law 414 [some (.ref 1000000), some (.ref 0), some (.ref 113), some (.int 0)] [.int v, .int v] hh2 zs_Q
  refine Wp.icT (i := .nop) rfl (decide_eq_true rfl) ?_
  exact zv_foot a0 a1 a2 a3 a4 a5 hh2 hl
set_option maxRecDepth 100000 in
theorem zl_9 (a0 a1 a2 a3 a4 a5 : Int32) (hP : zv_Pi 63 146 [.int a1, .int a2, .int a3, .int a4, .int a5]) : Wp (some [a0, a1, a2, a3, a4, a5]) 12 z_law 419 [some (.ref 1000000), some (.ref 0), some (.ref 113), some (.int 0)] [] zv_h0 zs_Q := by
  obtain ⟨v, h1, h2, hx, hk, hm, hl⟩ := hP
  refine Wp.steps 26 (pc1 := 445) (lo1 := [some (.ref 1000000), some (.ref 0), some (.ref 113), some (.int 0)]) (st1 := [.int a5, .int a4, .int a3, .int a2, .int a1, .ref 0]) (h1 := zv_h0) rfl ?_
  refine Wp.call (as := [.ref 0, .int a1, .int a2, .int a3, .int a4, .int a5]) (rest := []) rfl rfl rfl rfl rfl rfl rfl rfl rfl ?_
  refine Wp.mono (Wp.anyS hx) ?_
  rintro ⟨pcR, st1, hh⟩ ⟨rfl, rfl⟩
  show Wp (some [a0, a1, a2, a3, a4, a5]) 12 z_law 448 [some (.ref 1000000), some (.ref 0), some (.ref 113), some (.int 0)] [.int v] hh zs_Q
  refine Wp.steps 26 (pc1 := 474) (lo1 := [some (.ref 1000000), some (.ref 0), some (.ref 113), some (.int 0)]) (st1 := [.int a5, .int a4, .int a3, .int a2, .int a1, .ref 113, .int v]) (h1 := hh) rfl ?_
  refine Wp.call (as := [.ref 113, .int a1, .int a2, .int a3, .int a4, .int a5]) (rest := [.int v]) rfl rfl rfl rfl rfl rfl rfl (by show (match zm_cls hh 113 with | some c => Nat.beq c (z_O 146) | none => false) = true; rw [hk]; rfl) rfl ?_
  refine Wp.mono (Wp.anyS hm) ?_
  rintro ⟨pcR2, st2, hh2⟩ ⟨rfl, rfl⟩
  show Wp (some [a0, a1, a2, a3, a4, a5]) 12 z_law 477 [some (.ref 1000000), some (.ref 0), some (.ref 113), some (.int 0)] [.int v, .int v] hh2 zs_Q
  refine Wp.icT (i := .nop) rfl (decide_eq_true rfl) ?_
  exact zv_foot a0 a1 a2 a3 a4 a5 hh2 hl
set_option maxRecDepth 100000 in
theorem zl_10 (a0 a1 a2 a3 a4 a5 : Int32) (hP : zv_Pi 64 147 [.int a1, .int a2]) : Wp (some [a0, a1, a2, a3, a4, a5]) 12 z_law 482 [some (.ref 1000000), some (.ref 0), some (.ref 113), some (.int 0)] [] zv_h0 zs_Q := by
  obtain ⟨v, h1, h2, hx, hk, hm, hl⟩ := hP
  refine Wp.steps 11 (pc1 := 493) (lo1 := [some (.ref 1000000), some (.ref 0), some (.ref 113), some (.int 0)]) (st1 := [.int a2, .int a1, .ref 0]) (h1 := zv_h0) rfl ?_
  refine Wp.call (as := [.ref 0, .int a1, .int a2]) (rest := []) rfl rfl rfl rfl rfl rfl rfl rfl rfl ?_
  refine Wp.mono (Wp.anyS hx) ?_
  rintro ⟨pcR, st1, hh⟩ ⟨rfl, rfl⟩
  show Wp (some [a0, a1, a2, a3, a4, a5]) 12 z_law 496 [some (.ref 1000000), some (.ref 0), some (.ref 113), some (.int 0)] [.int v] hh zs_Q
  refine Wp.steps 11 (pc1 := 507) (lo1 := [some (.ref 1000000), some (.ref 0), some (.ref 113), some (.int 0)]) (st1 := [.int a2, .int a1, .ref 113, .int v]) (h1 := hh) rfl ?_
  refine Wp.call (as := [.ref 113, .int a1, .int a2]) (rest := [.int v]) rfl rfl rfl rfl rfl rfl rfl (by show (match zm_cls hh 113 with | some c => Nat.beq c (z_O 147) | none => false) = true; rw [hk]; rfl) rfl ?_
  refine Wp.mono (Wp.anyS hm) ?_
  rintro ⟨pcR2, st2, hh2⟩ ⟨rfl, rfl⟩
  show Wp (some [a0, a1, a2, a3, a4, a5]) 12 z_law 510 [some (.ref 1000000), some (.ref 0), some (.ref 113), some (.int 0)] [.int v, .int v] hh2 zs_Q
  refine Wp.icT (i := .nop) rfl (decide_eq_true rfl) ?_
  exact zv_foot a0 a1 a2 a3 a4 a5 hh2 hl
set_option maxRecDepth 100000 in
theorem zl_11 (a0 a1 a2 a3 a4 a5 : Int32) (hP : zv_Pi 65 148 [.int a1, .int a2]) : Wp (some [a0, a1, a2, a3, a4, a5]) 12 z_law 515 [some (.ref 1000000), some (.ref 0), some (.ref 113), some (.int 0)] [] zv_h0 zs_Q := by
  obtain ⟨v, h1, h2, hx, hk, hm, hl⟩ := hP
  refine Wp.steps 11 (pc1 := 526) (lo1 := [some (.ref 1000000), some (.ref 0), some (.ref 113), some (.int 0)]) (st1 := [.int a2, .int a1, .ref 0]) (h1 := zv_h0) rfl ?_
  refine Wp.call (as := [.ref 0, .int a1, .int a2]) (rest := []) rfl rfl rfl rfl rfl rfl rfl rfl rfl ?_
  refine Wp.mono (Wp.anyS hx) ?_
  rintro ⟨pcR, st1, hh⟩ ⟨rfl, rfl⟩
  show Wp (some [a0, a1, a2, a3, a4, a5]) 12 z_law 529 [some (.ref 1000000), some (.ref 0), some (.ref 113), some (.int 0)] [.int v] hh zs_Q
  refine Wp.steps 11 (pc1 := 540) (lo1 := [some (.ref 1000000), some (.ref 0), some (.ref 113), some (.int 0)]) (st1 := [.int a2, .int a1, .ref 113, .int v]) (h1 := hh) rfl ?_
  refine Wp.call (as := [.ref 113, .int a1, .int a2]) (rest := [.int v]) rfl rfl rfl rfl rfl rfl rfl (by show (match zm_cls hh 113 with | some c => Nat.beq c (z_O 148) | none => false) = true; rw [hk]; rfl) rfl ?_
  refine Wp.mono (Wp.anyS hm) ?_
  rintro ⟨pcR2, st2, hh2⟩ ⟨rfl, rfl⟩
  show Wp (some [a0, a1, a2, a3, a4, a5]) 12 z_law 543 [some (.ref 1000000), some (.ref 0), some (.ref 113), some (.int 0)] [.int v, .int v] hh2 zs_Q
  refine Wp.icT (i := .nop) rfl (decide_eq_true rfl) ?_
  exact zv_foot a0 a1 a2 a3 a4 a5 hh2 hl
set_option maxRecDepth 100000 in
theorem zl_12 (a0 a1 a2 a3 a4 a5 : Int32) (hP : zv_Pi 66 149 [.int a1, .int a2]) : Wp (some [a0, a1, a2, a3, a4, a5]) 12 z_law 548 [some (.ref 1000000), some (.ref 0), some (.ref 113), some (.int 0)] [] zv_h0 zs_Q := by
  obtain ⟨v, h1, h2, hx, hk, hm, hl⟩ := hP
  refine Wp.steps 11 (pc1 := 559) (lo1 := [some (.ref 1000000), some (.ref 0), some (.ref 113), some (.int 0)]) (st1 := [.int a2, .int a1, .ref 0]) (h1 := zv_h0) rfl ?_
  refine Wp.call (as := [.ref 0, .int a1, .int a2]) (rest := []) rfl rfl rfl rfl rfl rfl rfl rfl rfl ?_
  refine Wp.mono (Wp.anyS hx) ?_
  rintro ⟨pcR, st1, hh⟩ ⟨rfl, rfl⟩
  show Wp (some [a0, a1, a2, a3, a4, a5]) 12 z_law 562 [some (.ref 1000000), some (.ref 0), some (.ref 113), some (.int 0)] [.int v] hh zs_Q
  refine Wp.steps 11 (pc1 := 573) (lo1 := [some (.ref 1000000), some (.ref 0), some (.ref 113), some (.int 0)]) (st1 := [.int a2, .int a1, .ref 113, .int v]) (h1 := hh) rfl ?_
  refine Wp.call (as := [.ref 113, .int a1, .int a2]) (rest := [.int v]) rfl rfl rfl rfl rfl rfl rfl (by show (match zm_cls hh 113 with | some c => Nat.beq c (z_O 149) | none => false) = true; rw [hk]; rfl) rfl ?_
  refine Wp.mono (Wp.anyS hm) ?_
  rintro ⟨pcR2, st2, hh2⟩ ⟨rfl, rfl⟩
  show Wp (some [a0, a1, a2, a3, a4, a5]) 12 z_law 576 [some (.ref 1000000), some (.ref 0), some (.ref 113), some (.int 0)] [.int v, .int v] hh2 zs_Q
  refine Wp.icT (i := .nop) rfl (decide_eq_true rfl) ?_
  exact zv_foot a0 a1 a2 a3 a4 a5 hh2 hl
set_option maxRecDepth 100000 in
theorem zl_13 (a0 a1 a2 a3 a4 a5 : Int32) (hP : zv_Pi 67 153 [.int a1, .int a2, .int a3]) : Wp (some [a0, a1, a2, a3, a4, a5]) 12 z_law 581 [some (.ref 1000000), some (.ref 0), some (.ref 113), some (.int 0)] [] zv_h0 zs_Q := by
  obtain ⟨v, h1, h2, hx, hk, hm, hl⟩ := hP
  refine Wp.steps 16 (pc1 := 597) (lo1 := [some (.ref 1000000), some (.ref 0), some (.ref 113), some (.int 0)]) (st1 := [.int a3, .int a2, .int a1, .ref 0]) (h1 := zv_h0) rfl ?_
  refine Wp.call (as := [.ref 0, .int a1, .int a2, .int a3]) (rest := []) rfl rfl rfl rfl rfl rfl rfl rfl rfl ?_
  refine Wp.mono (Wp.anyS hx) ?_
  rintro ⟨pcR, st1, hh⟩ ⟨rfl, rfl⟩
  show Wp (some [a0, a1, a2, a3, a4, a5]) 12 z_law 600 [some (.ref 1000000), some (.ref 0), some (.ref 113), some (.int 0)] [.int v] hh zs_Q
  refine Wp.steps 16 (pc1 := 616) (lo1 := [some (.ref 1000000), some (.ref 0), some (.ref 113), some (.int 0)]) (st1 := [.int a3, .int a2, .int a1, .ref 113, .int v]) (h1 := hh) rfl ?_
  refine Wp.call (as := [.ref 113, .int a1, .int a2, .int a3]) (rest := [.int v]) rfl rfl rfl rfl rfl rfl rfl (by show (match zm_cls hh 113 with | some c => Nat.beq c (z_O 153) | none => false) = true; rw [hk]; rfl) rfl ?_
  refine Wp.mono (Wp.anyS hm) ?_
  rintro ⟨pcR2, st2, hh2⟩ ⟨rfl, rfl⟩
  show Wp (some [a0, a1, a2, a3, a4, a5]) 12 z_law 619 [some (.ref 1000000), some (.ref 0), some (.ref 113), some (.int 0)] [.int v, .int v] hh2 zs_Q
  refine Wp.icT (i := .nop) rfl (decide_eq_true rfl) ?_
  exact zv_foot a0 a1 a2 a3 a4 a5 hh2 hl
set_option maxRecDepth 100000 in
theorem zl_14 (a0 a1 a2 a3 a4 a5 : Int32) (hP : zv_Pi 68 154 [.int a1]) : Wp (some [a0, a1, a2, a3, a4, a5]) 12 z_law 624 [some (.ref 1000000), some (.ref 0), some (.ref 113), some (.int 0)] [] zv_h0 zs_Q := by
  obtain ⟨v, h1, h2, hx, hk, hm, hl⟩ := hP
  refine Wp.steps 6 (pc1 := 630) (lo1 := [some (.ref 1000000), some (.ref 0), some (.ref 113), some (.int 0)]) (st1 := [.int a1, .ref 0]) (h1 := zv_h0) rfl ?_
  refine Wp.call (as := [.ref 0, .int a1]) (rest := []) rfl rfl rfl rfl rfl rfl rfl rfl rfl ?_
  refine Wp.mono (Wp.anyS hx) ?_
  rintro ⟨pcR, st1, hh⟩ ⟨rfl, rfl⟩
  show Wp (some [a0, a1, a2, a3, a4, a5]) 12 z_law 633 [some (.ref 1000000), some (.ref 0), some (.ref 113), some (.int 0)] [.int v] hh zs_Q
  refine Wp.steps 6 (pc1 := 639) (lo1 := [some (.ref 1000000), some (.ref 0), some (.ref 113), some (.int 0)]) (st1 := [.int a1, .ref 113, .int v]) (h1 := hh) rfl ?_
  refine Wp.call (as := [.ref 113, .int a1]) (rest := [.int v]) rfl rfl rfl rfl rfl rfl rfl (by show (match zm_cls hh 113 with | some c => Nat.beq c (z_O 154) | none => false) = true; rw [hk]; rfl) rfl ?_
  refine Wp.mono (Wp.anyS hm) ?_
  rintro ⟨pcR2, st2, hh2⟩ ⟨rfl, rfl⟩
  show Wp (some [a0, a1, a2, a3, a4, a5]) 12 z_law 642 [some (.ref 1000000), some (.ref 0), some (.ref 113), some (.int 0)] [.int v, .int v] hh2 zs_Q
  refine Wp.icT (i := .nop) rfl (decide_eq_true rfl) ?_
  exact zv_foot a0 a1 a2 a3 a4 a5 hh2 hl
set_option maxRecDepth 100000 in
theorem zl_15 (a0 a1 a2 a3 a4 a5 : Int32) (hP : zv_Pi 69 156 [.int a1, .int a2]) : Wp (some [a0, a1, a2, a3, a4, a5]) 12 z_law 647 [some (.ref 1000000), some (.ref 0), some (.ref 113), some (.int 0)] [] zv_h0 zs_Q := by
  obtain ⟨v, h1, h2, hx, hk, hm, hl⟩ := hP
  refine Wp.steps 11 (pc1 := 658) (lo1 := [some (.ref 1000000), some (.ref 0), some (.ref 113), some (.int 0)]) (st1 := [.int a2, .int a1, .ref 0]) (h1 := zv_h0) rfl ?_
  refine Wp.call (as := [.ref 0, .int a1, .int a2]) (rest := []) rfl rfl rfl rfl rfl rfl rfl rfl rfl ?_
  refine Wp.mono (Wp.anyS hx) ?_
  rintro ⟨pcR, st1, hh⟩ ⟨rfl, rfl⟩
  show Wp (some [a0, a1, a2, a3, a4, a5]) 12 z_law 661 [some (.ref 1000000), some (.ref 0), some (.ref 113), some (.int 0)] [.int v] hh zs_Q
  refine Wp.steps 11 (pc1 := 672) (lo1 := [some (.ref 1000000), some (.ref 0), some (.ref 113), some (.int 0)]) (st1 := [.int a2, .int a1, .ref 113, .int v]) (h1 := hh) rfl ?_
  refine Wp.call (as := [.ref 113, .int a1, .int a2]) (rest := [.int v]) rfl rfl rfl rfl rfl rfl rfl (by show (match zm_cls hh 113 with | some c => Nat.beq c (z_O 156) | none => false) = true; rw [hk]; rfl) rfl ?_
  refine Wp.mono (Wp.anyS hm) ?_
  rintro ⟨pcR2, st2, hh2⟩ ⟨rfl, rfl⟩
  show Wp (some [a0, a1, a2, a3, a4, a5]) 12 z_law 675 [some (.ref 1000000), some (.ref 0), some (.ref 113), some (.int 0)] [.int v, .int v] hh2 zs_Q
  refine Wp.icT (i := .nop) rfl (decide_eq_true rfl) ?_
  exact zv_foot a0 a1 a2 a3 a4 a5 hh2 hl
set_option maxRecDepth 100000 in
theorem zl_16 (a0 a1 a2 a3 a4 a5 : Int32) (hP : zv_Pi 70 160 [.int a1]) : Wp (some [a0, a1, a2, a3, a4, a5]) 12 z_law 680 [some (.ref 1000000), some (.ref 0), some (.ref 113), some (.int 0)] [] zv_h0 zs_Q := by
  obtain ⟨v, h1, h2, hx, hk, hm, hl⟩ := hP
  refine Wp.steps 6 (pc1 := 686) (lo1 := [some (.ref 1000000), some (.ref 0), some (.ref 113), some (.int 0)]) (st1 := [.int a1, .ref 0]) (h1 := zv_h0) rfl ?_
  refine Wp.call (as := [.ref 0, .int a1]) (rest := []) rfl rfl rfl rfl rfl rfl rfl rfl rfl ?_
  refine Wp.mono (Wp.anyS hx) ?_
  rintro ⟨pcR, st1, hh⟩ ⟨rfl, rfl⟩
  show Wp (some [a0, a1, a2, a3, a4, a5]) 12 z_law 689 [some (.ref 1000000), some (.ref 0), some (.ref 113), some (.int 0)] [.int v] hh zs_Q
  refine Wp.steps 6 (pc1 := 695) (lo1 := [some (.ref 1000000), some (.ref 0), some (.ref 113), some (.int 0)]) (st1 := [.int a1, .ref 113, .int v]) (h1 := hh) rfl ?_
  refine Wp.call (as := [.ref 113, .int a1]) (rest := [.int v]) rfl rfl rfl rfl rfl rfl rfl (by show (match zm_cls hh 113 with | some c => Nat.beq c (z_O 160) | none => false) = true; rw [hk]; rfl) rfl ?_
  refine Wp.mono (Wp.anyS hm) ?_
  rintro ⟨pcR2, st2, hh2⟩ ⟨rfl, rfl⟩
  show Wp (some [a0, a1, a2, a3, a4, a5]) 12 z_law 698 [some (.ref 1000000), some (.ref 0), some (.ref 113), some (.int 0)] [.int v, .int v] hh2 zs_Q
  refine Wp.icT (i := .nop) rfl (decide_eq_true rfl) ?_
  exact zv_foot a0 a1 a2 a3 a4 a5 hh2 hl
set_option maxRecDepth 100000 in
theorem zl_17 (a0 a1 a2 a3 a4 a5 : Int32) (hP : zv_Pi 71 162 []) : Wp (some [a0, a1, a2, a3, a4, a5]) 12 z_law 703 [some (.ref 1000000), some (.ref 0), some (.ref 113), some (.int 0)] [] zv_h0 zs_Q := by
  obtain ⟨v, h1, h2, hx, hk, hm, hl⟩ := hP
  refine Wp.steps 1 (pc1 := 704) (lo1 := [some (.ref 1000000), some (.ref 0), some (.ref 113), some (.int 0)]) (st1 := [.ref 0]) (h1 := zv_h0) rfl ?_
  refine Wp.call (as := [.ref 0]) (rest := []) rfl rfl rfl rfl rfl rfl rfl rfl rfl ?_
  refine Wp.mono (Wp.anyS hx) ?_
  rintro ⟨pcR, st1, hh⟩ ⟨rfl, rfl⟩
  show Wp (some [a0, a1, a2, a3, a4, a5]) 12 z_law 707 [some (.ref 1000000), some (.ref 0), some (.ref 113), some (.int 0)] [.int v] hh zs_Q
  refine Wp.steps 1 (pc1 := 708) (lo1 := [some (.ref 1000000), some (.ref 0), some (.ref 113), some (.int 0)]) (st1 := [.ref 113, .int v]) (h1 := hh) rfl ?_
  refine Wp.call (as := [.ref 113]) (rest := [.int v]) rfl rfl rfl rfl rfl rfl rfl (by show (match zm_cls hh 113 with | some c => Nat.beq c (z_O 162) | none => false) = true; rw [hk]; rfl) rfl ?_
  refine Wp.mono (Wp.anyS hm) ?_
  rintro ⟨pcR2, st2, hh2⟩ ⟨rfl, rfl⟩
  show Wp (some [a0, a1, a2, a3, a4, a5]) 12 z_law 711 [some (.ref 1000000), some (.ref 0), some (.ref 113), some (.int 0)] [.int v, .int v] hh2 zs_Q
  refine Wp.icT (i := .nop) rfl (decide_eq_true rfl) ?_
  exact zv_foot a0 a1 a2 a3 a4 a5 hh2 hl
set_option maxRecDepth 100000 in
theorem zl_18 (a0 a1 a2 a3 a4 a5 : Int32) (hP : zv_Pi 72 165 [.int a1]) : Wp (some [a0, a1, a2, a3, a4, a5]) 12 z_law 716 [some (.ref 1000000), some (.ref 0), some (.ref 113), some (.int 0)] [] zv_h0 zs_Q := by
  obtain ⟨v, h1, h2, hx, hk, hm, hl⟩ := hP
  refine Wp.steps 6 (pc1 := 722) (lo1 := [some (.ref 1000000), some (.ref 0), some (.ref 113), some (.int 0)]) (st1 := [.int a1, .ref 0]) (h1 := zv_h0) rfl ?_
  refine Wp.call (as := [.ref 0, .int a1]) (rest := []) rfl rfl rfl rfl rfl rfl rfl rfl rfl ?_
  refine Wp.mono (Wp.anyS hx) ?_
  rintro ⟨pcR, st1, hh⟩ ⟨rfl, rfl⟩
  show Wp (some [a0, a1, a2, a3, a4, a5]) 12 z_law 725 [some (.ref 1000000), some (.ref 0), some (.ref 113), some (.int 0)] [.int v] hh zs_Q
  refine Wp.steps 6 (pc1 := 731) (lo1 := [some (.ref 1000000), some (.ref 0), some (.ref 113), some (.int 0)]) (st1 := [.int a1, .ref 113, .int v]) (h1 := hh) rfl ?_
  refine Wp.call (as := [.ref 113, .int a1]) (rest := [.int v]) rfl rfl rfl rfl rfl rfl rfl (by show (match zm_cls hh 113 with | some c => Nat.beq c (z_O 165) | none => false) = true; rw [hk]; rfl) rfl ?_
  refine Wp.mono (Wp.anyS hm) ?_
  rintro ⟨pcR2, st2, hh2⟩ ⟨rfl, rfl⟩
  show Wp (some [a0, a1, a2, a3, a4, a5]) 12 z_law 734 [some (.ref 1000000), some (.ref 0), some (.ref 113), some (.int 0)] [.int v, .int v] hh2 zs_Q
  refine Wp.icT (i := .nop) rfl (decide_eq_true rfl) ?_
  exact zv_foot a0 a1 a2 a3 a4 a5 hh2 hl
set_option maxRecDepth 100000 in
theorem zl_19 (a0 a1 a2 a3 a4 a5 : Int32) (hP : zv_Pi 73 167 [.int a1]) : Wp (some [a0, a1, a2, a3, a4, a5]) 12 z_law 739 [some (.ref 1000000), some (.ref 0), some (.ref 113), some (.int 0)] [] zv_h0 zs_Q := by
  obtain ⟨v, h1, h2, hx, hk, hm, hl⟩ := hP
  refine Wp.steps 6 (pc1 := 745) (lo1 := [some (.ref 1000000), some (.ref 0), some (.ref 113), some (.int 0)]) (st1 := [.int a1, .ref 0]) (h1 := zv_h0) rfl ?_
  refine Wp.call (as := [.ref 0, .int a1]) (rest := []) rfl rfl rfl rfl rfl rfl rfl rfl rfl ?_
  refine Wp.mono (Wp.anyS hx) ?_
  rintro ⟨pcR, st1, hh⟩ ⟨rfl, rfl⟩
  show Wp (some [a0, a1, a2, a3, a4, a5]) 12 z_law 748 [some (.ref 1000000), some (.ref 0), some (.ref 113), some (.int 0)] [.int v] hh zs_Q
  refine Wp.steps 6 (pc1 := 754) (lo1 := [some (.ref 1000000), some (.ref 0), some (.ref 113), some (.int 0)]) (st1 := [.int a1, .ref 113, .int v]) (h1 := hh) rfl ?_
  refine Wp.call (as := [.ref 113, .int a1]) (rest := [.int v]) rfl rfl rfl rfl rfl rfl rfl (by show (match zm_cls hh 113 with | some c => Nat.beq c (z_O 167) | none => false) = true; rw [hk]; rfl) rfl ?_
  refine Wp.mono (Wp.anyS hm) ?_
  rintro ⟨pcR2, st2, hh2⟩ ⟨rfl, rfl⟩
  show Wp (some [a0, a1, a2, a3, a4, a5]) 12 z_law 757 [some (.ref 1000000), some (.ref 0), some (.ref 113), some (.int 0)] [.int v, .int v] hh2 zs_Q
  refine Wp.icT (i := .nop) rfl (decide_eq_true rfl) ?_
  exact zv_foot a0 a1 a2 a3 a4 a5 hh2 hl
set_option maxRecDepth 100000 in
theorem zl_20 (a0 a1 a2 a3 a4 a5 : Int32) (hP : zv_Pi 74 168 [.int a1, .int a2, .int a3, .int a4]) : Wp (some [a0, a1, a2, a3, a4, a5]) 12 z_law 762 [some (.ref 1000000), some (.ref 0), some (.ref 113), some (.int 0)] [] zv_h0 zs_Q := by
  obtain ⟨v, h1, h2, hx, hk, hm, hl⟩ := hP
  refine Wp.steps 21 (pc1 := 783) (lo1 := [some (.ref 1000000), some (.ref 0), some (.ref 113), some (.int 0)]) (st1 := [.int a4, .int a3, .int a2, .int a1, .ref 0]) (h1 := zv_h0) rfl ?_
  refine Wp.call (as := [.ref 0, .int a1, .int a2, .int a3, .int a4]) (rest := []) rfl rfl rfl rfl rfl rfl rfl rfl rfl ?_
  refine Wp.mono (Wp.anyS hx) ?_
  rintro ⟨pcR, st1, hh⟩ ⟨rfl, rfl⟩
  show Wp (some [a0, a1, a2, a3, a4, a5]) 12 z_law 786 [some (.ref 1000000), some (.ref 0), some (.ref 113), some (.int 0)] [.int v] hh zs_Q
  refine Wp.steps 21 (pc1 := 807) (lo1 := [some (.ref 1000000), some (.ref 0), some (.ref 113), some (.int 0)]) (st1 := [.int a4, .int a3, .int a2, .int a1, .ref 113, .int v]) (h1 := hh) rfl ?_
  refine Wp.call (as := [.ref 113, .int a1, .int a2, .int a3, .int a4]) (rest := [.int v]) rfl rfl rfl rfl rfl rfl rfl (by show (match zm_cls hh 113 with | some c => Nat.beq c (z_O 168) | none => false) = true; rw [hk]; rfl) rfl ?_
  refine Wp.mono (Wp.anyS hm) ?_
  rintro ⟨pcR2, st2, hh2⟩ ⟨rfl, rfl⟩
  show Wp (some [a0, a1, a2, a3, a4, a5]) 12 z_law 810 [some (.ref 1000000), some (.ref 0), some (.ref 113), some (.int 0)] [.int v, .int v] hh2 zs_Q
  refine Wp.icT (i := .nop) rfl (decide_eq_true rfl) ?_
  exact zv_foot a0 a1 a2 a3 a4 a5 hh2 hl
set_option maxRecDepth 100000 in
theorem zl_21 (a0 a1 a2 a3 a4 a5 : Int32) (hP : zv_Pi 75 169 [.int a1, .int a2]) : Wp (some [a0, a1, a2, a3, a4, a5]) 12 z_law 815 [some (.ref 1000000), some (.ref 0), some (.ref 113), some (.int 0)] [] zv_h0 zs_Q := by
  obtain ⟨v, h1, h2, hx, hk, hm, hl⟩ := hP
  refine Wp.steps 11 (pc1 := 826) (lo1 := [some (.ref 1000000), some (.ref 0), some (.ref 113), some (.int 0)]) (st1 := [.int a2, .int a1, .ref 0]) (h1 := zv_h0) rfl ?_
  refine Wp.call (as := [.ref 0, .int a1, .int a2]) (rest := []) rfl rfl rfl rfl rfl rfl rfl rfl rfl ?_
  refine Wp.mono (Wp.anyS hx) ?_
  rintro ⟨pcR, st1, hh⟩ ⟨rfl, rfl⟩
  show Wp (some [a0, a1, a2, a3, a4, a5]) 12 z_law 829 [some (.ref 1000000), some (.ref 0), some (.ref 113), some (.int 0)] [.int v] hh zs_Q
  refine Wp.steps 11 (pc1 := 840) (lo1 := [some (.ref 1000000), some (.ref 0), some (.ref 113), some (.int 0)]) (st1 := [.int a2, .int a1, .ref 113, .int v]) (h1 := hh) rfl ?_
  refine Wp.call (as := [.ref 113, .int a1, .int a2]) (rest := [.int v]) rfl rfl rfl rfl rfl rfl rfl (by show (match zm_cls hh 113 with | some c => Nat.beq c (z_O 169) | none => false) = true; rw [hk]; rfl) rfl ?_
  refine Wp.mono (Wp.anyS hm) ?_
  rintro ⟨pcR2, st2, hh2⟩ ⟨rfl, rfl⟩
  show Wp (some [a0, a1, a2, a3, a4, a5]) 12 z_law 843 [some (.ref 1000000), some (.ref 0), some (.ref 113), some (.int 0)] [.int v, .int v] hh2 zs_Q
  refine Wp.icT (i := .nop) rfl (decide_eq_true rfl) ?_
  exact zv_foot a0 a1 a2 a3 a4 a5 hh2 hl
set_option maxRecDepth 100000 in
theorem zl_22 (a0 a1 a2 a3 a4 a5 : Int32) (hP : zv_Pi 76 170 [.int a1, .int a2, .int a3]) : Wp (some [a0, a1, a2, a3, a4, a5]) 12 z_law 848 [some (.ref 1000000), some (.ref 0), some (.ref 113), some (.int 0)] [] zv_h0 zs_Q := by
  obtain ⟨v, h1, h2, hx, hk, hm, hl⟩ := hP
  refine Wp.steps 16 (pc1 := 864) (lo1 := [some (.ref 1000000), some (.ref 0), some (.ref 113), some (.int 0)]) (st1 := [.int a3, .int a2, .int a1, .ref 0]) (h1 := zv_h0) rfl ?_
  refine Wp.call (as := [.ref 0, .int a1, .int a2, .int a3]) (rest := []) rfl rfl rfl rfl rfl rfl rfl rfl rfl ?_
  refine Wp.mono (Wp.anyS hx) ?_
  rintro ⟨pcR, st1, hh⟩ ⟨rfl, rfl⟩
  show Wp (some [a0, a1, a2, a3, a4, a5]) 12 z_law 867 [some (.ref 1000000), some (.ref 0), some (.ref 113), some (.int 0)] [.int v] hh zs_Q
  refine Wp.steps 16 (pc1 := 883) (lo1 := [some (.ref 1000000), some (.ref 0), some (.ref 113), some (.int 0)]) (st1 := [.int a3, .int a2, .int a1, .ref 113, .int v]) (h1 := hh) rfl ?_
  refine Wp.call (as := [.ref 113, .int a1, .int a2, .int a3]) (rest := [.int v]) rfl rfl rfl rfl rfl rfl rfl (by show (match zm_cls hh 113 with | some c => Nat.beq c (z_O 170) | none => false) = true; rw [hk]; rfl) rfl ?_
  refine Wp.mono (Wp.anyS hm) ?_
  rintro ⟨pcR2, st2, hh2⟩ ⟨rfl, rfl⟩
  show Wp (some [a0, a1, a2, a3, a4, a5]) 12 z_law 886 [some (.ref 1000000), some (.ref 0), some (.ref 113), some (.int 0)] [.int v, .int v] hh2 zs_Q
  refine Wp.icT (i := .nop) rfl (decide_eq_true rfl) ?_
  exact zv_foot a0 a1 a2 a3 a4 a5 hh2 hl
set_option maxRecDepth 100000 in
theorem zl_23 (a0 a1 a2 a3 a4 a5 : Int32) (hP : zv_Pl 77 173 [.int a1]) : Wp (some [a0, a1, a2, a3, a4, a5]) 12 z_law 891 [some (.ref 1000000), some (.ref 0), some (.ref 113), some (.int 0)] [] zv_h0 zs_Q := by
  obtain ⟨v, h1, h2, hx, hk, hm, hl⟩ := hP
  refine Wp.steps 6 (pc1 := 897) (lo1 := [some (.ref 1000000), some (.ref 0), some (.ref 113), some (.int 0)]) (st1 := [.int a1, .ref 0]) (h1 := zv_h0) rfl ?_
  refine Wp.call (as := [.ref 0, .int a1]) (rest := []) rfl rfl rfl rfl rfl rfl rfl rfl rfl ?_
  refine Wp.mono (Wp.anyS hx) ?_
  rintro ⟨pcR, st1, hh⟩ ⟨rfl, rfl⟩
  show Wp (some [a0, a1, a2, a3, a4, a5]) 12 z_law 900 [some (.ref 1000000), some (.ref 0), some (.ref 113), some (.int 0)] [.long v] hh zs_Q
  refine Wp.steps 6 (pc1 := 906) (lo1 := [some (.ref 1000000), some (.ref 0), some (.ref 113), some (.int 0)]) (st1 := [.int a1, .ref 113, .long v]) (h1 := hh) rfl ?_
  refine Wp.call (as := [.ref 113, .int a1]) (rest := [.long v]) rfl rfl rfl rfl rfl rfl rfl (by show (match zm_cls hh 113 with | some c => Nat.beq c (z_O 173) | none => false) = true; rw [hk]; rfl) rfl ?_
  refine Wp.mono (Wp.anyS hm) ?_
  rintro ⟨pcR2, st2, hh2⟩ ⟨rfl, rfl⟩
  show Wp (some [a0, a1, a2, a3, a4, a5]) 12 z_law 909 [some (.ref 1000000), some (.ref 0), some (.ref 113), some (.int 0)] [.long v, .long v] hh2 zs_Q
  refine Wp.steps 1 (pc1 := 910) (lo1 := [some (.ref 1000000), some (.ref 0), some (.ref 113), some (.int 0)]) (st1 := [.int (lg_cmp v v)]) (h1 := hh2) rfl ?_
  rw [zl_cmp.2.2 rfl]
  refine Wp.ifT (i := .nop) rfl (by decide) ?_
  exact zv_foot a0 a1 a2 a3 a4 a5 hh2 hl
set_option maxRecDepth 100000 in
theorem zl_24 (a0 a1 a2 a3 a4 a5 : Int32) (hP : zv_Pl 78 174 [.int a1, .int a2, .int a3, .int a4]) : Wp (some [a0, a1, a2, a3, a4, a5]) 12 z_law 915 [some (.ref 1000000), some (.ref 0), some (.ref 113), some (.int 0)] [] zv_h0 zs_Q := by
  obtain ⟨v, h1, h2, hx, hk, hm, hl⟩ := hP
  refine Wp.steps 21 (pc1 := 936) (lo1 := [some (.ref 1000000), some (.ref 0), some (.ref 113), some (.int 0)]) (st1 := [.int a4, .int a3, .int a2, .int a1, .ref 0]) (h1 := zv_h0) rfl ?_
  refine Wp.call (as := [.ref 0, .int a1, .int a2, .int a3, .int a4]) (rest := []) rfl rfl rfl rfl rfl rfl rfl rfl rfl ?_
  refine Wp.mono (Wp.anyS hx) ?_
  rintro ⟨pcR, st1, hh⟩ ⟨rfl, rfl⟩
  show Wp (some [a0, a1, a2, a3, a4, a5]) 12 z_law 939 [some (.ref 1000000), some (.ref 0), some (.ref 113), some (.int 0)] [.long v] hh zs_Q
  refine Wp.steps 21 (pc1 := 960) (lo1 := [some (.ref 1000000), some (.ref 0), some (.ref 113), some (.int 0)]) (st1 := [.int a4, .int a3, .int a2, .int a1, .ref 113, .long v]) (h1 := hh) rfl ?_
  refine Wp.call (as := [.ref 113, .int a1, .int a2, .int a3, .int a4]) (rest := [.long v]) rfl rfl rfl rfl rfl rfl rfl (by show (match zm_cls hh 113 with | some c => Nat.beq c (z_O 174) | none => false) = true; rw [hk]; rfl) rfl ?_
  refine Wp.mono (Wp.anyS hm) ?_
  rintro ⟨pcR2, st2, hh2⟩ ⟨rfl, rfl⟩
  show Wp (some [a0, a1, a2, a3, a4, a5]) 12 z_law 963 [some (.ref 1000000), some (.ref 0), some (.ref 113), some (.int 0)] [.long v, .long v] hh2 zs_Q
  refine Wp.steps 1 (pc1 := 964) (lo1 := [some (.ref 1000000), some (.ref 0), some (.ref 113), some (.int 0)]) (st1 := [.int (lg_cmp v v)]) (h1 := hh2) rfl ?_
  rw [zl_cmp.2.2 rfl]
  refine Wp.ifT (i := .nop) rfl (by decide) ?_
  exact zv_foot a0 a1 a2 a3 a4 a5 hh2 hl
set_option maxRecDepth 100000 in
theorem zl_25_0 (a0 a1 a2 a3 a4 a5 : Int32) (h4 : a4 = 0) (hP : zv_Pi 79 175 [.int a1, .int a2, .int a3, .int 0]) : Wp (some [a0, a1, a2, a3, a4, a5]) 12 z_law 969 [some (.ref 1000000), some (.ref 0), some (.ref 113), some (.int 0)] [] zv_h0 zs_Q := by
  obtain ⟨v, h1, h2, hx, hk, hm, hl⟩ := hP
  refine Wp.steps 21 (pc1 := 990) (lo1 := [some (.ref 1000000), some (.ref 0), some (.ref 113), some (.int 0)]) (st1 := [.int a4, .int a3, .int a2, .int a1, .ref 0]) (h1 := zv_h0) rfl ?_
  refine Wp.ifT (i := .nop) rfl (decide_eq_true h4) ?_
  show Wp _ _ z_law 997 [some (.ref 1000000), some (.ref 0), some (.ref 113), some (.int 0)] [.int a3, .int a2, .int a1, .ref 0] zv_h0 _
  refine Wp.steps 1 (pc1 := 998) (lo1 := [some (.ref 1000000), some (.ref 0), some (.ref 113), some (.int 0)]) (st1 := [.int 0, .int a3, .int a2, .int a1, .ref 0]) (h1 := zv_h0) rfl ?_
  refine Wp.call (as := [.ref 0, .int a1, .int a2, .int a3, .int 0]) (rest := []) rfl rfl rfl rfl rfl rfl rfl rfl rfl ?_
  refine Wp.mono (Wp.anyS hx) ?_
  rintro ⟨pcR, st1, hh⟩ ⟨rfl, rfl⟩
  show Wp (some [a0, a1, a2, a3, a4, a5]) 12 z_law 1001 [some (.ref 1000000), some (.ref 0), some (.ref 113), some (.int 0)] [.int v] hh zs_Q
  refine Wp.steps 21 (pc1 := 1022) (lo1 := [some (.ref 1000000), some (.ref 0), some (.ref 113), some (.int 0)]) (st1 := [.int a4, .int a3, .int a2, .int a1, .ref 113, .int v]) (h1 := hh) rfl ?_
  refine Wp.ifT (i := .nop) rfl (decide_eq_true h4) ?_
  show Wp _ _ z_law 1029 [some (.ref 1000000), some (.ref 0), some (.ref 113), some (.int 0)] [.int a3, .int a2, .int a1, .ref 113, .int v] hh _
  refine Wp.steps 1 (pc1 := 1030) (lo1 := [some (.ref 1000000), some (.ref 0), some (.ref 113), some (.int 0)]) (st1 := [.int 0, .int a3, .int a2, .int a1, .ref 113, .int v]) (h1 := hh) rfl ?_
  refine Wp.call (as := [.ref 113, .int a1, .int a2, .int a3, .int 0]) (rest := [.int v]) rfl rfl rfl rfl rfl rfl rfl (by show (match zm_cls hh 113 with | some c => Nat.beq c (z_O 175) | none => false) = true; rw [hk]; rfl) rfl ?_
  refine Wp.mono (Wp.anyS hm) ?_
  rintro ⟨pcR2, st2, hh2⟩ ⟨rfl, rfl⟩
  show Wp (some [a0, a1, a2, a3, a4, a5]) 12 z_law 1033 [some (.ref 1000000), some (.ref 0), some (.ref 113), some (.int 0)] [.int v, .int v] hh2 zs_Q
  refine Wp.icT (i := .nop) rfl (decide_eq_true rfl) ?_
  exact zv_foot a0 a1 a2 a3 a4 a5 hh2 hl
set_option maxRecDepth 100000 in
theorem zl_25_1 (a0 a1 a2 a3 a4 a5 : Int32) (h4 : ¬ a4 = 0) (hP : zv_Pi 79 175 [.int a1, .int a2, .int a3, .int 1]) : Wp (some [a0, a1, a2, a3, a4, a5]) 12 z_law 969 [some (.ref 1000000), some (.ref 0), some (.ref 113), some (.int 0)] [] zv_h0 zs_Q := by
  obtain ⟨v, h1, h2, hx, hk, hm, hl⟩ := hP
  refine Wp.steps 21 (pc1 := 990) (lo1 := [some (.ref 1000000), some (.ref 0), some (.ref 113), some (.int 0)]) (st1 := [.int a4, .int a3, .int a2, .int a1, .ref 0]) (h1 := zv_h0) rfl ?_
  refine Wp.ifF (i := .nop) rfl (decide_eq_false h4) ?_
  show Wp _ _ z_law 993 [some (.ref 1000000), some (.ref 0), some (.ref 113), some (.int 0)] [.int a3, .int a2, .int a1, .ref 0] zv_h0 _
  refine Wp.steps 2 (pc1 := 998) (lo1 := [some (.ref 1000000), some (.ref 0), some (.ref 113), some (.int 0)]) (st1 := [.int 1, .int a3, .int a2, .int a1, .ref 0]) (h1 := zv_h0) rfl ?_
  refine Wp.call (as := [.ref 0, .int a1, .int a2, .int a3, .int 1]) (rest := []) rfl rfl rfl rfl rfl rfl rfl rfl rfl ?_
  refine Wp.mono (Wp.anyS hx) ?_
  rintro ⟨pcR, st1, hh⟩ ⟨rfl, rfl⟩
  show Wp (some [a0, a1, a2, a3, a4, a5]) 12 z_law 1001 [some (.ref 1000000), some (.ref 0), some (.ref 113), some (.int 0)] [.int v] hh zs_Q
  refine Wp.steps 21 (pc1 := 1022) (lo1 := [some (.ref 1000000), some (.ref 0), some (.ref 113), some (.int 0)]) (st1 := [.int a4, .int a3, .int a2, .int a1, .ref 113, .int v]) (h1 := hh) rfl ?_
  refine Wp.ifF (i := .nop) rfl (decide_eq_false h4) ?_
  show Wp _ _ z_law 1025 [some (.ref 1000000), some (.ref 0), some (.ref 113), some (.int 0)] [.int a3, .int a2, .int a1, .ref 113, .int v] hh _
  refine Wp.steps 2 (pc1 := 1030) (lo1 := [some (.ref 1000000), some (.ref 0), some (.ref 113), some (.int 0)]) (st1 := [.int 1, .int a3, .int a2, .int a1, .ref 113, .int v]) (h1 := hh) rfl ?_
  refine Wp.call (as := [.ref 113, .int a1, .int a2, .int a3, .int 1]) (rest := [.int v]) rfl rfl rfl rfl rfl rfl rfl (by show (match zm_cls hh 113 with | some c => Nat.beq c (z_O 175) | none => false) = true; rw [hk]; rfl) rfl ?_
  refine Wp.mono (Wp.anyS hm) ?_
  rintro ⟨pcR2, st2, hh2⟩ ⟨rfl, rfl⟩
  show Wp (some [a0, a1, a2, a3, a4, a5]) 12 z_law 1033 [some (.ref 1000000), some (.ref 0), some (.ref 113), some (.int 0)] [.int v, .int v] hh2 zs_Q
  refine Wp.icT (i := .nop) rfl (decide_eq_true rfl) ?_
  exact zv_foot a0 a1 a2 a3 a4 a5 hh2 hl
set_option maxRecDepth 100000 in
theorem zl_26 (a0 a1 a2 a3 a4 a5 : Int32) (hP : zv_Pi 80 176 [.int a1]) : Wp (some [a0, a1, a2, a3, a4, a5]) 12 z_law 1038 [some (.ref 1000000), some (.ref 0), some (.ref 113), some (.int 0)] [] zv_h0 zs_Q := by
  obtain ⟨v, h1, h2, hx, hk, hm, hl⟩ := hP
  refine Wp.steps 6 (pc1 := 1044) (lo1 := [some (.ref 1000000), some (.ref 0), some (.ref 113), some (.int 0)]) (st1 := [.int a1, .ref 0]) (h1 := zv_h0) rfl ?_
  refine Wp.call (as := [.ref 0, .int a1]) (rest := []) rfl rfl rfl rfl rfl rfl rfl rfl rfl ?_
  refine Wp.mono (Wp.anyS hx) ?_
  rintro ⟨pcR, st1, hh⟩ ⟨rfl, rfl⟩
  show Wp (some [a0, a1, a2, a3, a4, a5]) 12 z_law 1047 [some (.ref 1000000), some (.ref 0), some (.ref 113), some (.int 0)] [.int v] hh zs_Q
  refine Wp.steps 6 (pc1 := 1053) (lo1 := [some (.ref 1000000), some (.ref 0), some (.ref 113), some (.int 0)]) (st1 := [.int a1, .ref 113, .int v]) (h1 := hh) rfl ?_
  refine Wp.call (as := [.ref 113, .int a1]) (rest := [.int v]) rfl rfl rfl rfl rfl rfl rfl (by show (match zm_cls hh 113 with | some c => Nat.beq c (z_O 176) | none => false) = true; rw [hk]; rfl) rfl ?_
  refine Wp.mono (Wp.anyS hm) ?_
  rintro ⟨pcR2, st2, hh2⟩ ⟨rfl, rfl⟩
  show Wp (some [a0, a1, a2, a3, a4, a5]) 12 z_law 1056 [some (.ref 1000000), some (.ref 0), some (.ref 113), some (.int 0)] [.int v, .int v] hh2 zs_Q
  refine Wp.icT (i := .nop) rfl (decide_eq_true rfl) ?_
  exact zv_foot a0 a1 a2 a3 a4 a5 hh2 hl
set_option maxRecDepth 100000 in
theorem zl_27 (a0 a1 a2 a3 a4 a5 : Int32) (hP : zv_Pi 81 178 [.int a1]) : Wp (some [a0, a1, a2, a3, a4, a5]) 12 z_law 1061 [some (.ref 1000000), some (.ref 0), some (.ref 113), some (.int 0)] [] zv_h0 zs_Q := by
  obtain ⟨v, h1, h2, hx, hk, hm, hl⟩ := hP
  refine Wp.steps 6 (pc1 := 1067) (lo1 := [some (.ref 1000000), some (.ref 0), some (.ref 113), some (.int 0)]) (st1 := [.int a1, .ref 0]) (h1 := zv_h0) rfl ?_
  refine Wp.call (as := [.ref 0, .int a1]) (rest := []) rfl rfl rfl rfl rfl rfl rfl rfl rfl ?_
  refine Wp.mono (Wp.anyS hx) ?_
  rintro ⟨pcR, st1, hh⟩ ⟨rfl, rfl⟩
  show Wp (some [a0, a1, a2, a3, a4, a5]) 12 z_law 1070 [some (.ref 1000000), some (.ref 0), some (.ref 113), some (.int 0)] [.int v] hh zs_Q
  refine Wp.steps 6 (pc1 := 1076) (lo1 := [some (.ref 1000000), some (.ref 0), some (.ref 113), some (.int 0)]) (st1 := [.int a1, .ref 113, .int v]) (h1 := hh) rfl ?_
  refine Wp.call (as := [.ref 113, .int a1]) (rest := [.int v]) rfl rfl rfl rfl rfl rfl rfl (by show (match zm_cls hh 113 with | some c => Nat.beq c (z_O 178) | none => false) = true; rw [hk]; rfl) rfl ?_
  refine Wp.mono (Wp.anyS hm) ?_
  rintro ⟨pcR2, st2, hh2⟩ ⟨rfl, rfl⟩
  show Wp (some [a0, a1, a2, a3, a4, a5]) 12 z_law 1079 [some (.ref 1000000), some (.ref 0), some (.ref 113), some (.int 0)] [.int v, .int v] hh2 zs_Q
  refine Wp.icT (i := .nop) rfl (decide_eq_true rfl) ?_
  exact zv_foot a0 a1 a2 a3 a4 a5 hh2 hl
set_option maxRecDepth 100000 in
theorem zl_28 (a0 a1 a2 a3 a4 a5 : Int32) (hP : zv_Pi 82 179 [.int a1, .int a2]) : Wp (some [a0, a1, a2, a3, a4, a5]) 12 z_law 1084 [some (.ref 1000000), some (.ref 0), some (.ref 113), some (.int 0)] [] zv_h0 zs_Q := by
  obtain ⟨v, h1, h2, hx, hk, hm, hl⟩ := hP
  refine Wp.steps 11 (pc1 := 1095) (lo1 := [some (.ref 1000000), some (.ref 0), some (.ref 113), some (.int 0)]) (st1 := [.int a2, .int a1, .ref 0]) (h1 := zv_h0) rfl ?_
  refine Wp.call (as := [.ref 0, .int a1, .int a2]) (rest := []) rfl rfl rfl rfl rfl rfl rfl rfl rfl ?_
  refine Wp.mono (Wp.anyS hx) ?_
  rintro ⟨pcR, st1, hh⟩ ⟨rfl, rfl⟩
  show Wp (some [a0, a1, a2, a3, a4, a5]) 12 z_law 1098 [some (.ref 1000000), some (.ref 0), some (.ref 113), some (.int 0)] [.int v] hh zs_Q
  refine Wp.steps 11 (pc1 := 1109) (lo1 := [some (.ref 1000000), some (.ref 0), some (.ref 113), some (.int 0)]) (st1 := [.int a2, .int a1, .ref 113, .int v]) (h1 := hh) rfl ?_
  refine Wp.call (as := [.ref 113, .int a1, .int a2]) (rest := [.int v]) rfl rfl rfl rfl rfl rfl rfl (by show (match zm_cls hh 113 with | some c => Nat.beq c (z_O 179) | none => false) = true; rw [hk]; rfl) rfl ?_
  refine Wp.mono (Wp.anyS hm) ?_
  rintro ⟨pcR2, st2, hh2⟩ ⟨rfl, rfl⟩
  show Wp (some [a0, a1, a2, a3, a4, a5]) 12 z_law 1112 [some (.ref 1000000), some (.ref 0), some (.ref 113), some (.int 0)] [.int v, .int v] hh2 zs_Q
  refine Wp.icT (i := .nop) rfl (decide_eq_true rfl) ?_
  exact zv_foot a0 a1 a2 a3 a4 a5 hh2 hl
set_option maxRecDepth 100000 in
theorem zl_29 (a0 a1 a2 a3 a4 a5 : Int32) (hP : zv_Pi 83 181 [.int a1]) : Wp (some [a0, a1, a2, a3, a4, a5]) 12 z_law 1117 [some (.ref 1000000), some (.ref 0), some (.ref 113), some (.int 0)] [] zv_h0 zs_Q := by
  obtain ⟨v, h1, h2, hx, hk, hm, hl⟩ := hP
  refine Wp.steps 6 (pc1 := 1123) (lo1 := [some (.ref 1000000), some (.ref 0), some (.ref 113), some (.int 0)]) (st1 := [.int a1, .ref 0]) (h1 := zv_h0) rfl ?_
  refine Wp.call (as := [.ref 0, .int a1]) (rest := []) rfl rfl rfl rfl rfl rfl rfl rfl rfl ?_
  refine Wp.mono (Wp.anyS hx) ?_
  rintro ⟨pcR, st1, hh⟩ ⟨rfl, rfl⟩
  show Wp (some [a0, a1, a2, a3, a4, a5]) 12 z_law 1126 [some (.ref 1000000), some (.ref 0), some (.ref 113), some (.int 0)] [.int v] hh zs_Q
  refine Wp.steps 6 (pc1 := 1132) (lo1 := [some (.ref 1000000), some (.ref 0), some (.ref 113), some (.int 0)]) (st1 := [.int a1, .ref 113, .int v]) (h1 := hh) rfl ?_
  refine Wp.call (as := [.ref 113, .int a1]) (rest := [.int v]) rfl rfl rfl rfl rfl rfl rfl (by show (match zm_cls hh 113 with | some c => Nat.beq c (z_O 181) | none => false) = true; rw [hk]; rfl) rfl ?_
  refine Wp.mono (Wp.anyS hm) ?_
  rintro ⟨pcR2, st2, hh2⟩ ⟨rfl, rfl⟩
  show Wp (some [a0, a1, a2, a3, a4, a5]) 12 z_law 1135 [some (.ref 1000000), some (.ref 0), some (.ref 113), some (.int 0)] [.int v, .int v] hh2 zs_Q
  refine Wp.icT (i := .nop) rfl (decide_eq_true rfl) ?_
  exact zv_foot a0 a1 a2 a3 a4 a5 hh2 hl
set_option maxRecDepth 100000 in
theorem zl_30 (a0 a1 a2 a3 a4 a5 : Int32) (hP : zv_Pi 84 182 [.int a1]) : Wp (some [a0, a1, a2, a3, a4, a5]) 12 z_law 1140 [some (.ref 1000000), some (.ref 0), some (.ref 113), some (.int 0)] [] zv_h0 zs_Q := by
  obtain ⟨v, h1, h2, hx, hk, hm, hl⟩ := hP
  refine Wp.steps 6 (pc1 := 1146) (lo1 := [some (.ref 1000000), some (.ref 0), some (.ref 113), some (.int 0)]) (st1 := [.int a1, .ref 0]) (h1 := zv_h0) rfl ?_
  refine Wp.call (as := [.ref 0, .int a1]) (rest := []) rfl rfl rfl rfl rfl rfl rfl rfl rfl ?_
  refine Wp.mono (Wp.anyS hx) ?_
  rintro ⟨pcR, st1, hh⟩ ⟨rfl, rfl⟩
  show Wp (some [a0, a1, a2, a3, a4, a5]) 12 z_law 1149 [some (.ref 1000000), some (.ref 0), some (.ref 113), some (.int 0)] [.int v] hh zs_Q
  refine Wp.steps 6 (pc1 := 1155) (lo1 := [some (.ref 1000000), some (.ref 0), some (.ref 113), some (.int 0)]) (st1 := [.int a1, .ref 113, .int v]) (h1 := hh) rfl ?_
  refine Wp.call (as := [.ref 113, .int a1]) (rest := [.int v]) rfl rfl rfl rfl rfl rfl rfl (by show (match zm_cls hh 113 with | some c => Nat.beq c (z_O 182) | none => false) = true; rw [hk]; rfl) rfl ?_
  refine Wp.mono (Wp.anyS hm) ?_
  rintro ⟨pcR2, st2, hh2⟩ ⟨rfl, rfl⟩
  show Wp (some [a0, a1, a2, a3, a4, a5]) 12 z_law 1158 [some (.ref 1000000), some (.ref 0), some (.ref 113), some (.int 0)] [.int v, .int v] hh2 zs_Q
  refine Wp.icT (i := .nop) rfl (decide_eq_true rfl) ?_
  exact zv_foot a0 a1 a2 a3 a4 a5 hh2 hl
set_option maxRecDepth 100000 in
theorem zl_31 (a0 a1 a2 a3 a4 a5 : Int32) (hP : zv_Pi 85 184 [.int a1, .int a2, .int a3]) : Wp (some [a0, a1, a2, a3, a4, a5]) 12 z_law 1163 [some (.ref 1000000), some (.ref 0), some (.ref 113), some (.int 0)] [] zv_h0 zs_Q := by
  obtain ⟨v, h1, h2, hx, hk, hm, hl⟩ := hP
  refine Wp.steps 16 (pc1 := 1179) (lo1 := [some (.ref 1000000), some (.ref 0), some (.ref 113), some (.int 0)]) (st1 := [.int a3, .int a2, .int a1, .ref 0]) (h1 := zv_h0) rfl ?_
  refine Wp.call (as := [.ref 0, .int a1, .int a2, .int a3]) (rest := []) rfl rfl rfl rfl rfl rfl rfl rfl rfl ?_
  refine Wp.mono (Wp.anyS hx) ?_
  rintro ⟨pcR, st1, hh⟩ ⟨rfl, rfl⟩
  show Wp (some [a0, a1, a2, a3, a4, a5]) 12 z_law 1182 [some (.ref 1000000), some (.ref 0), some (.ref 113), some (.int 0)] [.int v] hh zs_Q
  refine Wp.steps 16 (pc1 := 1198) (lo1 := [some (.ref 1000000), some (.ref 0), some (.ref 113), some (.int 0)]) (st1 := [.int a3, .int a2, .int a1, .ref 113, .int v]) (h1 := hh) rfl ?_
  refine Wp.call (as := [.ref 113, .int a1, .int a2, .int a3]) (rest := [.int v]) rfl rfl rfl rfl rfl rfl rfl (by show (match zm_cls hh 113 with | some c => Nat.beq c (z_O 184) | none => false) = true; rw [hk]; rfl) rfl ?_
  refine Wp.mono (Wp.anyS hm) ?_
  rintro ⟨pcR2, st2, hh2⟩ ⟨rfl, rfl⟩
  show Wp (some [a0, a1, a2, a3, a4, a5]) 12 z_law 1201 [some (.ref 1000000), some (.ref 0), some (.ref 113), some (.int 0)] [.int v, .int v] hh2 zs_Q
  refine Wp.icT (i := .nop) rfl (decide_eq_true rfl) ?_
  exact zv_foot a0 a1 a2 a3 a4 a5 hh2 hl
set_option maxRecDepth 100000 in
theorem zl_32 (a0 a1 a2 a3 a4 a5 : Int32) (hP : zv_Pi 86 185 [.int a1, .int a2, .int a3]) : Wp (some [a0, a1, a2, a3, a4, a5]) 12 z_law 1206 [some (.ref 1000000), some (.ref 0), some (.ref 113), some (.int 0)] [] zv_h0 zs_Q := by
  obtain ⟨v, h1, h2, hx, hk, hm, hl⟩ := hP
  refine Wp.steps 16 (pc1 := 1222) (lo1 := [some (.ref 1000000), some (.ref 0), some (.ref 113), some (.int 0)]) (st1 := [.int a3, .int a2, .int a1, .ref 0]) (h1 := zv_h0) rfl ?_
  refine Wp.call (as := [.ref 0, .int a1, .int a2, .int a3]) (rest := []) rfl rfl rfl rfl rfl rfl rfl rfl rfl ?_
  refine Wp.mono (Wp.anyS hx) ?_
  rintro ⟨pcR, st1, hh⟩ ⟨rfl, rfl⟩
  show Wp (some [a0, a1, a2, a3, a4, a5]) 12 z_law 1225 [some (.ref 1000000), some (.ref 0), some (.ref 113), some (.int 0)] [.int v] hh zs_Q
  refine Wp.steps 16 (pc1 := 1241) (lo1 := [some (.ref 1000000), some (.ref 0), some (.ref 113), some (.int 0)]) (st1 := [.int a3, .int a2, .int a1, .ref 113, .int v]) (h1 := hh) rfl ?_
  refine Wp.call (as := [.ref 113, .int a1, .int a2, .int a3]) (rest := [.int v]) rfl rfl rfl rfl rfl rfl rfl (by show (match zm_cls hh 113 with | some c => Nat.beq c (z_O 185) | none => false) = true; rw [hk]; rfl) rfl ?_
  refine Wp.mono (Wp.anyS hm) ?_
  rintro ⟨pcR2, st2, hh2⟩ ⟨rfl, rfl⟩
  show Wp (some [a0, a1, a2, a3, a4, a5]) 12 z_law 1244 [some (.ref 1000000), some (.ref 0), some (.ref 113), some (.int 0)] [.int v, .int v] hh2 zs_Q
  refine Wp.icT (i := .nop) rfl (decide_eq_true rfl) ?_
  exact zv_foot a0 a1 a2 a3 a4 a5 hh2 hl
set_option maxRecDepth 100000 in
theorem zl_33 (a0 a1 a2 a3 a4 a5 : Int32) (hP : zv_Pi 87 186 [.int a1, .int a2, .int a3, .int a4]) : Wp (some [a0, a1, a2, a3, a4, a5]) 12 z_law 1249 [some (.ref 1000000), some (.ref 0), some (.ref 113), some (.int 0)] [] zv_h0 zs_Q := by
  obtain ⟨v, h1, h2, hx, hk, hm, hl⟩ := hP
  refine Wp.steps 21 (pc1 := 1270) (lo1 := [some (.ref 1000000), some (.ref 0), some (.ref 113), some (.int 0)]) (st1 := [.int a4, .int a3, .int a2, .int a1, .ref 0]) (h1 := zv_h0) rfl ?_
  refine Wp.call (as := [.ref 0, .int a1, .int a2, .int a3, .int a4]) (rest := []) rfl rfl rfl rfl rfl rfl rfl rfl rfl ?_
  refine Wp.mono (Wp.anyS hx) ?_
  rintro ⟨pcR, st1, hh⟩ ⟨rfl, rfl⟩
  show Wp (some [a0, a1, a2, a3, a4, a5]) 12 z_law 1273 [some (.ref 1000000), some (.ref 0), some (.ref 113), some (.int 0)] [.int v] hh zs_Q
  refine Wp.steps 21 (pc1 := 1294) (lo1 := [some (.ref 1000000), some (.ref 0), some (.ref 113), some (.int 0)]) (st1 := [.int a4, .int a3, .int a2, .int a1, .ref 113, .int v]) (h1 := hh) rfl ?_
  refine Wp.call (as := [.ref 113, .int a1, .int a2, .int a3, .int a4]) (rest := [.int v]) rfl rfl rfl rfl rfl rfl rfl (by show (match zm_cls hh 113 with | some c => Nat.beq c (z_O 186) | none => false) = true; rw [hk]; rfl) rfl ?_
  refine Wp.mono (Wp.anyS hm) ?_
  rintro ⟨pcR2, st2, hh2⟩ ⟨rfl, rfl⟩
  show Wp (some [a0, a1, a2, a3, a4, a5]) 12 z_law 1297 [some (.ref 1000000), some (.ref 0), some (.ref 113), some (.int 0)] [.int v, .int v] hh2 zs_Q
  refine Wp.icT (i := .nop) rfl (decide_eq_true rfl) ?_
  exact zv_foot a0 a1 a2 a3 a4 a5 hh2 hl
set_option maxRecDepth 100000 in
theorem zl_34 (a0 a1 a2 a3 a4 a5 : Int32) (hP : zv_Pi 88 187 []) : Wp (some [a0, a1, a2, a3, a4, a5]) 12 z_law 1302 [some (.ref 1000000), some (.ref 0), some (.ref 113), some (.int 0)] [] zv_h0 zs_Q := by
  obtain ⟨v, h1, h2, hx, hk, hm, hl⟩ := hP
  refine Wp.steps 1 (pc1 := 1303) (lo1 := [some (.ref 1000000), some (.ref 0), some (.ref 113), some (.int 0)]) (st1 := [.ref 0]) (h1 := zv_h0) rfl ?_
  refine Wp.call (as := [.ref 0]) (rest := []) rfl rfl rfl rfl rfl rfl rfl rfl rfl ?_
  refine Wp.mono (Wp.anyS hx) ?_
  rintro ⟨pcR, st1, hh⟩ ⟨rfl, rfl⟩
  show Wp (some [a0, a1, a2, a3, a4, a5]) 12 z_law 1306 [some (.ref 1000000), some (.ref 0), some (.ref 113), some (.int 0)] [.int v] hh zs_Q
  refine Wp.steps 1 (pc1 := 1307) (lo1 := [some (.ref 1000000), some (.ref 0), some (.ref 113), some (.int 0)]) (st1 := [.ref 113, .int v]) (h1 := hh) rfl ?_
  refine Wp.call (as := [.ref 113]) (rest := [.int v]) rfl rfl rfl rfl rfl rfl rfl (by show (match zm_cls hh 113 with | some c => Nat.beq c (z_O 187) | none => false) = true; rw [hk]; rfl) rfl ?_
  refine Wp.mono (Wp.anyS hm) ?_
  rintro ⟨pcR2, st2, hh2⟩ ⟨rfl, rfl⟩
  show Wp (some [a0, a1, a2, a3, a4, a5]) 12 z_law 1310 [some (.ref 1000000), some (.ref 0), some (.ref 113), some (.int 0)] [.int v, .int v] hh2 zs_Q
  refine Wp.icT (i := .nop) rfl (decide_eq_true rfl) ?_
  exact zv_foot a0 a1 a2 a3 a4 a5 hh2 hl
set_option maxRecDepth 100000 in
theorem zl_35 (a0 a1 a2 a3 a4 a5 : Int32) (hP : zv_Pi 89 188 [.int a1]) : Wp (some [a0, a1, a2, a3, a4, a5]) 12 z_law 1315 [some (.ref 1000000), some (.ref 0), some (.ref 113), some (.int 0)] [] zv_h0 zs_Q := by
  obtain ⟨v, h1, h2, hx, hk, hm, hl⟩ := hP
  refine Wp.steps 6 (pc1 := 1321) (lo1 := [some (.ref 1000000), some (.ref 0), some (.ref 113), some (.int 0)]) (st1 := [.int a1, .ref 0]) (h1 := zv_h0) rfl ?_
  refine Wp.call (as := [.ref 0, .int a1]) (rest := []) rfl rfl rfl rfl rfl rfl rfl rfl rfl ?_
  refine Wp.mono (Wp.anyS hx) ?_
  rintro ⟨pcR, st1, hh⟩ ⟨rfl, rfl⟩
  show Wp (some [a0, a1, a2, a3, a4, a5]) 12 z_law 1324 [some (.ref 1000000), some (.ref 0), some (.ref 113), some (.int 0)] [.int v] hh zs_Q
  refine Wp.steps 6 (pc1 := 1330) (lo1 := [some (.ref 1000000), some (.ref 0), some (.ref 113), some (.int 0)]) (st1 := [.int a1, .ref 113, .int v]) (h1 := hh) rfl ?_
  refine Wp.call (as := [.ref 113, .int a1]) (rest := [.int v]) rfl rfl rfl rfl rfl rfl rfl (by show (match zm_cls hh 113 with | some c => Nat.beq c (z_O 188) | none => false) = true; rw [hk]; rfl) rfl ?_
  refine Wp.mono (Wp.anyS hm) ?_
  rintro ⟨pcR2, st2, hh2⟩ ⟨rfl, rfl⟩
  show Wp (some [a0, a1, a2, a3, a4, a5]) 12 z_law 1333 [some (.ref 1000000), some (.ref 0), some (.ref 113), some (.int 0)] [.int v, .int v] hh2 zs_Q
  refine Wp.icT (i := .nop) rfl (decide_eq_true rfl) ?_
  exact zv_foot a0 a1 a2 a3 a4 a5 hh2 hl
