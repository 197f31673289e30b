set_option maxRecDepth 100000 in
theorem zh_198_18 : zk_ch 198 code 576 zp_198_18 = true := by decide +kernel
set_option maxRecDepth 100000 in
theorem zh_198_19 : zk_ch 198 code 608 zp_198_19 = true := by decide +kernel
set_option maxRecDepth 100000 in
theorem zh_198_20 : zk_ch 198 code 640 zp_198_20 = true := by decide +kernel
set_option maxRecDepth 100000 in
theorem zh_198_21 : zk_ch 198 code 672 zp_198_21 = true := by decide +kernel
set_option maxRecDepth 100000 in
theorem zh_198_22 : zk_ch 198 code 704 zp_198_22 = true := by decide +kernel
set_option maxRecDepth 100000 in
theorem zh_198_23 : zk_ch 198 code 736 zp_198_23 = true := by decide +kernel
