set_option maxRecDepth 100000 in
theorem zh_198_12 : zk_ch 198 code 384 zp_198_12 = true := by decide +kernel
set_option maxRecDepth 100000 in
theorem zh_198_13 : zk_ch 198 code 416 zp_198_13 = true := by decide +kernel
set_option maxRecDepth 100000 in
theorem zh_198_14 : zk_ch 198 code 448 zp_198_14 = true := by decide +kernel
set_option maxRecDepth 100000 in
theorem zh_198_15 : zk_ch 198 code 480 zp_198_15 = true := by decide +kernel
set_option maxRecDepth 100000 in
theorem zh_198_16 : zk_ch 198 code 512 zp_198_16 = true := by decide +kernel
set_option maxRecDepth 100000 in
theorem zh_198_17 : zk_ch 198 code 544 zp_198_17 = true := by decide +kernel
