set_option maxRecDepth 100000 in
theorem zh_198_0 : zk_ch 198 code 0 zp_198_0 = true := by decide +kernel
set_option maxRecDepth 100000 in
theorem zh_198_1 : zk_ch 198 code 32 zp_198_1 = true := by decide +kernel
set_option maxRecDepth 100000 in
theorem zh_198_2 : zk_ch 198 code 64 zp_198_2 = true := by decide +kernel
set_option maxRecDepth 100000 in
theorem zh_198_3 : zk_ch 198 code 96 zp_198_3 = true := by decide +kernel
set_option maxRecDepth 100000 in
theorem zh_198_4 : zk_ch 198 code 128 zp_198_4 = true := by decide +kernel
set_option maxRecDepth 100000 in
theorem zh_198_5 : zk_ch 198 code 160 zp_198_5 = true := by decide +kernel
