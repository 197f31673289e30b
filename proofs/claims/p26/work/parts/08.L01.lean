set_option maxRecDepth 100000 in
theorem zh_198_6 : zk_ch 198 code 192 zp_198_6 = true := by decide +kernel
set_option maxRecDepth 100000 in
theorem zh_198_7 : zk_ch 198 code 224 zp_198_7 = true := by decide +kernel
set_option maxRecDepth 100000 in
theorem zh_198_8 : zk_ch 198 code 256 zp_198_8 = true := by decide +kernel
set_option maxRecDepth 100000 in
theorem zh_198_9 : zk_ch 198 code 288 zp_198_9 = true := by decide +kernel
set_option maxRecDepth 100000 in
theorem zh_198_10 : zk_ch 198 code 320 zp_198_10 = true := by decide +kernel
set_option maxRecDepth 100000 in
theorem zh_198_11 : zk_ch 198 code 352 zp_198_11 = true := by decide +kernel
