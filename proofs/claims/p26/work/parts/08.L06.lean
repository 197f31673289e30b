set_option maxRecDepth 100000 in
theorem zh_198_36 : zk_ch 198 code 1152 zp_198_36 = true := by decide +kernel
set_option maxRecDepth 100000 in
theorem zh_198_37 : zk_ch 198 code 1184 zp_198_37 = true := by decide +kernel
set_option maxRecDepth 100000 in
theorem zh_198_38 : zk_ch 198 code 1216 zp_198_38 = true := by decide +kernel
set_option maxRecDepth 100000 in
theorem zh_198_39 : zk_ch 198 code 1248 zp_198_39 = true := by decide +kernel
set_option maxRecDepth 100000 in
theorem zh_198_40 : zk_ch 198 code 1280 zp_198_40 = true := by decide +kernel
set_option maxRecDepth 100000 in
theorem zh_198_41 : zk_ch 198 code 1312 zp_198_41 = true := by decide +kernel
