set_option maxRecDepth 100000 in
theorem zh_198_24 : zk_ch 198 code 768 zp_198_24 = true := by decide +kernel
set_option maxRecDepth 100000 in
theorem zh_198_25 : zk_ch 198 code 800 zp_198_25 = true := by decide +kernel
set_option maxRecDepth 100000 in
theorem zh_198_26 : zk_ch 198 code 832 zp_198_26 = true := by decide +kernel
set_option maxRecDepth 100000 in
theorem zh_198_27 : zk_ch 198 code 864 zp_198_27 = true := by decide +kernel
set_option maxRecDepth 100000 in
theorem zh_198_28 : zk_ch 198 code 896 zp_198_28 = true := by decide +kernel
set_option maxRecDepth 100000 in
theorem zh_198_29 : zk_ch 198 code 928 zp_198_29 = true := by decide +kernel
