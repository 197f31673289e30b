set_option maxRecDepth 100000 in
theorem zh_198_30 : zk_ch 198 code 960 zp_198_30 = true := by decide +kernel
set_option maxRecDepth 100000 in
theorem zh_198_31 : zk_ch 198 code 992 zp_198_31 = true := by decide +kernel
set_option maxRecDepth 100000 in
theorem zh_198_32 : zk_ch 198 code 1024 zp_198_32 = true := by decide +kernel
set_option maxRecDepth 100000 in
theorem zh_198_33 : zk_ch 198 code 1056 zp_198_33 = true := by decide +kernel
set_option maxRecDepth 100000 in
theorem zh_198_34 : zk_ch 198 code 1088 zp_198_34 = true := by decide +kernel
set_option maxRecDepth 100000 in
theorem zh_198_35 : zk_ch 198 code 1120 zp_198_35 = true := by decide +kernel
