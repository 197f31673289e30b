set_option maxRecDepth 100000 in
theorem zh_191_30 : zk_ch 191 code 960 zp_191_30 = true := by decide +kernel
set_option maxRecDepth 100000 in
theorem zh_191_31 : zk_ch 191 code 992 zp_191_31 = true := by decide +kernel
set_option maxRecDepth 100000 in
theorem zh_191_32 : zk_ch 191 code 1024 zp_191_32 = true := by decide +kernel
set_option maxRecDepth 100000 in
theorem zh_191_33 : zk_ch 191 code 1056 zp_191_33 = true := by decide +kernel
set_option maxRecDepth 100000 in
theorem zh_191_34 : zk_ch 191 code 1088 zp_191_34 = true := by decide +kernel
set_option maxRecDepth 100000 in
theorem zh_191_35 : zk_ch 191 code 1120 zp_191_35 = true := by decide +kernel
