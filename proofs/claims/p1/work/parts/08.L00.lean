set_option maxRecDepth 100000 in
theorem zh_191_0 : zk_ch 191 code 0 zp_191_0 = true := by decide +kernel
set_option maxRecDepth 100000 in
theorem zh_191_1 : zk_ch 191 code 32 zp_191_1 = true := by decide +kernel
set_option maxRecDepth 100000 in
theorem zh_191_2 : zk_ch 191 code 64 zp_191_2 = true := by decide +kernel
set_option maxRecDepth 100000 in
theorem zh_191_3 : zk_ch 191 code 96 zp_191_3 = true := by decide +kernel
set_option maxRecDepth 100000 in
theorem zh_191_4 : zk_ch 191 code 128 zp_191_4 = true := by decide +kernel
set_option maxRecDepth 100000 in
theorem zh_191_5 : zk_ch 191 code 160 zp_191_5 = true := by decide +kernel
