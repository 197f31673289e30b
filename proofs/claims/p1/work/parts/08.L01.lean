set_option maxRecDepth 100000 in
theorem zh_191_6 : zk_ch 191 code 192 zp_191_6 = true := by decide +kernel
set_option maxRecDepth 100000 in
theorem zh_191_7 : zk_ch 191 code 224 zp_191_7 = true := by decide +kernel
set_option maxRecDepth 100000 in
theorem zh_191_8 : zk_ch 191 code 256 zp_191_8 = true := by decide +kernel
set_option maxRecDepth 100000 in
theorem zh_191_9 : zk_ch 191 code 288 zp_191_9 = true := by decide +kernel
set_option maxRecDepth 100000 in
theorem zh_191_10 : zk_ch 191 code 320 zp_191_10 = true := by decide +kernel
set_option maxRecDepth 100000 in
theorem zh_191_11 : zk_ch 191 code 352 zp_191_11 = true := by decide +kernel
