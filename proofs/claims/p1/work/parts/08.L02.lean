set_option maxRecDepth 100000 in
theorem zh_191_12 : zk_ch 191 code 384 zp_191_12 = true := by decide +kernel
set_option maxRecDepth 100000 in
theorem zh_191_13 : zk_ch 191 code 416 zp_191_13 = true := by decide +kernel
set_option maxRecDepth 100000 in
theorem zh_191_14 : zk_ch 191 code 448 zp_191_14 = true := by decide +kernel
set_option maxRecDepth 100000 in
theorem zh_191_15 : zk_ch 191 code 480 zp_191_15 = true := by decide +kernel
set_option maxRecDepth 100000 in
theorem zh_191_16 : zk_ch 191 code 512 zp_191_16 = true := by decide +kernel
set_option maxRecDepth 100000 in
theorem zh_191_17 : zk_ch 191 code 544 zp_191_17 = true := by decide +kernel
