set_option maxRecDepth 100000 in
theorem zh_191_18 : zk_ch 191 code 576 zp_191_18 = true := by decide +kernel
set_option maxRecDepth 100000 in
theorem zh_191_19 : zk_ch 191 code 608 zp_191_19 = true := by decide +kernel
set_option maxRecDepth 100000 in
theorem zh_191_20 : zk_ch 191 code 640 zp_191_20 = true := by decide +kernel
set_option maxRecDepth 100000 in
theorem zh_191_21 : zk_ch 191 code 672 zp_191_21 = true := by decide +kernel
set_option maxRecDepth 100000 in
theorem zh_191_22 : zk_ch 191 code 704 zp_191_22 = true := by decide +kernel
set_option maxRecDepth 100000 in
theorem zh_191_23 : zk_ch 191 code 736 zp_191_23 = true := by decide +kernel
