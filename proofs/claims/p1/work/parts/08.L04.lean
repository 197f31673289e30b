set_option maxRecDepth 100000 in
theorem zh_191_24 : zk_ch 191 code 768 zp_191_24 = true := by decide +kernel
set_option maxRecDepth 100000 in
theorem zh_191_25 : zk_ch 191 code 800 zp_191_25 = true := by decide +kernel
set_option maxRecDepth 100000 in
theorem zh_191_26 : zk_ch 191 code 832 zp_191_26 = true := by decide +kernel
set_option maxRecDepth 100000 in
theorem zh_191_27 : zk_ch 191 code 864 zp_191_27 = true := by decide +kernel
set_option maxRecDepth 100000 in
theorem zh_191_28 : zk_ch 191 code 896 zp_191_28 = true := by decide +kernel
set_option maxRecDepth 100000 in
theorem zh_191_29 : zk_ch 191 code 928 zp_191_29 = true := by decide +kernel
