set_option maxRecDepth 100000 in
theorem zh_191_36 : zk_ch 191 code 1152 zp_191_36 = true := by decide +kernel
set_option maxRecDepth 100000 in
theorem zh_191_37 : zk_ch 191 code 1184 zp_191_37 = true := by decide +kernel
set_option maxRecDepth 100000 in
theorem zh_191_38 : zk_ch 191 code 1216 zp_191_38 = true := by decide +kernel
set_option maxRecDepth 100000 in
theorem zh_191_39 : zk_ch 191 code 1248 zp_191_39 = true := by decide +kernel
set_option maxRecDepth 100000 in
theorem zh_191_40 : zk_ch 191 code 1280 zp_191_40 = true := by decide +kernel
set_option maxRecDepth 100000 in
theorem zh_191_41 : zk_ch 191 code 1312 zp_191_41 = true := by decide +kernel
