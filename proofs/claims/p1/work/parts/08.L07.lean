set_option maxRecDepth 100000 in
theorem zh_191_42 : zk_ch 191 code 1344 zp_191_42 = true := by decide +kernel
