set_option maxRecDepth 100000 in
theorem zh_198_42 : zk_ch 198 code 1344 zp_198_42 = true := by decide +kernel
