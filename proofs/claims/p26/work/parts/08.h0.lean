set_option maxRecDepth 100000 in
theorem zh_0 : zk_chs 0 (z_B 0) 0 zp_0 = true := by decide +kernel
set_option maxRecDepth 100000 in
theorem zh_1 : zk_chs 1 (z_B 1) 0 zp_1 = true := by decide +kernel
set_option maxRecDepth 100000 in
theorem zh_2 : zk_chs 2 (z_B 2) 0 zp_2 = true := by decide +kernel
set_option maxRecDepth 100000 in
theorem zh_3 : zk_chs 3 (z_B 3) 0 zp_3 = true := by decide +kernel
set_option maxRecDepth 100000 in
theorem zh_4 : zk_chs 4 (z_B 4) 0 zp_4 = true := by decide +kernel
set_option maxRecDepth 100000 in
theorem zh_5 : zk_chs 5 (z_B 5) 0 zp_5 = true := by decide +kernel
set_option maxRecDepth 100000 in
theorem zh_6 : zk_chs 6 (z_B 6) 0 zp_6 = true := by decide +kernel
set_option maxRecDepth 100000 in
theorem zh_7 : zk_chs 7 (z_B 7) 0 zp_7 = true := by decide +kernel
set_option maxRecDepth 100000 in
theorem zh_8 : zk_chs 8 (z_B 8) 0 zp_8 = true := by decide +kernel
set_option maxRecDepth 100000 in
theorem zh_9 : zk_chs 9 (z_B 9) 0 zp_9 = true := by decide +kernel
set_option maxRecDepth 100000 in
theorem zh_10 : zk_chs 10 (z_B 10) 0 zp_10 = true := by decide +kernel
set_option maxRecDepth 100000 in
theorem zh_11 : zk_chs 11 (z_B 11) 0 zp_11 = true := by decide +kernel
set_option maxRecDepth 100000 in
theorem zh_12 : zk_chs 12 (z_B 12) 0 zp_12 = true := by decide +kernel
set_option maxRecDepth 100000 in
theorem zh_13 : zk_chs 13 (z_B 13) 0 zp_13 = true := by decide +kernel
set_option maxRecDepth 100000 in
theorem zh_14 : zk_chs 14 (z_B 14) 0 zp_14 = true := by decide +kernel
set_option maxRecDepth 100000 in
theorem zh_15 : zk_chs 15 (z_B 15) 0 zp_15 = true := by decide +kernel
set_option maxRecDepth 100000 in
theorem zh_16 : zk_chs 16 (z_B 16) 0 zp_16 = true := by decide +kernel
set_option maxRecDepth 100000 in
theorem zh_17 : zk_chs 17 (z_B 17) 0 zp_17 = true := by decide +kernel
set_option maxRecDepth 100000 in
theorem zh_18 : zk_chs 18 (z_B 18) 0 zp_18 = true := by decide +kernel
set_option maxRecDepth 100000 in
theorem zh_19 : zk_chs 19 (z_B 19) 0 zp_19 = true := by decide +kernel
set_option maxRecDepth 100000 in
theorem zh_20 : zk_chs 20 (z_B 20) 0 zp_20 = true := by decide +kernel
set_option maxRecDepth 100000 in
theorem zh_21 : zk_chs 21 (z_B 21) 0 zp_21 = true := by decide +kernel
set_option maxRecDepth 100000 in
theorem zh_22 : zk_chs 22 (z_B 22) 0 zp_22 = true := by decide +kernel
set_option maxRecDepth 100000 in
theorem zh_23 : zk_chs 23 (z_B 23) 0 zp_23 = true := by decide +kernel
set_option maxRecDepth 100000 in
theorem zh_24 : zk_chs 24 (z_B 24) 0 zp_24 = true := by decide +kernel
set_option maxRecDepth 100000 in
theorem zh_25 : zk_chs 25 (z_B 25) 0 zp_25 = true := by decide +kernel
set_option maxRecDepth 100000 in
theorem zh_26 : zk_chs 26 (z_B 26) 0 zp_26 = true := by decide +kernel
set_option maxRecDepth 100000 in
theorem zh_27 : zk_chs 27 (z_B 27) 0 zp_27 = true := by decide +kernel
set_option maxRecDepth 100000 in
theorem zh_28 : zk_chs 28 (z_B 28) 0 zp_28 = true := by decide +kernel
set_option maxRecDepth 100000 in
theorem zh_29 : zk_chs 29 (z_B 29) 0 zp_29 = true := by decide +kernel
set_option maxRecDepth 100000 in
theorem zh_30 : zk_chs 30 (z_B 30) 0 zp_30 = true := by decide +kernel
set_option maxRecDepth 100000 in
theorem zh_31 : zk_chs 31 (z_B 31) 0 zp_31 = true := by decide +kernel
set_option maxRecDepth 100000 in
theorem zh_32 : zk_chs 32 (z_B 32) 0 zp_32 = true := by decide +kernel
set_option maxRecDepth 100000 in
theorem zh_33 : zk_chs 33 (z_B 33) 0 zp_33 = true := by decide +kernel
set_option maxRecDepth 100000 in
theorem zh_34 : zk_chs 34 (z_B 34) 0 zp_34 = true := by decide +kernel
set_option maxRecDepth 100000 in
theorem zh_35 : zk_chs 35 (z_B 35) 0 zp_35 = true := by decide +kernel
set_option maxRecDepth 100000 in
theorem zh_36 : zk_chs 36 (z_B 36) 0 zp_36 = true := by decide +kernel
set_option maxRecDepth 100000 in
theorem zh_37 : zk_chs 37 (z_B 37) 0 zp_37 = true := by decide +kernel
set_option maxRecDepth 100000 in
theorem zh_38 : zk_chs 38 (z_B 38) 0 zp_38 = true := by decide +kernel
set_option maxRecDepth 100000 in
theorem zh_39 : zk_chs 39 (z_B 39) 0 zp_39 = true := by decide +kernel
set_option maxRecDepth 100000 in
theorem zh_40 : zk_chs 40 (z_B 40) 0 zp_40 = true := by decide +kernel
set_option maxRecDepth 100000 in
theorem zh_41 : zk_chs 41 (z_B 41) 0 zp_41 = true := by decide +kernel
set_option maxRecDepth 100000 in
theorem zh_42 : zk_chs 42 (z_B 42) 0 zp_42 = true := by decide +kernel
set_option maxRecDepth 100000 in
theorem zh_43 : zk_chs 43 (z_B 43) 0 zp_43 = true := by decide +kernel
set_option maxRecDepth 100000 in
theorem zh_44 : zk_chs 44 (z_B 44) 0 zp_44 = true := by decide +kernel
set_option maxRecDepth 100000 in
theorem zh_45 : zk_chs 45 (z_B 45) 0 zp_45 = true := by decide +kernel
set_option maxRecDepth 100000 in
theorem zh_46 : zk_chs 46 (z_B 46) 0 zp_46 = true := by decide +kernel
set_option maxRecDepth 100000 in
theorem zh_47 : zk_chs 47 (z_B 47) 0 zp_47 = true := by decide +kernel
set_option maxRecDepth 100000 in
theorem zh_48 : zk_chs 48 (z_B 48) 0 zp_48 = true := by decide +kernel
set_option maxRecDepth 100000 in
theorem zh_49 : zk_chs 49 (z_B 49) 0 zp_49 = true := by decide +kernel
set_option maxRecDepth 100000 in
theorem zh_50 : zk_chs 50 (z_B 50) 0 zp_50 = true := by decide +kernel
set_option maxRecDepth 100000 in
theorem zh_51 : zk_chs 51 (z_B 51) 0 zp_51 = true := by decide +kernel
set_option maxRecDepth 100000 in
theorem zh_52 : zk_chs 52 (z_B 52) 0 zp_52 = true := by decide +kernel
set_option maxRecDepth 100000 in
theorem zh_53 : zk_chs 53 (z_B 53) 0 zp_53 = true := by decide +kernel
set_option maxRecDepth 100000 in
theorem zh_54 : zk_chs 54 (z_B 54) 0 zp_54 = true := by decide +kernel
set_option maxRecDepth 100000 in
theorem zh_55 : zk_chs 55 (z_B 55) 0 zp_55 = true := by decide +kernel
set_option maxRecDepth 100000 in
theorem zh_56 : zk_chs 56 (z_B 56) 0 zp_56 = true := by decide +kernel
set_option maxRecDepth 100000 in
theorem zh_57 : zk_chs 57 (z_B 57) 0 zp_57 = true := by decide +kernel
set_option maxRecDepth 100000 in
theorem zh_58 : zk_chs 58 (z_B 58) 0 zp_58 = true := by decide +kernel
set_option maxRecDepth 100000 in
theorem zh_59 : zk_chs 59 (z_B 59) 0 zp_59 = true := by decide +kernel
