set_option maxRecDepth 100000 in
theorem zh_60 : zk_chs 60 (z_B 60) 0 zp_60 = true := by decide +kernel
set_option maxRecDepth 100000 in
theorem zh_61 : zk_chs 61 (z_B 61) 0 zp_61 = true := by decide +kernel
set_option maxRecDepth 100000 in
theorem zh_62 : zk_chs 62 (z_B 62) 0 zp_62 = true := by decide +kernel
set_option maxRecDepth 100000 in
theorem zh_63 : zk_chs 63 (z_B 63) 0 zp_63 = true := by decide +kernel
set_option maxRecDepth 100000 in
theorem zh_64 : zk_chs 64 (z_B 64) 0 zp_64 = true := by decide +kernel
set_option maxRecDepth 100000 in
theorem zh_65 : zk_chs 65 (z_B 65) 0 zp_65 = true := by decide +kernel
set_option maxRecDepth 100000 in
theorem zh_66 : zk_chs 66 (z_B 66) 0 zp_66 = true := by decide +kernel
set_option maxRecDepth 100000 in
theorem zh_67 : zk_chs 67 (z_B 67) 0 zp_67 = true := by decide +kernel
set_option maxRecDepth 100000 in
theorem zh_68 : zk_chs 68 (z_B 68) 0 zp_68 = true := by decide +kernel
set_option maxRecDepth 100000 in
theorem zh_69 : zk_chs 69 (z_B 69) 0 zp_69 = true := by decide +kernel
set_option maxRecDepth 100000 in
theorem zh_70 : zk_chs 70 (z_B 70) 0 zp_70 = true := by decide +kernel
set_option maxRecDepth 100000 in
theorem zh_71 : zk_chs 71 (z_B 71) 0 zp_71 = true := by decide +kernel
set_option maxRecDepth 100000 in
theorem zh_72 : zk_chs 72 (z_B 72) 0 zp_72 = true := by decide +kernel
set_option maxRecDepth 100000 in
theorem zh_73 : zk_chs 73 (z_B 73) 0 zp_73 = true := by decide +kernel
set_option maxRecDepth 100000 in
theorem zh_74 : zk_chs 74 (z_B 74) 0 zp_74 = true := by decide +kernel
set_option maxRecDepth 100000 in
theorem zh_75 : zk_chs 75 (z_B 75) 0 zp_75 = true := by decide +kernel
set_option maxRecDepth 100000 in
theorem zh_76 : zk_chs 76 (z_B 76) 0 zp_76 = true := by decide +kernel
set_option maxRecDepth 100000 in
theorem zh_77 : zk_chs 77 (z_B 77) 0 zp_77 = true := by decide +kernel
set_option maxRecDepth 100000 in
theorem zh_78 : zk_chs 78 (z_B 78) 0 zp_78 = true := by decide +kernel
set_option maxRecDepth 100000 in
theorem zh_79 : zk_chs 79 (z_B 79) 0 zp_79 = true := by decide +kernel
set_option maxRecDepth 100000 in
theorem zh_80 : zk_chs 80 (z_B 80) 0 zp_80 = true := by decide +kernel
set_option maxRecDepth 100000 in
theorem zh_81 : zk_chs 81 (z_B 81) 0 zp_81 = true := by decide +kernel
set_option maxRecDepth 100000 in
theorem zh_82 : zk_chs 82 (z_B 82) 0 zp_82 = true := by decide +kernel
set_option maxRecDepth 100000 in
theorem zh_83 : zk_chs 83 (z_B 83) 0 zp_83 = true := by decide +kernel
set_option maxRecDepth 100000 in
theorem zh_84 : zk_chs 84 (z_B 84) 0 zp_84 = true := by decide +kernel
set_option maxRecDepth 100000 in
theorem zh_85 : zk_chs 85 (z_B 85) 0 zp_85 = true := by decide +kernel
set_option maxRecDepth 100000 in
theorem zh_86 : zk_chs 86 (z_B 86) 0 zp_86 = true := by decide +kernel
set_option maxRecDepth 100000 in
theorem zh_87 : zk_chs 87 (z_B 87) 0 zp_87 = true := by decide +kernel
set_option maxRecDepth 100000 in
theorem zh_88 : zk_chs 88 (z_B 88) 0 zp_88 = true := by decide +kernel
set_option maxRecDepth 100000 in
theorem zh_89 : zk_chs 89 (z_B 89) 0 zp_89 = true := by decide +kernel
set_option maxRecDepth 100000 in
theorem zh_90 : zk_chs 90 (z_B 90) 0 zp_90 = true := by decide +kernel
set_option maxRecDepth 100000 in
theorem zh_91 : zk_chs 91 (z_B 91) 0 zp_91 = true := by decide +kernel
set_option maxRecDepth 100000 in
theorem zh_92 : zk_chs 92 (z_B 92) 0 zp_92 = true := by decide +kernel
set_option maxRecDepth 100000 in
theorem zh_93 : zk_chs 93 (z_B 93) 0 zp_93 = true := by decide +kernel
set_option maxRecDepth 100000 in
theorem zh_94 : zk_chs 94 (z_B 94) 0 zp_94 = true := by decide +kernel
set_option maxRecDepth 100000 in
theorem zh_95 : zk_chs 95 (z_B 95) 0 zp_95 = true := by decide +kernel
set_option maxRecDepth 100000 in
theorem zh_96 : zk_chs 96 (z_B 96) 0 zp_96 = true := by decide +kernel
set_option maxRecDepth 100000 in
theorem zh_97 : zk_chs 97 (z_B 97) 0 zp_97 = true := by decide +kernel
set_option maxRecDepth 100000 in
theorem zh_98 : zk_chs 98 (z_B 98) 0 zp_98 = true := by decide +kernel
set_option maxRecDepth 100000 in
theorem zh_99 : zk_chs 99 (z_B 99) 0 zp_99 = true := by decide +kernel
