set_option maxRecDepth 100000 in
theorem zh_100 : zk_chs 100 (z_B 100) 0 zp_100 = true := by decide +kernel
set_option maxRecDepth 100000 in
theorem zh_101 : zk_chs 101 (z_B 101) 0 zp_101 = true := by decide +kernel
set_option maxRecDepth 100000 in
theorem zh_102 : zk_chs 102 (z_B 102) 0 zp_102 = true := by decide +kernel
set_option maxRecDepth 100000 in
theorem zh_103 : zk_chs 103 (z_B 103) 0 zp_103 = true := by decide +kernel
set_option maxRecDepth 100000 in
theorem zh_104 : zk_chs 104 (z_B 104) 0 zp_104 = true := by decide +kernel
set_option maxRecDepth 100000 in
theorem zh_105 : zk_chs 105 (z_B 105) 0 zp_105 = true := by decide +kernel
set_option maxRecDepth 100000 in
theorem zh_106 : zk_chs 106 (z_B 106) 0 zp_106 = true := by decide +kernel
set_option maxRecDepth 100000 in
theorem zh_107 : zk_chs 107 (z_B 107) 0 zp_107 = true := by decide +kernel
set_option maxRecDepth 100000 in
theorem zh_108 : zk_chs 108 (z_B 108) 0 zp_108 = true := by decide +kernel
set_option maxRecDepth 100000 in
theorem zh_109 : zk_chs 109 (z_B 109) 0 zp_109 = true := by decide +kernel
set_option maxRecDepth 100000 in
theorem zh_110 : zk_chs 110 (z_B 110) 0 zp_110 = true := by decide +kernel
set_option maxRecDepth 100000 in
theorem zh_111 : zk_chs 111 (z_B 111) 0 zp_111 = true := by decide +kernel
set_option maxRecDepth 100000 in
theorem zh_112 : zk_chs 112 (z_B 112) 0 zp_112 = true := by decide +kernel
set_option maxRecDepth 100000 in
theorem zh_113 : zk_chs 113 (z_B 113) 0 zp_113 = true := by decide +kernel
set_option maxRecDepth 100000 in
theorem zh_114 : zk_chs 114 (z_B 114) 0 zp_114 = true := by decide +kernel
set_option maxRecDepth 100000 in
theorem zh_115 : zk_chs 115 (z_B 115) 0 zp_115 = true := by decide +kernel
set_option maxRecDepth 100000 in
theorem zh_116 : zk_chs 116 (z_B 116) 0 zp_116 = true := by decide +kernel
set_option maxRecDepth 100000 in
theorem zh_117 : zk_chs 117 (z_B 117) 0 zp_117 = true := by decide +kernel
set_option maxRecDepth 100000 in
theorem zh_118 : zk_chs 118 (z_B 118) 0 zp_118 = true := by decide +kernel
set_option maxRecDepth 100000 in
theorem zh_119 : zk_chs 119 (z_B 119) 0 zp_119 = true := by decide +kernel
set_option maxRecDepth 100000 in
theorem zh_120 : zk_chs 120 (z_B 120) 0 zp_120 = true := by decide +kernel
set_option maxRecDepth 100000 in
theorem zh_121 : zk_chs 121 (z_B 121) 0 zp_121 = true := by decide +kernel
set_option maxRecDepth 100000 in
theorem zh_122 : zk_chs 122 (z_B 122) 0 zp_122 = true := by decide +kernel
set_option maxRecDepth 100000 in
theorem zh_123 : zk_chs 123 (z_B 123) 0 zp_123 = true := by decide +kernel
set_option maxRecDepth 100000 in
theorem zh_124 : zk_chs 124 (z_B 124) 0 zp_124 = true := by decide +kernel
set_option maxRecDepth 100000 in
theorem zh_125 : zk_chs 125 (z_B 125) 0 zp_125 = true := by decide +kernel
set_option maxRecDepth 100000 in
theorem zh_126 : zk_chs 126 (z_B 126) 0 zp_126 = true := by decide +kernel
set_option maxRecDepth 100000 in
theorem zh_127 : zk_chs 127 (z_B 127) 0 zp_127 = true := by decide +kernel
set_option maxRecDepth 100000 in
theorem zh_128 : zk_chs 128 (z_B 128) 0 zp_128 = true := by decide +kernel
set_option maxRecDepth 100000 in
theorem zh_129 : zk_chs 129 (z_B 129) 0 zp_129 = true := by decide +kernel
set_option maxRecDepth 100000 in
theorem zh_130 : zk_chs 130 (z_B 130) 0 zp_130 = true := by decide +kernel
set_option maxRecDepth 100000 in
theorem zh_131 : zk_chs 131 (z_B 131) 0 zp_131 = true := by decide +kernel
set_option maxRecDepth 100000 in
theorem zh_132 : zk_chs 132 (z_B 132) 0 zp_132 = true := by decide +kernel
set_option maxRecDepth 100000 in
theorem zh_133 : zk_chs 133 (z_B 133) 0 zp_133 = true := by decide +kernel
set_option maxRecDepth 100000 in
theorem zh_134 : zk_chs 134 (z_B 134) 0 zp_134 = true := by decide +kernel
set_option maxRecDepth 100000 in
theorem zh_135 : zk_chs 135 (z_B 135) 0 zp_135 = true := by decide +kernel
set_option maxRecDepth 100000 in
theorem zh_136 : zk_chs 136 (z_B 136) 0 zp_136 = true := by decide +kernel
set_option maxRecDepth 100000 in
theorem zh_137 : zk_chs 137 (z_B 137) 0 zp_137 = true := by decide +kernel
set_option maxRecDepth 100000 in
theorem zh_138 : zk_chs 138 (z_B 138) 0 zp_138 = true := by decide +kernel
set_option maxRecDepth 100000 in
theorem zh_139 : zk_chs 139 (z_B 139) 0 zp_139 = true := by decide +kernel
set_option maxRecDepth 100000 in
theorem zh_140 : zk_chs 140 (z_B 140) 0 zp_140 = true := by decide +kernel
set_option maxRecDepth 100000 in
theorem zh_141 : zk_chs 141 (z_B 141) 0 zp_141 = true := by decide +kernel
set_option maxRecDepth 100000 in
theorem zh_142 : zk_chs 142 (z_B 142) 0 zp_142 = true := by decide +kernel
set_option maxRecDepth 100000 in
theorem zh_143 : zk_chs 143 (z_B 143) 0 zp_143 = true := by decide +kernel
set_option maxRecDepth 100000 in
theorem zh_144 : zk_chs 144 (z_B 144) 0 zp_144 = true := by decide +kernel
set_option maxRecDepth 100000 in
theorem zh_145 : zk_chs 145 (z_B 145) 0 zp_145 = true := by decide +kernel
set_option maxRecDepth 100000 in
theorem zh_146 : zk_chs 146 (z_B 146) 0 zp_146 = true := by decide +kernel
set_option maxRecDepth 100000 in
theorem zh_147 : zk_chs 147 (z_B 147) 0 zp_147 = true := by decide +kernel
set_option maxRecDepth 100000 in
theorem zh_148 : zk_chs 148 (z_B 148) 0 zp_148 = true := by decide +kernel
set_option maxRecDepth 100000 in
theorem zh_149 : zk_chs 149 (z_B 149) 0 zp_149 = true := by decide +kernel
