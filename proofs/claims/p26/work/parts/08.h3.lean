set_option maxRecDepth 100000 in
theorem zh_150 : zk_chs 150 (z_B 150) 0 zp_150 = true := by decide +kernel
set_option maxRecDepth 100000 in
theorem zh_151 : zk_chs 151 (z_B 151) 0 zp_151 = true := by decide +kernel
set_option maxRecDepth 100000 in
theorem zh_152 : zk_chs 152 (z_B 152) 0 zp_152 = true := by decide +kernel
set_option maxRecDepth 100000 in
theorem zh_153 : zk_chs 153 (z_B 153) 0 zp_153 = true := by decide +kernel
set_option maxRecDepth 100000 in
theorem zh_154 : zk_chs 154 (z_B 154) 0 zp_154 = true := by decide +kernel
set_option maxRecDepth 100000 in
theorem zh_155 : zk_chs 155 (z_B 155) 0 zp_155 = true := by decide +kernel
set_option maxRecDepth 100000 in
theorem zh_156 : zk_chs 156 (z_B 156) 0 zp_156 = true := by decide +kernel
set_option maxRecDepth 100000 in
theorem zh_157 : zk_chs 157 (z_B 157) 0 zp_157 = true := by decide +kernel
set_option maxRecDepth 100000 in
theorem zh_158 : zk_chs 158 (z_B 158) 0 zp_158 = true := by decide +kernel
set_option maxRecDepth 100000 in
theorem zh_159 : zk_chs 159 (z_B 159) 0 zp_159 = true := by decide +kernel
set_option maxRecDepth 100000 in
theorem zh_160 : zk_chs 160 (z_B 160) 0 zp_160 = true := by decide +kernel
set_option maxRecDepth 100000 in
theorem zh_161 : zk_chs 161 (z_B 161) 0 zp_161 = true := by decide +kernel
set_option maxRecDepth 100000 in
theorem zh_162 : zk_chs 162 (z_B 162) 0 zp_162 = true := by decide +kernel
set_option maxRecDepth 100000 in
theorem zh_163 : zk_chs 163 (z_B 163) 0 zp_163 = true := by decide +kernel
set_option maxRecDepth 100000 in
theorem zh_164 : zk_chs 164 (z_B 164) 0 zp_164 = true := by decide +kernel
set_option maxRecDepth 100000 in
theorem zh_165 : zk_chs 165 (z_B 165) 0 zp_165 = true := by decide +kernel
set_option maxRecDepth 100000 in
theorem zh_166 : zk_chs 166 (z_B 166) 0 zp_166 = true := by decide +kernel
set_option maxRecDepth 100000 in
theorem zh_167 : zk_chs 167 (z_B 167) 0 zp_167 = true := by decide +kernel
set_option maxRecDepth 100000 in
theorem zh_168 : zk_chs 168 (z_B 168) 0 zp_168 = true := by decide +kernel
set_option maxRecDepth 100000 in
theorem zh_169 : zk_chs 169 (z_B 169) 0 zp_169 = true := by decide +kernel
set_option maxRecDepth 100000 in
theorem zh_170 : zk_chs 170 (z_B 170) 0 zp_170 = true := by decide +kernel
set_option maxRecDepth 100000 in
theorem zh_171 : zk_chs 171 (z_B 171) 0 zp_171 = true := by decide +kernel
set_option maxRecDepth 100000 in
theorem zh_172 : zk_chs 172 (z_B 172) 0 zp_172 = true := by decide +kernel
set_option maxRecDepth 100000 in
theorem zh_173 : zk_chs 173 (z_B 173) 0 zp_173 = true := by decide +kernel
set_option maxRecDepth 100000 in
theorem zh_174 : zk_chs 174 (z_B 174) 0 zp_174 = true := by decide +kernel
set_option maxRecDepth 100000 in
theorem zh_175 : zk_chs 175 (z_B 175) 0 zp_175 = true := by decide +kernel
set_option maxRecDepth 100000 in
theorem zh_176 : zk_chs 176 (z_B 176) 0 zp_176 = true := by decide +kernel
set_option maxRecDepth 100000 in
theorem zh_177 : zk_chs 177 (z_B 177) 0 zp_177 = true := by decide +kernel
set_option maxRecDepth 100000 in
theorem zh_178 : zk_chs 178 (z_B 178) 0 zp_178 = true := by decide +kernel
set_option maxRecDepth 100000 in
theorem zh_179 : zk_chs 179 (z_B 179) 0 zp_179 = true := by decide +kernel
set_option maxRecDepth 100000 in
theorem zh_180 : zk_chs 180 (z_B 180) 0 zp_180 = true := by decide +kernel
set_option maxRecDepth 100000 in
theorem zh_181 : zk_chs 181 (z_B 181) 0 zp_181 = true := by decide +kernel
set_option maxRecDepth 100000 in
theorem zh_182 : zk_chs 182 (z_B 182) 0 zp_182 = true := by decide +kernel
set_option maxRecDepth 100000 in
theorem zh_183 : zk_chs 183 (z_B 183) 0 zp_183 = true := by decide +kernel
set_option maxRecDepth 100000 in
theorem zh_184 : zk_chs 184 (z_B 184) 0 zp_184 = true := by decide +kernel
set_option maxRecDepth 100000 in
theorem zh_185 : zk_chs 185 (z_B 185) 0 zp_185 = true := by decide +kernel
set_option maxRecDepth 100000 in
theorem zh_186 : zk_chs 186 (z_B 186) 0 zp_186 = true := by decide +kernel
set_option maxRecDepth 100000 in
theorem zh_187 : zk_chs 187 (z_B 187) 0 zp_187 = true := by decide +kernel
set_option maxRecDepth 100000 in
theorem zh_188 : zk_chs 188 (z_B 188) 0 zp_188 = true := by decide +kernel
set_option maxRecDepth 100000 in
theorem zh_189 : zk_chs 189 (z_B 189) 0 zp_189 = true := by decide +kernel
set_option maxRecDepth 100000 in
theorem zh_190 : zk_chs 190 (z_B 190) 0 zp_190 = true := by decide +kernel
set_option maxRecDepth 100000 in
theorem zh_191 : zk_chs 191 (z_B 191) 0 zp_191 = true := by decide +kernel
set_option maxRecDepth 100000 in
theorem zh_192 : zk_chs 192 (z_B 192) 0 zp_192 = true := by decide +kernel
set_option maxRecDepth 100000 in
theorem zh_193 : zk_chs 193 (z_B 193) 0 zp_193 = true := by decide +kernel
set_option maxRecDepth 100000 in
theorem zh_194 : zk_chs 194 (z_B 194) 0 zp_194 = true := by decide +kernel
set_option maxRecDepth 100000 in
theorem zh_195 : zk_chs 195 (z_B 195) 0 zp_195 = true := by decide +kernel
set_option maxRecDepth 100000 in
theorem zh_196 : zk_chs 196 (z_B 196) 0 zp_196 = true := by decide +kernel
set_option maxRecDepth 100000 in
theorem zh_197 : zk_chs 197 (z_B 197) 0 zp_197 = true := by decide +kernel
