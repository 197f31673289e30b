/-! printed by wip/tools/den.py -/
def d_198_1337 (l : List Int32) (x3 : Int32) (g : G) (k18 : Int32 → G → Option (Bool × G)) : Option (Bool × G) :=
  k18 (x3 + 6) g
set_option maxRecDepth 100000 in
set_option maxHeartbeats 4000000 in
theorem w_198_1337 {l : List Int32} {d : Nat} (x3 : Int32) (g : G) (k18 : Int32 → G → Option (Bool × G)) (hk18 : ∀ (x3 : Int32) (g : G) (r : Bool) (g' : G), k18 x3 g = some (r, g') → zB (some l) (d + 10) 198 18 [some (.ref zm_SP), some (.ref 0), some (.ref 113), some (.int x3)] [] (mk g) [.int (zb_i r)] (mk g')) (r : Bool) (g' : G) (e : d_198_1337 l x3 g k18 = some (r, g')) : zB (some l) (d + 10) 198 1337 [some (.ref zm_SP), some (.ref 0), some (.ref 113), some (.int x3)] [] (mk g) [.int (zb_i r)] (mk g') := by
  unfold d_198_1337 at e
  intro Q K
  refine Wp.steps 2 (pc1 := 18) (lo1 := [some (.ref zm_SP), some (.ref 0), some (.ref 113), some (.int (x3 + 6))]) (st1 := []) (h1 := mk g) rfl ?_
  exact hk18 _ _ _ _ e Q K
def d_198_18 (l : List Int32) : Nat → Int32 → G → Option (Bool × G)
  | 0, _, _ => none
  | f + 1, x3, g =>
    bif zm_cmp .gt x3 ((Int32.ofNat l.length) - 6) then (
      some (true, g)) else
    Option.bind (zm_sld (some l) x3) fun v2 =>
    bif (v2 &&& 63) == 0 then (
      Option.bind (zm_sld (some l) (x3 + 1)) fun v4 =>
      zb_bp (d_54 v4 g) fun v5 g6 =>
      Option.bind (zm_sld (some l) (x3 + 1)) fun v7 =>
      zb_bp (d_111 v7 g6) fun v8 g9 =>
      d_198_1337 l x3 g9 (d_198_18 l f)) else
    bif (v2 &&& 63) == 1 then (
      Option.bind (zm_sld (some l) (x3 + 1)) fun v11 =>
      zb_p (d_55 v11 g) fun v12 g13 =>
      Option.bind (zm_sld (some l) (x3 + 1)) fun v14 =>
      zb_p (d_112 v14 g13) fun v15 g16 =>
      d_198_1337 l x3 g16 (d_198_18 l f)) else
    bif (v2 &&& 63) == 2 then (
      zb_bp (d_56 g) fun v18 g19 =>
      zb_bp (d_129 g19) fun v20 g21 =>
      d_198_1337 l x3 g21 (d_198_18 l f)) else
    bif (v2 &&& 63) == 3 then (
      zb_l (d_57 g) fun v23 =>
      zb_l (d_130 g) fun v24 =>
      d_198_1337 l x3 g (d_198_18 l f)) else
    bif (v2 &&& 63) == 4 then (
      Option.bind (zm_sld (some l) (x3 + 1)) fun v26 =>
      zb_l (d_58 v26 g) fun v27 =>
      Option.bind (zm_sld (some l) (x3 + 1)) fun v28 =>
      zb_l (d_139 v28 g) fun v29 =>
      d_198_1337 l x3 g (d_198_18 l f)) else
    bif (v2 &&& 63) == 5 then (
      Option.bind (zm_sld (some l) (x3 + 1)) fun v31 =>
      Option.bind (zm_sld (some l) (x3 + 2)) fun v32 =>
      Option.bind (d_59 v31 v32 g) fun v33 =>
      Option.bind (zm_sld (some l) (x3 + 1)) fun v34 =>
      Option.bind (zm_sld (some l) (x3 + 2)) fun v35 =>
      Option.bind (d_140 v34 v35 g) fun v36 =>
      d_198_1337 l x3 g (d_198_18 l f)) else
    bif (v2 &&& 63) == 6 then (
      Option.bind (zm_sld (some l) (x3 + 1)) fun v38 =>
      Option.bind (zm_sld (some l) (x3 + 2)) fun v39 =>
      Option.bind (d_60 v38 v39 g) fun v40 =>
      Option.bind (zm_sld (some l) (x3 + 1)) fun v41 =>
      Option.bind (zm_sld (some l) (x3 + 2)) fun v42 =>
      Option.bind (d_141 v41 v42 g) fun v43 =>
      d_198_1337 l x3 g (d_198_18 l f)) else
    bif (v2 &&& 63) == 7 then (
      Option.bind (zm_sld (some l) (x3 + 1)) fun v45 =>
      Option.bind (zm_sld (some l) (x3 + 2)) fun v46 =>
      zb_bp (d_61 v45 v46 g) fun v47 g48 =>
      Option.bind (zm_sld (some l) (x3 + 1)) fun v49 =>
      Option.bind (zm_sld (some l) (x3 + 2)) fun v50 =>
      zb_bp (d_143 v49 v50 g48) fun v51 g52 =>
      d_198_1337 l x3 g52 (d_198_18 l f)) else
    bif (v2 &&& 63) == 8 then (
      Option.bind (zm_sld (some l) (x3 + 1)) fun v54 =>
      Option.bind (zm_sld (some l) (x3 + 2)) fun v55 =>
      zb_bp (d_62 v54 v55 g) fun v56 g57 =>
      Option.bind (zm_sld (some l) (x3 + 1)) fun v58 =>
      Option.bind (zm_sld (some l) (x3 + 2)) fun v59 =>
      zb_bp (d_145 v58 v59 g57) fun v60 g61 =>
      d_198_1337 l x3 g61 (d_198_18 l f)) else
    bif (v2 &&& 63) == 9 then (
      Option.bind (zm_sld (some l) (x3 + 1)) fun v63 =>
      Option.bind (zm_sld (some l) (x3 + 2)) fun v64 =>
      Option.bind (zm_sld (some l) (x3 + 3)) fun v65 =>
      Option.bind (zm_sld (some l) (x3 + 4)) fun v66 =>
      Option.bind (zm_sld (some l) (x3 + 5)) fun v67 =>
      zb_bp (d_63 v63 v64 v65 v66 v67 g) fun v68 g69 =>
      Option.bind (zm_sld (some l) (x3 + 1)) fun v70 =>
      Option.bind (zm_sld (some l) (x3 + 2)) fun v71 =>
      Option.bind (zm_sld (some l) (x3 + 3)) fun v72 =>
      Option.bind (zm_sld (some l) (x3 + 4)) fun v73 =>
      Option.bind (zm_sld (some l) (x3 + 5)) fun v74 =>
      zb_bp (d_146 v70 v71 v72 v73 v74 g69) fun v75 g76 =>
      d_198_1337 l x3 g76 (d_198_18 l f)) else
    bif (v2 &&& 63) == 10 then (
      Option.bind (zm_sld (some l) (x3 + 1)) fun v78 =>
      Option.bind (zm_sld (some l) (x3 + 2)) fun v79 =>
      zb_bp (d_64 v78 v79 g) fun v80 g81 =>
      Option.bind (zm_sld (some l) (x3 + 1)) fun v82 =>
      Option.bind (zm_sld (some l) (x3 + 2)) fun v83 =>
      zb_bp (d_147 v82 v83 g81) fun v84 g85 =>
      d_198_1337 l x3 g85 (d_198_18 l f)) else
    bif (v2 &&& 63) == 11 then (
      Option.bind (zm_sld (some l) (x3 + 1)) fun v87 =>
      Option.bind (zm_sld (some l) (x3 + 2)) fun v88 =>
      zb_bp (d_65 v87 v88 g) fun v89 g90 =>
      Option.bind (zm_sld (some l) (x3 + 1)) fun v91 =>
      Option.bind (zm_sld (some l) (x3 + 2)) fun v92 =>
      zb_bp (d_148 v91 v92 g90) fun v93 g94 =>
      d_198_1337 l x3 g94 (d_198_18 l f)) else
    bif (v2 &&& 63) == 12 then (
      Option.bind (zm_sld (some l) (x3 + 1)) fun v96 =>
      Option.bind (zm_sld (some l) (x3 + 2)) fun v97 =>
      zb_bp (d_66 v96 v97 g) fun v98 g99 =>
      Option.bind (zm_sld (some l) (x3 + 1)) fun v100 =>
      Option.bind (zm_sld (some l) (x3 + 2)) fun v101 =>
      zb_bp (d_149 v100 v101 g99) fun v102 g103 =>
      d_198_1337 l x3 g103 (d_198_18 l f)) else
    bif (v2 &&& 63) == 13 then (
      Option.bind (zm_sld (some l) (x3 + 1)) fun v105 =>
      Option.bind (zm_sld (some l) (x3 + 2)) fun v106 =>
      Option.bind (zm_sld (some l) (x3 + 3)) fun v107 =>
      Option.bind (d_67 v105 v106 v107 g) fun v108 =>
      Option.bind (zm_sld (some l) (x3 + 1)) fun v109 =>
      Option.bind (zm_sld (some l) (x3 + 2)) fun v110 =>
      Option.bind (zm_sld (some l) (x3 + 3)) fun v111 =>
      Option.bind (d_153 v109 v110 v111 g) fun v112 =>
      d_198_1337 l x3 g (d_198_18 l f)) else
    bif (v2 &&& 63) == 14 then (
      Option.bind (zm_sld (some l) (x3 + 1)) fun v114 =>
      zb_bp (d_68 v114 g) fun v115 g116 =>
      Option.bind (zm_sld (some l) (x3 + 1)) fun v117 =>
      Option.bind (d_154 v117 g116) fun v118 =>
      d_198_1337 l x3 g116 (d_198_18 l f)) else
    bif (v2 &&& 63) == 15 then (
      Option.bind (zm_sld (some l) (x3 + 1)) fun v120 =>
      Option.bind (zm_sld (some l) (x3 + 2)) fun v121 =>
      zb_bp (d_69 v120 v121 g) fun v122 g123 =>
      Option.bind (zm_sld (some l) (x3 + 1)) fun v124 =>
      Option.bind (zm_sld (some l) (x3 + 2)) fun v125 =>
      Option.bind (d_156 v124 v125 g123) fun v126 =>
      d_198_1337 l x3 g123 (d_198_18 l f)) else
    bif (v2 &&& 63) == 16 then (
      Option.bind (zm_sld (some l) (x3 + 1)) fun v128 =>
      zb_bp (d_70 v128 g) fun v129 g130 =>
      Option.bind (zm_sld (some l) (x3 + 1)) fun v131 =>
      Option.bind (d_160 v131 g130) fun v132 =>
      d_198_1337 l x3 g130 (d_198_18 l f)) else
    bif (v2 &&& 63) == 17 then (
      zb_bp (d_71 g) fun v134 g135 =>
      Option.bind (d_162 g135) fun v136 =>
      d_198_1337 l x3 g135 (d_198_18 l f)) else
    bif (v2 &&& 63) == 18 then (
      Option.bind (zm_sld (some l) (x3 + 1)) fun v138 =>
      zb_bp (d_72 v138 g) fun v139 g140 =>
      Option.bind (zm_sld (some l) (x3 + 1)) fun v141 =>
      zb_bp (d_165 v141 g140) fun v142 g143 =>
      d_198_1337 l x3 g143 (d_198_18 l f)) else
    bif (v2 &&& 63) == 19 then (
      Option.bind (zm_sld (some l) (x3 + 1)) fun v145 =>
      zb_bp (d_73 v145 g) fun v146 g147 =>
      Option.bind (zm_sld (some l) (x3 + 1)) fun v148 =>
      zb_bp (d_167 v148 g147) fun v149 g150 =>
      d_198_1337 l x3 g150 (d_198_18 l f)) else
    bif (v2 &&& 63) == 20 then (
      Option.bind (zm_sld (some l) (x3 + 1)) fun v152 =>
      Option.bind (zm_sld (some l) (x3 + 2)) fun v153 =>
      Option.bind (zm_sld (some l) (x3 + 3)) fun v154 =>
      Option.bind (zm_sld (some l) (x3 + 4)) fun v155 =>
      zb_bp (d_74 v152 v153 v154 v155 g) fun v156 g157 =>
      Option.bind (zm_sld (some l) (x3 + 1)) fun v158 =>
      Option.bind (zm_sld (some l) (x3 + 2)) fun v159 =>
      Option.bind (zm_sld (some l) (x3 + 3)) fun v160 =>
      Option.bind (zm_sld (some l) (x3 + 4)) fun v161 =>
      Option.bind (d_168 v158 v159 v160 v161 g157) fun v162 =>
      d_198_1337 l x3 g157 (d_198_18 l f)) else
    bif (v2 &&& 63) == 21 then (
      Option.bind (zm_sld (some l) (x3 + 1)) fun v164 =>
      Option.bind (zm_sld (some l) (x3 + 2)) fun v165 =>
      zb_bp (d_75 v164 v165 g) fun v166 g167 =>
      Option.bind (zm_sld (some l) (x3 + 1)) fun v168 =>
      Option.bind (zm_sld (some l) (x3 + 2)) fun v169 =>
      zb_bp (d_169 v168 v169 g167) fun v170 g171 =>
      d_198_1337 l x3 g171 (d_198_18 l f)) else
    bif (v2 &&& 63) == 22 then (
      Option.bind (zm_sld (some l) (x3 + 1)) fun v173 =>
      Option.bind (zm_sld (some l) (x3 + 2)) fun v174 =>
      Option.bind (zm_sld (some l) (x3 + 3)) fun v175 =>
      zb_bp (d_76 v173 v174 v175 g) fun v176 g177 =>
      Option.bind (zm_sld (some l) (x3 + 1)) fun v178 =>
      Option.bind (zm_sld (some l) (x3 + 2)) fun v179 =>
      Option.bind (zm_sld (some l) (x3 + 3)) fun v180 =>
      Option.bind (d_170 v178 v179 v180 g177) fun v181 =>
      d_198_1337 l x3 g177 (d_198_18 l f)) else
    bif (v2 &&& 63) == 23 then (
      Option.bind (zm_sld (some l) (x3 + 1)) fun v183 =>
      zb_bp (d_77 v183 g) fun v184 g185 =>
      Option.bind (zm_sld (some l) (x3 + 1)) fun v186 =>
      Option.bind (d_173 v186 g185) fun v187 =>
      d_198_1337 l x3 g185 (d_198_18 l f)) else
    bif (v2 &&& 63) == 24 then (
      Option.bind (zm_sld (some l) (x3 + 1)) fun v189 =>
      Option.bind (zm_sld (some l) (x3 + 2)) fun v190 =>
      Option.bind (zm_sld (some l) (x3 + 3)) fun v191 =>
      Option.bind (zm_sld (some l) (x3 + 4)) fun v192 =>
      zb_bp (d_78 v189 v190 v191 v192 g) fun v193 g194 =>
      Option.bind (zm_sld (some l) (x3 + 1)) fun v195 =>
      Option.bind (zm_sld (some l) (x3 + 2)) fun v196 =>
      Option.bind (zm_sld (some l) (x3 + 3)) fun v197 =>
      Option.bind (zm_sld (some l) (x3 + 4)) fun v198 =>
      Option.bind (d_174 v195 v196 v197 v198 g194) fun v199 =>
      bif zm_cmp .eq (lg_cmp v193 v199) 0 then (
        d_198_1337 l x3 g194 (d_198_18 l f)) else
      some (false, g194)) else
    bif (v2 &&& 63) == 25 then (
      Option.bind (zm_sld (some l) (x3 + 1)) fun v202 =>
      Option.bind (zm_sld (some l) (x3 + 2)) fun v203 =>
      Option.bind (zm_sld (some l) (x3 + 3)) fun v204 =>
      Option.bind (zm_sld (some l) (x3 + 4)) fun v205 =>
      bif zm_cmp .eq v205 0 then (
        zb_bp (d_79 v202 v203 v204 0 g) fun v207 g208 =>
        Option.bind (zm_sld (some l) (x3 + 1)) fun v209 =>
        Option.bind (zm_sld (some l) (x3 + 2)) fun v210 =>
        Option.bind (zm_sld (some l) (x3 + 3)) fun v211 =>
        Option.bind (zm_sld (some l) (x3 + 4)) fun v212 =>
        bif zm_cmp .eq v212 0 then (
          zb_bp (d_175 v209 v210 v211 0 g208) fun v214 g215 =>
          d_198_1337 l x3 g215 (d_198_18 l f)) else
        zb_bp (d_175 v209 v210 v211 1 g208) fun v216 g217 =>
        d_198_1337 l x3 g217 (d_198_18 l f)) else
      zb_bp (d_79 v202 v203 v204 1 g) fun v218 g219 =>
      Option.bind (zm_sld (some l) (x3 + 1)) fun v220 =>
      Option.bind (zm_sld (some l) (x3 + 2)) fun v221 =>
      Option.bind (zm_sld (some l) (x3 + 3)) fun v222 =>
      Option.bind (zm_sld (some l) (x3 + 4)) fun v223 =>
      bif zm_cmp .eq v223 0 then (
        zb_bp (d_175 v220 v221 v222 0 g219) fun v225 g226 =>
        d_198_1337 l x3 g226 (d_198_18 l f)) else
      zb_bp (d_175 v220 v221 v222 1 g219) fun v227 g228 =>
      d_198_1337 l x3 g228 (d_198_18 l f)) else
    bif (v2 &&& 63) == 26 then (
      Option.bind (zm_sld (some l) (x3 + 1)) fun v230 =>
      zb_p (d_80 v230 g) fun v231 g232 =>
      Option.bind (zm_sld (some l) (x3 + 1)) fun v233 =>
      zb_bp (d_176 v233 g232) fun v234 g235 =>
      d_198_1337 l x3 g235 (d_198_18 l f)) else
    bif (v2 &&& 63) == 27 then (
      Option.bind (zm_sld (some l) (x3 + 1)) fun v237 =>
      zb_bp (d_81 v237 g) fun v238 g239 =>
      Option.bind (zm_sld (some l) (x3 + 1)) fun v240 =>
      zb_bp (d_178 v240 g239) fun v241 g242 =>
      d_198_1337 l x3 g242 (d_198_18 l f)) else
    bif (v2 &&& 63) == 28 then (
      Option.bind (zm_sld (some l) (x3 + 1)) fun v244 =>
      Option.bind (zm_sld (some l) (x3 + 2)) fun v245 =>
      zb_bp (d_82 v244 v245 g) fun v246 g247 =>
      Option.bind (zm_sld (some l) (x3 + 1)) fun v248 =>
      Option.bind (zm_sld (some l) (x3 + 2)) fun v249 =>
      Option.bind (d_179 v248 v249 g247) fun v250 =>
      d_198_1337 l x3 g247 (d_198_18 l f)) else
    bif (v2 &&& 63) == 29 then (
      Option.bind (zm_sld (some l) (x3 + 1)) fun v252 =>
      zb_bp (d_83 v252 g) fun v253 g254 =>
      Option.bind (zm_sld (some l) (x3 + 1)) fun v255 =>
      zb_bp (d_181 v255 g254) fun v256 g257 =>
      d_198_1337 l x3 g257 (d_198_18 l f)) else
    bif (v2 &&& 63) == 30 then (
      Option.bind (zm_sld (some l) (x3 + 1)) fun v259 =>
      zb_bp (d_84 v259 g) fun v260 g261 =>
      Option.bind (zm_sld (some l) (x3 + 1)) fun v262 =>
      zb_bp (d_182 v262 g261) fun v263 g264 =>
      d_198_1337 l x3 g264 (d_198_18 l f)) else
    bif (v2 &&& 63) == 31 then (
      Option.bind (zm_sld (some l) (x3 + 1)) fun v266 =>
      Option.bind (zm_sld (some l) (x3 + 2)) fun v267 =>
      Option.bind (zm_sld (some l) (x3 + 3)) fun v268 =>
      zb_bp (d_85 v266 v267 v268 g) fun v269 g270 =>
      Option.bind (zm_sld (some l) (x3 + 1)) fun v271 =>
      Option.bind (zm_sld (some l) (x3 + 2)) fun v272 =>
      Option.bind (zm_sld (some l) (x3 + 3)) fun v273 =>
      zb_bp (d_184 v271 v272 v273 g270) fun v274 g275 =>
      d_198_1337 l x3 g275 (d_198_18 l f)) else
    bif (v2 &&& 63) == 32 then (
      Option.bind (zm_sld (some l) (x3 + 1)) fun v277 =>
      Option.bind (zm_sld (some l) (x3 + 2)) fun v278 =>
      Option.bind (zm_sld (some l) (x3 + 3)) fun v279 =>
      zb_bp (d_86 v277 v278 v279 g) fun v280 g281 =>
      Option.bind (zm_sld (some l) (x3 + 1)) fun v282 =>
      Option.bind (zm_sld (some l) (x3 + 2)) fun v283 =>
      Option.bind (zm_sld (some l) (x3 + 3)) fun v284 =>
      zb_bp (d_185 v282 v283 v284 g281) fun v285 g286 =>
      d_198_1337 l x3 g286 (d_198_18 l f)) else
    bif (v2 &&& 63) == 33 then (
      Option.bind (zm_sld (some l) (x3 + 1)) fun v288 =>
      Option.bind (zm_sld (some l) (x3 + 2)) fun v289 =>
      Option.bind (zm_sld (some l) (x3 + 3)) fun v290 =>
      Option.bind (zm_sld (some l) (x3 + 4)) fun v291 =>
      zb_bp (d_87 v288 v289 v290 v291 g) fun v292 g293 =>
      Option.bind (zm_sld (some l) (x3 + 1)) fun v294 =>
      Option.bind (zm_sld (some l) (x3 + 2)) fun v295 =>
      Option.bind (zm_sld (some l) (x3 + 3)) fun v296 =>
      Option.bind (zm_sld (some l) (x3 + 4)) fun v297 =>
      zb_bp (d_186 v294 v295 v296 v297 g293) fun v298 g299 =>
      d_198_1337 l x3 g299 (d_198_18 l f)) else
    bif (v2 &&& 63) == 34 then (
      zb_l (d_88 g) fun v301 =>
      zb_l (d_187 g) fun v302 =>
      d_198_1337 l x3 g (d_198_18 l f)) else
    bif (v2 &&& 63) == 35 then (
      Option.bind (zm_sld (some l) (x3 + 1)) fun v304 =>
      zb_bp (d_89 v304 g) fun v305 g306 =>
      Option.bind (zm_sld (some l) (x3 + 1)) fun v307 =>
      Option.bind (d_188 v307 g306) fun v308 =>
      d_198_1337 l x3 g306 (d_198_18 l f)) else
    d_198_1337 l x3 g (d_198_18 l f)
set_option maxRecDepth 100000 in
set_option maxHeartbeats 4000000 in
theorem w_198_18 {l : List Int32} {d : Nat} : ∀ (f : Nat) (x3 : Int32) (g : G) (r : Bool) (g' : G), d_198_18 l f x3 g = some (r, g') → zB (some l) (d + 10) 198 18 [some (.ref zm_SP), some (.ref 0), some (.ref 113), some (.int x3)] [] (mk g) [.int (zb_i r)] (mk g') := by
  intro f
  induction f with
  | zero =>
    intro x3 g r g' e
    rw [d_198_18.eq_1] at e
    cases e
  | succ f ih =>
    intro x3 g r g' e
    rw [d_198_18.eq_2] at e
    intro Q K
    refine Wp.steps 2 (pc1 := 20) (lo1 := [some (.ref zm_SP), some (.ref 0), some (.ref 113), some (.int x3)]) (st1 := [.ref zm_SP, .int x3]) (h1 := mk g) rfl ?_
    refine Wp.sn (pc1 := 21) rfl rfl ?_
    refine Wp.steps 2 (pc1 := 24) (lo1 := [some (.ref zm_SP), some (.ref 0), some (.ref 113), some (.int x3)]) (st1 := [.int ((Int32.ofNat l.length) - 6), .int x3]) (h1 := mk g) rfl ?_
    rcases zb_if e with ⟨hc1, e⟩ | ⟨hc1, e⟩
    · skip
      refine Wp.cT (pc1 := 1343) rfl hc1 rfl ?_
      refine Wp.steps 1 (pc1 := 1344) (lo1 := [some (.ref zm_SP), some (.ref 0), some (.ref 113), some (.int x3)]) (st1 := [.int 1]) (h1 := mk g) rfl ?_
      obtain ⟨e1, e2⟩ := zb_r2 e
      subst e1
      subst e2
      exact Wp.ret rfl rfl rfl (K _)
    · skip
      refine Wp.cF (pc1 := 27) rfl hc1 rfl ?_
      refine Wp.steps 2 (pc1 := 29) (lo1 := [some (.ref zm_SP), some (.ref 0), some (.ref 113), some (.int x3)]) (st1 := [.int x3, .ref zm_SP]) (h1 := mk g) rfl ?_
      obtain ⟨v2, hv2, e⟩ := zb_bind e
      refine Wp.sl (pc1 := 30) rfl hv2 rfl ?_
      refine Wp.steps 2 (pc1 := 33) (lo1 := [some (.ref zm_SP), some (.ref 0), some (.ref 113), some (.int x3)]) (st1 := [.int (v2 &&& 63)]) (h1 := mk g) rfl ?_
      rcases zb_if e with ⟨hc3, e⟩ | ⟨hc3, e⟩
      · skip
        refine Wp.swT (pc1 := 192) (w := 0) rfl hc3 rfl ?_
        refine Wp.steps 5 (pc1 := 197) (lo1 := [some (.ref zm_SP), some (.ref 0), some (.ref 113), some (.int x3)]) (st1 := [.int (x3 + 1), .ref zm_SP, .ref 0]) (h1 := mk g) rfl ?_
        obtain ⟨v4, hv4, e⟩ := zb_bind e
        refine Wp.sl (pc1 := 198) rfl hv4 rfl ?_
        obtain ⟨v5, g6, hvv5, e⟩ := zb_bpair e
        refine Wp.ca (m := 54) (d1 := d + 9) (as := [.ref 0, .int v4]) (rest := []) (st1 := [.int v5]) (pc1 := 201) rfl rfl rfl rfl rfl rfl rfl rfl (mk_rok rfl rfl rfl rfl) rfl rfl rfl (w_54 (sc := (some l)) (d := d + 9) v4 g hvv5) ?_
        refine Wp.steps 6 (pc1 := 207) (lo1 := [some (.ref zm_SP), some (.ref 0), some (.ref 113), some (.int x3)]) (st1 := [.int (x3 + 1), .ref zm_SP, .ref 113]) (h1 := mk g6) rfl ?_
        obtain ⟨v7, hv7, e⟩ := zb_bind e
        refine Wp.sl (pc1 := 208) rfl hv7 rfl ?_
        obtain ⟨v8, g9, hvv8, e⟩ := zb_bpair e
        refine Wp.ca (m := 111) (d1 := d + 9) (as := [.ref 113, .int v7]) (rest := []) (st1 := [.int v8]) (pc1 := 211) rfl rfl rfl rfl rfl rfl rfl rfl (mk_rok rfl rfl rfl rfl) rfl rfl rfl (w_111 (sc := (some l)) (d := d + 8) v7 g6 hvv8) ?_
        refine Wp.steps 2 (pc1 := 1337) (lo1 := [some (.ref zm_SP), some (.ref 0), some (.ref 113), some (.int x3)]) (st1 := []) (h1 := mk g9) rfl ?_
        exact w_198_1337 (l := l) (d := d) x3 g9 (d_198_18 l f) ih _ _ e Q K
      · skip
        rcases zb_if e with ⟨hc10, e⟩ | ⟨hc10, e⟩
        · skip
          refine Wp.swT (pc1 := 215) (w := 1) rfl hc10 rfl ?_
          refine Wp.steps 5 (pc1 := 220) (lo1 := [some (.ref zm_SP), some (.ref 0), some (.ref 113), some (.int x3)]) (st1 := [.int (x3 + 1), .ref zm_SP, .ref 0]) (h1 := mk g) rfl ?_
          obtain ⟨v11, hv11, e⟩ := zb_bind e
          refine Wp.sl (pc1 := 221) rfl hv11 rfl ?_
          obtain ⟨v12, g13, hvv12, e⟩ := zb_pair e
          refine Wp.ca (m := 55) (d1 := d + 9) (as := [.ref 0, .int v11]) (rest := []) (st1 := [.int v12]) (pc1 := 224) rfl rfl rfl rfl rfl rfl rfl rfl (mk_rok rfl rfl rfl rfl) rfl rfl rfl (w_55 (sc := (some l)) (d := d + 9) v11 g hvv12) ?_
          refine Wp.steps 6 (pc1 := 230) (lo1 := [some (.ref zm_SP), some (.ref 0), some (.ref 113), some (.int x3)]) (st1 := [.int (x3 + 1), .ref zm_SP, .ref 113]) (h1 := mk g13) rfl ?_
          obtain ⟨v14, hv14, e⟩ := zb_bind e
          refine Wp.sl (pc1 := 231) rfl hv14 rfl ?_
          obtain ⟨v15, g16, hvv15, e⟩ := zb_pair e
          refine Wp.ca (m := 112) (d1 := d + 9) (as := [.ref 113, .int v14]) (rest := []) (st1 := [.int v15]) (pc1 := 234) rfl rfl rfl rfl rfl rfl rfl rfl (mk_rok rfl rfl rfl rfl) rfl rfl rfl (w_112 (sc := (some l)) (d := d + 8) v14 g13 hvv15) ?_
          refine Wp.steps 2 (pc1 := 1337) (lo1 := [some (.ref zm_SP), some (.ref 0), some (.ref 113), some (.int x3)]) (st1 := []) (h1 := mk g16) rfl ?_
          exact w_198_1337 (l := l) (d := d) x3 g16 (d_198_18 l f) ih _ _ e Q K
        · skip
          rcases zb_if e with ⟨hc17, e⟩ | ⟨hc17, e⟩
          · skip
            refine Wp.swT (pc1 := 238) (w := 2) rfl hc17 rfl ?_
            refine Wp.steps 1 (pc1 := 239) (lo1 := [some (.ref zm_SP), some (.ref 0), some (.ref 113), some (.int x3)]) (st1 := [.ref 0]) (h1 := mk g) rfl ?_
            obtain ⟨v18, g19, hvv18, e⟩ := zb_bpair e
            refine Wp.ca (m := 56) (d1 := d + 9) (as := [.ref 0]) (rest := []) (st1 := [.int v18]) (pc1 := 242) rfl rfl rfl rfl rfl rfl rfl rfl (mk_rok rfl rfl rfl rfl) rfl rfl rfl (w_56 (sc := (some l)) (d := d)  g hvv18) ?_
            refine Wp.steps 2 (pc1 := 244) (lo1 := [some (.ref zm_SP), some (.ref 0), some (.ref 113), some (.int x3)]) (st1 := [.ref 113]) (h1 := mk g19) rfl ?_
            obtain ⟨v20, g21, hvv20, e⟩ := zb_bpair e
            refine Wp.ca (m := 129) (d1 := d + 9) (as := [.ref 113]) (rest := []) (st1 := [.int v20]) (pc1 := 247) rfl rfl rfl rfl rfl rfl rfl rfl (mk_rok rfl rfl rfl rfl) rfl rfl rfl (w_129 (sc := (some l)) (d := d + 2)  g19 hvv20) ?_
            refine Wp.steps 2 (pc1 := 1337) (lo1 := [some (.ref zm_SP), some (.ref 0), some (.ref 113), some (.int x3)]) (st1 := []) (h1 := mk g21) rfl ?_
            exact w_198_1337 (l := l) (d := d) x3 g21 (d_198_18 l f) ih _ _ e Q K
          · skip
            rcases zb_if e with ⟨hc22, e⟩ | ⟨hc22, e⟩
            · skip
              refine Wp.swT (pc1 := 251) (w := 3) rfl hc22 rfl ?_
              refine Wp.steps 1 (pc1 := 252) (lo1 := [some (.ref zm_SP), some (.ref 0), some (.ref 113), some (.int x3)]) (st1 := [.ref 0]) (h1 := mk g) rfl ?_
              obtain ⟨v23, hvv23, e⟩ := zb_let e
              refine Wp.ca (m := 57) (d1 := d + 9) (as := [.ref 0]) (rest := []) (st1 := [.int v23]) (pc1 := 255) rfl rfl rfl rfl rfl rfl rfl rfl (mk_rok rfl rfl rfl rfl) rfl rfl rfl (w_57 (sc := (some l)) (d := d + 9)  g hvv23) ?_
              refine Wp.steps 2 (pc1 := 257) (lo1 := [some (.ref zm_SP), some (.ref 0), some (.ref 113), some (.int x3)]) (st1 := [.ref 113]) (h1 := mk g) rfl ?_
              obtain ⟨v24, hvv24, e⟩ := zb_let e
              refine Wp.ca (m := 130) (d1 := d + 9) (as := [.ref 113]) (rest := []) (st1 := [.int v24]) (pc1 := 260) rfl rfl rfl rfl rfl rfl rfl rfl (mk_rok rfl rfl rfl rfl) rfl rfl rfl (w_130 (sc := (some l)) (d := d + 9)  g hvv24) ?_
              refine Wp.steps 2 (pc1 := 1337) (lo1 := [some (.ref zm_SP), some (.ref 0), some (.ref 113), some (.int x3)]) (st1 := []) (h1 := mk g) rfl ?_
              exact w_198_1337 (l := l) (d := d) x3 g (d_198_18 l f) ih _ _ e Q K
            · skip
              rcases zb_if e with ⟨hc25, e⟩ | ⟨hc25, e⟩
              · skip
                refine Wp.swT (pc1 := 264) (w := 4) rfl hc25 rfl ?_
                refine Wp.steps 5 (pc1 := 269) (lo1 := [some (.ref zm_SP), some (.ref 0), some (.ref 113), some (.int x3)]) (st1 := [.int (x3 + 1), .ref zm_SP, .ref 0]) (h1 := mk g) rfl ?_
                obtain ⟨v26, hv26, e⟩ := zb_bind e
                refine Wp.sl (pc1 := 270) rfl hv26 rfl ?_
                obtain ⟨v27, hvv27, e⟩ := zb_let e
                refine Wp.ca (m := 58) (d1 := d + 9) (as := [.ref 0, .int v26]) (rest := []) (st1 := [.int v27]) (pc1 := 273) rfl rfl rfl rfl rfl rfl rfl rfl (mk_rok rfl rfl rfl rfl) rfl rfl rfl (w_58 (sc := (some l)) (d := d + 9) v26 g hvv27) ?_
                refine Wp.steps 6 (pc1 := 279) (lo1 := [some (.ref zm_SP), some (.ref 0), some (.ref 113), some (.int x3)]) (st1 := [.int (x3 + 1), .ref zm_SP, .ref 113]) (h1 := mk g) rfl ?_
                obtain ⟨v28, hv28, e⟩ := zb_bind e
                refine Wp.sl (pc1 := 280) rfl hv28 rfl ?_
                obtain ⟨v29, hvv29, e⟩ := zb_let e
                refine Wp.ca (m := 139) (d1 := d + 9) (as := [.ref 113, .int v28]) (rest := []) (st1 := [.int v29]) (pc1 := 283) rfl rfl rfl rfl rfl rfl rfl rfl (mk_rok rfl rfl rfl rfl) rfl rfl rfl (w_139 (sc := (some l)) (d := d + 9) v28 g hvv29) ?_
                refine Wp.steps 2 (pc1 := 1337) (lo1 := [some (.ref zm_SP), some (.ref 0), some (.ref 113), some (.int x3)]) (st1 := []) (h1 := mk g) rfl ?_
                exact w_198_1337 (l := l) (d := d) x3 g (d_198_18 l f) ih _ _ e Q K
              · skip
                rcases zb_if e with ⟨hc30, e⟩ | ⟨hc30, e⟩
                · skip
                  refine Wp.swT (pc1 := 287) (w := 5) rfl hc30 rfl ?_
                  refine Wp.steps 5 (pc1 := 292) (lo1 := [some (.ref zm_SP), some (.ref 0), some (.ref 113), some (.int x3)]) (st1 := [.int (x3 + 1), .ref zm_SP, .ref 0]) (h1 := mk g) rfl ?_
                  obtain ⟨v31, hv31, e⟩ := zb_bind e
                  refine Wp.sl (pc1 := 293) rfl hv31 rfl ?_
                  refine Wp.steps 4 (pc1 := 297) (lo1 := [some (.ref zm_SP), some (.ref 0), some (.ref 113), some (.int x3)]) (st1 := [.int (x3 + 2), .ref zm_SP, .int v31, .ref 0]) (h1 := mk g) rfl ?_
                  obtain ⟨v32, hv32, e⟩ := zb_bind e
                  refine Wp.sl (pc1 := 298) rfl hv32 rfl ?_
                  obtain ⟨v33, hvv33, e⟩ := zb_bind e
                  refine Wp.ca (m := 59) (d1 := d + 9) (as := [.ref 0, .int v31, .int v32]) (rest := []) (st1 := [.int v33]) (pc1 := 301) rfl rfl rfl rfl rfl rfl rfl rfl (mk_rok rfl rfl rfl rfl) rfl rfl rfl (w_59 (sc := (some l)) (d := d + 8) v31 v32 g hvv33) ?_
                  refine Wp.steps 6 (pc1 := 307) (lo1 := [some (.ref zm_SP), some (.ref 0), some (.ref 113), some (.int x3)]) (st1 := [.int (x3 + 1), .ref zm_SP, .ref 113]) (h1 := mk g) rfl ?_
                  obtain ⟨v34, hv34, e⟩ := zb_bind e
                  refine Wp.sl (pc1 := 308) rfl hv34 rfl ?_
                  refine Wp.steps 4 (pc1 := 312) (lo1 := [some (.ref zm_SP), some (.ref 0), some (.ref 113), some (.int x3)]) (st1 := [.int (x3 + 2), .ref zm_SP, .int v34, .ref 113]) (h1 := mk g) rfl ?_
                  obtain ⟨v35, hv35, e⟩ := zb_bind e
                  refine Wp.sl (pc1 := 313) rfl hv35 rfl ?_
                  obtain ⟨v36, hvv36, e⟩ := zb_bind e
                  refine Wp.ca (m := 140) (d1 := d + 9) (as := [.ref 113, .int v34, .int v35]) (rest := []) (st1 := [.int v36]) (pc1 := 316) rfl rfl rfl rfl rfl rfl rfl rfl (mk_rok rfl rfl rfl rfl) rfl rfl rfl (w_140 (sc := (some l)) (d := d + 7) v34 v35 g hvv36) ?_
                  refine Wp.steps 2 (pc1 := 1337) (lo1 := [some (.ref zm_SP), some (.ref 0), some (.ref 113), some (.int x3)]) (st1 := []) (h1 := mk g) rfl ?_
                  exact w_198_1337 (l := l) (d := d) x3 g (d_198_18 l f) ih _ _ e Q K
                · skip
                  rcases zb_if e with ⟨hc37, e⟩ | ⟨hc37, e⟩
                  · skip
                    refine Wp.swT (pc1 := 320) (w := 6) rfl hc37 rfl ?_
                    refine Wp.steps 5 (pc1 := 325) (lo1 := [some (.ref zm_SP), some (.ref 0), some (.ref 113), some (.int x3)]) (st1 := [.int (x3 + 1), .ref zm_SP, .ref 0]) (h1 := mk g) rfl ?_
                    obtain ⟨v38, hv38, e⟩ := zb_bind e
                    refine Wp.sl (pc1 := 326) rfl hv38 rfl ?_
                    refine Wp.steps 4 (pc1 := 330) (lo1 := [some (.ref zm_SP), some (.ref 0), some (.ref 113), some (.int x3)]) (st1 := [.int (x3 + 2), .ref zm_SP, .int v38, .ref 0]) (h1 := mk g) rfl ?_
                    obtain ⟨v39, hv39, e⟩ := zb_bind e
                    refine Wp.sl (pc1 := 331) rfl hv39 rfl ?_
                    obtain ⟨v40, hvv40, e⟩ := zb_bind e
                    refine Wp.ca (m := 60) (d1 := d + 9) (as := [.ref 0, .int v38, .int v39]) (rest := []) (st1 := [.int v40]) (pc1 := 334) rfl rfl rfl rfl rfl rfl rfl rfl (mk_rok rfl rfl rfl rfl) rfl rfl rfl (w_60 (sc := (some l)) (d := d + 8) v38 v39 g hvv40) ?_
                    refine Wp.steps 6 (pc1 := 340) (lo1 := [some (.ref zm_SP), some (.ref 0), some (.ref 113), some (.int x3)]) (st1 := [.int (x3 + 1), .ref zm_SP, .ref 113]) (h1 := mk g) rfl ?_
                    obtain ⟨v41, hv41, e⟩ := zb_bind e
                    refine Wp.sl (pc1 := 341) rfl hv41 rfl ?_
                    refine Wp.steps 4 (pc1 := 345) (lo1 := [some (.ref zm_SP), some (.ref 0), some (.ref 113), some (.int x3)]) (st1 := [.int (x3 + 2), .ref zm_SP, .int v41, .ref 113]) (h1 := mk g) rfl ?_
                    obtain ⟨v42, hv42, e⟩ := zb_bind e
                    refine Wp.sl (pc1 := 346) rfl hv42 rfl ?_
                    obtain ⟨v43, hvv43, e⟩ := zb_bind e
                    refine Wp.ca (m := 141) (d1 := d + 9) (as := [.ref 113, .int v41, .int v42]) (rest := []) (st1 := [.int v43]) (pc1 := 349) rfl rfl rfl rfl rfl rfl rfl rfl (mk_rok rfl rfl rfl rfl) rfl rfl rfl (w_141 (sc := (some l)) (d := d + 7) v41 v42 g hvv43) ?_
                    refine Wp.steps 2 (pc1 := 1337) (lo1 := [some (.ref zm_SP), some (.ref 0), some (.ref 113), some (.int x3)]) (st1 := []) (h1 := mk g) rfl ?_
                    exact w_198_1337 (l := l) (d := d) x3 g (d_198_18 l f) ih _ _ e Q K
                  · skip
                    rcases zb_if e with ⟨hc44, e⟩ | ⟨hc44, e⟩
                    · skip
                      refine Wp.swT (pc1 := 353) (w := 7) rfl hc44 rfl ?_
                      refine Wp.steps 5 (pc1 := 358) (lo1 := [some (.ref zm_SP), some (.ref 0), some (.ref 113), some (.int x3)]) (st1 := [.int (x3 + 1), .ref zm_SP, .ref 0]) (h1 := mk g) rfl ?_
                      obtain ⟨v45, hv45, e⟩ := zb_bind e
                      refine Wp.sl (pc1 := 359) rfl hv45 rfl ?_
                      refine Wp.steps 4 (pc1 := 363) (lo1 := [some (.ref zm_SP), some (.ref 0), some (.ref 113), some (.int x3)]) (st1 := [.int (x3 + 2), .ref zm_SP, .int v45, .ref 0]) (h1 := mk g) rfl ?_
                      obtain ⟨v46, hv46, e⟩ := zb_bind e
                      refine Wp.sl (pc1 := 364) rfl hv46 rfl ?_
                      obtain ⟨v47, g48, hvv47, e⟩ := zb_bpair e
                      refine Wp.ca (m := 61) (d1 := d + 9) (as := [.ref 0, .int v45, .int v46]) (rest := []) (st1 := [.int v47]) (pc1 := 367) rfl rfl rfl rfl rfl rfl rfl rfl (mk_rok rfl rfl rfl rfl) rfl rfl rfl (w_61 (sc := (some l)) (d := d + 8) v45 v46 g hvv47) ?_
                      refine Wp.steps 6 (pc1 := 373) (lo1 := [some (.ref zm_SP), some (.ref 0), some (.ref 113), some (.int x3)]) (st1 := [.int (x3 + 1), .ref zm_SP, .ref 113]) (h1 := mk g48) rfl ?_
                      obtain ⟨v49, hv49, e⟩ := zb_bind e
                      refine Wp.sl (pc1 := 374) rfl hv49 rfl ?_
                      refine Wp.steps 4 (pc1 := 378) (lo1 := [some (.ref zm_SP), some (.ref 0), some (.ref 113), some (.int x3)]) (st1 := [.int (x3 + 2), .ref zm_SP, .int v49, .ref 113]) (h1 := mk g48) rfl ?_
                      obtain ⟨v50, hv50, e⟩ := zb_bind e
                      refine Wp.sl (pc1 := 379) rfl hv50 rfl ?_
                      obtain ⟨v51, g52, hvv51, e⟩ := zb_bpair e
                      refine Wp.ca (m := 143) (d1 := d + 9) (as := [.ref 113, .int v49, .int v50]) (rest := []) (st1 := [.int v51]) (pc1 := 382) rfl rfl rfl rfl rfl rfl rfl rfl (mk_rok rfl rfl rfl rfl) rfl rfl rfl (w_143 (sc := (some l)) (d := d + 7) v49 v50 g48 hvv51) ?_
                      refine Wp.steps 2 (pc1 := 1337) (lo1 := [some (.ref zm_SP), some (.ref 0), some (.ref 113), some (.int x3)]) (st1 := []) (h1 := mk g52) rfl ?_
                      exact w_198_1337 (l := l) (d := d) x3 g52 (d_198_18 l f) ih _ _ e Q K
                    · skip
                      rcases zb_if e with ⟨hc53, e⟩ | ⟨hc53, e⟩
                      · skip
                        refine Wp.swT (pc1 := 386) (w := 8) rfl hc53 rfl ?_
                        refine Wp.steps 5 (pc1 := 391) (lo1 := [some (.ref zm_SP), some (.ref 0), some (.ref 113), some (.int x3)]) (st1 := [.int (x3 + 1), .ref zm_SP, .ref 0]) (h1 := mk g) rfl ?_
                        obtain ⟨v54, hv54, e⟩ := zb_bind e
                        refine Wp.sl (pc1 := 392) rfl hv54 rfl ?_
                        refine Wp.steps 4 (pc1 := 396) (lo1 := [some (.ref zm_SP), some (.ref 0), some (.ref 113), some (.int x3)]) (st1 := [.int (x3 + 2), .ref zm_SP, .int v54, .ref 0]) (h1 := mk g) rfl ?_
                        obtain ⟨v55, hv55, e⟩ := zb_bind e
                        refine Wp.sl (pc1 := 397) rfl hv55 rfl ?_
                        obtain ⟨v56, g57, hvv56, e⟩ := zb_bpair e
                        refine Wp.ca (m := 62) (d1 := d + 9) (as := [.ref 0, .int v54, .int v55]) (rest := []) (st1 := [.int v56]) (pc1 := 400) rfl rfl rfl rfl rfl rfl rfl rfl (mk_rok rfl rfl rfl rfl) rfl rfl rfl (w_62 (sc := (some l)) (d := d + 8) v54 v55 g hvv56) ?_
                        refine Wp.steps 6 (pc1 := 406) (lo1 := [some (.ref zm_SP), some (.ref 0), some (.ref 113), some (.int x3)]) (st1 := [.int (x3 + 1), .ref zm_SP, .ref 113]) (h1 := mk g57) rfl ?_
                        obtain ⟨v58, hv58, e⟩ := zb_bind e
                        refine Wp.sl (pc1 := 407) rfl hv58 rfl ?_
                        refine Wp.steps 4 (pc1 := 411) (lo1 := [some (.ref zm_SP), some (.ref 0), some (.ref 113), some (.int x3)]) (st1 := [.int (x3 + 2), .ref zm_SP, .int v58, .ref 113]) (h1 := mk g57) rfl ?_
                        obtain ⟨v59, hv59, e⟩ := zb_bind e
                        refine Wp.sl (pc1 := 412) rfl hv59 rfl ?_
                        obtain ⟨v60, g61, hvv60, e⟩ := zb_bpair e
                        refine Wp.ca (m := 145) (d1 := d + 9) (as := [.ref 113, .int v58, .int v59]) (rest := []) (st1 := [.int v60]) (pc1 := 415) rfl rfl rfl rfl rfl rfl rfl rfl (mk_rok rfl rfl rfl rfl) rfl rfl rfl (w_145 (sc := (some l)) (d := d + 7) v58 v59 g57 hvv60) ?_
                        refine Wp.steps 2 (pc1 := 1337) (lo1 := [some (.ref zm_SP), some (.ref 0), some (.ref 113), some (.int x3)]) (st1 := []) (h1 := mk g61) rfl ?_
                        exact w_198_1337 (l := l) (d := d) x3 g61 (d_198_18 l f) ih _ _ e Q K
                      · skip
                        rcases zb_if e with ⟨hc62, e⟩ | ⟨hc62, e⟩
                        · skip
                          refine Wp.swT (pc1 := 419) (w := 9) rfl hc62 rfl ?_
                          refine Wp.steps 5 (pc1 := 424) (lo1 := [some (.ref zm_SP), some (.ref 0), some (.ref 113), some (.int x3)]) (st1 := [.int (x3 + 1), .ref zm_SP, .ref 0]) (h1 := mk g) rfl ?_
                          obtain ⟨v63, hv63, e⟩ := zb_bind e
                          refine Wp.sl (pc1 := 425) rfl hv63 rfl ?_
                          refine Wp.steps 4 (pc1 := 429) (lo1 := [some (.ref zm_SP), some (.ref 0), some (.ref 113), some (.int x3)]) (st1 := [.int (x3 + 2), .ref zm_SP, .int v63, .ref 0]) (h1 := mk g) rfl ?_
                          obtain ⟨v64, hv64, e⟩ := zb_bind e
                          refine Wp.sl (pc1 := 430) rfl hv64 rfl ?_
                          refine Wp.steps 4 (pc1 := 434) (lo1 := [some (.ref zm_SP), some (.ref 0), some (.ref 113), some (.int x3)]) (st1 := [.int (x3 + 3), .ref zm_SP, .int v64, .int v63, .ref 0]) (h1 := mk g) rfl ?_
                          obtain ⟨v65, hv65, e⟩ := zb_bind e
                          refine Wp.sl (pc1 := 435) rfl hv65 rfl ?_
                          refine Wp.steps 4 (pc1 := 439) (lo1 := [some (.ref zm_SP), some (.ref 0), some (.ref 113), some (.int x3)]) (st1 := [.int (x3 + 4), .ref zm_SP, .int v65, .int v64, .int v63, .ref 0]) (h1 := mk g) rfl ?_
                          obtain ⟨v66, hv66, e⟩ := zb_bind e
                          refine Wp.sl (pc1 := 440) rfl hv66 rfl ?_
                          refine Wp.steps 4 (pc1 := 444) (lo1 := [some (.ref zm_SP), some (.ref 0), some (.ref 113), some (.int x3)]) (st1 := [.int (x3 + 5), .ref zm_SP, .int v66, .int v65, .int v64, .int v63, .ref 0]) (h1 := mk g) rfl ?_
                          obtain ⟨v67, hv67, e⟩ := zb_bind e
                          refine Wp.sl (pc1 := 445) rfl hv67 rfl ?_
                          obtain ⟨v68, g69, hvv68, e⟩ := zb_bpair e
                          refine Wp.ca (m := 63) (d1 := d + 9) (as := [.ref 0, .int v63, .int v64, .int v65, .int v66, .int v67]) (rest := []) (st1 := [.int v68]) (pc1 := 448) rfl rfl rfl rfl rfl rfl rfl rfl (mk_rok rfl rfl rfl rfl) rfl rfl rfl (w_63 (sc := (some l)) (d := d + 8) v63 v64 v65 v66 v67 g hvv68) ?_
                          refine Wp.steps 6 (pc1 := 454) (lo1 := [some (.ref zm_SP), some (.ref 0), some (.ref 113), some (.int x3)]) (st1 := [.int (x3 + 1), .ref zm_SP, .ref 113]) (h1 := mk g69) rfl ?_
                          obtain ⟨v70, hv70, e⟩ := zb_bind e
                          refine Wp.sl (pc1 := 455) rfl hv70 rfl ?_
                          refine Wp.steps 4 (pc1 := 459) (lo1 := [some (.ref zm_SP), some (.ref 0), some (.ref 113), some (.int x3)]) (st1 := [.int (x3 + 2), .ref zm_SP, .int v70, .ref 113]) (h1 := mk g69) rfl ?_
                          obtain ⟨v71, hv71, e⟩ := zb_bind e
                          refine Wp.sl (pc1 := 460) rfl hv71 rfl ?_
                          refine Wp.steps 4 (pc1 := 464) (lo1 := [some (.ref zm_SP), some (.ref 0), some (.ref 113), some (.int x3)]) (st1 := [.int (x3 + 3), .ref zm_SP, .int v71, .int v70, .ref 113]) (h1 := mk g69) rfl ?_
                          obtain ⟨v72, hv72, e⟩ := zb_bind e
                          refine Wp.sl (pc1 := 465) rfl hv72 rfl ?_
                          refine Wp.steps 4 (pc1 := 469) (lo1 := [some (.ref zm_SP), some (.ref 0), some (.ref 113), some (.int x3)]) (st1 := [.int (x3 + 4), .ref zm_SP, .int v72, .int v71, .int v70, .ref 113]) (h1 := mk g69) rfl ?_
                          obtain ⟨v73, hv73, e⟩ := zb_bind e
                          refine Wp.sl (pc1 := 470) rfl hv73 rfl ?_
                          refine Wp.steps 4 (pc1 := 474) (lo1 := [some (.ref zm_SP), some (.ref 0), some (.ref 113), some (.int x3)]) (st1 := [.int (x3 + 5), .ref zm_SP, .int v73, .int v72, .int v71, .int v70, .ref 113]) (h1 := mk g69) rfl ?_
                          obtain ⟨v74, hv74, e⟩ := zb_bind e
                          refine Wp.sl (pc1 := 475) rfl hv74 rfl ?_
                          obtain ⟨v75, g76, hvv75, e⟩ := zb_bpair e
                          refine Wp.ca (m := 146) (d1 := d + 9) (as := [.ref 113, .int v70, .int v71, .int v72, .int v73, .int v74]) (rest := []) (st1 := [.int v75]) (pc1 := 478) rfl rfl rfl rfl rfl rfl rfl rfl (mk_rok rfl rfl rfl rfl) rfl rfl rfl (w_146 (sc := (some l)) (d := d + 7) v70 v71 v72 v73 v74 g69 hvv75) ?_
                          refine Wp.steps 2 (pc1 := 1337) (lo1 := [some (.ref zm_SP), some (.ref 0), some (.ref 113), some (.int x3)]) (st1 := []) (h1 := mk g76) rfl ?_
                          exact w_198_1337 (l := l) (d := d) x3 g76 (d_198_18 l f) ih _ _ e Q K
                        · skip
                          rcases zb_if e with ⟨hc77, e⟩ | ⟨hc77, e⟩
                          · skip
                            refine Wp.swT (pc1 := 482) (w := 10) rfl hc77 rfl ?_
                            refine Wp.steps 5 (pc1 := 487) (lo1 := [some (.ref zm_SP), some (.ref 0), some (.ref 113), some (.int x3)]) (st1 := [.int (x3 + 1), .ref zm_SP, .ref 0]) (h1 := mk g) rfl ?_
                            obtain ⟨v78, hv78, e⟩ := zb_bind e
                            refine Wp.sl (pc1 := 488) rfl hv78 rfl ?_
                            refine Wp.steps 4 (pc1 := 492) (lo1 := [some (.ref zm_SP), some (.ref 0), some (.ref 113), some (.int x3)]) (st1 := [.int (x3 + 2), .ref zm_SP, .int v78, .ref 0]) (h1 := mk g) rfl ?_
                            obtain ⟨v79, hv79, e⟩ := zb_bind e
                            refine Wp.sl (pc1 := 493) rfl hv79 rfl ?_
                            obtain ⟨v80, g81, hvv80, e⟩ := zb_bpair e
                            refine Wp.ca (m := 64) (d1 := d + 9) (as := [.ref 0, .int v78, .int v79]) (rest := []) (st1 := [.int v80]) (pc1 := 496) rfl rfl rfl rfl rfl rfl rfl rfl (mk_rok rfl rfl rfl rfl) rfl rfl rfl (w_64 (sc := (some l)) (d := d + 8) v78 v79 g hvv80) ?_
                            refine Wp.steps 6 (pc1 := 502) (lo1 := [some (.ref zm_SP), some (.ref 0), some (.ref 113), some (.int x3)]) (st1 := [.int (x3 + 1), .ref zm_SP, .ref 113]) (h1 := mk g81) rfl ?_
                            obtain ⟨v82, hv82, e⟩ := zb_bind e
                            refine Wp.sl (pc1 := 503) rfl hv82 rfl ?_
                            refine Wp.steps 4 (pc1 := 507) (lo1 := [some (.ref zm_SP), some (.ref 0), some (.ref 113), some (.int x3)]) (st1 := [.int (x3 + 2), .ref zm_SP, .int v82, .ref 113]) (h1 := mk g81) rfl ?_
                            obtain ⟨v83, hv83, e⟩ := zb_bind e
                            refine Wp.sl (pc1 := 508) rfl hv83 rfl ?_
                            obtain ⟨v84, g85, hvv84, e⟩ := zb_bpair e
                            refine Wp.ca (m := 147) (d1 := d + 9) (as := [.ref 113, .int v82, .int v83]) (rest := []) (st1 := [.int v84]) (pc1 := 511) rfl rfl rfl rfl rfl rfl rfl rfl (mk_rok rfl rfl rfl rfl) rfl rfl rfl (w_147 (sc := (some l)) (d := d + 7) v82 v83 g81 hvv84) ?_
                            refine Wp.steps 2 (pc1 := 1337) (lo1 := [some (.ref zm_SP), some (.ref 0), some (.ref 113), some (.int x3)]) (st1 := []) (h1 := mk g85) rfl ?_
                            exact w_198_1337 (l := l) (d := d) x3 g85 (d_198_18 l f) ih _ _ e Q K
                          · skip
                            rcases zb_if e with ⟨hc86, e⟩ | ⟨hc86, e⟩
                            · skip
                              refine Wp.swT (pc1 := 515) (w := 11) rfl hc86 rfl ?_
                              refine Wp.steps 5 (pc1 := 520) (lo1 := [some (.ref zm_SP), some (.ref 0), some (.ref 113), some (.int x3)]) (st1 := [.int (x3 + 1), .ref zm_SP, .ref 0]) (h1 := mk g) rfl ?_
                              obtain ⟨v87, hv87, e⟩ := zb_bind e
                              refine Wp.sl (pc1 := 521) rfl hv87 rfl ?_
                              refine Wp.steps 4 (pc1 := 525) (lo1 := [some (.ref zm_SP), some (.ref 0), some (.ref 113), some (.int x3)]) (st1 := [.int (x3 + 2), .ref zm_SP, .int v87, .ref 0]) (h1 := mk g) rfl ?_
                              obtain ⟨v88, hv88, e⟩ := zb_bind e
                              refine Wp.sl (pc1 := 526) rfl hv88 rfl ?_
                              obtain ⟨v89, g90, hvv89, e⟩ := zb_bpair e
                              refine Wp.ca (m := 65) (d1 := d + 9) (as := [.ref 0, .int v87, .int v88]) (rest := []) (st1 := [.int v89]) (pc1 := 529) rfl rfl rfl rfl rfl rfl rfl rfl (mk_rok rfl rfl rfl rfl) rfl rfl rfl (w_65 (sc := (some l)) (d := d + 7) v87 v88 g hvv89) ?_
                              refine Wp.steps 6 (pc1 := 535) (lo1 := [some (.ref zm_SP), some (.ref 0), some (.ref 113), some (.int x3)]) (st1 := [.int (x3 + 1), .ref zm_SP, .ref 113]) (h1 := mk g90) rfl ?_
                              obtain ⟨v91, hv91, e⟩ := zb_bind e
                              refine Wp.sl (pc1 := 536) rfl hv91 rfl ?_
                              refine Wp.steps 4 (pc1 := 540) (lo1 := [some (.ref zm_SP), some (.ref 0), some (.ref 113), some (.int x3)]) (st1 := [.int (x3 + 2), .ref zm_SP, .int v91, .ref 113]) (h1 := mk g90) rfl ?_
                              obtain ⟨v92, hv92, e⟩ := zb_bind e
                              refine Wp.sl (pc1 := 541) rfl hv92 rfl ?_
                              obtain ⟨v93, g94, hvv93, e⟩ := zb_bpair e
                              refine Wp.ca (m := 148) (d1 := d + 9) (as := [.ref 113, .int v91, .int v92]) (rest := []) (st1 := [.int v93]) (pc1 := 544) rfl rfl rfl rfl rfl rfl rfl rfl (mk_rok rfl rfl rfl rfl) rfl rfl rfl (w_148 (sc := (some l)) (d := d + 7) v91 v92 g90 hvv93) ?_
                              refine Wp.steps 2 (pc1 := 1337) (lo1 := [some (.ref zm_SP), some (.ref 0), some (.ref 113), some (.int x3)]) (st1 := []) (h1 := mk g94) rfl ?_
                              exact w_198_1337 (l := l) (d := d) x3 g94 (d_198_18 l f) ih _ _ e Q K
                            · skip
                              rcases zb_if e with ⟨hc95, e⟩ | ⟨hc95, e⟩
                              · skip
                                refine Wp.swT (pc1 := 548) (w := 12) rfl hc95 rfl ?_
                                refine Wp.steps 5 (pc1 := 553) (lo1 := [some (.ref zm_SP), some (.ref 0), some (.ref 113), some (.int x3)]) (st1 := [.int (x3 + 1), .ref zm_SP, .ref 0]) (h1 := mk g) rfl ?_
                                obtain ⟨v96, hv96, e⟩ := zb_bind e
                                refine Wp.sl (pc1 := 554) rfl hv96 rfl ?_
                                refine Wp.steps 4 (pc1 := 558) (lo1 := [some (.ref zm_SP), some (.ref 0), some (.ref 113), some (.int x3)]) (st1 := [.int (x3 + 2), .ref zm_SP, .int v96, .ref 0]) (h1 := mk g) rfl ?_
                                obtain ⟨v97, hv97, e⟩ := zb_bind e
                                refine Wp.sl (pc1 := 559) rfl hv97 rfl ?_
                                obtain ⟨v98, g99, hvv98, e⟩ := zb_bpair e
                                refine Wp.ca (m := 66) (d1 := d + 9) (as := [.ref 0, .int v96, .int v97]) (rest := []) (st1 := [.int v98]) (pc1 := 562) rfl rfl rfl rfl rfl rfl rfl rfl (mk_rok rfl rfl rfl rfl) rfl rfl rfl (w_66 (sc := (some l)) (d := d + 8) v96 v97 g hvv98) ?_
                                refine Wp.steps 6 (pc1 := 568) (lo1 := [some (.ref zm_SP), some (.ref 0), some (.ref 113), some (.int x3)]) (st1 := [.int (x3 + 1), .ref zm_SP, .ref 113]) (h1 := mk g99) rfl ?_
                                obtain ⟨v100, hv100, e⟩ := zb_bind e
                                refine Wp.sl (pc1 := 569) rfl hv100 rfl ?_
                                refine Wp.steps 4 (pc1 := 573) (lo1 := [some (.ref zm_SP), some (.ref 0), some (.ref 113), some (.int x3)]) (st1 := [.int (x3 + 2), .ref zm_SP, .int v100, .ref 113]) (h1 := mk g99) rfl ?_
                                obtain ⟨v101, hv101, e⟩ := zb_bind e
                                refine Wp.sl (pc1 := 574) rfl hv101 rfl ?_
                                obtain ⟨v102, g103, hvv102, e⟩ := zb_bpair e
                                refine Wp.ca (m := 149) (d1 := d + 9) (as := [.ref 113, .int v100, .int v101]) (rest := []) (st1 := [.int v102]) (pc1 := 577) rfl rfl rfl rfl rfl rfl rfl rfl (mk_rok rfl rfl rfl rfl) rfl rfl rfl (w_149 (sc := (some l)) (d := d + 7) v100 v101 g99 hvv102) ?_
                                refine Wp.steps 2 (pc1 := 1337) (lo1 := [some (.ref zm_SP), some (.ref 0), some (.ref 113), some (.int x3)]) (st1 := []) (h1 := mk g103) rfl ?_
                                exact w_198_1337 (l := l) (d := d) x3 g103 (d_198_18 l f) ih _ _ e Q K
                              · skip
                                rcases zb_if e with ⟨hc104, e⟩ | ⟨hc104, e⟩
                                · skip
                                  refine Wp.swT (pc1 := 581) (w := 13) rfl hc104 rfl ?_
                                  refine Wp.steps 5 (pc1 := 586) (lo1 := [some (.ref zm_SP), some (.ref 0), some (.ref 113), some (.int x3)]) (st1 := [.int (x3 + 1), .ref zm_SP, .ref 0]) (h1 := mk g) rfl ?_
                                  obtain ⟨v105, hv105, e⟩ := zb_bind e
                                  refine Wp.sl (pc1 := 587) rfl hv105 rfl ?_
                                  refine Wp.steps 4 (pc1 := 591) (lo1 := [some (.ref zm_SP), some (.ref 0), some (.ref 113), some (.int x3)]) (st1 := [.int (x3 + 2), .ref zm_SP, .int v105, .ref 0]) (h1 := mk g) rfl ?_
                                  obtain ⟨v106, hv106, e⟩ := zb_bind e
                                  refine Wp.sl (pc1 := 592) rfl hv106 rfl ?_
                                  refine Wp.steps 4 (pc1 := 596) (lo1 := [some (.ref zm_SP), some (.ref 0), some (.ref 113), some (.int x3)]) (st1 := [.int (x3 + 3), .ref zm_SP, .int v106, .int v105, .ref 0]) (h1 := mk g) rfl ?_
                                  obtain ⟨v107, hv107, e⟩ := zb_bind e
                                  refine Wp.sl (pc1 := 597) rfl hv107 rfl ?_
                                  obtain ⟨v108, hvv108, e⟩ := zb_bind e
                                  refine Wp.ca (m := 67) (d1 := d + 9) (as := [.ref 0, .int v105, .int v106, .int v107]) (rest := []) (st1 := [.int v108]) (pc1 := 600) rfl rfl rfl rfl rfl rfl rfl rfl (mk_rok rfl rfl rfl rfl) rfl rfl rfl (w_67 (sc := (some l)) (d := d + 6) v105 v106 v107 g hvv108) ?_
                                  refine Wp.steps 6 (pc1 := 606) (lo1 := [some (.ref zm_SP), some (.ref 0), some (.ref 113), some (.int x3)]) (st1 := [.int (x3 + 1), .ref zm_SP, .ref 113]) (h1 := mk g) rfl ?_
                                  obtain ⟨v109, hv109, e⟩ := zb_bind e
                                  refine Wp.sl (pc1 := 607) rfl hv109 rfl ?_
                                  refine Wp.steps 4 (pc1 := 611) (lo1 := [some (.ref zm_SP), some (.ref 0), some (.ref 113), some (.int x3)]) (st1 := [.int (x3 + 2), .ref zm_SP, .int v109, .ref 113]) (h1 := mk g) rfl ?_
                                  obtain ⟨v110, hv110, e⟩ := zb_bind e
                                  refine Wp.sl (pc1 := 612) rfl hv110 rfl ?_
                                  refine Wp.steps 4 (pc1 := 616) (lo1 := [some (.ref zm_SP), some (.ref 0), some (.ref 113), some (.int x3)]) (st1 := [.int (x3 + 3), .ref zm_SP, .int v110, .int v109, .ref 113]) (h1 := mk g) rfl ?_
                                  obtain ⟨v111, hv111, e⟩ := zb_bind e
                                  refine Wp.sl (pc1 := 617) rfl hv111 rfl ?_
                                  obtain ⟨v112, hvv112, e⟩ := zb_bind e
                                  refine Wp.ca (m := 153) (d1 := d + 9) (as := [.ref 113, .int v109, .int v110, .int v111]) (rest := []) (st1 := [.int v112]) (pc1 := 620) rfl rfl rfl rfl rfl rfl rfl rfl (mk_rok rfl rfl rfl rfl) rfl rfl rfl (w_153 (sc := (some l)) (d := d + 7) v109 v110 v111 g hvv112) ?_
                                  refine Wp.steps 2 (pc1 := 1337) (lo1 := [some (.ref zm_SP), some (.ref 0), some (.ref 113), some (.int x3)]) (st1 := []) (h1 := mk g) rfl ?_
                                  exact w_198_1337 (l := l) (d := d) x3 g (d_198_18 l f) ih _ _ e Q K
                                · skip
                                  rcases zb_if e with ⟨hc113, e⟩ | ⟨hc113, e⟩
                                  · skip
                                    refine Wp.swT (pc1 := 624) (w := 14) rfl hc113 rfl ?_
                                    refine Wp.steps 5 (pc1 := 629) (lo1 := [some (.ref zm_SP), some (.ref 0), some (.ref 113), some (.int x3)]) (st1 := [.int (x3 + 1), .ref zm_SP, .ref 0]) (h1 := mk g) rfl ?_
                                    obtain ⟨v114, hv114, e⟩ := zb_bind e
                                    refine Wp.sl (pc1 := 630) rfl hv114 rfl ?_
                                    obtain ⟨v115, g116, hvv115, e⟩ := zb_bpair e
                                    refine Wp.ca (m := 68) (d1 := d + 9) (as := [.ref 0, .int v114]) (rest := []) (st1 := [.int v115]) (pc1 := 633) rfl rfl rfl rfl rfl rfl rfl rfl (mk_rok rfl rfl rfl rfl) rfl rfl rfl (w_68 (sc := (some l)) (d := d + 5) v114 g hvv115) ?_
                                    refine Wp.steps 6 (pc1 := 639) (lo1 := [some (.ref zm_SP), some (.ref 0), some (.ref 113), some (.int x3)]) (st1 := [.int (x3 + 1), .ref zm_SP, .ref 113]) (h1 := mk g116) rfl ?_
                                    obtain ⟨v117, hv117, e⟩ := zb_bind e
                                    refine Wp.sl (pc1 := 640) rfl hv117 rfl ?_
                                    obtain ⟨v118, hvv118, e⟩ := zb_bind e
                                    refine Wp.ca (m := 154) (d1 := d + 9) (as := [.ref 113, .int v117]) (rest := []) (st1 := [.int v118]) (pc1 := 643) rfl rfl rfl rfl rfl rfl rfl rfl (mk_rok rfl rfl rfl rfl) rfl rfl rfl (w_154 (sc := (some l)) (d := d + 5) v117 g116 hvv118) ?_
                                    refine Wp.steps 2 (pc1 := 1337) (lo1 := [some (.ref zm_SP), some (.ref 0), some (.ref 113), some (.int x3)]) (st1 := []) (h1 := mk g116) rfl ?_
                                    exact w_198_1337 (l := l) (d := d) x3 g116 (d_198_18 l f) ih _ _ e Q K
                                  · skip
                                    rcases zb_if e with ⟨hc119, e⟩ | ⟨hc119, e⟩
                                    · skip
                                      refine Wp.swT (pc1 := 647) (w := 15) rfl hc119 rfl ?_
                                      refine Wp.steps 5 (pc1 := 652) (lo1 := [some (.ref zm_SP), some (.ref 0), some (.ref 113), some (.int x3)]) (st1 := [.int (x3 + 1), .ref zm_SP, .ref 0]) (h1 := mk g) rfl ?_
                                      obtain ⟨v120, hv120, e⟩ := zb_bind e
                                      refine Wp.sl (pc1 := 653) rfl hv120 rfl ?_
                                      refine Wp.steps 4 (pc1 := 657) (lo1 := [some (.ref zm_SP), some (.ref 0), some (.ref 113), some (.int x3)]) (st1 := [.int (x3 + 2), .ref zm_SP, .int v120, .ref 0]) (h1 := mk g) rfl ?_
                                      obtain ⟨v121, hv121, e⟩ := zb_bind e
                                      refine Wp.sl (pc1 := 658) rfl hv121 rfl ?_
                                      obtain ⟨v122, g123, hvv122, e⟩ := zb_bpair e
                                      refine Wp.ca (m := 69) (d1 := d + 9) (as := [.ref 0, .int v120, .int v121]) (rest := []) (st1 := [.int v122]) (pc1 := 661) rfl rfl rfl rfl rfl rfl rfl rfl (mk_rok rfl rfl rfl rfl) rfl rfl rfl (w_69 (sc := (some l)) (d := d + 5) v120 v121 g hvv122) ?_
                                      refine Wp.steps 6 (pc1 := 667) (lo1 := [some (.ref zm_SP), some (.ref 0), some (.ref 113), some (.int x3)]) (st1 := [.int (x3 + 1), .ref zm_SP, .ref 113]) (h1 := mk g123) rfl ?_
                                      obtain ⟨v124, hv124, e⟩ := zb_bind e
                                      refine Wp.sl (pc1 := 668) rfl hv124 rfl ?_
                                      refine Wp.steps 4 (pc1 := 672) (lo1 := [some (.ref zm_SP), some (.ref 0), some (.ref 113), some (.int x3)]) (st1 := [.int (x3 + 2), .ref zm_SP, .int v124, .ref 113]) (h1 := mk g123) rfl ?_
                                      obtain ⟨v125, hv125, e⟩ := zb_bind e
                                      refine Wp.sl (pc1 := 673) rfl hv125 rfl ?_
                                      obtain ⟨v126, hvv126, e⟩ := zb_bind e
                                      refine Wp.ca (m := 156) (d1 := d + 9) (as := [.ref 113, .int v124, .int v125]) (rest := []) (st1 := [.int v126]) (pc1 := 676) rfl rfl rfl rfl rfl rfl rfl rfl (mk_rok rfl rfl rfl rfl) rfl rfl rfl (w_156 (sc := (some l)) (d := d + 6) v124 v125 g123 hvv126) ?_
                                      refine Wp.steps 2 (pc1 := 1337) (lo1 := [some (.ref zm_SP), some (.ref 0), some (.ref 113), some (.int x3)]) (st1 := []) (h1 := mk g123) rfl ?_
                                      exact w_198_1337 (l := l) (d := d) x3 g123 (d_198_18 l f) ih _ _ e Q K
                                    · skip
                                      rcases zb_if e with ⟨hc127, e⟩ | ⟨hc127, e⟩
                                      · skip
                                        refine Wp.swT (pc1 := 680) (w := 16) rfl hc127 rfl ?_
                                        refine Wp.steps 5 (pc1 := 685) (lo1 := [some (.ref zm_SP), some (.ref 0), some (.ref 113), some (.int x3)]) (st1 := [.int (x3 + 1), .ref zm_SP, .ref 0]) (h1 := mk g) rfl ?_
                                        obtain ⟨v128, hv128, e⟩ := zb_bind e
                                        refine Wp.sl (pc1 := 686) rfl hv128 rfl ?_
                                        obtain ⟨v129, g130, hvv129, e⟩ := zb_bpair e
                                        refine Wp.ca (m := 70) (d1 := d + 9) (as := [.ref 0, .int v128]) (rest := []) (st1 := [.int v129]) (pc1 := 689) rfl rfl rfl rfl rfl rfl rfl rfl (mk_rok rfl rfl rfl rfl) rfl rfl rfl (w_70 (sc := (some l)) (d := d + 5) v128 g hvv129) ?_
                                        refine Wp.steps 6 (pc1 := 695) (lo1 := [some (.ref zm_SP), some (.ref 0), some (.ref 113), some (.int x3)]) (st1 := [.int (x3 + 1), .ref zm_SP, .ref 113]) (h1 := mk g130) rfl ?_
                                        obtain ⟨v131, hv131, e⟩ := zb_bind e
                                        refine Wp.sl (pc1 := 696) rfl hv131 rfl ?_
                                        obtain ⟨v132, hvv132, e⟩ := zb_bind e
                                        refine Wp.ca (m := 160) (d1 := d + 9) (as := [.ref 113, .int v131]) (rest := []) (st1 := [.int v132]) (pc1 := 699) rfl rfl rfl rfl rfl rfl rfl rfl (mk_rok rfl rfl rfl rfl) rfl rfl rfl (w_160 (sc := (some l)) (d := d + 4) v131 g130 hvv132) ?_
                                        refine Wp.steps 2 (pc1 := 1337) (lo1 := [some (.ref zm_SP), some (.ref 0), some (.ref 113), some (.int x3)]) (st1 := []) (h1 := mk g130) rfl ?_
                                        exact w_198_1337 (l := l) (d := d) x3 g130 (d_198_18 l f) ih _ _ e Q K
                                      · skip
                                        rcases zb_if e with ⟨hc133, e⟩ | ⟨hc133, e⟩
                                        · skip
                                          refine Wp.swT (pc1 := 703) (w := 17) rfl hc133 rfl ?_
                                          refine Wp.steps 1 (pc1 := 704) (lo1 := [some (.ref zm_SP), some (.ref 0), some (.ref 113), some (.int x3)]) (st1 := [.ref 0]) (h1 := mk g) rfl ?_
                                          obtain ⟨v134, g135, hvv134, e⟩ := zb_bpair e
                                          refine Wp.ca (m := 71) (d1 := d + 9) (as := [.ref 0]) (rest := []) (st1 := [.int v134]) (pc1 := 707) rfl rfl rfl rfl rfl rfl rfl rfl (mk_rok rfl rfl rfl rfl) rfl rfl rfl (w_71 (sc := (some l)) (d := d + 5)  g hvv134) ?_
                                          refine Wp.steps 2 (pc1 := 709) (lo1 := [some (.ref zm_SP), some (.ref 0), some (.ref 113), some (.int x3)]) (st1 := [.ref 113]) (h1 := mk g135) rfl ?_
                                          obtain ⟨v136, hvv136, e⟩ := zb_bind e
                                          refine Wp.ca (m := 162) (d1 := d + 9) (as := [.ref 113]) (rest := []) (st1 := [.int v136]) (pc1 := 712) rfl rfl rfl rfl rfl rfl rfl rfl (mk_rok rfl rfl rfl rfl) rfl rfl rfl (w_162 (sc := (some l)) (d := d + 5)  g135 hvv136) ?_
                                          refine Wp.steps 2 (pc1 := 1337) (lo1 := [some (.ref zm_SP), some (.ref 0), some (.ref 113), some (.int x3)]) (st1 := []) (h1 := mk g135) rfl ?_
                                          exact w_198_1337 (l := l) (d := d) x3 g135 (d_198_18 l f) ih _ _ e Q K
                                        · skip
                                          rcases zb_if e with ⟨hc137, e⟩ | ⟨hc137, e⟩
                                          · skip
                                            refine Wp.swT (pc1 := 716) (w := 18) rfl hc137 rfl ?_
                                            refine Wp.steps 5 (pc1 := 721) (lo1 := [some (.ref zm_SP), some (.ref 0), some (.ref 113), some (.int x3)]) (st1 := [.int (x3 + 1), .ref zm_SP, .ref 0]) (h1 := mk g) rfl ?_
                                            obtain ⟨v138, hv138, e⟩ := zb_bind e
                                            refine Wp.sl (pc1 := 722) rfl hv138 rfl ?_
                                            obtain ⟨v139, g140, hvv139, e⟩ := zb_bpair e
                                            refine Wp.ca (m := 72) (d1 := d + 9) (as := [.ref 0, .int v138]) (rest := []) (st1 := [.int v139]) (pc1 := 725) rfl rfl rfl rfl rfl rfl rfl rfl (mk_rok rfl rfl rfl rfl) rfl rfl rfl (w_72 (sc := (some l)) (d := d + 5) v138 g hvv139) ?_
                                            refine Wp.steps 6 (pc1 := 731) (lo1 := [some (.ref zm_SP), some (.ref 0), some (.ref 113), some (.int x3)]) (st1 := [.int (x3 + 1), .ref zm_SP, .ref 113]) (h1 := mk g140) rfl ?_
                                            obtain ⟨v141, hv141, e⟩ := zb_bind e
                                            refine Wp.sl (pc1 := 732) rfl hv141 rfl ?_
                                            obtain ⟨v142, g143, hvv142, e⟩ := zb_bpair e
                                            refine Wp.ca (m := 165) (d1 := d + 9) (as := [.ref 113, .int v141]) (rest := []) (st1 := [.int v142]) (pc1 := 735) rfl rfl rfl rfl rfl rfl rfl rfl (mk_rok rfl rfl rfl rfl) rfl rfl rfl (w_165 (sc := (some l)) (d := d + 5) v141 g140 hvv142) ?_
                                            refine Wp.steps 2 (pc1 := 1337) (lo1 := [some (.ref zm_SP), some (.ref 0), some (.ref 113), some (.int x3)]) (st1 := []) (h1 := mk g143) rfl ?_
                                            exact w_198_1337 (l := l) (d := d) x3 g143 (d_198_18 l f) ih _ _ e Q K
                                          · skip
                                            rcases zb_if e with ⟨hc144, e⟩ | ⟨hc144, e⟩
                                            · skip
                                              refine Wp.swT (pc1 := 739) (w := 19) rfl hc144 rfl ?_
                                              refine Wp.steps 5 (pc1 := 744) (lo1 := [some (.ref zm_SP), some (.ref 0), some (.ref 113), some (.int x3)]) (st1 := [.int (x3 + 1), .ref zm_SP, .ref 0]) (h1 := mk g) rfl ?_
                                              obtain ⟨v145, hv145, e⟩ := zb_bind e
                                              refine Wp.sl (pc1 := 745) rfl hv145 rfl ?_
                                              obtain ⟨v146, g147, hvv146, e⟩ := zb_bpair e
                                              refine Wp.ca (m := 73) (d1 := d + 9) (as := [.ref 0, .int v145]) (rest := []) (st1 := [.int v146]) (pc1 := 748) rfl rfl rfl rfl rfl rfl rfl rfl (mk_rok rfl rfl rfl rfl) rfl rfl rfl (w_73 (sc := (some l)) (d := d + 5) v145 g hvv146) ?_
                                              refine Wp.steps 6 (pc1 := 754) (lo1 := [some (.ref zm_SP), some (.ref 0), some (.ref 113), some (.int x3)]) (st1 := [.int (x3 + 1), .ref zm_SP, .ref 113]) (h1 := mk g147) rfl ?_
                                              obtain ⟨v148, hv148, e⟩ := zb_bind e
                                              refine Wp.sl (pc1 := 755) rfl hv148 rfl ?_
                                              obtain ⟨v149, g150, hvv149, e⟩ := zb_bpair e
                                              refine Wp.ca (m := 167) (d1 := d + 9) (as := [.ref 113, .int v148]) (rest := []) (st1 := [.int v149]) (pc1 := 758) rfl rfl rfl rfl rfl rfl rfl rfl (mk_rok rfl rfl rfl rfl) rfl rfl rfl (w_167 (sc := (some l)) (d := d + 4) v148 g147 hvv149) ?_
                                              refine Wp.steps 2 (pc1 := 1337) (lo1 := [some (.ref zm_SP), some (.ref 0), some (.ref 113), some (.int x3)]) (st1 := []) (h1 := mk g150) rfl ?_
                                              exact w_198_1337 (l := l) (d := d) x3 g150 (d_198_18 l f) ih _ _ e Q K
                                            · skip
                                              rcases zb_if e with ⟨hc151, e⟩ | ⟨hc151, e⟩
                                              · skip
                                                refine Wp.swT (pc1 := 762) (w := 20) rfl hc151 rfl ?_
                                                refine Wp.steps 5 (pc1 := 767) (lo1 := [some (.ref zm_SP), some (.ref 0), some (.ref 113), some (.int x3)]) (st1 := [.int (x3 + 1), .ref zm_SP, .ref 0]) (h1 := mk g) rfl ?_
                                                obtain ⟨v152, hv152, e⟩ := zb_bind e
                                                refine Wp.sl (pc1 := 768) rfl hv152 rfl ?_
                                                refine Wp.steps 4 (pc1 := 772) (lo1 := [some (.ref zm_SP), some (.ref 0), some (.ref 113), some (.int x3)]) (st1 := [.int (x3 + 2), .ref zm_SP, .int v152, .ref 0]) (h1 := mk g) rfl ?_
                                                obtain ⟨v153, hv153, e⟩ := zb_bind e
                                                refine Wp.sl (pc1 := 773) rfl hv153 rfl ?_
                                                refine Wp.steps 4 (pc1 := 777) (lo1 := [some (.ref zm_SP), some (.ref 0), some (.ref 113), some (.int x3)]) (st1 := [.int (x3 + 3), .ref zm_SP, .int v153, .int v152, .ref 0]) (h1 := mk g) rfl ?_
                                                obtain ⟨v154, hv154, e⟩ := zb_bind e
                                                refine Wp.sl (pc1 := 778) rfl hv154 rfl ?_
                                                refine Wp.steps 4 (pc1 := 782) (lo1 := [some (.ref zm_SP), some (.ref 0), some (.ref 113), some (.int x3)]) (st1 := [.int (x3 + 4), .ref zm_SP, .int v154, .int v153, .int v152, .ref 0]) (h1 := mk g) rfl ?_
                                                obtain ⟨v155, hv155, e⟩ := zb_bind e
                                                refine Wp.sl (pc1 := 783) rfl hv155 rfl ?_
                                                obtain ⟨v156, g157, hvv156, e⟩ := zb_bpair e
                                                refine Wp.ca (m := 74) (d1 := d + 9) (as := [.ref 0, .int v152, .int v153, .int v154, .int v155]) (rest := []) (st1 := [.int v156]) (pc1 := 786) rfl rfl rfl rfl rfl rfl rfl rfl (mk_rok rfl rfl rfl rfl) rfl rfl rfl (w_74 (sc := (some l)) (d := d + 5) v152 v153 v154 v155 g hvv156) ?_
                                                refine Wp.steps 6 (pc1 := 792) (lo1 := [some (.ref zm_SP), some (.ref 0), some (.ref 113), some (.int x3)]) (st1 := [.int (x3 + 1), .ref zm_SP, .ref 113]) (h1 := mk g157) rfl ?_
                                                obtain ⟨v158, hv158, e⟩ := zb_bind e
                                                refine Wp.sl (pc1 := 793) rfl hv158 rfl ?_
                                                refine Wp.steps 4 (pc1 := 797) (lo1 := [some (.ref zm_SP), some (.ref 0), some (.ref 113), some (.int x3)]) (st1 := [.int (x3 + 2), .ref zm_SP, .int v158, .ref 113]) (h1 := mk g157) rfl ?_
                                                obtain ⟨v159, hv159, e⟩ := zb_bind e
                                                refine Wp.sl (pc1 := 798) rfl hv159 rfl ?_
                                                refine Wp.steps 4 (pc1 := 802) (lo1 := [some (.ref zm_SP), some (.ref 0), some (.ref 113), some (.int x3)]) (st1 := [.int (x3 + 3), .ref zm_SP, .int v159, .int v158, .ref 113]) (h1 := mk g157) rfl ?_
                                                obtain ⟨v160, hv160, e⟩ := zb_bind e
                                                refine Wp.sl (pc1 := 803) rfl hv160 rfl ?_
                                                refine Wp.steps 4 (pc1 := 807) (lo1 := [some (.ref zm_SP), some (.ref 0), some (.ref 113), some (.int x3)]) (st1 := [.int (x3 + 4), .ref zm_SP, .int v160, .int v159, .int v158, .ref 113]) (h1 := mk g157) rfl ?_
                                                obtain ⟨v161, hv161, e⟩ := zb_bind e
                                                refine Wp.sl (pc1 := 808) rfl hv161 rfl ?_
                                                obtain ⟨v162, hvv162, e⟩ := zb_bind e
                                                refine Wp.ca (m := 168) (d1 := d + 9) (as := [.ref 113, .int v158, .int v159, .int v160, .int v161]) (rest := []) (st1 := [.int v162]) (pc1 := 811) rfl rfl rfl rfl rfl rfl rfl rfl (mk_rok rfl rfl rfl rfl) rfl rfl rfl (w_168 (sc := (some l)) (d := d + 4) v158 v159 v160 v161 g157 hvv162) ?_
                                                refine Wp.steps 2 (pc1 := 1337) (lo1 := [some (.ref zm_SP), some (.ref 0), some (.ref 113), some (.int x3)]) (st1 := []) (h1 := mk g157) rfl ?_
                                                exact w_198_1337 (l := l) (d := d) x3 g157 (d_198_18 l f) ih _ _ e Q K
                                              · skip
                                                rcases zb_if e with ⟨hc163, e⟩ | ⟨hc163, e⟩
                                                · skip
                                                  refine Wp.swT (pc1 := 815) (w := 21) rfl hc163 rfl ?_
                                                  refine Wp.steps 5 (pc1 := 820) (lo1 := [some (.ref zm_SP), some (.ref 0), some (.ref 113), some (.int x3)]) (st1 := [.int (x3 + 1), .ref zm_SP, .ref 0]) (h1 := mk g) rfl ?_
                                                  obtain ⟨v164, hv164, e⟩ := zb_bind e
                                                  refine Wp.sl (pc1 := 821) rfl hv164 rfl ?_
                                                  refine Wp.steps 4 (pc1 := 825) (lo1 := [some (.ref zm_SP), some (.ref 0), some (.ref 113), some (.int x3)]) (st1 := [.int (x3 + 2), .ref zm_SP, .int v164, .ref 0]) (h1 := mk g) rfl ?_
                                                  obtain ⟨v165, hv165, e⟩ := zb_bind e
                                                  refine Wp.sl (pc1 := 826) rfl hv165 rfl ?_
                                                  obtain ⟨v166, g167, hvv166, e⟩ := zb_bpair e
                                                  refine Wp.ca (m := 75) (d1 := d + 9) (as := [.ref 0, .int v164, .int v165]) (rest := []) (st1 := [.int v166]) (pc1 := 829) rfl rfl rfl rfl rfl rfl rfl rfl (mk_rok rfl rfl rfl rfl) rfl rfl rfl (w_75 (sc := (some l)) (d := d + 4) v164 v165 g hvv166) ?_
                                                  refine Wp.steps 6 (pc1 := 835) (lo1 := [some (.ref zm_SP), some (.ref 0), some (.ref 113), some (.int x3)]) (st1 := [.int (x3 + 1), .ref zm_SP, .ref 113]) (h1 := mk g167) rfl ?_
                                                  obtain ⟨v168, hv168, e⟩ := zb_bind e
                                                  refine Wp.sl (pc1 := 836) rfl hv168 rfl ?_
                                                  refine Wp.steps 4 (pc1 := 840) (lo1 := [some (.ref zm_SP), some (.ref 0), some (.ref 113), some (.int x3)]) (st1 := [.int (x3 + 2), .ref zm_SP, .int v168, .ref 113]) (h1 := mk g167) rfl ?_
                                                  obtain ⟨v169, hv169, e⟩ := zb_bind e
                                                  refine Wp.sl (pc1 := 841) rfl hv169 rfl ?_
                                                  obtain ⟨v170, g171, hvv170, e⟩ := zb_bpair e
                                                  refine Wp.ca (m := 169) (d1 := d + 9) (as := [.ref 113, .int v168, .int v169]) (rest := []) (st1 := [.int v170]) (pc1 := 844) rfl rfl rfl rfl rfl rfl rfl rfl (mk_rok rfl rfl rfl rfl) rfl rfl rfl (w_169 (sc := (some l)) (d := d + 5) v168 v169 g167 hvv170) ?_
                                                  refine Wp.steps 2 (pc1 := 1337) (lo1 := [some (.ref zm_SP), some (.ref 0), some (.ref 113), some (.int x3)]) (st1 := []) (h1 := mk g171) rfl ?_
                                                  exact w_198_1337 (l := l) (d := d) x3 g171 (d_198_18 l f) ih _ _ e Q K
                                                · skip
                                                  rcases zb_if e with ⟨hc172, e⟩ | ⟨hc172, e⟩
                                                  · skip
                                                    refine Wp.swT (pc1 := 848) (w := 22) rfl hc172 rfl ?_
                                                    refine Wp.steps 5 (pc1 := 853) (lo1 := [some (.ref zm_SP), some (.ref 0), some (.ref 113), some (.int x3)]) (st1 := [.int (x3 + 1), .ref zm_SP, .ref 0]) (h1 := mk g) rfl ?_
                                                    obtain ⟨v173, hv173, e⟩ := zb_bind e
                                                    refine Wp.sl (pc1 := 854) rfl hv173 rfl ?_
                                                    refine Wp.steps 4 (pc1 := 858) (lo1 := [some (.ref zm_SP), some (.ref 0), some (.ref 113), some (.int x3)]) (st1 := [.int (x3 + 2), .ref zm_SP, .int v173, .ref 0]) (h1 := mk g) rfl ?_
                                                    obtain ⟨v174, hv174, e⟩ := zb_bind e
                                                    refine Wp.sl (pc1 := 859) rfl hv174 rfl ?_
                                                    refine Wp.steps 4 (pc1 := 863) (lo1 := [some (.ref zm_SP), some (.ref 0), some (.ref 113), some (.int x3)]) (st1 := [.int (x3 + 3), .ref zm_SP, .int v174, .int v173, .ref 0]) (h1 := mk g) rfl ?_
                                                    obtain ⟨v175, hv175, e⟩ := zb_bind e
                                                    refine Wp.sl (pc1 := 864) rfl hv175 rfl ?_
                                                    obtain ⟨v176, g177, hvv176, e⟩ := zb_bpair e
                                                    refine Wp.ca (m := 76) (d1 := d + 9) (as := [.ref 0, .int v173, .int v174, .int v175]) (rest := []) (st1 := [.int v176]) (pc1 := 867) rfl rfl rfl rfl rfl rfl rfl rfl (mk_rok rfl rfl rfl rfl) rfl rfl rfl (w_76 (sc := (some l)) (d := d + 5) v173 v174 v175 g hvv176) ?_
                                                    refine Wp.steps 6 (pc1 := 873) (lo1 := [some (.ref zm_SP), some (.ref 0), some (.ref 113), some (.int x3)]) (st1 := [.int (x3 + 1), .ref zm_SP, .ref 113]) (h1 := mk g177) rfl ?_
                                                    obtain ⟨v178, hv178, e⟩ := zb_bind e
                                                    refine Wp.sl (pc1 := 874) rfl hv178 rfl ?_
                                                    refine Wp.steps 4 (pc1 := 878) (lo1 := [some (.ref zm_SP), some (.ref 0), some (.ref 113), some (.int x3)]) (st1 := [.int (x3 + 2), .ref zm_SP, .int v178, .ref 113]) (h1 := mk g177) rfl ?_
                                                    obtain ⟨v179, hv179, e⟩ := zb_bind e
                                                    refine Wp.sl (pc1 := 879) rfl hv179 rfl ?_
                                                    refine Wp.steps 4 (pc1 := 883) (lo1 := [some (.ref zm_SP), some (.ref 0), some (.ref 113), some (.int x3)]) (st1 := [.int (x3 + 3), .ref zm_SP, .int v179, .int v178, .ref 113]) (h1 := mk g177) rfl ?_
                                                    obtain ⟨v180, hv180, e⟩ := zb_bind e
                                                    refine Wp.sl (pc1 := 884) rfl hv180 rfl ?_
                                                    obtain ⟨v181, hvv181, e⟩ := zb_bind e
                                                    refine Wp.ca (m := 170) (d1 := d + 9) (as := [.ref 113, .int v178, .int v179, .int v180]) (rest := []) (st1 := [.int v181]) (pc1 := 887) rfl rfl rfl rfl rfl rfl rfl rfl (mk_rok rfl rfl rfl rfl) rfl rfl rfl (w_170 (sc := (some l)) (d := d + 5) v178 v179 v180 g177 hvv181) ?_
                                                    refine Wp.steps 2 (pc1 := 1337) (lo1 := [some (.ref zm_SP), some (.ref 0), some (.ref 113), some (.int x3)]) (st1 := []) (h1 := mk g177) rfl ?_
                                                    exact w_198_1337 (l := l) (d := d) x3 g177 (d_198_18 l f) ih _ _ e Q K
                                                  · skip
                                                    rcases zb_if e with ⟨hc182, e⟩ | ⟨hc182, e⟩
                                                    · skip
                                                      refine Wp.swT (pc1 := 891) (w := 23) rfl hc182 rfl ?_
                                                      refine Wp.steps 5 (pc1 := 896) (lo1 := [some (.ref zm_SP), some (.ref 0), some (.ref 113), some (.int x3)]) (st1 := [.int (x3 + 1), .ref zm_SP, .ref 0]) (h1 := mk g) rfl ?_
                                                      obtain ⟨v183, hv183, e⟩ := zb_bind e
                                                      refine Wp.sl (pc1 := 897) rfl hv183 rfl ?_
                                                      obtain ⟨v184, g185, hvv184, e⟩ := zb_bpair e
                                                      refine Wp.ca (m := 77) (d1 := d + 9) (as := [.ref 0, .int v183]) (rest := []) (st1 := [.long v184]) (pc1 := 900) rfl rfl rfl rfl rfl rfl rfl rfl (mk_rok rfl rfl rfl rfl) rfl rfl rfl (w_77 (sc := (some l)) (d := d + 4) v183 g hvv184) ?_
                                                      refine Wp.steps 6 (pc1 := 906) (lo1 := [some (.ref zm_SP), some (.ref 0), some (.ref 113), some (.int x3)]) (st1 := [.int (x3 + 1), .ref zm_SP, .ref 113]) (h1 := mk g185) rfl ?_
                                                      obtain ⟨v186, hv186, e⟩ := zb_bind e
                                                      refine Wp.sl (pc1 := 907) rfl hv186 rfl ?_
                                                      obtain ⟨v187, hvv187, e⟩ := zb_bind e
                                                      refine Wp.ca (m := 173) (d1 := d + 9) (as := [.ref 113, .int v186]) (rest := []) (st1 := [.long v187]) (pc1 := 910) rfl rfl rfl rfl rfl rfl rfl rfl (mk_rok rfl rfl rfl rfl) rfl rfl rfl (w_173 (sc := (some l)) (d := d + 5) v186 g185 hvv187) ?_
                                                      refine Wp.steps 2 (pc1 := 1337) (lo1 := [some (.ref zm_SP), some (.ref 0), some (.ref 113), some (.int x3)]) (st1 := []) (h1 := mk g185) rfl ?_
                                                      exact w_198_1337 (l := l) (d := d) x3 g185 (d_198_18 l f) ih _ _ e Q K
                                                    · skip
                                                      rcases zb_if e with ⟨hc188, e⟩ | ⟨hc188, e⟩
                                                      · skip
                                                        refine Wp.swT (pc1 := 914) (w := 24) rfl hc188 rfl ?_
                                                        refine Wp.steps 5 (pc1 := 919) (lo1 := [some (.ref zm_SP), some (.ref 0), some (.ref 113), some (.int x3)]) (st1 := [.int (x3 + 1), .ref zm_SP, .ref 0]) (h1 := mk g) rfl ?_
                                                        obtain ⟨v189, hv189, e⟩ := zb_bind e
                                                        refine Wp.sl (pc1 := 920) rfl hv189 rfl ?_
                                                        refine Wp.steps 4 (pc1 := 924) (lo1 := [some (.ref zm_SP), some (.ref 0), some (.ref 113), some (.int x3)]) (st1 := [.int (x3 + 2), .ref zm_SP, .int v189, .ref 0]) (h1 := mk g) rfl ?_
                                                        obtain ⟨v190, hv190, e⟩ := zb_bind e
                                                        refine Wp.sl (pc1 := 925) rfl hv190 rfl ?_
                                                        refine Wp.steps 4 (pc1 := 929) (lo1 := [some (.ref zm_SP), some (.ref 0), some (.ref 113), some (.int x3)]) (st1 := [.int (x3 + 3), .ref zm_SP, .int v190, .int v189, .ref 0]) (h1 := mk g) rfl ?_
                                                        obtain ⟨v191, hv191, e⟩ := zb_bind e
                                                        refine Wp.sl (pc1 := 930) rfl hv191 rfl ?_
                                                        refine Wp.steps 4 (pc1 := 934) (lo1 := [some (.ref zm_SP), some (.ref 0), some (.ref 113), some (.int x3)]) (st1 := [.int (x3 + 4), .ref zm_SP, .int v191, .int v190, .int v189, .ref 0]) (h1 := mk g) rfl ?_
                                                        obtain ⟨v192, hv192, e⟩ := zb_bind e
                                                        refine Wp.sl (pc1 := 935) rfl hv192 rfl ?_
                                                        obtain ⟨v193, g194, hvv193, e⟩ := zb_bpair e
                                                        refine Wp.ca (m := 78) (d1 := d + 9) (as := [.ref 0, .int v189, .int v190, .int v191, .int v192]) (rest := []) (st1 := [.long v193]) (pc1 := 938) rfl rfl rfl rfl rfl rfl rfl rfl (mk_rok rfl rfl rfl rfl) rfl rfl rfl (w_78 (sc := (some l)) (d := d + 4) v189 v190 v191 v192 g hvv193) ?_
                                                        refine Wp.steps 5 (pc1 := 943) (lo1 := [some (.ref zm_SP), some (.ref 0), some (.ref 113), some (.int x3)]) (st1 := [.int (x3 + 1), .ref zm_SP, .ref 113, .long v193]) (h1 := mk g194) rfl ?_
                                                        obtain ⟨v195, hv195, e⟩ := zb_bind e
                                                        refine Wp.sl (pc1 := 944) rfl hv195 rfl ?_
                                                        refine Wp.steps 4 (pc1 := 948) (lo1 := [some (.ref zm_SP), some (.ref 0), some (.ref 113), some (.int x3)]) (st1 := [.int (x3 + 2), .ref zm_SP, .int v195, .ref 113, .long v193]) (h1 := mk g194) rfl ?_
                                                        obtain ⟨v196, hv196, e⟩ := zb_bind e
                                                        refine Wp.sl (pc1 := 949) rfl hv196 rfl ?_
                                                        refine Wp.steps 4 (pc1 := 953) (lo1 := [some (.ref zm_SP), some (.ref 0), some (.ref 113), some (.int x3)]) (st1 := [.int (x3 + 3), .ref zm_SP, .int v196, .int v195, .ref 113, .long v193]) (h1 := mk g194) rfl ?_
                                                        obtain ⟨v197, hv197, e⟩ := zb_bind e
                                                        refine Wp.sl (pc1 := 954) rfl hv197 rfl ?_
                                                        refine Wp.steps 4 (pc1 := 958) (lo1 := [some (.ref zm_SP), some (.ref 0), some (.ref 113), some (.int x3)]) (st1 := [.int (x3 + 4), .ref zm_SP, .int v197, .int v196, .int v195, .ref 113, .long v193]) (h1 := mk g194) rfl ?_
                                                        obtain ⟨v198, hv198, e⟩ := zb_bind e
                                                        refine Wp.sl (pc1 := 959) rfl hv198 rfl ?_
                                                        obtain ⟨v199, hvv199, e⟩ := zb_bind e
                                                        refine Wp.ca (m := 174) (d1 := d + 9) (as := [.ref 113, .int v195, .int v196, .int v197, .int v198]) (rest := [.long v193]) (st1 := [.long v199, .long v193]) (pc1 := 962) rfl rfl rfl rfl rfl rfl rfl rfl (mk_rok rfl rfl rfl rfl) rfl rfl rfl (w_174 (sc := (some l)) (d := d + 5) v195 v196 v197 v198 g194 hvv199) ?_
                                                        refine Wp.steps 1 (pc1 := 963) (lo1 := [some (.ref zm_SP), some (.ref 0), some (.ref 113), some (.int x3)]) (st1 := [.int (lg_cmp v193 v199)]) (h1 := mk g194) rfl ?_
                                                        rcases zb_if e with ⟨hc200, e⟩ | ⟨hc200, e⟩
                                                        · skip
                                                          refine Wp.iT (pc1 := 1337) rfl hc200 rfl ?_
                                                          exact w_198_1337 (l := l) (d := d) x3 g194 (d_198_18 l f) ih _ _ e Q K
                                                        · skip
                                                          refine Wp.iF (pc1 := 966) rfl hc200 rfl ?_
                                                          refine Wp.steps 1 (pc1 := 967) (lo1 := [some (.ref zm_SP), some (.ref 0), some (.ref 113), some (.int x3)]) (st1 := [.int 0]) (h1 := mk g194) rfl ?_
                                                          obtain ⟨e1, e2⟩ := zb_r2 e
                                                          subst e1
                                                          subst e2
                                                          exact Wp.ret rfl rfl rfl (K _)
                                                      · skip
                                                        rcases zb_if e with ⟨hc201, e⟩ | ⟨hc201, e⟩
                                                        · skip
                                                          refine Wp.swT (pc1 := 968) (w := 25) rfl hc201 rfl ?_
                                                          refine Wp.steps 5 (pc1 := 973) (lo1 := [some (.ref zm_SP), some (.ref 0), some (.ref 113), some (.int x3)]) (st1 := [.int (x3 + 1), .ref zm_SP, .ref 0]) (h1 := mk g) rfl ?_
                                                          obtain ⟨v202, hv202, e⟩ := zb_bind e
                                                          refine Wp.sl (pc1 := 974) rfl hv202 rfl ?_
                                                          refine Wp.steps 4 (pc1 := 978) (lo1 := [some (.ref zm_SP), some (.ref 0), some (.ref 113), some (.int x3)]) (st1 := [.int (x3 + 2), .ref zm_SP, .int v202, .ref 0]) (h1 := mk g) rfl ?_
                                                          obtain ⟨v203, hv203, e⟩ := zb_bind e
                                                          refine Wp.sl (pc1 := 979) rfl hv203 rfl ?_
                                                          refine Wp.steps 4 (pc1 := 983) (lo1 := [some (.ref zm_SP), some (.ref 0), some (.ref 113), some (.int x3)]) (st1 := [.int (x3 + 3), .ref zm_SP, .int v203, .int v202, .ref 0]) (h1 := mk g) rfl ?_
                                                          obtain ⟨v204, hv204, e⟩ := zb_bind e
                                                          refine Wp.sl (pc1 := 984) rfl hv204 rfl ?_
                                                          refine Wp.steps 4 (pc1 := 988) (lo1 := [some (.ref zm_SP), some (.ref 0), some (.ref 113), some (.int x3)]) (st1 := [.int (x3 + 4), .ref zm_SP, .int v204, .int v203, .int v202, .ref 0]) (h1 := mk g) rfl ?_
                                                          obtain ⟨v205, hv205, e⟩ := zb_bind e
                                                          refine Wp.sl (pc1 := 989) rfl hv205 rfl ?_
                                                          rcases zb_if e with ⟨hc206, e⟩ | ⟨hc206, e⟩
                                                          · skip
                                                            refine Wp.iT (pc1 := 996) rfl hc206 rfl ?_
                                                            refine Wp.steps 1 (pc1 := 997) (lo1 := [some (.ref zm_SP), some (.ref 0), some (.ref 113), some (.int x3)]) (st1 := [.int 0, .int v204, .int v203, .int v202, .ref 0]) (h1 := mk g) rfl ?_
                                                            obtain ⟨v207, g208, hvv207, e⟩ := zb_bpair e
                                                            refine Wp.ca (m := 79) (d1 := d + 9) (as := [.ref 0, .int v202, .int v203, .int v204, .int 0]) (rest := []) (st1 := [.int v207]) (pc1 := 1000) rfl rfl rfl rfl rfl rfl rfl rfl (mk_rok rfl rfl rfl rfl) rfl rfl rfl (w_79 (sc := (some l)) (d := d + 7) v202 v203 v204 0 g hvv207) ?_
                                                            refine Wp.steps 6 (pc1 := 1006) (lo1 := [some (.ref zm_SP), some (.ref 0), some (.ref 113), some (.int x3)]) (st1 := [.int (x3 + 1), .ref zm_SP, .ref 113]) (h1 := mk g208) rfl ?_
                                                            obtain ⟨v209, hv209, e⟩ := zb_bind e
                                                            refine Wp.sl (pc1 := 1007) rfl hv209 rfl ?_
                                                            refine Wp.steps 4 (pc1 := 1011) (lo1 := [some (.ref zm_SP), some (.ref 0), some (.ref 113), some (.int x3)]) (st1 := [.int (x3 + 2), .ref zm_SP, .int v209, .ref 113]) (h1 := mk g208) rfl ?_
                                                            obtain ⟨v210, hv210, e⟩ := zb_bind e
                                                            refine Wp.sl (pc1 := 1012) rfl hv210 rfl ?_
                                                            refine Wp.steps 4 (pc1 := 1016) (lo1 := [some (.ref zm_SP), some (.ref 0), some (.ref 113), some (.int x3)]) (st1 := [.int (x3 + 3), .ref zm_SP, .int v210, .int v209, .ref 113]) (h1 := mk g208) rfl ?_
                                                            obtain ⟨v211, hv211, e⟩ := zb_bind e
                                                            refine Wp.sl (pc1 := 1017) rfl hv211 rfl ?_
                                                            refine Wp.steps 4 (pc1 := 1021) (lo1 := [some (.ref zm_SP), some (.ref 0), some (.ref 113), some (.int x3)]) (st1 := [.int (x3 + 4), .ref zm_SP, .int v211, .int v210, .int v209, .ref 113]) (h1 := mk g208) rfl ?_
                                                            obtain ⟨v212, hv212, e⟩ := zb_bind e
                                                            refine Wp.sl (pc1 := 1022) rfl hv212 rfl ?_
                                                            rcases zb_if e with ⟨hc213, e⟩ | ⟨hc213, e⟩
                                                            · skip
                                                              refine Wp.iT (pc1 := 1029) rfl hc213 rfl ?_
                                                              refine Wp.steps 1 (pc1 := 1030) (lo1 := [some (.ref zm_SP), some (.ref 0), some (.ref 113), some (.int x3)]) (st1 := [.int 0, .int v211, .int v210, .int v209, .ref 113]) (h1 := mk g208) rfl ?_
                                                              obtain ⟨v214, g215, hvv214, e⟩ := zb_bpair e
                                                              refine Wp.ca (m := 175) (d1 := d + 9) (as := [.ref 113, .int v209, .int v210, .int v211, .int 0]) (rest := []) (st1 := [.int v214]) (pc1 := 1033) rfl rfl rfl rfl rfl rfl rfl rfl (mk_rok rfl rfl rfl rfl) rfl rfl rfl (w_175 (sc := (some l)) (d := d + 7) v209 v210 v211 0 g208 hvv214) ?_
                                                              refine Wp.steps 2 (pc1 := 1337) (lo1 := [some (.ref zm_SP), some (.ref 0), some (.ref 113), some (.int x3)]) (st1 := []) (h1 := mk g215) rfl ?_
                                                              exact w_198_1337 (l := l) (d := d) x3 g215 (d_198_18 l f) ih _ _ e Q K
                                                            · skip
                                                              refine Wp.iF (pc1 := 1025) rfl hc213 rfl ?_
                                                              refine Wp.steps 2 (pc1 := 1030) (lo1 := [some (.ref zm_SP), some (.ref 0), some (.ref 113), some (.int x3)]) (st1 := [.int 1, .int v211, .int v210, .int v209, .ref 113]) (h1 := mk g208) rfl ?_
                                                              obtain ⟨v216, g217, hvv216, e⟩ := zb_bpair e
                                                              refine Wp.ca (m := 175) (d1 := d + 9) (as := [.ref 113, .int v209, .int v210, .int v211, .int 1]) (rest := []) (st1 := [.int v216]) (pc1 := 1033) rfl rfl rfl rfl rfl rfl rfl rfl (mk_rok rfl rfl rfl rfl) rfl rfl rfl (w_175 (sc := (some l)) (d := d + 7) v209 v210 v211 1 g208 hvv216) ?_
                                                              refine Wp.steps 2 (pc1 := 1337) (lo1 := [some (.ref zm_SP), some (.ref 0), some (.ref 113), some (.int x3)]) (st1 := []) (h1 := mk g217) rfl ?_
                                                              exact w_198_1337 (l := l) (d := d) x3 g217 (d_198_18 l f) ih _ _ e Q K
                                                          · skip
                                                            refine Wp.iF (pc1 := 992) rfl hc206 rfl ?_
                                                            refine Wp.steps 2 (pc1 := 997) (lo1 := [some (.ref zm_SP), some (.ref 0), some (.ref 113), some (.int x3)]) (st1 := [.int 1, .int v204, .int v203, .int v202, .ref 0]) (h1 := mk g) rfl ?_
                                                            obtain ⟨v218, g219, hvv218, e⟩ := zb_bpair e
                                                            refine Wp.ca (m := 79) (d1 := d + 9) (as := [.ref 0, .int v202, .int v203, .int v204, .int 1]) (rest := []) (st1 := [.int v218]) (pc1 := 1000) rfl rfl rfl rfl rfl rfl rfl rfl (mk_rok rfl rfl rfl rfl) rfl rfl rfl (w_79 (sc := (some l)) (d := d + 7) v202 v203 v204 1 g hvv218) ?_
                                                            refine Wp.steps 6 (pc1 := 1006) (lo1 := [some (.ref zm_SP), some (.ref 0), some (.ref 113), some (.int x3)]) (st1 := [.int (x3 + 1), .ref zm_SP, .ref 113]) (h1 := mk g219) rfl ?_
                                                            obtain ⟨v220, hv220, e⟩ := zb_bind e
                                                            refine Wp.sl (pc1 := 1007) rfl hv220 rfl ?_
                                                            refine Wp.steps 4 (pc1 := 1011) (lo1 := [some (.ref zm_SP), some (.ref 0), some (.ref 113), some (.int x3)]) (st1 := [.int (x3 + 2), .ref zm_SP, .int v220, .ref 113]) (h1 := mk g219) rfl ?_
                                                            obtain ⟨v221, hv221, e⟩ := zb_bind e
                                                            refine Wp.sl (pc1 := 1012) rfl hv221 rfl ?_
                                                            refine Wp.steps 4 (pc1 := 1016) (lo1 := [some (.ref zm_SP), some (.ref 0), some (.ref 113), some (.int x3)]) (st1 := [.int (x3 + 3), .ref zm_SP, .int v221, .int v220, .ref 113]) (h1 := mk g219) rfl ?_
                                                            obtain ⟨v222, hv222, e⟩ := zb_bind e
                                                            refine Wp.sl (pc1 := 1017) rfl hv222 rfl ?_
                                                            refine Wp.steps 4 (pc1 := 1021) (lo1 := [some (.ref zm_SP), some (.ref 0), some (.ref 113), some (.int x3)]) (st1 := [.int (x3 + 4), .ref zm_SP, .int v222, .int v221, .int v220, .ref 113]) (h1 := mk g219) rfl ?_
                                                            obtain ⟨v223, hv223, e⟩ := zb_bind e
                                                            refine Wp.sl (pc1 := 1022) rfl hv223 rfl ?_
                                                            rcases zb_if e with ⟨hc224, e⟩ | ⟨hc224, e⟩
                                                            · skip
                                                              refine Wp.iT (pc1 := 1029) rfl hc224 rfl ?_
                                                              refine Wp.steps 1 (pc1 := 1030) (lo1 := [some (.ref zm_SP), some (.ref 0), some (.ref 113), some (.int x3)]) (st1 := [.int 0, .int v222, .int v221, .int v220, .ref 113]) (h1 := mk g219) rfl ?_
                                                              obtain ⟨v225, g226, hvv225, e⟩ := zb_bpair e
                                                              refine Wp.ca (m := 175) (d1 := d + 9) (as := [.ref 113, .int v220, .int v221, .int v222, .int 0]) (rest := []) (st1 := [.int v225]) (pc1 := 1033) rfl rfl rfl rfl rfl rfl rfl rfl (mk_rok rfl rfl rfl rfl) rfl rfl rfl (w_175 (sc := (some l)) (d := d + 7) v220 v221 v222 0 g219 hvv225) ?_
                                                              refine Wp.steps 2 (pc1 := 1337) (lo1 := [some (.ref zm_SP), some (.ref 0), some (.ref 113), some (.int x3)]) (st1 := []) (h1 := mk g226) rfl ?_
                                                              exact w_198_1337 (l := l) (d := d) x3 g226 (d_198_18 l f) ih _ _ e Q K
                                                            · skip
                                                              refine Wp.iF (pc1 := 1025) rfl hc224 rfl ?_
                                                              refine Wp.steps 2 (pc1 := 1030) (lo1 := [some (.ref zm_SP), some (.ref 0), some (.ref 113), some (.int x3)]) (st1 := [.int 1, .int v222, .int v221, .int v220, .ref 113]) (h1 := mk g219) rfl ?_
                                                              obtain ⟨v227, g228, hvv227, e⟩ := zb_bpair e
                                                              refine Wp.ca (m := 175) (d1 := d + 9) (as := [.ref 113, .int v220, .int v221, .int v222, .int 1]) (rest := []) (st1 := [.int v227]) (pc1 := 1033) rfl rfl rfl rfl rfl rfl rfl rfl (mk_rok rfl rfl rfl rfl) rfl rfl rfl (w_175 (sc := (some l)) (d := d + 7) v220 v221 v222 1 g219 hvv227) ?_
                                                              refine Wp.steps 2 (pc1 := 1337) (lo1 := [some (.ref zm_SP), some (.ref 0), some (.ref 113), some (.int x3)]) (st1 := []) (h1 := mk g228) rfl ?_
                                                              exact w_198_1337 (l := l) (d := d) x3 g228 (d_198_18 l f) ih _ _ e Q K
                                                        · skip
                                                          rcases zb_if e with ⟨hc229, e⟩ | ⟨hc229, e⟩
                                                          · skip
                                                            refine Wp.swT (pc1 := 1037) (w := 26) rfl hc229 rfl ?_
                                                            refine Wp.steps 5 (pc1 := 1042) (lo1 := [some (.ref zm_SP), some (.ref 0), some (.ref 113), some (.int x3)]) (st1 := [.int (x3 + 1), .ref zm_SP, .ref 0]) (h1 := mk g) rfl ?_
                                                            obtain ⟨v230, hv230, e⟩ := zb_bind e
                                                            refine Wp.sl (pc1 := 1043) rfl hv230 rfl ?_
                                                            obtain ⟨v231, g232, hvv231, e⟩ := zb_pair e
                                                            refine Wp.ca (m := 80) (d1 := d + 9) (as := [.ref 0, .int v230]) (rest := []) (st1 := [.int v231]) (pc1 := 1046) rfl rfl rfl rfl rfl rfl rfl rfl (mk_rok rfl rfl rfl rfl) rfl rfl rfl (w_80 (sc := (some l)) (d := d + 9) v230 g hvv231) ?_
                                                            refine Wp.steps 6 (pc1 := 1052) (lo1 := [some (.ref zm_SP), some (.ref 0), some (.ref 113), some (.int x3)]) (st1 := [.int (x3 + 1), .ref zm_SP, .ref 113]) (h1 := mk g232) rfl ?_
                                                            obtain ⟨v233, hv233, e⟩ := zb_bind e
                                                            refine Wp.sl (pc1 := 1053) rfl hv233 rfl ?_
                                                            obtain ⟨v234, g235, hvv234, e⟩ := zb_bpair e
                                                            refine Wp.ca (m := 176) (d1 := d + 9) (as := [.ref 113, .int v233]) (rest := []) (st1 := [.int v234]) (pc1 := 1056) rfl rfl rfl rfl rfl rfl rfl rfl (mk_rok rfl rfl rfl rfl) rfl rfl rfl (w_176 (sc := (some l)) (d := d + 8) v233 g232 hvv234) ?_
                                                            refine Wp.steps 2 (pc1 := 1337) (lo1 := [some (.ref zm_SP), some (.ref 0), some (.ref 113), some (.int x3)]) (st1 := []) (h1 := mk g235) rfl ?_
                                                            exact w_198_1337 (l := l) (d := d) x3 g235 (d_198_18 l f) ih _ _ e Q K
                                                          · skip
                                                            rcases zb_if e with ⟨hc236, e⟩ | ⟨hc236, e⟩
                                                            · skip
                                                              refine Wp.swT (pc1 := 1060) (w := 27) rfl hc236 rfl ?_
                                                              refine Wp.steps 5 (pc1 := 1065) (lo1 := [some (.ref zm_SP), some (.ref 0), some (.ref 113), some (.int x3)]) (st1 := [.int (x3 + 1), .ref zm_SP, .ref 0]) (h1 := mk g) rfl ?_
                                                              obtain ⟨v237, hv237, e⟩ := zb_bind e
                                                              refine Wp.sl (pc1 := 1066) rfl hv237 rfl ?_
                                                              obtain ⟨v238, g239, hvv238, e⟩ := zb_bpair e
                                                              refine Wp.ca (m := 81) (d1 := d + 9) (as := [.ref 0, .int v237]) (rest := []) (st1 := [.int v238]) (pc1 := 1069) rfl rfl rfl rfl rfl rfl rfl rfl (mk_rok rfl rfl rfl rfl) rfl rfl rfl (w_81 (sc := (some l)) (d := d + 4) v237 g hvv238) ?_
                                                              refine Wp.steps 6 (pc1 := 1075) (lo1 := [some (.ref zm_SP), some (.ref 0), some (.ref 113), some (.int x3)]) (st1 := [.int (x3 + 1), .ref zm_SP, .ref 113]) (h1 := mk g239) rfl ?_
                                                              obtain ⟨v240, hv240, e⟩ := zb_bind e
                                                              refine Wp.sl (pc1 := 1076) rfl hv240 rfl ?_
                                                              obtain ⟨v241, g242, hvv241, e⟩ := zb_bpair e
                                                              refine Wp.ca (m := 178) (d1 := d + 9) (as := [.ref 113, .int v240]) (rest := []) (st1 := [.int v241]) (pc1 := 1079) rfl rfl rfl rfl rfl rfl rfl rfl (mk_rok rfl rfl rfl rfl) rfl rfl rfl (w_178 (sc := (some l)) (d := d + 4) v240 g239 hvv241) ?_
                                                              refine Wp.steps 2 (pc1 := 1337) (lo1 := [some (.ref zm_SP), some (.ref 0), some (.ref 113), some (.int x3)]) (st1 := []) (h1 := mk g242) rfl ?_
                                                              exact w_198_1337 (l := l) (d := d) x3 g242 (d_198_18 l f) ih _ _ e Q K
                                                            · skip
                                                              rcases zb_if e with ⟨hc243, e⟩ | ⟨hc243, e⟩
                                                              · skip
                                                                refine Wp.swT (pc1 := 1083) (w := 28) rfl hc243 rfl ?_
                                                                refine Wp.steps 5 (pc1 := 1088) (lo1 := [some (.ref zm_SP), some (.ref 0), some (.ref 113), some (.int x3)]) (st1 := [.int (x3 + 1), .ref zm_SP, .ref 0]) (h1 := mk g) rfl ?_
                                                                obtain ⟨v244, hv244, e⟩ := zb_bind e
                                                                refine Wp.sl (pc1 := 1089) rfl hv244 rfl ?_
                                                                refine Wp.steps 4 (pc1 := 1093) (lo1 := [some (.ref zm_SP), some (.ref 0), some (.ref 113), some (.int x3)]) (st1 := [.int (x3 + 2), .ref zm_SP, .int v244, .ref 0]) (h1 := mk g) rfl ?_
                                                                obtain ⟨v245, hv245, e⟩ := zb_bind e
                                                                refine Wp.sl (pc1 := 1094) rfl hv245 rfl ?_
                                                                obtain ⟨v246, g247, hvv246, e⟩ := zb_bpair e
                                                                refine Wp.ca (m := 82) (d1 := d + 9) (as := [.ref 0, .int v244, .int v245]) (rest := []) (st1 := [.int v246]) (pc1 := 1097) rfl rfl rfl rfl rfl rfl rfl rfl (mk_rok rfl rfl rfl rfl) rfl rfl rfl (w_82 (sc := (some l)) (d := d + 5) v244 v245 g hvv246) ?_
                                                                refine Wp.steps 6 (pc1 := 1103) (lo1 := [some (.ref zm_SP), some (.ref 0), some (.ref 113), some (.int x3)]) (st1 := [.int (x3 + 1), .ref zm_SP, .ref 113]) (h1 := mk g247) rfl ?_
                                                                obtain ⟨v248, hv248, e⟩ := zb_bind e
                                                                refine Wp.sl (pc1 := 1104) rfl hv248 rfl ?_
                                                                refine Wp.steps 4 (pc1 := 1108) (lo1 := [some (.ref zm_SP), some (.ref 0), some (.ref 113), some (.int x3)]) (st1 := [.int (x3 + 2), .ref zm_SP, .int v248, .ref 113]) (h1 := mk g247) rfl ?_
                                                                obtain ⟨v249, hv249, e⟩ := zb_bind e
                                                                refine Wp.sl (pc1 := 1109) rfl hv249 rfl ?_
                                                                obtain ⟨v250, hvv250, e⟩ := zb_bind e
                                                                refine Wp.ca (m := 179) (d1 := d + 9) (as := [.ref 113, .int v248, .int v249]) (rest := []) (st1 := [.int v250]) (pc1 := 1112) rfl rfl rfl rfl rfl rfl rfl rfl (mk_rok rfl rfl rfl rfl) rfl rfl rfl (w_179 (sc := (some l)) (d := d + 6) v248 v249 g247 hvv250) ?_
                                                                refine Wp.steps 2 (pc1 := 1337) (lo1 := [some (.ref zm_SP), some (.ref 0), some (.ref 113), some (.int x3)]) (st1 := []) (h1 := mk g247) rfl ?_
                                                                exact w_198_1337 (l := l) (d := d) x3 g247 (d_198_18 l f) ih _ _ e Q K
                                                              · skip
                                                                rcases zb_if e with ⟨hc251, e⟩ | ⟨hc251, e⟩
                                                                · skip
                                                                  refine Wp.swT (pc1 := 1116) (w := 29) rfl hc251 rfl ?_
                                                                  refine Wp.steps 5 (pc1 := 1121) (lo1 := [some (.ref zm_SP), some (.ref 0), some (.ref 113), some (.int x3)]) (st1 := [.int (x3 + 1), .ref zm_SP, .ref 0]) (h1 := mk g) rfl ?_
                                                                  obtain ⟨v252, hv252, e⟩ := zb_bind e
                                                                  refine Wp.sl (pc1 := 1122) rfl hv252 rfl ?_
                                                                  obtain ⟨v253, g254, hvv253, e⟩ := zb_bpair e
                                                                  refine Wp.ca (m := 83) (d1 := d + 9) (as := [.ref 0, .int v252]) (rest := []) (st1 := [.int v253]) (pc1 := 1125) rfl rfl rfl rfl rfl rfl rfl rfl (mk_rok rfl rfl rfl rfl) rfl rfl rfl (w_83 (sc := (some l)) (d := d + 7) v252 g hvv253) ?_
                                                                  refine Wp.steps 6 (pc1 := 1131) (lo1 := [some (.ref zm_SP), some (.ref 0), some (.ref 113), some (.int x3)]) (st1 := [.int (x3 + 1), .ref zm_SP, .ref 113]) (h1 := mk g254) rfl ?_
                                                                  obtain ⟨v255, hv255, e⟩ := zb_bind e
                                                                  refine Wp.sl (pc1 := 1132) rfl hv255 rfl ?_
                                                                  obtain ⟨v256, g257, hvv256, e⟩ := zb_bpair e
                                                                  refine Wp.ca (m := 181) (d1 := d + 9) (as := [.ref 113, .int v255]) (rest := []) (st1 := [.int v256]) (pc1 := 1135) rfl rfl rfl rfl rfl rfl rfl rfl (mk_rok rfl rfl rfl rfl) rfl rfl rfl (w_181 (sc := (some l)) (d := d + 8) v255 g254 hvv256) ?_
                                                                  refine Wp.steps 2 (pc1 := 1337) (lo1 := [some (.ref zm_SP), some (.ref 0), some (.ref 113), some (.int x3)]) (st1 := []) (h1 := mk g257) rfl ?_
                                                                  exact w_198_1337 (l := l) (d := d) x3 g257 (d_198_18 l f) ih _ _ e Q K
                                                                · skip
                                                                  rcases zb_if e with ⟨hc258, e⟩ | ⟨hc258, e⟩
                                                                  · skip
                                                                    refine Wp.swT (pc1 := 1139) (w := 30) rfl hc258 rfl ?_
                                                                    refine Wp.steps 5 (pc1 := 1144) (lo1 := [some (.ref zm_SP), some (.ref 0), some (.ref 113), some (.int x3)]) (st1 := [.int (x3 + 1), .ref zm_SP, .ref 0]) (h1 := mk g) rfl ?_
                                                                    obtain ⟨v259, hv259, e⟩ := zb_bind e
                                                                    refine Wp.sl (pc1 := 1145) rfl hv259 rfl ?_
                                                                    obtain ⟨v260, g261, hvv260, e⟩ := zb_bpair e
                                                                    refine Wp.ca (m := 84) (d1 := d + 9) (as := [.ref 0, .int v259]) (rest := []) (st1 := [.int v260]) (pc1 := 1148) rfl rfl rfl rfl rfl rfl rfl rfl (mk_rok rfl rfl rfl rfl) rfl rfl rfl (w_84 (sc := (some l)) (d := d + 7) v259 g hvv260) ?_
                                                                    refine Wp.steps 6 (pc1 := 1154) (lo1 := [some (.ref zm_SP), some (.ref 0), some (.ref 113), some (.int x3)]) (st1 := [.int (x3 + 1), .ref zm_SP, .ref 113]) (h1 := mk g261) rfl ?_
                                                                    obtain ⟨v262, hv262, e⟩ := zb_bind e
                                                                    refine Wp.sl (pc1 := 1155) rfl hv262 rfl ?_
                                                                    obtain ⟨v263, g264, hvv263, e⟩ := zb_bpair e
                                                                    refine Wp.ca (m := 182) (d1 := d + 9) (as := [.ref 113, .int v262]) (rest := []) (st1 := [.int v263]) (pc1 := 1158) rfl rfl rfl rfl rfl rfl rfl rfl (mk_rok rfl rfl rfl rfl) rfl rfl rfl (w_182 (sc := (some l)) (d := d + 8) v262 g261 hvv263) ?_
                                                                    refine Wp.steps 2 (pc1 := 1337) (lo1 := [some (.ref zm_SP), some (.ref 0), some (.ref 113), some (.int x3)]) (st1 := []) (h1 := mk g264) rfl ?_
                                                                    exact w_198_1337 (l := l) (d := d) x3 g264 (d_198_18 l f) ih _ _ e Q K
                                                                  · skip
                                                                    rcases zb_if e with ⟨hc265, e⟩ | ⟨hc265, e⟩
                                                                    · skip
                                                                      refine Wp.swT (pc1 := 1162) (w := 31) rfl hc265 rfl ?_
                                                                      refine Wp.steps 5 (pc1 := 1167) (lo1 := [some (.ref zm_SP), some (.ref 0), some (.ref 113), some (.int x3)]) (st1 := [.int (x3 + 1), .ref zm_SP, .ref 0]) (h1 := mk g) rfl ?_
                                                                      obtain ⟨v266, hv266, e⟩ := zb_bind e
                                                                      refine Wp.sl (pc1 := 1168) rfl hv266 rfl ?_
                                                                      refine Wp.steps 4 (pc1 := 1172) (lo1 := [some (.ref zm_SP), some (.ref 0), some (.ref 113), some (.int x3)]) (st1 := [.int (x3 + 2), .ref zm_SP, .int v266, .ref 0]) (h1 := mk g) rfl ?_
                                                                      obtain ⟨v267, hv267, e⟩ := zb_bind e
                                                                      refine Wp.sl (pc1 := 1173) rfl hv267 rfl ?_
                                                                      refine Wp.steps 4 (pc1 := 1177) (lo1 := [some (.ref zm_SP), some (.ref 0), some (.ref 113), some (.int x3)]) (st1 := [.int (x3 + 3), .ref zm_SP, .int v267, .int v266, .ref 0]) (h1 := mk g) rfl ?_
                                                                      obtain ⟨v268, hv268, e⟩ := zb_bind e
                                                                      refine Wp.sl (pc1 := 1178) rfl hv268 rfl ?_
                                                                      obtain ⟨v269, g270, hvv269, e⟩ := zb_bpair e
                                                                      refine Wp.ca (m := 85) (d1 := d + 9) (as := [.ref 0, .int v266, .int v267, .int v268]) (rest := []) (st1 := [.int v269]) (pc1 := 1181) rfl rfl rfl rfl rfl rfl rfl rfl (mk_rok rfl rfl rfl rfl) rfl rfl rfl (w_85 (sc := (some l)) (d := d + 8) v266 v267 v268 g hvv269) ?_
                                                                      refine Wp.steps 6 (pc1 := 1187) (lo1 := [some (.ref zm_SP), some (.ref 0), some (.ref 113), some (.int x3)]) (st1 := [.int (x3 + 1), .ref zm_SP, .ref 113]) (h1 := mk g270) rfl ?_
                                                                      obtain ⟨v271, hv271, e⟩ := zb_bind e
                                                                      refine Wp.sl (pc1 := 1188) rfl hv271 rfl ?_
                                                                      refine Wp.steps 4 (pc1 := 1192) (lo1 := [some (.ref zm_SP), some (.ref 0), some (.ref 113), some (.int x3)]) (st1 := [.int (x3 + 2), .ref zm_SP, .int v271, .ref 113]) (h1 := mk g270) rfl ?_
                                                                      obtain ⟨v272, hv272, e⟩ := zb_bind e
                                                                      refine Wp.sl (pc1 := 1193) rfl hv272 rfl ?_
                                                                      refine Wp.steps 4 (pc1 := 1197) (lo1 := [some (.ref zm_SP), some (.ref 0), some (.ref 113), some (.int x3)]) (st1 := [.int (x3 + 3), .ref zm_SP, .int v272, .int v271, .ref 113]) (h1 := mk g270) rfl ?_
                                                                      obtain ⟨v273, hv273, e⟩ := zb_bind e
                                                                      refine Wp.sl (pc1 := 1198) rfl hv273 rfl ?_
                                                                      obtain ⟨v274, g275, hvv274, e⟩ := zb_bpair e
                                                                      refine Wp.ca (m := 184) (d1 := d + 9) (as := [.ref 113, .int v271, .int v272, .int v273]) (rest := []) (st1 := [.int v274]) (pc1 := 1201) rfl rfl rfl rfl rfl rfl rfl rfl (mk_rok rfl rfl rfl rfl) rfl rfl rfl (w_184 (sc := (some l)) (d := d + 7) v271 v272 v273 g270 hvv274) ?_
                                                                      refine Wp.steps 2 (pc1 := 1337) (lo1 := [some (.ref zm_SP), some (.ref 0), some (.ref 113), some (.int x3)]) (st1 := []) (h1 := mk g275) rfl ?_
                                                                      exact w_198_1337 (l := l) (d := d) x3 g275 (d_198_18 l f) ih _ _ e Q K
                                                                    · skip
                                                                      rcases zb_if e with ⟨hc276, e⟩ | ⟨hc276, e⟩
                                                                      · skip
                                                                        refine Wp.swT (pc1 := 1205) (w := 32) rfl hc276 rfl ?_
                                                                        refine Wp.steps 5 (pc1 := 1210) (lo1 := [some (.ref zm_SP), some (.ref 0), some (.ref 113), some (.int x3)]) (st1 := [.int (x3 + 1), .ref zm_SP, .ref 0]) (h1 := mk g) rfl ?_
                                                                        obtain ⟨v277, hv277, e⟩ := zb_bind e
                                                                        refine Wp.sl (pc1 := 1211) rfl hv277 rfl ?_
                                                                        refine Wp.steps 4 (pc1 := 1215) (lo1 := [some (.ref zm_SP), some (.ref 0), some (.ref 113), some (.int x3)]) (st1 := [.int (x3 + 2), .ref zm_SP, .int v277, .ref 0]) (h1 := mk g) rfl ?_
                                                                        obtain ⟨v278, hv278, e⟩ := zb_bind e
                                                                        refine Wp.sl (pc1 := 1216) rfl hv278 rfl ?_
                                                                        refine Wp.steps 4 (pc1 := 1220) (lo1 := [some (.ref zm_SP), some (.ref 0), some (.ref 113), some (.int x3)]) (st1 := [.int (x3 + 3), .ref zm_SP, .int v278, .int v277, .ref 0]) (h1 := mk g) rfl ?_
                                                                        obtain ⟨v279, hv279, e⟩ := zb_bind e
                                                                        refine Wp.sl (pc1 := 1221) rfl hv279 rfl ?_
                                                                        obtain ⟨v280, g281, hvv280, e⟩ := zb_bpair e
                                                                        refine Wp.ca (m := 86) (d1 := d + 9) (as := [.ref 0, .int v277, .int v278, .int v279]) (rest := []) (st1 := [.int v280]) (pc1 := 1224) rfl rfl rfl rfl rfl rfl rfl rfl (mk_rok rfl rfl rfl rfl) rfl rfl rfl (w_86 (sc := (some l)) (d := d + 7) v277 v278 v279 g hvv280) ?_
                                                                        refine Wp.steps 6 (pc1 := 1230) (lo1 := [some (.ref zm_SP), some (.ref 0), some (.ref 113), some (.int x3)]) (st1 := [.int (x3 + 1), .ref zm_SP, .ref 113]) (h1 := mk g281) rfl ?_
                                                                        obtain ⟨v282, hv282, e⟩ := zb_bind e
                                                                        refine Wp.sl (pc1 := 1231) rfl hv282 rfl ?_
                                                                        refine Wp.steps 4 (pc1 := 1235) (lo1 := [some (.ref zm_SP), some (.ref 0), some (.ref 113), some (.int x3)]) (st1 := [.int (x3 + 2), .ref zm_SP, .int v282, .ref 113]) (h1 := mk g281) rfl ?_
                                                                        obtain ⟨v283, hv283, e⟩ := zb_bind e
                                                                        refine Wp.sl (pc1 := 1236) rfl hv283 rfl ?_
                                                                        refine Wp.steps 4 (pc1 := 1240) (lo1 := [some (.ref zm_SP), some (.ref 0), some (.ref 113), some (.int x3)]) (st1 := [.int (x3 + 3), .ref zm_SP, .int v283, .int v282, .ref 113]) (h1 := mk g281) rfl ?_
                                                                        obtain ⟨v284, hv284, e⟩ := zb_bind e
                                                                        refine Wp.sl (pc1 := 1241) rfl hv284 rfl ?_
                                                                        obtain ⟨v285, g286, hvv285, e⟩ := zb_bpair e
                                                                        refine Wp.ca (m := 185) (d1 := d + 9) (as := [.ref 113, .int v282, .int v283, .int v284]) (rest := []) (st1 := [.int v285]) (pc1 := 1244) rfl rfl rfl rfl rfl rfl rfl rfl (mk_rok rfl rfl rfl rfl) rfl rfl rfl (w_185 (sc := (some l)) (d := d + 7) v282 v283 v284 g281 hvv285) ?_
                                                                        refine Wp.steps 2 (pc1 := 1337) (lo1 := [some (.ref zm_SP), some (.ref 0), some (.ref 113), some (.int x3)]) (st1 := []) (h1 := mk g286) rfl ?_
                                                                        exact w_198_1337 (l := l) (d := d) x3 g286 (d_198_18 l f) ih _ _ e Q K
                                                                      · skip
                                                                        rcases zb_if e with ⟨hc287, e⟩ | ⟨hc287, e⟩
                                                                        · skip
                                                                          refine Wp.swT (pc1 := 1248) (w := 33) rfl hc287 rfl ?_
                                                                          refine Wp.steps 5 (pc1 := 1253) (lo1 := [some (.ref zm_SP), some (.ref 0), some (.ref 113), some (.int x3)]) (st1 := [.int (x3 + 1), .ref zm_SP, .ref 0]) (h1 := mk g) rfl ?_
                                                                          obtain ⟨v288, hv288, e⟩ := zb_bind e
                                                                          refine Wp.sl (pc1 := 1254) rfl hv288 rfl ?_
                                                                          refine Wp.steps 4 (pc1 := 1258) (lo1 := [some (.ref zm_SP), some (.ref 0), some (.ref 113), some (.int x3)]) (st1 := [.int (x3 + 2), .ref zm_SP, .int v288, .ref 0]) (h1 := mk g) rfl ?_
                                                                          obtain ⟨v289, hv289, e⟩ := zb_bind e
                                                                          refine Wp.sl (pc1 := 1259) rfl hv289 rfl ?_
                                                                          refine Wp.steps 4 (pc1 := 1263) (lo1 := [some (.ref zm_SP), some (.ref 0), some (.ref 113), some (.int x3)]) (st1 := [.int (x3 + 3), .ref zm_SP, .int v289, .int v288, .ref 0]) (h1 := mk g) rfl ?_
                                                                          obtain ⟨v290, hv290, e⟩ := zb_bind e
                                                                          refine Wp.sl (pc1 := 1264) rfl hv290 rfl ?_
                                                                          refine Wp.steps 4 (pc1 := 1268) (lo1 := [some (.ref zm_SP), some (.ref 0), some (.ref 113), some (.int x3)]) (st1 := [.int (x3 + 4), .ref zm_SP, .int v290, .int v289, .int v288, .ref 0]) (h1 := mk g) rfl ?_
                                                                          obtain ⟨v291, hv291, e⟩ := zb_bind e
                                                                          refine Wp.sl (pc1 := 1269) rfl hv291 rfl ?_
                                                                          obtain ⟨v292, g293, hvv292, e⟩ := zb_bpair e
                                                                          refine Wp.ca (m := 87) (d1 := d + 9) (as := [.ref 0, .int v288, .int v289, .int v290, .int v291]) (rest := []) (st1 := [.int v292]) (pc1 := 1272) rfl rfl rfl rfl rfl rfl rfl rfl (mk_rok rfl rfl rfl rfl) rfl rfl rfl (w_87 (sc := (some l)) (d := d + 6) v288 v289 v290 v291 g hvv292) ?_
                                                                          refine Wp.steps 6 (pc1 := 1278) (lo1 := [some (.ref zm_SP), some (.ref 0), some (.ref 113), some (.int x3)]) (st1 := [.int (x3 + 1), .ref zm_SP, .ref 113]) (h1 := mk g293) rfl ?_
                                                                          obtain ⟨v294, hv294, e⟩ := zb_bind e
                                                                          refine Wp.sl (pc1 := 1279) rfl hv294 rfl ?_
                                                                          refine Wp.steps 4 (pc1 := 1283) (lo1 := [some (.ref zm_SP), some (.ref 0), some (.ref 113), some (.int x3)]) (st1 := [.int (x3 + 2), .ref zm_SP, .int v294, .ref 113]) (h1 := mk g293) rfl ?_
                                                                          obtain ⟨v295, hv295, e⟩ := zb_bind e
                                                                          refine Wp.sl (pc1 := 1284) rfl hv295 rfl ?_
                                                                          refine Wp.steps 4 (pc1 := 1288) (lo1 := [some (.ref zm_SP), some (.ref 0), some (.ref 113), some (.int x3)]) (st1 := [.int (x3 + 3), .ref zm_SP, .int v295, .int v294, .ref 113]) (h1 := mk g293) rfl ?_
                                                                          obtain ⟨v296, hv296, e⟩ := zb_bind e
                                                                          refine Wp.sl (pc1 := 1289) rfl hv296 rfl ?_
                                                                          refine Wp.steps 4 (pc1 := 1293) (lo1 := [some (.ref zm_SP), some (.ref 0), some (.ref 113), some (.int x3)]) (st1 := [.int (x3 + 4), .ref zm_SP, .int v296, .int v295, .int v294, .ref 113]) (h1 := mk g293) rfl ?_
                                                                          obtain ⟨v297, hv297, e⟩ := zb_bind e
                                                                          refine Wp.sl (pc1 := 1294) rfl hv297 rfl ?_
                                                                          obtain ⟨v298, g299, hvv298, e⟩ := zb_bpair e
                                                                          refine Wp.ca (m := 186) (d1 := d + 9) (as := [.ref 113, .int v294, .int v295, .int v296, .int v297]) (rest := []) (st1 := [.int v298]) (pc1 := 1297) rfl rfl rfl rfl rfl rfl rfl rfl (mk_rok rfl rfl rfl rfl) rfl rfl rfl (w_186 (sc := (some l)) (d := d + 6) v294 v295 v296 v297 g293 hvv298) ?_
                                                                          refine Wp.steps 2 (pc1 := 1337) (lo1 := [some (.ref zm_SP), some (.ref 0), some (.ref 113), some (.int x3)]) (st1 := []) (h1 := mk g299) rfl ?_
                                                                          exact w_198_1337 (l := l) (d := d) x3 g299 (d_198_18 l f) ih _ _ e Q K
                                                                        · skip
                                                                          rcases zb_if e with ⟨hc300, e⟩ | ⟨hc300, e⟩
                                                                          · skip
                                                                            refine Wp.swT (pc1 := 1301) (w := 34) rfl hc300 rfl ?_
                                                                            refine Wp.steps 1 (pc1 := 1302) (lo1 := [some (.ref zm_SP), some (.ref 0), some (.ref 113), some (.int x3)]) (st1 := [.ref 0]) (h1 := mk g) rfl ?_
                                                                            obtain ⟨v301, hvv301, e⟩ := zb_let e
                                                                            refine Wp.ca (m := 88) (d1 := d + 9) (as := [.ref 0]) (rest := []) (st1 := [.int v301]) (pc1 := 1305) rfl rfl rfl rfl rfl rfl rfl rfl (mk_rok rfl rfl rfl rfl) rfl rfl rfl (w_88 (sc := (some l)) (d := d + 9)  g hvv301) ?_
                                                                            refine Wp.steps 2 (pc1 := 1307) (lo1 := [some (.ref zm_SP), some (.ref 0), some (.ref 113), some (.int x3)]) (st1 := [.ref 113]) (h1 := mk g) rfl ?_
                                                                            obtain ⟨v302, hvv302, e⟩ := zb_let e
                                                                            refine Wp.ca (m := 187) (d1 := d + 9) (as := [.ref 113]) (rest := []) (st1 := [.int v302]) (pc1 := 1310) rfl rfl rfl rfl rfl rfl rfl rfl (mk_rok rfl rfl rfl rfl) rfl rfl rfl (w_187 (sc := (some l)) (d := d + 9)  g hvv302) ?_
                                                                            refine Wp.steps 2 (pc1 := 1337) (lo1 := [some (.ref zm_SP), some (.ref 0), some (.ref 113), some (.int x3)]) (st1 := []) (h1 := mk g) rfl ?_
                                                                            exact w_198_1337 (l := l) (d := d) x3 g (d_198_18 l f) ih _ _ e Q K
                                                                          · skip
                                                                            rcases zb_if e with ⟨hc303, e⟩ | ⟨hc303, e⟩
                                                                            · skip
                                                                              refine Wp.swT (pc1 := 1314) (w := 35) rfl hc303 rfl ?_
                                                                              refine Wp.steps 5 (pc1 := 1319) (lo1 := [some (.ref zm_SP), some (.ref 0), some (.ref 113), some (.int x3)]) (st1 := [.int (x3 + 1), .ref zm_SP, .ref 0]) (h1 := mk g) rfl ?_
                                                                              obtain ⟨v304, hv304, e⟩ := zb_bind e
                                                                              refine Wp.sl (pc1 := 1320) rfl hv304 rfl ?_
                                                                              obtain ⟨v305, g306, hvv305, e⟩ := zb_bpair e
                                                                              refine Wp.ca (m := 89) (d1 := d + 9) (as := [.ref 0, .int v304]) (rest := []) (st1 := [.int v305]) (pc1 := 1323) rfl rfl rfl rfl rfl rfl rfl rfl (mk_rok rfl rfl rfl rfl) rfl rfl rfl (w_89 (sc := (some l)) (d := d + 4) v304 g hvv305) ?_
                                                                              refine Wp.steps 6 (pc1 := 1329) (lo1 := [some (.ref zm_SP), some (.ref 0), some (.ref 113), some (.int x3)]) (st1 := [.int (x3 + 1), .ref zm_SP, .ref 113]) (h1 := mk g306) rfl ?_
                                                                              obtain ⟨v307, hv307, e⟩ := zb_bind e
                                                                              refine Wp.sl (pc1 := 1330) rfl hv307 rfl ?_
                                                                              obtain ⟨v308, hvv308, e⟩ := zb_bind e
                                                                              refine Wp.ca (m := 188) (d1 := d + 9) (as := [.ref 113, .int v307]) (rest := []) (st1 := [.int v308]) (pc1 := 1333) rfl rfl rfl rfl rfl rfl rfl rfl (mk_rok rfl rfl rfl rfl) rfl rfl rfl (w_188 (sc := (some l)) (d := d + 5) v307 g306 hvv308) ?_
                                                                              refine Wp.steps 2 (pc1 := 1337) (lo1 := [some (.ref zm_SP), some (.ref 0), some (.ref 113), some (.int x3)]) (st1 := []) (h1 := mk g306) rfl ?_
                                                                              exact w_198_1337 (l := l) (d := d) x3 g306 (d_198_18 l f) ih _ _ e Q K
                                                                            · skip
                                                                              refine Wp.swD (pc1 := 1337) [0, 1, 2, 3, 4, 5, 6, 7, 8, 9, 10, 11, 12, 13, 14, 15, 16, 17, 18, 19, 20, 21, 22, 23, 24, 25, 26, 27, 28, 29, 30, 31, 32, 33, 34, 35] rfl (by simp only [List.all_cons, List.all_nil, hc3, hc10, hc17, hc22, hc25, hc30, hc37, hc44, hc53, hc62, hc77, hc86, hc95, hc104, hc113, hc119, hc127, hc133, hc137, hc144, hc151, hc163, hc172, hc182, hc188, hc201, hc229, hc236, hc243, hc251, hc258, hc265, hc276, hc287, hc300, hc303, Bool.not_false, Bool.and_true]) (by decide) rfl ?_
                                                                              exact w_198_1337 (l := l) (d := d) x3 g (d_198_18 l f) ih _ _ e Q K
/-- EveningFirstLaw.law([I)Z -/
def d_198 (l : List Int32) (g : G) : Option (Bool × G) :=
  d_198_18 l 300 0 g
set_option maxRecDepth 100000 in
set_option maxHeartbeats 4000000 in
theorem w_198 {l : List Int32} {d : Nat} (g : G) {r : Bool} {g' : G} (e : d_198 l g = some (r, g')) : zB (some l) (d + 10) 198 18 [some (.ref zm_SP), some (.ref 0), some (.ref 113), some (.int 0)] [] (mk g) [.int (zb_i r)] (mk g') := by
  unfold d_198 at e
  intro Q K
  show Wp (some l) (d + 10) 198 18 [some (.ref zm_SP), some (.ref 0), some (.ref 113), some (.int 0)] [] (mk g) Q
  exact w_198_18 (l := l) (d := d) 300 0 g _ _ e Q K
