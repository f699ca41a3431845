set_option maxRecDepth 100000 in
theorem lw_w220 : Cond.selects RX8 yX8_canBe yX8_canBe ∈ lw_tbl := lw_m0 (List.mem_of_getElem? (l := (k2_sels lw_privs)) (i := 26) (by decide +kernel))
set_option maxRecDepth 100000 in
theorem lw_w221 : Cond.code yX8_canBe cX8_canBe 5 (some .boolean) ∈ lw_tbl := lw_m4 (List.mem_of_getElem? (l := tables_1_4) (i := 3) (rfl))
set_option maxRecDepth 100000 in
theorem lw_w222 : Cond.constantLong RX8 97 (12) ∈ lw_tbl := lw_m4 (List.mem_of_getElem? (l := tables_1_4) (i := 4) (by decide +kernel))
set_option maxRecDepth 100000 in
theorem lw_w223 : Cond.methodLink RX8 99 yX8_isOpen ∈ lw_tbl := lw_m4 (List.mem_of_getElem? (l := tables_1_4) (i := 5) (by decide +kernel))
set_option maxRecDepth 100000 in
theorem lw_w224 : Cond.instanceMethod yX8_isOpen ∈ lw_tbl := lw_m4 (List.mem_of_getElem? (l := tables_1_4) (i := 7) (by decide +kernel))
set_option maxRecDepth 100000 in
theorem lw_w225 : Cond.selects RX8 yX8_isOpen yX8_isOpen ∈ lw_tbl := lw_m0 (List.mem_of_getElem? (l := (k2_sels lw_privs)) (i := 27) (by decide +kernel))
set_option maxRecDepth 100000 in
theorem lw_w226 : Cond.code yX8_isOpen cX8_isOpen 3 (some .boolean) ∈ lw_tbl := lw_m4 (List.mem_of_getElem? (l := tables_1_4) (i := 8) (rfl))
set_option maxRecDepth 100000 in
theorem lw_w227 : Cond.methodLink RL 27 yX8_step ∈ lw_tbl := lw_m3 (List.mem_of_getElem? (l := tables_1_3) (i := 236) (by decide +kernel))
set_option maxRecDepth 100000 in
theorem lw_w228 : Cond.instanceMethod yX8_step ∈ lw_tbl := lw_m3 (List.mem_of_getElem? (l := tables_1_3) (i := 237) (by decide +kernel))
set_option maxRecDepth 100000 in
theorem lw_w229 : Cond.selects RX8 yX8_step yX8_step ∈ lw_tbl := lw_m3 (List.mem_of_getElem? (l := tables_1_3) (i := 238) (by decide +kernel))
set_option maxRecDepth 100000 in
theorem lw_w230 : Cond.code yX7_back cX7_back 1 (some .boolean) ∈ lw_tbl := lw_m2 (List.mem_of_getElem? (l := tables_1_2) (i := 118) (rfl))
set_option maxRecDepth 100000 in
theorem lw_w231 : Cond.methodLink RX7 102 yX4_dropLast ∈ lw_tbl := lw_m2 (List.mem_of_getElem? (l := tables_1_2) (i := 119) (by decide +kernel))
set_option maxRecDepth 100000 in
theorem lw_w232 : Cond.instanceMethod yX4_dropLast ∈ lw_tbl := lw_m2 (List.mem_of_getElem? (l := tables_1_2) (i := 120) (by decide +kernel))
set_option maxRecDepth 100000 in
theorem lw_w233 : Cond.selects RX4 yX4_dropLast yX4_dropLast ∈ lw_tbl := lw_m2 (List.mem_of_getElem? (l := tables_1_2) (i := 121) (by decide +kernel))
set_option maxRecDepth 100000 in
theorem lw_w234 : Cond.code yX4_dropLast cX4_dropLast 1 none ∈ lw_tbl := lw_m2 (List.mem_of_getElem? (l := tables_1_2) (i := 122) (rfl))
set_option maxRecDepth 100000 in
theorem lw_w235 : Cond.methodLink RL 28 yX7_back ∈ lw_tbl := lw_m2 (List.mem_of_getElem? (l := tables_1_2) (i := 115) (by decide +kernel))
set_option maxRecDepth 100000 in
theorem lw_w236 : Cond.instanceMethod yX7_back ∈ lw_tbl := lw_m2 (List.mem_of_getElem? (l := tables_1_2) (i := 116) (by decide +kernel))
set_option maxRecDepth 100000 in
theorem lw_w237 : Cond.selects RX7 yX7_back yX7_back ∈ lw_tbl := lw_m2 (List.mem_of_getElem? (l := tables_1_2) (i := 117) (by decide +kernel))
set_option maxRecDepth 100000 in
theorem lw_w238 : Cond.code yX8_back cX8_back 1 (some .boolean) ∈ lw_tbl := lw_m4 (List.mem_of_getElem? (l := tables_1_4) (i := 12) (rfl))
set_option maxRecDepth 100000 in
theorem lw_w239 : Cond.methodLink RL 32 yX8_back ∈ lw_tbl := lw_m4 (List.mem_of_getElem? (l := tables_1_4) (i := 9) (by decide +kernel))
set_option maxRecDepth 100000 in
theorem lw_w240 : Cond.instanceMethod yX8_back ∈ lw_tbl := lw_m4 (List.mem_of_getElem? (l := tables_1_4) (i := 10) (by decide +kernel))
set_option maxRecDepth 100000 in
theorem lw_w241 : Cond.selects RX8 yX8_back yX8_back ∈ lw_tbl := lw_m4 (List.mem_of_getElem? (l := tables_1_4) (i := 11) (by decide +kernel))
set_option maxRecDepth 100000 in
theorem lw_w242 : Cond.code yX7_mode cX7_mode 2 (some .boolean) ∈ lw_tbl := lw_m2 (List.mem_of_getElem? (l := tables_1_2) (i := 126) (rfl))
set_option maxRecDepth 100000 in
theorem lw_w243 : Cond.fieldLink RX7 105 "SumsOver$Names" "nearest" "Z" ∈ lw_tbl := lw_m1 (List.mem_of_getElem? (l := tables_1_1) (i := 45) (by decide +kernel))
set_option maxRecDepth 100000 in
theorem lw_w244 : Cond.methodLink RL 33 yX7_mode ∈ lw_tbl := lw_m2 (List.mem_of_getElem? (l := tables_1_2) (i := 123) (by decide +kernel))
set_option maxRecDepth 100000 in
theorem lw_w245 : Cond.instanceMethod yX7_mode ∈ lw_tbl := lw_m2 (List.mem_of_getElem? (l := tables_1_2) (i := 124) (by decide +kernel))
set_option maxRecDepth 100000 in
theorem lw_w246 : Cond.selects RX7 yX7_mode yX7_mode ∈ lw_tbl := lw_m2 (List.mem_of_getElem? (l := tables_1_2) (i := 125) (by decide +kernel))
set_option maxRecDepth 100000 in
theorem lw_w247 : Cond.code yX8_mode cX8_mode 2 (some .boolean) ∈ lw_tbl := lw_m4 (List.mem_of_getElem? (l := tables_1_4) (i := 16) (rfl))
set_option maxRecDepth 100000 in
theorem lw_w248 : Cond.fieldLink RX8 107 "SumsOverModel" "mode" "I" ∈ lw_tbl := lw_m3 (List.mem_of_getElem? (l := tables_1_3) (i := 148) (by decide +kernel))
set_option maxRecDepth 100000 in
theorem lw_w249 : Cond.methodLink RL 37 yX8_mode ∈ lw_tbl := lw_m4 (List.mem_of_getElem? (l := tables_1_4) (i := 13) (by decide +kernel))
set_option maxRecDepth 100000 in
theorem lw_w250 : Cond.instanceMethod yX8_mode ∈ lw_tbl := lw_m4 (List.mem_of_getElem? (l := tables_1_4) (i := 14) (by decide +kernel))
set_option maxRecDepth 100000 in
theorem lw_w251 : Cond.selects RX8 yX8_mode yX8_mode ∈ lw_tbl := lw_m4 (List.mem_of_getElem? (l := tables_1_4) (i := 15) (by decide +kernel))
set_option maxRecDepth 100000 in
theorem lw_w252 : Cond.code yX7_run cX7_run 4 (some .int) ∈ lw_tbl := lw_m2 (List.mem_of_getElem? (l := tables_1_2) (i := 130) (rfl))
set_option maxRecDepth 100000 in
theorem lw_w253 : Cond.constant RX7 113 (-2147483648) ∈ lw_tbl := lw_m2 (List.mem_of_getElem? (l := tables_1_2) (i := 135) (by decide +kernel))
set_option maxRecDepth 100000 in
theorem lw_w254 : Cond.fieldLink RX7 118 "SumsOver$Runner" "values" "[J" ∈ lw_tbl := lw_m1 (List.mem_of_getElem? (l := tables_1_1) (i := 144) (by decide +kernel))
set_option maxRecDepth 100000 in
theorem lw_w255 : Cond.methodLink RX7 109 yX0_hold ∈ lw_tbl := lw_m2 (List.mem_of_getElem? (l := tables_1_2) (i := 131) (by decide +kernel))
set_option maxRecDepth 100000 in
theorem lw_w256 : Cond.instanceMethod yX0_hold ∈ lw_tbl := lw_m2 (List.mem_of_getElem? (l := tables_1_2) (i := 132) (by decide +kernel))
set_option maxRecDepth 100000 in
theorem lw_w257 : Cond.selects RX0 yX0_hold yX0_hold ∈ lw_tbl := lw_m2 (List.mem_of_getElem? (l := tables_1_2) (i := 133) (by decide +kernel))
set_option maxRecDepth 100000 in
theorem lw_w258 : Cond.code yX0_hold cX0_hold 3 (some .boolean) ∈ lw_tbl := lw_m2 (List.mem_of_getElem? (l := tables_1_2) (i := 134) (rfl))
set_option maxRecDepth 100000 in
theorem lw_w259 : Cond.methodLink RX7 114 yX3_follow ∈ lw_tbl := lw_m2 (List.mem_of_getElem? (l := tables_1_2) (i := 136) (by decide +kernel))
set_option maxRecDepth 100000 in
theorem lw_w260 : Cond.instanceMethod yX3_follow ∈ lw_tbl := lw_m2 (List.mem_of_getElem? (l := tables_1_2) (i := 137) (by decide +kernel))
set_option maxRecDepth 100000 in
theorem lw_w261 : Cond.selects RX3 yX3_follow yX3_follow ∈ lw_tbl := lw_m2 (List.mem_of_getElem? (l := tables_1_2) (i := 138) (by decide +kernel))
set_option maxRecDepth 100000 in
theorem lw_w262 : Cond.code yX3_follow cX3_follow 4 none ∈ lw_tbl := lw_m2 (List.mem_of_getElem? (l := tables_1_2) (i := 139) (rfl))
set_option maxRecDepth 100000 in
theorem lw_w263 : Cond.fieldLink RX3 23 "SumsOver$Runner" "overBits" "I" ∈ lw_tbl := lw_m1 (List.mem_of_getElem? (l := tables_1_1) (i := 145) (by decide +kernel))
set_option maxRecDepth 100000 in
theorem lw_w264 : Cond.fieldLink RX3 27 "SumsOver$Runner" "turnedBits" "I" ∈ lw_tbl := lw_m1 (List.mem_of_getElem? (l := tables_1_1) (i := 147) (by decide +kernel))
set_option maxRecDepth 100000 in
theorem lw_w265 : Cond.fieldLink RX3 30 "SumsOver$Runner" "firstOver" "I" ∈ lw_tbl := lw_m1 (List.mem_of_getElem? (l := tables_1_1) (i := 149) (by decide +kernel))
set_option maxRecDepth 100000 in
theorem lw_w266 : Cond.fieldLink RX3 45 "SumsOver$Steps" "pathLength" "I" ∈ lw_tbl := lw_m1 (List.mem_of_getElem? (l := tables_1_1) (i := 112) (by decide +kernel))
set_option maxRecDepth 100000 in
theorem lw_w267 : Cond.fieldLink RX3 50 "SumsOver$Steps" "path" "[I" ∈ lw_tbl := lw_m1 (List.mem_of_getElem? (l := tables_1_1) (i := 109) (by decide +kernel))
set_option maxRecDepth 100000 in
theorem lw_w268 : Cond.methodLink RX3 33 yJ7_fill_d0a16 ∈ lw_tbl := lw_m2 (List.mem_of_getElem? (l := tables_1_2) (i := 140) (by decide +kernel))
set_option maxRecDepth 100000 in
theorem lw_w269 : Cond.static yJ7_fill_d0a16 ∈ lw_tbl := lw_m2 (List.mem_of_getElem? (l := tables_1_2) (i := 141) (by decide +kernel))
set_option maxRecDepth 100000 in
theorem lw_w270 : Cond.initialized RJ7 ∈ lw_tbl := lw_m1 (List.mem_of_getElem? (l := tables_1_1) (i := 10) (by decide +kernel))
set_option maxRecDepth 100000 in
theorem lw_w271 : Cond.code yJ7_fill_d0a16 cJ7_fill_d0a16 5 none ∈ lw_tbl := lw_m2 (List.mem_of_getElem? (l := tables_1_2) (i := 142) (rfl))
set_option maxRecDepth 100000 in
theorem lw_w272 : Cond.methodLink RX3 39 yX1_fitted ∈ lw_tbl := lw_m2 (List.mem_of_getElem? (l := tables_1_2) (i := 143) (by decide +kernel))
set_option maxRecDepth 100000 in
theorem lw_w273 : Cond.instanceMethod yX1_fitted ∈ lw_tbl := lw_m2 (List.mem_of_getElem? (l := tables_1_2) (i := 144) (by decide +kernel))
set_option maxRecDepth 100000 in
theorem lw_w274 : Cond.selects RX1 yX1_fitted yX1_fitted ∈ lw_tbl := lw_m2 (List.mem_of_getElem? (l := tables_1_2) (i := 145) (by decide +kernel))
set_option maxRecDepth 100000 in
theorem lw_w275 : Cond.code yX1_fitted cX1_fitted 4 (some .long) ∈ lw_tbl := lw_m2 (List.mem_of_getElem? (l := tables_1_2) (i := 146) (rfl))
set_option maxRecDepth 100000 in
theorem lw_w276 : Cond.fieldLink RX1 37 "SumsOver$Names" "nearest" "Z" ∈ lw_tbl := lw_m1 (List.mem_of_getElem? (l := tables_1_1) (i := 44) (by decide +kernel))
set_option maxRecDepth 100000 in
theorem lw_w277 : Cond.methodLink RX1 41 yX1_nearestTo ∈ lw_tbl := lw_m2 (List.mem_of_getElem? (l := tables_1_2) (i := 147) (by decide +kernel))
set_option maxRecDepth 100000 in
theorem lw_w278 : Cond.instanceMethod yX1_nearestTo ∈ lw_tbl := lw_m2 (List.mem_of_getElem? (l := tables_1_2) (i := 148) (by decide +kernel))
set_option maxRecDepth 100000 in
theorem lw_w279 : Cond.selects RX1 yX1_nearestTo yX1_nearestTo ∈ lw_tbl := lw_m2 (List.mem_of_getElem? (l := tables_1_2) (i := 149) (by decide +kernel))
set_option maxRecDepth 100000 in
theorem lw_w280 : Cond.code yX1_nearestTo cX1_nearestTo 4 (some .long) ∈ lw_tbl := lw_m2 (List.mem_of_getElem? (l := tables_1_2) (i := 150) (rfl))
set_option maxRecDepth 100000 in
theorem lw_w281 : Cond.methodLink RX1 48 Lib.MathLoose.min_long.x ∈ lw_tbl := lw_m2 (List.mem_of_getElem? (l := tables_1_2) (i := 151) (by decide +kernel))
set_option maxRecDepth 100000 in
theorem lw_w282 : Cond.static Lib.MathLoose.min_long.x ∈ lw_tbl := lw_m2 (List.mem_of_getElem? (l := tables_1_2) (i := 152) (by decide +kernel))
set_option maxRecDepth 100000 in
theorem lw_w283 : Cond.initialized "java/lang/Math" ∈ lw_tbl := lw_m1 (List.mem_of_getElem? (l := tables_1_1) (i := 11) (by decide +kernel))
set_option maxRecDepth 100000 in
theorem lw_w284 : Cond.code Lib.MathLoose.min_long.x Lib.MathLoose.min_long.code 4 (some .long) ∈ lw_tbl := lw_m2 (List.mem_of_getElem? (l := tables_1_2) (i := 153) (rfl))
set_option maxRecDepth 100000 in
theorem lw_w285 : Cond.methodLink RX1 54 Lib.MathLoose.max_long.x ∈ lw_tbl := lw_m2 (List.mem_of_getElem? (l := tables_1_2) (i := 154) (by decide +kernel))
set_option maxRecDepth 100000 in
theorem lw_w286 : Cond.static Lib.MathLoose.max_long.x ∈ lw_tbl := lw_m2 (List.mem_of_getElem? (l := tables_1_2) (i := 155) (by decide +kernel))
set_option maxRecDepth 100000 in
theorem lw_w287 : Cond.code Lib.MathLoose.max_long.x Lib.MathLoose.max_long.code 4 (some .long) ∈ lw_tbl := lw_m2 (List.mem_of_getElem? (l := tables_1_2) (i := 156) (rfl))
set_option maxRecDepth 100000 in
theorem lw_w288 : Cond.methodLink RX1 45 yX1_wrapped ∈ lw_tbl := lw_m2 (List.mem_of_getElem? (l := tables_1_2) (i := 157) (by decide +kernel))
set_option maxRecDepth 100000 in
theorem lw_w289 : Cond.instanceMethod yX1_wrapped ∈ lw_tbl := lw_m2 (List.mem_of_getElem? (l := tables_1_2) (i := 159) (by decide +kernel))
set_option maxRecDepth 100000 in
theorem lw_w290 : Cond.selects RX1 yX1_wrapped yX1_wrapped ∈ lw_tbl := lw_m0 (List.mem_of_getElem? (l := (k2_sels lw_privs)) (i := 5) (by decide +kernel))
set_option maxRecDepth 100000 in
theorem lw_w291 : Cond.code yX1_wrapped cX1_wrapped 4 (some .long) ∈ lw_tbl := lw_m2 (List.mem_of_getElem? (l := tables_1_2) (i := 160) (rfl))
set_option maxRecDepth 100000 in
theorem lw_w292 : Cond.methodLink RX1 57 yX1_rest ∈ lw_tbl := lw_m2 (List.mem_of_getElem? (l := tables_1_2) (i := 161) (by decide +kernel))
set_option maxRecDepth 100000 in
theorem lw_w293 : Cond.static yX1_rest ∈ lw_tbl := lw_m2 (List.mem_of_getElem? (l := tables_1_2) (i := 162) (by decide +kernel))
set_option maxRecDepth 100000 in
theorem lw_w294 : Cond.code yX1_rest cX1_rest 3 (some .long) ∈ lw_tbl := lw_m2 (List.mem_of_getElem? (l := tables_1_2) (i := 163) (rfl))
set_option maxRecDepth 100000 in
theorem lw_w295 : Cond.methodLink RX3 54 yX3_perform ∈ lw_tbl := lw_m2 (List.mem_of_getElem? (l := tables_1_2) (i := 164) (by decide +kernel))
set_option maxRecDepth 100000 in
theorem lw_w296 : Cond.instanceMethod yX3_perform ∈ lw_tbl := lw_m2 (List.mem_of_getElem? (l := tables_1_2) (i := 166) (by decide +kernel))
set_option maxRecDepth 100000 in
theorem lw_w297 : Cond.selects RX3 yX3_perform yX3_perform ∈ lw_tbl := lw_m0 (List.mem_of_getElem? (l := (k2_sels lw_privs)) (i := 6) (by decide +kernel))
set_option maxRecDepth 100000 in
theorem lw_w298 : Cond.code yX3_perform cX3_perform 5 none ∈ lw_tbl := lw_m2 (List.mem_of_getElem? (l := tables_1_2) (i := 167) (rfl))
set_option maxRecDepth 100000 in
theorem lw_w299 : Cond.fieldLink RX3 58 "SumsOver$Steps" "targets" "[I" ∈ lw_tbl := lw_m1 (List.mem_of_getElem? (l := tables_1_1) (i := 94) (by decide +kernel))
set_option maxRecDepth 100000 in
theorem lw_w300 : Cond.methodLink RX3 61 yX3_answer ∈ lw_tbl := lw_m2 (List.mem_of_getElem? (l := tables_1_2) (i := 168) (by decide +kernel))
set_option maxRecDepth 100000 in
theorem lw_w301 : Cond.instanceMethod yX3_answer ∈ lw_tbl := lw_m2 (List.mem_of_getElem? (l := tables_1_2) (i := 170) (by decide +kernel))
set_option maxRecDepth 100000 in
theorem lw_w302 : Cond.selects RX3 yX3_answer yX3_answer ∈ lw_tbl := lw_m0 (List.mem_of_getElem? (l := (k2_sels lw_privs)) (i := 7) (by decide +kernel))
set_option maxRecDepth 100000 in
theorem lw_w303 : Cond.code yX3_answer cX3_answer 11 (some .long) ∈ lw_tbl := lw_m2 (List.mem_of_getElem? (l := tables_1_2) (i := 171) (rfl))
set_option maxRecDepth 100000 in
theorem lw_w304 : Cond.fieldLink RX3 72 "SumsOver$Steps" "kinds" "[I" ∈ lw_tbl := lw_m1 (List.mem_of_getElem? (l := tables_1_1) (i := 90) (by decide +kernel))
set_option maxRecDepth 100000 in
theorem lw_w305 : Cond.fieldLink RX3 86 "SumsOver$Steps" "as" "[I" ∈ lw_tbl := lw_m1 (List.mem_of_getElem? (l := tables_1_1) (i := 98) (by decide +kernel))
set_option maxRecDepth 100000 in
theorem lw_w306 : Cond.fieldLink RX3 89 "SumsOver$Steps" "bs" "[I" ∈ lw_tbl := lw_m1 (List.mem_of_getElem? (l := tables_1_1) (i := 101) (by decide +kernel))
set_option maxRecDepth 100000 in
theorem lw_w307 : Cond.methodLink RX3 75 yX4_valueOfA ∈ lw_tbl := lw_m2 (List.mem_of_getElem? (l := tables_1_2) (i := 172) (by decide +kernel))
set_option maxRecDepth 100000 in
theorem lw_w308 : Cond.instanceMethod yX4_valueOfA ∈ lw_tbl := lw_m2 (List.mem_of_getElem? (l := tables_1_2) (i := 173) (by decide +kernel))
set_option maxRecDepth 100000 in
theorem lw_w309 : Cond.selects RX4 yX4_valueOfA yX4_valueOfA ∈ lw_tbl := lw_m2 (List.mem_of_getElem? (l := tables_1_2) (i := 174) (by decide +kernel))
set_option maxRecDepth 100000 in
theorem lw_w310 : Cond.code yX4_valueOfA cX4_valueOfA 3 (some .long) ∈ lw_tbl := lw_m2 (List.mem_of_getElem? (l := tables_1_2) (i := 175) (rfl))
set_option maxRecDepth 100000 in
theorem lw_w311 : Cond.methodLink RX3 79 yX4_valueOfB ∈ lw_tbl := lw_m2 (List.mem_of_getElem? (l := tables_1_2) (i := 176) (by decide +kernel))
set_option maxRecDepth 100000 in
theorem lw_w312 : Cond.instanceMethod yX4_valueOfB ∈ lw_tbl := lw_m2 (List.mem_of_getElem? (l := tables_1_2) (i := 177) (by decide +kernel))
set_option maxRecDepth 100000 in
theorem lw_w313 : Cond.selects RX4 yX4_valueOfB yX4_valueOfB ∈ lw_tbl := lw_m2 (List.mem_of_getElem? (l := tables_1_2) (i := 178) (by decide +kernel))
set_option maxRecDepth 100000 in
theorem lw_w314 : Cond.code yX4_valueOfB cX4_valueOfB 3 (some .long) ∈ lw_tbl := lw_m2 (List.mem_of_getElem? (l := tables_1_2) (i := 179) (rfl))
set_option maxRecDepth 100000 in
theorem lw_w315 : Cond.static yX7_made ∈ lw_tbl := lw_m2 (List.mem_of_getElem? (l := tables_1_2) (i := 181) (by decide +kernel))
set_option maxRecDepth 100000 in
theorem lw_w316 : Cond.code yX7_made cX7_made 5 (some .long) ∈ lw_tbl := lw_m2 (List.mem_of_getElem? (l := tables_1_2) (i := 182) (rfl))
set_option maxRecDepth 100000 in
theorem lw_w317 : Cond.methodLink RX7 211 Lib.MathLoose.min_long.x ∈ lw_tbl := lw_m2 (List.mem_of_getElem? (l := tables_1_2) (i := 183) (by decide +kernel))
set_option maxRecDepth 100000 in
theorem lw_w318 : Cond.methodLink RX3 92 yX1_signedAlike ∈ lw_tbl := lw_m2 (List.mem_of_getElem? (l := tables_1_2) (i := 184) (by decide +kernel))
set_option maxRecDepth 100000 in
theorem lw_w319 : Cond.instanceMethod yX1_signedAlike ∈ lw_tbl := lw_m2 (List.mem_of_getElem? (l := tables_1_2) (i := 185) (by decide +kernel))
set_option maxRecDepth 100000 in
theorem lw_w320 : Cond.selects RX1 yX1_signedAlike yX1_signedAlike ∈ lw_tbl := lw_m2 (List.mem_of_getElem? (l := tables_1_2) (i := 186) (by decide +kernel))
set_option maxRecDepth 100000 in
theorem lw_w321 : Cond.code yX1_signedAlike cX1_signedAlike 3 (some .boolean) ∈ lw_tbl := lw_m2 (List.mem_of_getElem? (l := tables_1_2) (i := 187) (rfl))
set_option maxRecDepth 100000 in
theorem lw_w322 : Cond.methodLink RX3 96 yX1_belowByRests ∈ lw_tbl := lw_m2 (List.mem_of_getElem? (l := tables_1_2) (i := 188) (by decide +kernel))
set_option maxRecDepth 100000 in
theorem lw_w323 : Cond.instanceMethod yX1_belowByRests ∈ lw_tbl := lw_m2 (List.mem_of_getElem? (l := tables_1_2) (i := 189) (by decide +kernel))
set_option maxRecDepth 100000 in
theorem lw_w324 : Cond.selects RX1 yX1_belowByRests yX1_belowByRests ∈ lw_tbl := lw_m2 (List.mem_of_getElem? (l := tables_1_2) (i := 190) (by decide +kernel))
set_option maxRecDepth 100000 in
theorem lw_w325 : Cond.code yX1_belowByRests cX1_belowByRests 8 (some .long) ∈ lw_tbl := lw_m2 (List.mem_of_getElem? (l := tables_1_2) (i := 191) (rfl))
set_option maxRecDepth 100000 in
theorem lw_w326 : Cond.methodLink RX1 61 Lib.Math.max.name ∈ lw_tbl := lw_m2 (List.mem_of_getElem? (l := tables_1_2) (i := 192) (by decide +kernel))
set_option maxRecDepth 100000 in
theorem lw_w327 : Cond.static Lib.Math.max.name ∈ lw_tbl := lw_m2 (List.mem_of_getElem? (l := tables_1_2) (i := 193) (by decide +kernel))
set_option maxRecDepth 100000 in
theorem lw_w328 : Cond.code Lib.Math.max.name Lib.Math.max.code 2 (some .int) ∈ lw_tbl := lw_m2 (List.mem_of_getElem? (l := tables_1_2) (i := 194) (rfl))
set_option maxRecDepth 100000 in
theorem lw_w329 : Cond.methodLink RX3 65 yX1_holds ∈ lw_tbl := lw_m2 (List.mem_of_getElem? (l := tables_1_2) (i := 195) (by decide +kernel))
set_option maxRecDepth 100000 in
theorem lw_w330 : Cond.instanceMethod yX1_holds ∈ lw_tbl := lw_m2 (List.mem_of_getElem? (l := tables_1_2) (i := 196) (by decide +kernel))
set_option maxRecDepth 100000 in
theorem lw_w331 : Cond.selects RX1 yX1_holds yX1_holds ∈ lw_tbl := lw_m2 (List.mem_of_getElem? (l := tables_1_2) (i := 197) (by decide +kernel))
set_option maxRecDepth 100000 in
theorem lw_w332 : Cond.code yX1_holds cX1_holds 4 (some .boolean) ∈ lw_tbl := lw_m2 (List.mem_of_getElem? (l := tables_1_2) (i := 198) (rfl))
set_option maxRecDepth 100000 in
theorem lw_w333 : Cond.methodLink RX3 69 yX3_noteOver ∈ lw_tbl := lw_m2 (List.mem_of_getElem? (l := tables_1_2) (i := 199) (by decide +kernel))
set_option maxRecDepth 100000 in
theorem lw_w334 : Cond.instanceMethod yX3_noteOver ∈ lw_tbl := lw_m2 (List.mem_of_getElem? (l := tables_1_2) (i := 201) (by decide +kernel))
set_option maxRecDepth 100000 in
theorem lw_w335 : Cond.selects RX3 yX3_noteOver yX3_noteOver ∈ lw_tbl := lw_m0 (List.mem_of_getElem? (l := (k2_sels lw_privs)) (i := 8) (by decide +kernel))
set_option maxRecDepth 100000 in
theorem lw_w336 : Cond.code yX3_noteOver cX3_noteOver 2 none ∈ lw_tbl := lw_m2 (List.mem_of_getElem? (l := tables_1_2) (i := 202) (rfl))
set_option maxRecDepth 100000 in
theorem lw_w337 : Cond.methodLink RL 38 yX7_run ∈ lw_tbl := lw_m2 (List.mem_of_getElem? (l := tables_1_2) (i := 127) (by decide +kernel))
set_option maxRecDepth 100000 in
theorem lw_w338 : Cond.instanceMethod yX7_run ∈ lw_tbl := lw_m2 (List.mem_of_getElem? (l := tables_1_2) (i := 128) (by decide +kernel))
set_option maxRecDepth 100000 in
theorem lw_w339 : Cond.selects RX7 yX7_run yX7_run ∈ lw_tbl := lw_m2 (List.mem_of_getElem? (l := tables_1_2) (i := 129) (by decide +kernel))
set_option maxRecDepth 100000 in
theorem lw_w340 : Cond.code yX8_run cX8_run 4 (some .int) ∈ lw_tbl := lw_m4 (List.mem_of_getElem? (l := tables_1_4) (i := 20) (rfl))
set_option maxRecDepth 100000 in
theorem lw_w341 : Cond.constant RX8 164 (-2147483648) ∈ lw_tbl := lw_m4 (List.mem_of_getElem? (l := tables_1_4) (i := 25) (by decide +kernel))
set_option maxRecDepth 100000 in
theorem lw_w342 : Cond.methodLink RX8 160 yX8_isRun ∈ lw_tbl := lw_m4 (List.mem_of_getElem? (l := tables_1_4) (i := 21) (by decide +kernel))
set_option maxRecDepth 100000 in
theorem lw_w343 : Cond.instanceMethod yX8_isRun ∈ lw_tbl := lw_m4 (List.mem_of_getElem? (l := tables_1_4) (i := 23) (by decide +kernel))
set_option maxRecDepth 100000 in
theorem lw_w344 : Cond.selects RX8 yX8_isRun yX8_isRun ∈ lw_tbl := lw_m0 (List.mem_of_getElem? (l := (k2_sels lw_privs)) (i := 28) (by decide +kernel))
set_option maxRecDepth 100000 in
theorem lw_w345 : Cond.code yX8_isRun cX8_isRun 3 (some .boolean) ∈ lw_tbl := lw_m4 (List.mem_of_getElem? (l := tables_1_4) (i := 24) (rfl))
set_option maxRecDepth 100000 in
theorem lw_w346 : Cond.methodLink RX8 150 yX8_lays ∈ lw_tbl := lw_m4 (List.mem_of_getElem? (l := tables_1_4) (i := 26) (by decide +kernel))
set_option maxRecDepth 100000 in
theorem lw_w347 : Cond.instanceMethod yX8_lays ∈ lw_tbl := lw_m4 (List.mem_of_getElem? (l := tables_1_4) (i := 28) (by decide +kernel))
set_option maxRecDepth 100000 in
theorem lw_w348 : Cond.selects RX8 yX8_lays yX8_lays ∈ lw_tbl := lw_m0 (List.mem_of_getElem? (l := (k2_sels lw_privs)) (i := 29) (by decide +kernel))
set_option maxRecDepth 100000 in
theorem lw_w349 : Cond.code yX8_lays cX8_lays 5 none ∈ lw_tbl := lw_m4 (List.mem_of_getElem? (l := tables_1_4) (i := 29) (rfl))
set_option maxRecDepth 100000 in
theorem lw_w350 : Cond.fieldLink RX8 110 "SumsOverModel" "lineMany" "I" ∈ lw_tbl := lw_m3 (List.mem_of_getElem? (l := tables_1_3) (i := 150) (by decide +kernel))
set_option maxRecDepth 100000 in
theorem lw_w351 : Cond.methodLink RX8 156 yX8_runs ∈ lw_tbl := lw_m4 (List.mem_of_getElem? (l := tables_1_4) (i := 30) (by decide +kernel))
set_option maxRecDepth 100000 in
theorem lw_w352 : Cond.instanceMethod yX8_runs ∈ lw_tbl := lw_m4 (List.mem_of_getElem? (l := tables_1_4) (i := 32) (by decide +kernel))
set_option maxRecDepth 100000 in
theorem lw_w353 : Cond.selects RX8 yX8_runs yX8_runs ∈ lw_tbl := lw_m0 (List.mem_of_getElem? (l := (k2_sels lw_privs)) (i := 30) (by decide +kernel))
set_option maxRecDepth 100000 in
theorem lw_w354 : Cond.code yX8_runs cX8_runs 7 none ∈ lw_tbl := lw_m4 (List.mem_of_getElem? (l := tables_1_4) (i := 33) (rfl))
set_option maxRecDepth 100000 in
theorem lw_w355 : Cond.fieldLink RX8 136 "SumsOverModel" "firstOver" "I" ∈ lw_tbl := lw_m3 (List.mem_of_getElem? (l := tables_1_3) (i := 154) (by decide +kernel))
set_option maxRecDepth 100000 in
theorem lw_w356 : Cond.methodLink RX8 139 yX8_put ∈ lw_tbl := lw_m4 (List.mem_of_getElem? (l := tables_1_4) (i := 34) (by decide +kernel))
set_option maxRecDepth 100000 in
theorem lw_w357 : Cond.instanceMethod yX8_put ∈ lw_tbl := lw_m4 (List.mem_of_getElem? (l := tables_1_4) (i := 36) (by decide +kernel))
set_option maxRecDepth 100000 in
theorem lw_w358 : Cond.selects RX8 yX8_put yX8_put ∈ lw_tbl := lw_m0 (List.mem_of_getElem? (l := (k2_sels lw_privs)) (i := 31) (by decide +kernel))
set_option maxRecDepth 100000 in
theorem lw_w359 : Cond.code yX8_put cX8_put 4 (some .long) ∈ lw_tbl := lw_m4 (List.mem_of_getElem? (l := tables_1_4) (i := 37) (rfl))
set_option maxRecDepth 100000 in
theorem lw_w360 : Cond.methodLink RX8 113 yX8_low ∈ lw_tbl := lw_m4 (List.mem_of_getElem? (l := tables_1_4) (i := 38) (by decide +kernel))
set_option maxRecDepth 100000 in
theorem lw_w361 : Cond.instanceMethod yX8_low ∈ lw_tbl := lw_m4 (List.mem_of_getElem? (l := tables_1_4) (i := 40) (by decide +kernel))
set_option maxRecDepth 100000 in
theorem lw_w362 : Cond.selects RX8 yX8_low yX8_low ∈ lw_tbl := lw_m0 (List.mem_of_getElem? (l := (k2_sels lw_privs)) (i := 32) (by decide +kernel))
set_option maxRecDepth 100000 in
theorem lw_w363 : Cond.code yX8_low cX8_low 2 (some .long) ∈ lw_tbl := lw_m4 (List.mem_of_getElem? (l := tables_1_4) (i := 41) (rfl))
set_option maxRecDepth 100000 in
theorem lw_w364 : Cond.methodLink RX8 117 yX8_high ∈ lw_tbl := lw_m4 (List.mem_of_getElem? (l := tables_1_4) (i := 42) (by decide +kernel))
set_option maxRecDepth 100000 in
theorem lw_w365 : Cond.instanceMethod yX8_high ∈ lw_tbl := lw_m4 (List.mem_of_getElem? (l := tables_1_4) (i := 44) (by decide +kernel))
set_option maxRecDepth 100000 in
theorem lw_w366 : Cond.selects RX8 yX8_high yX8_high ∈ lw_tbl := lw_m0 (List.mem_of_getElem? (l := (k2_sels lw_privs)) (i := 33) (by decide +kernel))
set_option maxRecDepth 100000 in
theorem lw_w367 : Cond.code yX8_high cX8_high 2 (some .long) ∈ lw_tbl := lw_m4 (List.mem_of_getElem? (l := tables_1_4) (i := 45) (rfl))
set_option maxRecDepth 100000 in
theorem lw_w368 : Cond.methodLink RX8 120 yX8_rest ∈ lw_tbl := lw_m4 (List.mem_of_getElem? (l := tables_1_4) (i := 46) (by decide +kernel))
set_option maxRecDepth 100000 in
theorem lw_w369 : Cond.static yX8_rest ∈ lw_tbl := lw_m4 (List.mem_of_getElem? (l := tables_1_4) (i := 47) (by decide +kernel))
set_option maxRecDepth 100000 in
theorem lw_w370 : Cond.code yX8_rest cX8_rest 6 (some .long) ∈ lw_tbl := lw_m4 (List.mem_of_getElem? (l := tables_1_4) (i := 48) (rfl))
set_option maxRecDepth 100000 in
theorem lw_w371 : Cond.methodLink RX8 143 yX8_valueOf ∈ lw_tbl := lw_m4 (List.mem_of_getElem? (l := tables_1_4) (i := 49) (by decide +kernel))
set_option maxRecDepth 100000 in
theorem lw_w372 : Cond.instanceMethod yX8_valueOf ∈ lw_tbl := lw_m4 (List.mem_of_getElem? (l := tables_1_4) (i := 51) (by decide +kernel))
set_option maxRecDepth 100000 in
theorem lw_w373 : Cond.selects RX8 yX8_valueOf yX8_valueOf ∈ lw_tbl := lw_m0 (List.mem_of_getElem? (l := (k2_sels lw_privs)) (i := 34) (by decide +kernel))
set_option maxRecDepth 100000 in
theorem lw_w374 : Cond.code yX8_valueOf cX8_valueOf 2 (some .long) ∈ lw_tbl := lw_m4 (List.mem_of_getElem? (l := tables_1_4) (i := 52) (rfl))
set_option maxRecDepth 100000 in
theorem lw_w375 : Cond.methodLink RX8 130 Lib.MathLoose.min_long.x ∈ lw_tbl := lw_m4 (List.mem_of_getElem? (l := tables_1_4) (i := 53) (by decide +kernel))
set_option maxRecDepth 100000 in
theorem lw_w376 : Cond.methodLink RX8 133 yX8_belowOf ∈ lw_tbl := lw_m4 (List.mem_of_getElem? (l := tables_1_4) (i := 54) (by decide +kernel))
set_option maxRecDepth 100000 in
theorem lw_w377 : Cond.instanceMethod yX8_belowOf ∈ lw_tbl := lw_m4 (List.mem_of_getElem? (l := tables_1_4) (i := 56) (by decide +kernel))
set_option maxRecDepth 100000 in
theorem lw_w378 : Cond.selects RX8 yX8_belowOf yX8_belowOf ∈ lw_tbl := lw_m0 (List.mem_of_getElem? (l := (k2_sels lw_privs)) (i := 35) (by decide +kernel))
set_option maxRecDepth 100000 in
theorem lw_w379 : Cond.code yX8_belowOf cX8_belowOf 8 (some .boolean) ∈ lw_tbl := lw_m4 (List.mem_of_getElem? (l := tables_1_4) (i := 57) (rfl))
set_option maxRecDepth 100000 in
theorem lw_w380 : Cond.methodLink RX8 124 Lib.Math.max.name ∈ lw_tbl := lw_m4 (List.mem_of_getElem? (l := tables_1_4) (i := 58) (by decide +kernel))
set_option maxRecDepth 100000 in
theorem lw_w381 : Cond.methodLink RX8 146 yX8_goesOver ∈ lw_tbl := lw_m4 (List.mem_of_getElem? (l := tables_1_4) (i := 59) (by decide +kernel))
set_option maxRecDepth 100000 in
theorem lw_w382 : Cond.instanceMethod yX8_goesOver ∈ lw_tbl := lw_m4 (List.mem_of_getElem? (l := tables_1_4) (i := 61) (by decide +kernel))
set_option maxRecDepth 100000 in
theorem lw_w383 : Cond.selects RX8 yX8_goesOver yX8_goesOver ∈ lw_tbl := lw_m0 (List.mem_of_getElem? (l := (k2_sels lw_privs)) (i := 36) (by decide +kernel))
set_option maxRecDepth 100000 in
theorem lw_w384 : Cond.code yX8_goesOver cX8_goesOver 4 (some .boolean) ∈ lw_tbl := lw_m4 (List.mem_of_getElem? (l := tables_1_4) (i := 62) (rfl))
set_option maxRecDepth 100000 in
theorem lw_w385 : Cond.methodLink RL 42 yX8_run ∈ lw_tbl := lw_m4 (List.mem_of_getElem? (l := tables_1_4) (i := 17) (by decide +kernel))
set_option maxRecDepth 100000 in
theorem lw_w386 : Cond.instanceMethod yX8_run ∈ lw_tbl := lw_m4 (List.mem_of_getElem? (l := tables_1_4) (i := 18) (by decide +kernel))
set_option maxRecDepth 100000 in
theorem lw_w387 : Cond.selects RX8 yX8_run yX8_run ∈ lw_tbl := lw_m4 (List.mem_of_getElem? (l := tables_1_4) (i := 19) (by decide +kernel))
set_option maxRecDepth 100000 in
theorem lw_w388 : Cond.code yX7_first cX7_first 3 (some .int) ∈ lw_tbl := lw_m2 (List.mem_of_getElem? (l := tables_1_2) (i := 206) (rfl))
set_option maxRecDepth 100000 in
theorem lw_w389 : Cond.fieldLink RX7 122 "SumsOver$Runner" "firstOver" "I" ∈ lw_tbl := lw_m1 (List.mem_of_getElem? (l := tables_1_1) (i := 150) (by decide +kernel))
set_option maxRecDepth 100000 in
theorem lw_w390 : Cond.methodLink RL 43 yX7_first ∈ lw_tbl := lw_m2 (List.mem_of_getElem? (l := tables_1_2) (i := 203) (by decide +kernel))
set_option maxRecDepth 100000 in
theorem lw_w391 : Cond.instanceMethod yX7_first ∈ lw_tbl := lw_m2 (List.mem_of_getElem? (l := tables_1_2) (i := 204) (by decide +kernel))
set_option maxRecDepth 100000 in
theorem lw_w392 : Cond.selects RX7 yX7_first yX7_first ∈ lw_tbl := lw_m2 (List.mem_of_getElem? (l := tables_1_2) (i := 205) (by decide +kernel))
set_option maxRecDepth 100000 in
theorem lw_w393 : Cond.code yX8_first cX8_first 3 (some .int) ∈ lw_tbl := lw_m4 (List.mem_of_getElem? (l := tables_1_4) (i := 66) (rfl))
set_option maxRecDepth 100000 in
theorem lw_w394 : Cond.methodLink RL 47 yX8_first ∈ lw_tbl := lw_m4 (List.mem_of_getElem? (l := tables_1_4) (i := 63) (by decide +kernel))
set_option maxRecDepth 100000 in
theorem lw_w395 : Cond.instanceMethod yX8_first ∈ lw_tbl := lw_m4 (List.mem_of_getElem? (l := tables_1_4) (i := 64) (by decide +kernel))
set_option maxRecDepth 100000 in
theorem lw_w396 : Cond.selects RX8 yX8_first yX8_first ∈ lw_tbl := lw_m4 (List.mem_of_getElem? (l := tables_1_4) (i := 65) (by decide +kernel))
set_option maxRecDepth 100000 in
theorem lw_w397 : Cond.code yX7_judge cX7_judge 2 (some .int) ∈ lw_tbl := lw_m2 (List.mem_of_getElem? (l := tables_1_2) (i := 210) (rfl))
set_option maxRecDepth 100000 in
theorem lw_w398 : Cond.methodLink RX7 125 yX7_isStep ∈ lw_tbl := lw_m2 (List.mem_of_getElem? (l := tables_1_2) (i := 211) (by decide +kernel))
set_option maxRecDepth 100000 in
theorem lw_w399 : Cond.instanceMethod yX7_isStep ∈ lw_tbl := lw_m2 (List.mem_of_getElem? (l := tables_1_2) (i := 213) (by decide +kernel))
set_option maxRecDepth 100000 in
theorem lw_w400 : Cond.selects RX7 yX7_isStep yX7_isStep ∈ lw_tbl := lw_m0 (List.mem_of_getElem? (l := (k2_sels lw_privs)) (i := 9) (by decide +kernel))
set_option maxRecDepth 100000 in
theorem lw_w401 : Cond.code yX7_isStep cX7_isStep 2 (some .boolean) ∈ lw_tbl := lw_m2 (List.mem_of_getElem? (l := tables_1_2) (i := 214) (rfl))
set_option maxRecDepth 100000 in
theorem lw_w402 : Cond.methodLink RX7 128 yX2_learn ∈ lw_tbl := lw_m2 (List.mem_of_getElem? (l := tables_1_2) (i := 215) (by decide +kernel))
set_option maxRecDepth 100000 in
theorem lw_w403 : Cond.instanceMethod yX2_learn ∈ lw_tbl := lw_m2 (List.mem_of_getElem? (l := tables_1_2) (i := 216) (by decide +kernel))
set_option maxRecDepth 100000 in
theorem lw_w404 : Cond.selects RX2 yX2_learn yX2_learn ∈ lw_tbl := lw_m2 (List.mem_of_getElem? (l := tables_1_2) (i := 217) (by decide +kernel))
set_option maxRecDepth 100000 in
theorem lw_w405 : Cond.code yX2_learn cX2_learn 2 none ∈ lw_tbl := lw_m2 (List.mem_of_getElem? (l := tables_1_2) (i := 218) (rfl))
set_option maxRecDepth 100000 in
theorem lw_w406 : Cond.fieldLink RX2 34 "SumsOver$Reach" "known" "Z" ∈ lw_tbl := lw_m1 (List.mem_of_getElem? (l := tables_1_1) (i := 207) (by decide +kernel))
set_option maxRecDepth 100000 in
theorem lw_w407 : Cond.fieldLink RX2 30 "SumsOver$Reach" "couldBits" "I" ∈ lw_tbl := lw_m1 (List.mem_of_getElem? (l := tables_1_1) (i := 209) (by decide +kernel))
set_option maxRecDepth 100000 in
theorem lw_w408 : Cond.fieldLink RX2 44 "SumsOver$Inputs" "from" "[I" ∈ lw_tbl := lw_m1 (List.mem_of_getElem? (l := tables_1_1) (i := 71) (by decide +kernel))
set_option maxRecDepth 100000 in
theorem lw_w409 : Cond.fieldLink RX2 50 "SumsOver$Reach" "low" "J" ∈ lw_tbl := lw_m1 (List.mem_of_getElem? (l := tables_1_1) (i := 210) (by decide +kernel))
set_option maxRecDepth 100000 in
theorem lw_w410 : Cond.fieldLink RX2 54 "SumsOver$Inputs" "to" "[I" ∈ lw_tbl := lw_m1 (List.mem_of_getElem? (l := tables_1_1) (i := 76) (by decide +kernel))
set_option maxRecDepth 100000 in
theorem lw_w411 : Cond.fieldLink RX2 57 "SumsOver$Reach" "high" "J" ∈ lw_tbl := lw_m1 (List.mem_of_getElem? (l := tables_1_1) (i := 211) (by decide +kernel))
set_option maxRecDepth 100000 in
theorem lw_w412 : Cond.fieldLink RX2 64 "SumsOver$Steps" "pathLength" "I" ∈ lw_tbl := lw_m1 (List.mem_of_getElem? (l := tables_1_1) (i := 114) (by decide +kernel))
set_option maxRecDepth 100000 in
theorem lw_w413 : Cond.fieldLink RX2 69 "SumsOver$Steps" "path" "[I" ∈ lw_tbl := lw_m1 (List.mem_of_getElem? (l := tables_1_1) (i := 111) (by decide +kernel))
set_option maxRecDepth 100000 in
theorem lw_w414 : Cond.methodLink RX2 38 yJ7_fill_d0a16 ∈ lw_tbl := lw_m2 (List.mem_of_getElem? (l := tables_1_2) (i := 219) (by decide +kernel))
set_option maxRecDepth 100000 in
theorem lw_w415 : Cond.methodLink RX2 60 yX2_settle ∈ lw_tbl := lw_m2 (List.mem_of_getElem? (l := tables_1_2) (i := 220) (by decide +kernel))
set_option maxRecDepth 100000 in
theorem lw_w416 : Cond.instanceMethod yX2_settle ∈ lw_tbl := lw_m2 (List.mem_of_getElem? (l := tables_1_2) (i := 222) (by decide +kernel))
set_option maxRecDepth 100000 in
theorem lw_w417 : Cond.selects RX2 yX2_settle yX2_settle ∈ lw_tbl := lw_m0 (List.mem_of_getElem? (l := (k2_sels lw_privs)) (i := 10) (by decide +kernel))
set_option maxRecDepth 100000 in
theorem lw_w418 : Cond.code yX2_settle cX2_settle 2 none ∈ lw_tbl := lw_m2 (List.mem_of_getElem? (l := tables_1_2) (i := 223) (rfl))
set_option maxRecDepth 100000 in
theorem lw_w419 : Cond.fieldLink RX2 91 "SumsOver$Names" "nearest" "Z" ∈ lw_tbl := lw_m1 (List.mem_of_getElem? (l := tables_1_1) (i := 46) (by decide +kernel))
set_option maxRecDepth 100000 in
theorem lw_w420 : Cond.fieldLink RX2 98 "SumsOver$Names" "least" "[J" ∈ lw_tbl := lw_m1 (List.mem_of_getElem? (l := tables_1_1) (i := 41) (by decide +kernel))
set_option maxRecDepth 100000 in
theorem lw_w421 : Cond.fieldLink RX2 99 "SumsOver$Names" "greatest" "[J" ∈ lw_tbl := lw_m1 (List.mem_of_getElem? (l := tables_1_1) (i := 43) (by decide +kernel))
set_option maxRecDepth 100000 in
theorem lw_w422 : Cond.methodLink RX2 81 yX2_fits ∈ lw_tbl := lw_m2 (List.mem_of_getElem? (l := tables_1_2) (i := 224) (by decide +kernel))
set_option maxRecDepth 100000 in
theorem lw_w423 : Cond.instanceMethod yX2_fits ∈ lw_tbl := lw_m2 (List.mem_of_getElem? (l := tables_1_2) (i := 226) (by decide +kernel))
set_option maxRecDepth 100000 in
theorem lw_w424 : Cond.selects RX2 yX2_fits yX2_fits ∈ lw_tbl := lw_m0 (List.mem_of_getElem? (l := (k2_sels lw_privs)) (i := 11) (by decide +kernel))
set_option maxRecDepth 100000 in
theorem lw_w425 : Cond.code yX2_fits cX2_fits 2 (some .boolean) ∈ lw_tbl := lw_m2 (List.mem_of_getElem? (l := tables_1_2) (i := 227) (rfl))
set_option maxRecDepth 100000 in
theorem lw_w426 : Cond.methodLink RX2 85 yX1_holds ∈ lw_tbl := lw_m2 (List.mem_of_getElem? (l := tables_1_2) (i := 228) (by decide +kernel))
set_option maxRecDepth 100000 in
theorem lw_w427 : Cond.methodLink RX2 94 yX1_nearestTo ∈ lw_tbl := lw_m2 (List.mem_of_getElem? (l := tables_1_2) (i := 229) (by decide +kernel))
set_option maxRecDepth 100000 in
theorem lw_w428 : Cond.methodLink RX2 72 yX2_perform ∈ lw_tbl := lw_m2 (List.mem_of_getElem? (l := tables_1_2) (i := 230) (by decide +kernel))
set_option maxRecDepth 100000 in
theorem lw_w429 : Cond.instanceMethod yX2_perform ∈ lw_tbl := lw_m2 (List.mem_of_getElem? (l := tables_1_2) (i := 232) (by decide +kernel))
set_option maxRecDepth 100000 in
theorem lw_w430 : Cond.selects RX2 yX2_perform yX2_perform ∈ lw_tbl := lw_m0 (List.mem_of_getElem? (l := (k2_sels lw_privs)) (i := 12) (by decide +kernel))
set_option maxRecDepth 100000 in
theorem lw_w431 : Cond.code yX2_perform cX2_perform 3 none ∈ lw_tbl := lw_m2 (List.mem_of_getElem? (l := tables_1_2) (i := 233) (rfl))
set_option maxRecDepth 100000 in
theorem lw_w432 : Cond.fieldLink RX2 75 "SumsOver$Steps" "targets" "[I" ∈ lw_tbl := lw_m1 (List.mem_of_getElem? (l := tables_1_1) (i := 95) (by decide +kernel))
set_option maxRecDepth 100000 in
theorem lw_w433 : Cond.methodLink RX2 78 yX2_reckon ∈ lw_tbl := lw_m2 (List.mem_of_getElem? (l := tables_1_2) (i := 234) (by decide +kernel))
set_option maxRecDepth 100000 in
theorem lw_w434 : Cond.instanceMethod yX2_reckon ∈ lw_tbl := lw_m2 (List.mem_of_getElem? (l := tables_1_2) (i := 236) (by decide +kernel))
set_option maxRecDepth 100000 in
theorem lw_w435 : Cond.selects RX2 yX2_reckon yX2_reckon ∈ lw_tbl := lw_m0 (List.mem_of_getElem? (l := (k2_sels lw_privs)) (i := 13) (by decide +kernel))
set_option maxRecDepth 100000 in
theorem lw_w436 : Cond.code yX2_reckon cX2_reckon 12 none ∈ lw_tbl := lw_m2 (List.mem_of_getElem? (l := tables_1_2) (i := 237) (rfl))
set_option maxRecDepth 100000 in
theorem lw_w437 : Cond.fieldLink RX2 107 "SumsOver$Steps" "kinds" "[I" ∈ lw_tbl := lw_m1 (List.mem_of_getElem? (l := tables_1_1) (i := 91) (by decide +kernel))
set_option maxRecDepth 100000 in
theorem lw_w438 : Cond.methodLink RX2 110 Lib.MathLoose.min_long.x ∈ lw_tbl := lw_m3 (List.mem_of_getElem? (l := tables_1_3) (i := 0) (by decide +kernel))
set_option maxRecDepth 100000 in
theorem lw_w439 : Cond.methodLink RX2 116 Lib.MathLoose.max_long.x ∈ lw_tbl := lw_m3 (List.mem_of_getElem? (l := tables_1_3) (i := 1) (by decide +kernel))
