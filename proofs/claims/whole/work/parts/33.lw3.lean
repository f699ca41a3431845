set_option maxRecDepth 100000 in
theorem lw_w440 : Cond.fieldLink RX2 119 "SumsOver$Steps" "as" "[I" ∈ lw_tbl := lw_m1 (List.mem_of_getElem? (l := tables_1_1) (i := 99) (by decide +kernel))
set_option maxRecDepth 100000 in
theorem lw_w441 : Cond.fieldLink RX2 122 "SumsOver$Steps" "bs" "[I" ∈ lw_tbl := lw_m1 (List.mem_of_getElem? (l := tables_1_1) (i := 102) (by decide +kernel))
set_option maxRecDepth 100000 in
theorem lw_w442 : Cond.methodLink RX2 100 yX4_valueOfA ∈ lw_tbl := lw_m2 (List.mem_of_getElem? (l := tables_1_2) (i := 238) (by decide +kernel))
set_option maxRecDepth 100000 in
theorem lw_w443 : Cond.methodLink RX2 104 yX4_valueOfB ∈ lw_tbl := lw_m2 (List.mem_of_getElem? (l := tables_1_2) (i := 239) (by decide +kernel))
set_option maxRecDepth 100000 in
theorem lw_w444 : Cond.methodLink RX2 125 yX1_signedAlike ∈ lw_tbl := lw_m3 (List.mem_of_getElem? (l := tables_1_3) (i := 2) (by decide +kernel))
set_option maxRecDepth 100000 in
theorem lw_w445 : Cond.methodLink RX7 131 yX5_learn ∈ lw_tbl := lw_m3 (List.mem_of_getElem? (l := tables_1_3) (i := 4) (by decide +kernel))
set_option maxRecDepth 100000 in
theorem lw_w446 : Cond.instanceMethod yX5_learn ∈ lw_tbl := lw_m3 (List.mem_of_getElem? (l := tables_1_3) (i := 5) (by decide +kernel))
set_option maxRecDepth 100000 in
theorem lw_w447 : Cond.selects RX5 yX5_learn yX5_learn ∈ lw_tbl := lw_m3 (List.mem_of_getElem? (l := tables_1_3) (i := 6) (by decide +kernel))
set_option maxRecDepth 100000 in
theorem lw_w448 : Cond.code yX5_learn cX5_learn 3 none ∈ lw_tbl := lw_m3 (List.mem_of_getElem? (l := tables_1_3) (i := 7) (rfl))
set_option maxRecDepth 100000 in
theorem lw_w449 : Cond.fieldLink RX5 29 "SumsOver$Tally" "known" "Z" ∈ lw_tbl := lw_m1 (List.mem_of_getElem? (l := tables_1_1) (i := 178) (by decide +kernel))
set_option maxRecDepth 100000 in
theorem lw_w450 : Cond.fieldLink RX5 39 "SumsOver$Tally" "runsOver" "I" ∈ lw_tbl := lw_m1 (List.mem_of_getElem? (l := tables_1_1) (i := 176) (by decide +kernel))
set_option maxRecDepth 100000 in
theorem lw_w451 : Cond.fieldLink RX5 43 "SumsOver$Inputs" "from" "[I" ∈ lw_tbl := lw_m1 (List.mem_of_getElem? (l := tables_1_1) (i := 69) (by decide +kernel))
set_option maxRecDepth 100000 in
theorem lw_w452 : Cond.fieldLink RX5 48 "SumsOver$Inputs" "to" "[I" ∈ lw_tbl := lw_m1 (List.mem_of_getElem? (l := tables_1_1) (i := 74) (by decide +kernel))
set_option maxRecDepth 100000 in
theorem lw_w453 : Cond.methodLink RX5 33 yJ7_fill_53178 ∈ lw_tbl := lw_m3 (List.mem_of_getElem? (l := tables_1_3) (i := 8) (by decide +kernel))
set_option maxRecDepth 100000 in
theorem lw_w454 : Cond.static yJ7_fill_53178 ∈ lw_tbl := lw_m3 (List.mem_of_getElem? (l := tables_1_3) (i := 9) (by decide +kernel))
set_option maxRecDepth 100000 in
theorem lw_w455 : Cond.code yJ7_fill_53178 cJ7_fill_53178 4 none ∈ lw_tbl := lw_m3 (List.mem_of_getElem? (l := tables_1_3) (i := 10) (rfl))
set_option maxRecDepth 100000 in
theorem lw_w456 : Cond.methodLink RX5 51 yX3_follow ∈ lw_tbl := lw_m3 (List.mem_of_getElem? (l := tables_1_3) (i := 11) (by decide +kernel))
set_option maxRecDepth 100000 in
theorem lw_w457 : Cond.methodLink RX5 57 yX5_note ∈ lw_tbl := lw_m3 (List.mem_of_getElem? (l := tables_1_3) (i := 12) (by decide +kernel))
set_option maxRecDepth 100000 in
theorem lw_w458 : Cond.instanceMethod yX5_note ∈ lw_tbl := lw_m3 (List.mem_of_getElem? (l := tables_1_3) (i := 14) (by decide +kernel))
set_option maxRecDepth 100000 in
theorem lw_w459 : Cond.selects RX5 yX5_note yX5_note ∈ lw_tbl := lw_m0 (List.mem_of_getElem? (l := (k2_sels lw_privs)) (i := 14) (by decide +kernel))
set_option maxRecDepth 100000 in
theorem lw_w460 : Cond.code yX5_note cX5_note 2 none ∈ lw_tbl := lw_m3 (List.mem_of_getElem? (l := tables_1_3) (i := 15) (rfl))
set_option maxRecDepth 100000 in
theorem lw_w461 : Cond.fieldLink RX5 61 "SumsOver$Runner" "overBits" "I" ∈ lw_tbl := lw_m1 (List.mem_of_getElem? (l := tables_1_1) (i := 146) (by decide +kernel))
set_option maxRecDepth 100000 in
theorem lw_w462 : Cond.fieldLink RX5 67 "SumsOver$Runner" "turnedBits" "I" ∈ lw_tbl := lw_m1 (List.mem_of_getElem? (l := tables_1_1) (i := 148) (by decide +kernel))
set_option maxRecDepth 100000 in
theorem lw_w463 : Cond.methodLink RX5 64 yX5_noteOver ∈ lw_tbl := lw_m3 (List.mem_of_getElem? (l := tables_1_3) (i := 16) (by decide +kernel))
set_option maxRecDepth 100000 in
theorem lw_w464 : Cond.instanceMethod yX5_noteOver ∈ lw_tbl := lw_m3 (List.mem_of_getElem? (l := tables_1_3) (i := 18) (by decide +kernel))
set_option maxRecDepth 100000 in
theorem lw_w465 : Cond.selects RX5 yX5_noteOver yX5_noteOver ∈ lw_tbl := lw_m0 (List.mem_of_getElem? (l := (k2_sels lw_privs)) (i := 15) (by decide +kernel))
set_option maxRecDepth 100000 in
theorem lw_w466 : Cond.code yX5_noteOver cX5_noteOver 4 none ∈ lw_tbl := lw_m3 (List.mem_of_getElem? (l := tables_1_3) (i := 19) (rfl))
set_option maxRecDepth 100000 in
theorem lw_w467 : Cond.methodLink RX5 70 yX5_noteTurned ∈ lw_tbl := lw_m3 (List.mem_of_getElem? (l := tables_1_3) (i := 20) (by decide +kernel))
set_option maxRecDepth 100000 in
theorem lw_w468 : Cond.instanceMethod yX5_noteTurned ∈ lw_tbl := lw_m3 (List.mem_of_getElem? (l := tables_1_3) (i := 22) (by decide +kernel))
set_option maxRecDepth 100000 in
theorem lw_w469 : Cond.selects RX5 yX5_noteTurned yX5_noteTurned ∈ lw_tbl := lw_m0 (List.mem_of_getElem? (l := (k2_sels lw_privs)) (i := 16) (by decide +kernel))
set_option maxRecDepth 100000 in
theorem lw_w470 : Cond.code yX5_noteTurned cX5_noteTurned 3 none ∈ lw_tbl := lw_m3 (List.mem_of_getElem? (l := tables_1_3) (i := 23) (rfl))
set_option maxRecDepth 100000 in
theorem lw_w471 : Cond.methodLink RX7 132 yX7_judged ∈ lw_tbl := lw_m3 (List.mem_of_getElem? (l := tables_1_3) (i := 24) (by decide +kernel))
set_option maxRecDepth 100000 in
theorem lw_w472 : Cond.instanceMethod yX7_judged ∈ lw_tbl := lw_m3 (List.mem_of_getElem? (l := tables_1_3) (i := 26) (by decide +kernel))
set_option maxRecDepth 100000 in
theorem lw_w473 : Cond.selects RX7 yX7_judged yX7_judged ∈ lw_tbl := lw_m0 (List.mem_of_getElem? (l := (k2_sels lw_privs)) (i := 17) (by decide +kernel))
set_option maxRecDepth 100000 in
theorem lw_w474 : Cond.code yX7_judged cX7_judged 2 (some .int) ∈ lw_tbl := lw_m3 (List.mem_of_getElem? (l := tables_1_3) (i := 27) (rfl))
set_option maxRecDepth 100000 in
theorem lw_w475 : Cond.fieldLink RX7 136 "SumsOver$Tally" "over" "[I" ∈ lw_tbl := lw_m1 (List.mem_of_getElem? (l := tables_1_1) (i := 171) (by decide +kernel))
set_option maxRecDepth 100000 in
theorem lw_w476 : Cond.methodLink RX7 220 yX2_couldGoOver ∈ lw_tbl := lw_m3 (List.mem_of_getElem? (l := tables_1_3) (i := 28) (by decide +kernel))
set_option maxRecDepth 100000 in
theorem lw_w477 : Cond.instanceMethod yX2_couldGoOver ∈ lw_tbl := lw_m3 (List.mem_of_getElem? (l := tables_1_3) (i := 29) (by decide +kernel))
set_option maxRecDepth 100000 in
theorem lw_w478 : Cond.selects RX2 yX2_couldGoOver yX2_couldGoOver ∈ lw_tbl := lw_m3 (List.mem_of_getElem? (l := tables_1_3) (i := 30) (by decide +kernel))
set_option maxRecDepth 100000 in
theorem lw_w479 : Cond.code yX2_couldGoOver cX2_couldGoOver 2 (some .boolean) ∈ lw_tbl := lw_m3 (List.mem_of_getElem? (l := tables_1_3) (i := 31) (rfl))
set_option maxRecDepth 100000 in
theorem lw_w480 : Cond.methodLink RX7 184 yX0_runs ∈ lw_tbl := lw_m3 (List.mem_of_getElem? (l := tables_1_3) (i := 32) (by decide +kernel))
set_option maxRecDepth 100000 in
theorem lw_w481 : Cond.instanceMethod yX0_runs ∈ lw_tbl := lw_m3 (List.mem_of_getElem? (l := tables_1_3) (i := 33) (by decide +kernel))
set_option maxRecDepth 100000 in
theorem lw_w482 : Cond.selects RX0 yX0_runs yX0_runs ∈ lw_tbl := lw_m3 (List.mem_of_getElem? (l := tables_1_3) (i := 34) (by decide +kernel))
set_option maxRecDepth 100000 in
theorem lw_w483 : Cond.code yX0_runs cX0_runs 1 (some .int) ∈ lw_tbl := lw_m3 (List.mem_of_getElem? (l := tables_1_3) (i := 35) (rfl))
set_option maxRecDepth 100000 in
theorem lw_w484 : Cond.methodLink RL 48 yX7_judge ∈ lw_tbl := lw_m2 (List.mem_of_getElem? (l := tables_1_2) (i := 207) (by decide +kernel))
set_option maxRecDepth 100000 in
theorem lw_w485 : Cond.instanceMethod yX7_judge ∈ lw_tbl := lw_m2 (List.mem_of_getElem? (l := tables_1_2) (i := 208) (by decide +kernel))
set_option maxRecDepth 100000 in
theorem lw_w486 : Cond.selects RX7 yX7_judge yX7_judge ∈ lw_tbl := lw_m2 (List.mem_of_getElem? (l := tables_1_2) (i := 209) (by decide +kernel))
set_option maxRecDepth 100000 in
theorem lw_w487 : Cond.code yX8_judge cX8_judge 2 (some .int) ∈ lw_tbl := lw_m4 (List.mem_of_getElem? (l := tables_1_4) (i := 95) (rfl))
set_option maxRecDepth 100000 in
theorem lw_w488 : Cond.methodLink RX8 187 yX8_isStep ∈ lw_tbl := lw_m4 (List.mem_of_getElem? (l := tables_1_4) (i := 96) (by decide +kernel))
set_option maxRecDepth 100000 in
theorem lw_w489 : Cond.instanceMethod yX8_isStep ∈ lw_tbl := lw_m4 (List.mem_of_getElem? (l := tables_1_4) (i := 98) (by decide +kernel))
set_option maxRecDepth 100000 in
theorem lw_w490 : Cond.selects RX8 yX8_isStep yX8_isStep ∈ lw_tbl := lw_m0 (List.mem_of_getElem? (l := (k2_sels lw_privs)) (i := 42) (by decide +kernel))
set_option maxRecDepth 100000 in
theorem lw_w491 : Cond.code yX8_isStep cX8_isStep 2 (some .boolean) ∈ lw_tbl := lw_m4 (List.mem_of_getElem? (l := tables_1_4) (i := 99) (rfl))
set_option maxRecDepth 100000 in
theorem lw_w492 : Cond.methodLink RX8 180 yX8_spans ∈ lw_tbl := lw_m4 (List.mem_of_getElem? (l := tables_1_4) (i := 71) (by decide +kernel))
set_option maxRecDepth 100000 in
theorem lw_w493 : Cond.instanceMethod yX8_spans ∈ lw_tbl := lw_m4 (List.mem_of_getElem? (l := tables_1_4) (i := 73) (by decide +kernel))
set_option maxRecDepth 100000 in
theorem lw_w494 : Cond.selects RX8 yX8_spans yX8_spans ∈ lw_tbl := lw_m0 (List.mem_of_getElem? (l := (k2_sels lw_privs)) (i := 37) (by decide +kernel))
set_option maxRecDepth 100000 in
theorem lw_w495 : Cond.code yX8_spans cX8_spans 3 none ∈ lw_tbl := lw_m4 (List.mem_of_getElem? (l := tables_1_4) (i := 74) (rfl))
set_option maxRecDepth 100000 in
theorem lw_w496 : Cond.methodLink RX8 167 yX8_ends ∈ lw_tbl := lw_m4 (List.mem_of_getElem? (l := tables_1_4) (i := 75) (by decide +kernel))
set_option maxRecDepth 100000 in
theorem lw_w497 : Cond.instanceMethod yX8_ends ∈ lw_tbl := lw_m4 (List.mem_of_getElem? (l := tables_1_4) (i := 77) (by decide +kernel))
set_option maxRecDepth 100000 in
theorem lw_w498 : Cond.selects RX8 yX8_ends yX8_ends ∈ lw_tbl := lw_m0 (List.mem_of_getElem? (l := (k2_sels lw_privs)) (i := 38) (by decide +kernel))
set_option maxRecDepth 100000 in
theorem lw_w499 : Cond.code yX8_ends cX8_ends 7 (some .boolean) ∈ lw_tbl := lw_m4 (List.mem_of_getElem? (l := tables_1_4) (i := 78) (rfl))
set_option maxRecDepth 100000 in
theorem lw_w500 : Cond.methodLink RX8 177 yX8_goes ∈ lw_tbl := lw_m4 (List.mem_of_getElem? (l := tables_1_4) (i := 79) (by decide +kernel))
set_option maxRecDepth 100000 in
theorem lw_w501 : Cond.instanceMethod yX8_goes ∈ lw_tbl := lw_m4 (List.mem_of_getElem? (l := tables_1_4) (i := 81) (by decide +kernel))
set_option maxRecDepth 100000 in
theorem lw_w502 : Cond.selects RX8 yX8_goes yX8_goes ∈ lw_tbl := lw_m0 (List.mem_of_getElem? (l := (k2_sels lw_privs)) (i := 39) (by decide +kernel))
set_option maxRecDepth 100000 in
theorem lw_w503 : Cond.code yX8_goes cX8_goes 3 (some .boolean) ∈ lw_tbl := lw_m4 (List.mem_of_getElem? (l := tables_1_4) (i := 82) (rfl))
set_option maxRecDepth 100000 in
theorem lw_w504 : Cond.methodLink RX8 171 yX8_products ∈ lw_tbl := lw_m4 (List.mem_of_getElem? (l := tables_1_4) (i := 83) (by decide +kernel))
set_option maxRecDepth 100000 in
theorem lw_w505 : Cond.instanceMethod yX8_products ∈ lw_tbl := lw_m4 (List.mem_of_getElem? (l := tables_1_4) (i := 85) (by decide +kernel))
set_option maxRecDepth 100000 in
theorem lw_w506 : Cond.selects RX8 yX8_products yX8_products ∈ lw_tbl := lw_m0 (List.mem_of_getElem? (l := (k2_sels lw_privs)) (i := 40) (by decide +kernel))
set_option maxRecDepth 100000 in
theorem lw_w507 : Cond.code yX8_products cX8_products 10 (some .boolean) ∈ lw_tbl := lw_m4 (List.mem_of_getElem? (l := tables_1_4) (i := 86) (rfl))
set_option maxRecDepth 100000 in
theorem lw_w508 : Cond.methodLink RX8 165 Lib.MathLoose.max_long.x ∈ lw_tbl := lw_m4 (List.mem_of_getElem? (l := tables_1_4) (i := 87) (by decide +kernel))
set_option maxRecDepth 100000 in
theorem lw_w509 : Cond.methodLink RX8 174 yX8_belows ∈ lw_tbl := lw_m4 (List.mem_of_getElem? (l := tables_1_4) (i := 88) (by decide +kernel))
set_option maxRecDepth 100000 in
theorem lw_w510 : Cond.instanceMethod yX8_belows ∈ lw_tbl := lw_m4 (List.mem_of_getElem? (l := tables_1_4) (i := 90) (by decide +kernel))
set_option maxRecDepth 100000 in
theorem lw_w511 : Cond.selects RX8 yX8_belows yX8_belows ∈ lw_tbl := lw_m0 (List.mem_of_getElem? (l := (k2_sels lw_privs)) (i := 41) (by decide +kernel))
set_option maxRecDepth 100000 in
theorem lw_w512 : Cond.code yX8_belows cX8_belows 3 (some .boolean) ∈ lw_tbl := lw_m4 (List.mem_of_getElem? (l := tables_1_4) (i := 91) (rfl))
set_option maxRecDepth 100000 in
theorem lw_w513 : Cond.methodLink RX8 190 yX8_all ∈ lw_tbl := lw_m4 (List.mem_of_getElem? (l := tables_1_4) (i := 100) (by decide +kernel))
set_option maxRecDepth 100000 in
theorem lw_w514 : Cond.instanceMethod yX8_all ∈ lw_tbl := lw_m4 (List.mem_of_getElem? (l := tables_1_4) (i := 102) (by decide +kernel))
set_option maxRecDepth 100000 in
theorem lw_w515 : Cond.selects RX8 yX8_all yX8_all ∈ lw_tbl := lw_m0 (List.mem_of_getElem? (l := (k2_sels lw_privs)) (i := 43) (by decide +kernel))
set_option maxRecDepth 100000 in
theorem lw_w516 : Cond.code yX8_all cX8_all 4 none ∈ lw_tbl := lw_m4 (List.mem_of_getElem? (l := tables_1_4) (i := 103) (rfl))
set_option maxRecDepth 100000 in
theorem lw_w517 : Cond.fieldLink RX8 153 "SumsOverModel" "runsOver" "I" ∈ lw_tbl := lw_m3 (List.mem_of_getElem? (l := tables_1_3) (i := 158) (by decide +kernel))
set_option maxRecDepth 100000 in
theorem lw_w518 : Cond.methodLink RX8 193 yX8_judged ∈ lw_tbl := lw_m4 (List.mem_of_getElem? (l := tables_1_4) (i := 104) (by decide +kernel))
set_option maxRecDepth 100000 in
theorem lw_w519 : Cond.instanceMethod yX8_judged ∈ lw_tbl := lw_m4 (List.mem_of_getElem? (l := tables_1_4) (i := 106) (by decide +kernel))
set_option maxRecDepth 100000 in
theorem lw_w520 : Cond.selects RX8 yX8_judged yX8_judged ∈ lw_tbl := lw_m0 (List.mem_of_getElem? (l := (k2_sels lw_privs)) (i := 44) (by decide +kernel))
set_option maxRecDepth 100000 in
theorem lw_w521 : Cond.code yX8_judged cX8_judged 2 (some .int) ∈ lw_tbl := lw_m4 (List.mem_of_getElem? (l := tables_1_4) (i := 107) (rfl))
set_option maxRecDepth 100000 in
theorem lw_w522 : Cond.methodLink RX8 183 yX8_many ∈ lw_tbl := lw_m4 (List.mem_of_getElem? (l := tables_1_4) (i := 108) (by decide +kernel))
set_option maxRecDepth 100000 in
theorem lw_w523 : Cond.instanceMethod yX8_many ∈ lw_tbl := lw_m4 (List.mem_of_getElem? (l := tables_1_4) (i := 110) (by decide +kernel))
set_option maxRecDepth 100000 in
theorem lw_w524 : Cond.selects RX8 yX8_many yX8_many ∈ lw_tbl := lw_m0 (List.mem_of_getElem? (l := (k2_sels lw_privs)) (i := 45) (by decide +kernel))
set_option maxRecDepth 100000 in
theorem lw_w525 : Cond.code yX8_many cX8_many 1 (some .int) ∈ lw_tbl := lw_m4 (List.mem_of_getElem? (l := tables_1_4) (i := 111) (rfl))
set_option maxRecDepth 100000 in
theorem lw_w526 : Cond.methodLink RL 52 yX8_judge ∈ lw_tbl := lw_m4 (List.mem_of_getElem? (l := tables_1_4) (i := 92) (by decide +kernel))
set_option maxRecDepth 100000 in
theorem lw_w527 : Cond.instanceMethod yX8_judge ∈ lw_tbl := lw_m4 (List.mem_of_getElem? (l := tables_1_4) (i := 93) (by decide +kernel))
set_option maxRecDepth 100000 in
theorem lw_w528 : Cond.selects RX8 yX8_judge yX8_judge ∈ lw_tbl := lw_m4 (List.mem_of_getElem? (l := tables_1_4) (i := 94) (by decide +kernel))
set_option maxRecDepth 100000 in
theorem lw_w529 : Cond.code yX7_over cX7_over 2 (some .int) ∈ lw_tbl := lw_m3 (List.mem_of_getElem? (l := tables_1_3) (i := 39) (rfl))
set_option maxRecDepth 100000 in
theorem lw_w530 : Cond.methodLink RL 53 yX7_over ∈ lw_tbl := lw_m3 (List.mem_of_getElem? (l := tables_1_3) (i := 36) (by decide +kernel))
set_option maxRecDepth 100000 in
theorem lw_w531 : Cond.instanceMethod yX7_over ∈ lw_tbl := lw_m3 (List.mem_of_getElem? (l := tables_1_3) (i := 37) (by decide +kernel))
set_option maxRecDepth 100000 in
theorem lw_w532 : Cond.selects RX7 yX7_over yX7_over ∈ lw_tbl := lw_m3 (List.mem_of_getElem? (l := tables_1_3) (i := 38) (by decide +kernel))
set_option maxRecDepth 100000 in
theorem lw_w533 : Cond.code yX8_over cX8_over 2 (some .int) ∈ lw_tbl := lw_m4 (List.mem_of_getElem? (l := tables_1_4) (i := 115) (rfl))
set_option maxRecDepth 100000 in
theorem lw_w534 : Cond.methodLink RL 56 yX8_over ∈ lw_tbl := lw_m4 (List.mem_of_getElem? (l := tables_1_4) (i := 112) (by decide +kernel))
set_option maxRecDepth 100000 in
theorem lw_w535 : Cond.instanceMethod yX8_over ∈ lw_tbl := lw_m4 (List.mem_of_getElem? (l := tables_1_4) (i := 113) (by decide +kernel))
set_option maxRecDepth 100000 in
theorem lw_w536 : Cond.selects RX8 yX8_over yX8_over ∈ lw_tbl := lw_m4 (List.mem_of_getElem? (l := tables_1_4) (i := 114) (by decide +kernel))
set_option maxRecDepth 100000 in
theorem lw_w537 : Cond.code yX7_shown cX7_shown 2 (some .int) ∈ lw_tbl := lw_m3 (List.mem_of_getElem? (l := tables_1_3) (i := 43) (rfl))
set_option maxRecDepth 100000 in
theorem lw_w538 : Cond.fieldLink RX7 139 "SumsOver$Tally" "shown" "[I" ∈ lw_tbl := lw_m1 (List.mem_of_getElem? (l := tables_1_1) (i := 173) (by decide +kernel))
set_option maxRecDepth 100000 in
theorem lw_w539 : Cond.methodLink RL 57 yX7_shown ∈ lw_tbl := lw_m3 (List.mem_of_getElem? (l := tables_1_3) (i := 40) (by decide +kernel))
set_option maxRecDepth 100000 in
theorem lw_w540 : Cond.instanceMethod yX7_shown ∈ lw_tbl := lw_m3 (List.mem_of_getElem? (l := tables_1_3) (i := 41) (by decide +kernel))
set_option maxRecDepth 100000 in
theorem lw_w541 : Cond.selects RX7 yX7_shown yX7_shown ∈ lw_tbl := lw_m3 (List.mem_of_getElem? (l := tables_1_3) (i := 42) (by decide +kernel))
set_option maxRecDepth 100000 in
theorem lw_w542 : Cond.code yX8_shown cX8_shown 2 (some .int) ∈ lw_tbl := lw_m4 (List.mem_of_getElem? (l := tables_1_4) (i := 119) (rfl))
set_option maxRecDepth 100000 in
theorem lw_w543 : Cond.methodLink RL 60 yX8_shown ∈ lw_tbl := lw_m4 (List.mem_of_getElem? (l := tables_1_4) (i := 116) (by decide +kernel))
set_option maxRecDepth 100000 in
theorem lw_w544 : Cond.instanceMethod yX8_shown ∈ lw_tbl := lw_m4 (List.mem_of_getElem? (l := tables_1_4) (i := 117) (by decide +kernel))
set_option maxRecDepth 100000 in
theorem lw_w545 : Cond.selects RX8 yX8_shown yX8_shown ∈ lw_tbl := lw_m4 (List.mem_of_getElem? (l := tables_1_4) (i := 118) (by decide +kernel))
set_option maxRecDepth 100000 in
theorem lw_w546 : Cond.code yX7_turned cX7_turned 2 (some .int) ∈ lw_tbl := lw_m3 (List.mem_of_getElem? (l := tables_1_3) (i := 47) (rfl))
set_option maxRecDepth 100000 in
theorem lw_w547 : Cond.fieldLink RX7 142 "SumsOver$Steps" "kinds" "[I" ∈ lw_tbl := lw_m1 (List.mem_of_getElem? (l := tables_1_1) (i := 92) (by decide +kernel))
set_option maxRecDepth 100000 in
theorem lw_w548 : Cond.fieldLink RX7 145 "SumsOver$Tally" "turned" "[I" ∈ lw_tbl := lw_m1 (List.mem_of_getElem? (l := tables_1_1) (i := 175) (by decide +kernel))
set_option maxRecDepth 100000 in
theorem lw_w549 : Cond.methodLink RL 61 yX7_turned ∈ lw_tbl := lw_m3 (List.mem_of_getElem? (l := tables_1_3) (i := 44) (by decide +kernel))
set_option maxRecDepth 100000 in
theorem lw_w550 : Cond.instanceMethod yX7_turned ∈ lw_tbl := lw_m3 (List.mem_of_getElem? (l := tables_1_3) (i := 45) (by decide +kernel))
set_option maxRecDepth 100000 in
theorem lw_w551 : Cond.selects RX7 yX7_turned yX7_turned ∈ lw_tbl := lw_m3 (List.mem_of_getElem? (l := tables_1_3) (i := 46) (by decide +kernel))
set_option maxRecDepth 100000 in
theorem lw_w552 : Cond.code yX8_turned cX8_turned 2 (some .int) ∈ lw_tbl := lw_m4 (List.mem_of_getElem? (l := tables_1_4) (i := 123) (rfl))
set_option maxRecDepth 100000 in
theorem lw_w553 : Cond.methodLink RL 64 yX8_turned ∈ lw_tbl := lw_m4 (List.mem_of_getElem? (l := tables_1_4) (i := 120) (by decide +kernel))
set_option maxRecDepth 100000 in
theorem lw_w554 : Cond.instanceMethod yX8_turned ∈ lw_tbl := lw_m4 (List.mem_of_getElem? (l := tables_1_4) (i := 121) (by decide +kernel))
set_option maxRecDepth 100000 in
theorem lw_w555 : Cond.selects RX8 yX8_turned yX8_turned ∈ lw_tbl := lw_m4 (List.mem_of_getElem? (l := tables_1_4) (i := 122) (by decide +kernel))
set_option maxRecDepth 100000 in
theorem lw_w556 : Cond.code yX7_ends cX7_ends 3 (some .int) ∈ lw_tbl := lw_m3 (List.mem_of_getElem? (l := tables_1_3) (i := 51) (rfl))
set_option maxRecDepth 100000 in
theorem lw_w557 : Cond.fieldLink RX7 148 "SumsOver$Reach" "least" "[J" ∈ lw_tbl := lw_m1 (List.mem_of_getElem? (l := tables_1_1) (i := 204) (by decide +kernel))
set_option maxRecDepth 100000 in
theorem lw_w558 : Cond.fieldLink RX7 151 "SumsOver$Reach" "greatest" "[J" ∈ lw_tbl := lw_m1 (List.mem_of_getElem? (l := tables_1_1) (i := 206) (by decide +kernel))
set_option maxRecDepth 100000 in
theorem lw_w559 : Cond.methodLink RL 65 yX7_ends ∈ lw_tbl := lw_m3 (List.mem_of_getElem? (l := tables_1_3) (i := 48) (by decide +kernel))
set_option maxRecDepth 100000 in
theorem lw_w560 : Cond.instanceMethod yX7_ends ∈ lw_tbl := lw_m3 (List.mem_of_getElem? (l := tables_1_3) (i := 49) (by decide +kernel))
set_option maxRecDepth 100000 in
theorem lw_w561 : Cond.selects RX7 yX7_ends yX7_ends ∈ lw_tbl := lw_m3 (List.mem_of_getElem? (l := tables_1_3) (i := 50) (by decide +kernel))
set_option maxRecDepth 100000 in
theorem lw_w562 : Cond.code yX8_ends_ cX8_ends_ 3 (some .int) ∈ lw_tbl := lw_m4 (List.mem_of_getElem? (l := tables_1_4) (i := 70) (rfl))
set_option maxRecDepth 100000 in
theorem lw_w563 : Cond.methodLink RL 68 yX8_ends_ ∈ lw_tbl := lw_m4 (List.mem_of_getElem? (l := tables_1_4) (i := 67) (by decide +kernel))
set_option maxRecDepth 100000 in
theorem lw_w564 : Cond.instanceMethod yX8_ends_ ∈ lw_tbl := lw_m4 (List.mem_of_getElem? (l := tables_1_4) (i := 68) (by decide +kernel))
set_option maxRecDepth 100000 in
theorem lw_w565 : Cond.selects RX8 yX8_ends_ yX8_ends_ ∈ lw_tbl := lw_m4 (List.mem_of_getElem? (l := tables_1_4) (i := 69) (by decide +kernel))
set_option maxRecDepth 100000 in
theorem lw_w566 : Cond.code yX7_need cX7_need 2 (some .int) ∈ lw_tbl := lw_m3 (List.mem_of_getElem? (l := tables_1_3) (i := 55) (rfl))
set_option maxRecDepth 100000 in
theorem lw_w567 : Cond.methodLink RX7 154 yX6_learn ∈ lw_tbl := lw_m3 (List.mem_of_getElem? (l := tables_1_3) (i := 56) (by decide +kernel))
set_option maxRecDepth 100000 in
theorem lw_w568 : Cond.instanceMethod yX6_learn ∈ lw_tbl := lw_m3 (List.mem_of_getElem? (l := tables_1_3) (i := 57) (by decide +kernel))
set_option maxRecDepth 100000 in
theorem lw_w569 : Cond.selects RX6 yX6_learn yX6_learn ∈ lw_tbl := lw_m3 (List.mem_of_getElem? (l := tables_1_3) (i := 58) (by decide +kernel))
set_option maxRecDepth 100000 in
theorem lw_w570 : Cond.code yX6_learn cX6_learn 3 none ∈ lw_tbl := lw_m3 (List.mem_of_getElem? (l := tables_1_3) (i := 59) (rfl))
set_option maxRecDepth 100000 in
theorem lw_w571 : Cond.fieldLink RX6 29 "SumsOver$Trues" "known" "Z" ∈ lw_tbl := lw_m2 (List.mem_of_getElem? (l := tables_1_2) (i := 6) (by decide +kernel))
set_option maxRecDepth 100000 in
theorem lw_w572 : Cond.fieldLink RX6 33 "SumsOver$Trues" "tooFar" "Z" ∈ lw_tbl := lw_m2 (List.mem_of_getElem? (l := tables_1_2) (i := 4) (by decide +kernel))
set_option maxRecDepth 100000 in
theorem lw_w573 : Cond.fieldLink RX6 42 "SumsOver$Inputs" "from" "[I" ∈ lw_tbl := lw_m1 (List.mem_of_getElem? (l := tables_1_1) (i := 68) (by decide +kernel))
set_option maxRecDepth 100000 in
theorem lw_w574 : Cond.fieldLink RX6 48 "SumsOver$Inputs" "to" "[I" ∈ lw_tbl := lw_m1 (List.mem_of_getElem? (l := tables_1_1) (i := 73) (by decide +kernel))
set_option maxRecDepth 100000 in
theorem lw_w575 : Cond.methodLink RX6 36 yJ7_fill_d0a16 ∈ lw_tbl := lw_m3 (List.mem_of_getElem? (l := tables_1_3) (i := 60) (by decide +kernel))
set_option maxRecDepth 100000 in
theorem lw_w576 : Cond.methodLink RX6 51 yX6_follow ∈ lw_tbl := lw_m3 (List.mem_of_getElem? (l := tables_1_3) (i := 61) (by decide +kernel))
set_option maxRecDepth 100000 in
theorem lw_w577 : Cond.instanceMethod yX6_follow ∈ lw_tbl := lw_m3 (List.mem_of_getElem? (l := tables_1_3) (i := 63) (by decide +kernel))
set_option maxRecDepth 100000 in
theorem lw_w578 : Cond.selects RX6 yX6_follow yX6_follow ∈ lw_tbl := lw_m0 (List.mem_of_getElem? (l := (k2_sels lw_privs)) (i := 18) (by decide +kernel))
set_option maxRecDepth 100000 in
theorem lw_w579 : Cond.code yX6_follow cX6_follow 4 none ∈ lw_tbl := lw_m3 (List.mem_of_getElem? (l := tables_1_3) (i := 64) (rfl))
set_option maxRecDepth 100000 in
theorem lw_w580 : Cond.fieldLink RX6 59 "SumsOver$Steps" "pathLength" "I" ∈ lw_tbl := lw_m1 (List.mem_of_getElem? (l := tables_1_1) (i := 113) (by decide +kernel))
set_option maxRecDepth 100000 in
theorem lw_w581 : Cond.fieldLink RX6 65 "SumsOver$Steps" "path" "[I" ∈ lw_tbl := lw_m1 (List.mem_of_getElem? (l := tables_1_1) (i := 110) (by decide +kernel))
set_option maxRecDepth 100000 in
theorem lw_w582 : Cond.methodLink RX6 55 yX6_give ∈ lw_tbl := lw_m3 (List.mem_of_getElem? (l := tables_1_3) (i := 65) (by decide +kernel))
set_option maxRecDepth 100000 in
theorem lw_w583 : Cond.instanceMethod yX6_give ∈ lw_tbl := lw_m3 (List.mem_of_getElem? (l := tables_1_3) (i := 67) (by decide +kernel))
set_option maxRecDepth 100000 in
theorem lw_w584 : Cond.selects RX6 yX6_give yX6_give ∈ lw_tbl := lw_m0 (List.mem_of_getElem? (l := (k2_sels lw_privs)) (i := 19) (by decide +kernel))
set_option maxRecDepth 100000 in
theorem lw_w585 : Cond.code yX6_give cX6_give 4 none ∈ lw_tbl := lw_m3 (List.mem_of_getElem? (l := tables_1_3) (i := 68) (rfl))
set_option maxRecDepth 100000 in
theorem lw_w586 : Cond.methodLink RX6 101 Lib.MathLoose.min_long.x ∈ lw_tbl := lw_m3 (List.mem_of_getElem? (l := tables_1_3) (i := 69) (by decide +kernel))
set_option maxRecDepth 100000 in
theorem lw_w587 : Cond.methodLink RX6 105 Lib.MathLoose.max_long.x ∈ lw_tbl := lw_m3 (List.mem_of_getElem? (l := tables_1_3) (i := 70) (by decide +kernel))
set_option maxRecDepth 100000 in
theorem lw_w588 : Cond.methodLink RX6 93 Lib.MathLoose.abs_long.x ∈ lw_tbl := lw_m3 (List.mem_of_getElem? (l := tables_1_3) (i := 71) (by decide +kernel))
set_option maxRecDepth 100000 in
theorem lw_w589 : Cond.static Lib.MathLoose.abs_long.x ∈ lw_tbl := lw_m3 (List.mem_of_getElem? (l := tables_1_3) (i := 72) (by decide +kernel))
set_option maxRecDepth 100000 in
theorem lw_w590 : Cond.code Lib.MathLoose.abs_long.x Lib.MathLoose.abs_long.code 2 (some .long) ∈ lw_tbl := lw_m3 (List.mem_of_getElem? (l := tables_1_3) (i := 73) (rfl))
set_option maxRecDepth 100000 in
theorem lw_w591 : Cond.constantLong RX6 99 (1099511627776) ∈ lw_tbl := lw_m3 (List.mem_of_getElem? (l := tables_1_3) (i := 74) (by decide +kernel))
set_option maxRecDepth 100000 in
theorem lw_w592 : Cond.methodLink RX6 68 yX6_perform ∈ lw_tbl := lw_m3 (List.mem_of_getElem? (l := tables_1_3) (i := 75) (by decide +kernel))
set_option maxRecDepth 100000 in
theorem lw_w593 : Cond.instanceMethod yX6_perform ∈ lw_tbl := lw_m3 (List.mem_of_getElem? (l := tables_1_3) (i := 77) (by decide +kernel))
set_option maxRecDepth 100000 in
theorem lw_w594 : Cond.selects RX6 yX6_perform yX6_perform ∈ lw_tbl := lw_m0 (List.mem_of_getElem? (l := (k2_sels lw_privs)) (i := 20) (by decide +kernel))
set_option maxRecDepth 100000 in
theorem lw_w595 : Cond.code yX6_perform cX6_perform 7 none ∈ lw_tbl := lw_m3 (List.mem_of_getElem? (l := tables_1_3) (i := 78) (rfl))
set_option maxRecDepth 100000 in
theorem lw_w596 : Cond.fieldLink RX6 72 "SumsOver$Steps" "kinds" "[I" ∈ lw_tbl := lw_m1 (List.mem_of_getElem? (l := tables_1_1) (i := 89) (by decide +kernel))
set_option maxRecDepth 100000 in
theorem lw_w597 : Cond.fieldLink RX6 86 "SumsOver$Steps" "targets" "[I" ∈ lw_tbl := lw_m1 (List.mem_of_getElem? (l := tables_1_1) (i := 96) (by decide +kernel))
set_option maxRecDepth 100000 in
theorem lw_w598 : Cond.methodLink RX6 75 yX4_valueOfA ∈ lw_tbl := lw_m3 (List.mem_of_getElem? (l := tables_1_3) (i := 79) (by decide +kernel))
set_option maxRecDepth 100000 in
theorem lw_w599 : Cond.methodLink RX6 79 yX4_valueOfB ∈ lw_tbl := lw_m3 (List.mem_of_getElem? (l := tables_1_3) (i := 80) (by decide +kernel))
set_option maxRecDepth 100000 in
theorem lw_w600 : Cond.methodLink RX6 82 yX6_isProductTooFar ∈ lw_tbl := lw_m3 (List.mem_of_getElem? (l := tables_1_3) (i := 81) (by decide +kernel))
set_option maxRecDepth 100000 in
theorem lw_w601 : Cond.static yX6_isProductTooFar ∈ lw_tbl := lw_m3 (List.mem_of_getElem? (l := tables_1_3) (i := 82) (by decide +kernel))
set_option maxRecDepth 100000 in
theorem lw_w602 : Cond.code yX6_isProductTooFar cX6_isProductTooFar 4 (some .boolean) ∈ lw_tbl := lw_m3 (List.mem_of_getElem? (l := tables_1_3) (i := 83) (rfl))
set_option maxRecDepth 100000 in
theorem lw_w603 : Cond.methodLink RX7 155 yX7_needed ∈ lw_tbl := lw_m3 (List.mem_of_getElem? (l := tables_1_3) (i := 85) (by decide +kernel))
set_option maxRecDepth 100000 in
theorem lw_w604 : Cond.instanceMethod yX7_needed ∈ lw_tbl := lw_m3 (List.mem_of_getElem? (l := tables_1_3) (i := 87) (by decide +kernel))
set_option maxRecDepth 100000 in
theorem lw_w605 : Cond.selects RX7 yX7_needed yX7_needed ∈ lw_tbl := lw_m0 (List.mem_of_getElem? (l := (k2_sels lw_privs)) (i := 21) (by decide +kernel))
set_option maxRecDepth 100000 in
theorem lw_w606 : Cond.code yX7_needed cX7_needed 4 (some .int) ∈ lw_tbl := lw_m3 (List.mem_of_getElem? (l := tables_1_3) (i := 88) (rfl))
set_option maxRecDepth 100000 in
theorem lw_w607 : Cond.fieldLink RX7 223 "SumsOver$Trues" "tooFar" "Z" ∈ lw_tbl := lw_m2 (List.mem_of_getElem? (l := tables_1_2) (i := 5) (by decide +kernel))
set_option maxRecDepth 100000 in
theorem lw_w608 : Cond.fieldLink RX7 171 "SumsOver$Names" "signs" "[Z" ∈ lw_tbl := lw_m1 (List.mem_of_getElem? (l := tables_1_1) (i := 39) (by decide +kernel))
set_option maxRecDepth 100000 in
theorem lw_w609 : Cond.fieldLink RX7 226 "SumsOver$Trues" "least" "[J" ∈ lw_tbl := lw_m2 (List.mem_of_getElem? (l := tables_1_2) (i := 1) (by decide +kernel))
set_option maxRecDepth 100000 in
theorem lw_w610 : Cond.fieldLink RX7 231 "SumsOver$Trues" "greatest" "[J" ∈ lw_tbl := lw_m2 (List.mem_of_getElem? (l := tables_1_2) (i := 3) (by decide +kernel))
set_option maxRecDepth 100000 in
theorem lw_w611 : Cond.methodLink RX7 227 yX7_leastOf ∈ lw_tbl := lw_m3 (List.mem_of_getElem? (l := tables_1_3) (i := 89) (by decide +kernel))
set_option maxRecDepth 100000 in
theorem lw_w612 : Cond.methodLink RX7 232 yX7_greatestOf ∈ lw_tbl := lw_m3 (List.mem_of_getElem? (l := tables_1_3) (i := 90) (by decide +kernel))
set_option maxRecDepth 100000 in
theorem lw_w613 : Cond.methodLink RL 69 yX7_need ∈ lw_tbl := lw_m3 (List.mem_of_getElem? (l := tables_1_3) (i := 52) (by decide +kernel))
set_option maxRecDepth 100000 in
theorem lw_w614 : Cond.instanceMethod yX7_need ∈ lw_tbl := lw_m3 (List.mem_of_getElem? (l := tables_1_3) (i := 53) (by decide +kernel))
set_option maxRecDepth 100000 in
theorem lw_w615 : Cond.selects RX7 yX7_need yX7_need ∈ lw_tbl := lw_m3 (List.mem_of_getElem? (l := tables_1_3) (i := 54) (by decide +kernel))
set_option maxRecDepth 100000 in
theorem lw_w616 : Cond.code yX8_need cX8_need 2 (some .int) ∈ lw_tbl := lw_m4 (List.mem_of_getElem? (l := tables_1_4) (i := 127) (rfl))
set_option maxRecDepth 100000 in
theorem lw_w617 : Cond.methodLink RX8 219 yX8_needs ∈ lw_tbl := lw_m4 (List.mem_of_getElem? (l := tables_1_4) (i := 128) (by decide +kernel))
set_option maxRecDepth 100000 in
theorem lw_w618 : Cond.instanceMethod yX8_needs ∈ lw_tbl := lw_m4 (List.mem_of_getElem? (l := tables_1_4) (i := 130) (by decide +kernel))
set_option maxRecDepth 100000 in
theorem lw_w619 : Cond.selects RX8 yX8_needs yX8_needs ∈ lw_tbl := lw_m0 (List.mem_of_getElem? (l := (k2_sels lw_privs)) (i := 46) (by decide +kernel))
set_option maxRecDepth 100000 in
theorem lw_w620 : Cond.code yX8_needs cX8_needs 4 (some .boolean) ∈ lw_tbl := lw_m4 (List.mem_of_getElem? (l := tables_1_4) (i := 131) (rfl))
set_option maxRecDepth 100000 in
theorem lw_w621 : Cond.methodLink RX8 216 yX8_isNear ∈ lw_tbl := lw_m4 (List.mem_of_getElem? (l := tables_1_4) (i := 132) (by decide +kernel))
set_option maxRecDepth 100000 in
theorem lw_w622 : Cond.instanceMethod yX8_isNear ∈ lw_tbl := lw_m4 (List.mem_of_getElem? (l := tables_1_4) (i := 134) (by decide +kernel))
set_option maxRecDepth 100000 in
theorem lw_w623 : Cond.selects RX8 yX8_isNear yX8_isNear ∈ lw_tbl := lw_m0 (List.mem_of_getElem? (l := (k2_sels lw_privs)) (i := 47) (by decide +kernel))
set_option maxRecDepth 100000 in
theorem lw_w624 : Cond.code yX8_isNear cX8_isNear 7 (some .boolean) ∈ lw_tbl := lw_m4 (List.mem_of_getElem? (l := tables_1_4) (i := 135) (rfl))
set_option maxRecDepth 100000 in
theorem lw_w625 : Cond.methodLink RX8 209 yX8_given ∈ lw_tbl := lw_m4 (List.mem_of_getElem? (l := tables_1_4) (i := 136) (by decide +kernel))
set_option maxRecDepth 100000 in
theorem lw_w626 : Cond.instanceMethod yX8_given ∈ lw_tbl := lw_m4 (List.mem_of_getElem? (l := tables_1_4) (i := 138) (by decide +kernel))
set_option maxRecDepth 100000 in
theorem lw_w627 : Cond.selects RX8 yX8_given yX8_given ∈ lw_tbl := lw_m0 (List.mem_of_getElem? (l := (k2_sels lw_privs)) (i := 48) (by decide +kernel))
set_option maxRecDepth 100000 in
theorem lw_w628 : Cond.code yX8_given cX8_given 4 (some .boolean) ∈ lw_tbl := lw_m4 (List.mem_of_getElem? (l := tables_1_4) (i := 139) (rfl))
set_option maxRecDepth 100000 in
theorem lw_w629 : Cond.methodLink RX8 205 yX8_isFar ∈ lw_tbl := lw_m4 (List.mem_of_getElem? (l := tables_1_4) (i := 140) (by decide +kernel))
set_option maxRecDepth 100000 in
theorem lw_w630 : Cond.static yX8_isFar ∈ lw_tbl := lw_m4 (List.mem_of_getElem? (l := tables_1_4) (i := 141) (by decide +kernel))
set_option maxRecDepth 100000 in
theorem lw_w631 : Cond.code yX8_isFar cX8_isFar 2 (some .boolean) ∈ lw_tbl := lw_m4 (List.mem_of_getElem? (l := tables_1_4) (i := 142) (rfl))
set_option maxRecDepth 100000 in
theorem lw_w632 : Cond.constantLong RX8 197 (-1099511627776) ∈ lw_tbl := lw_m4 (List.mem_of_getElem? (l := tables_1_4) (i := 143) (by decide +kernel))
set_option maxRecDepth 100000 in
theorem lw_w633 : Cond.constantLong RX8 199 (1099511627776) ∈ lw_tbl := lw_m4 (List.mem_of_getElem? (l := tables_1_4) (i := 144) (by decide +kernel))
set_option maxRecDepth 100000 in
theorem lw_w634 : Cond.methodLink RX8 212 yX8_isFarProduct ∈ lw_tbl := lw_m4 (List.mem_of_getElem? (l := tables_1_4) (i := 145) (by decide +kernel))
set_option maxRecDepth 100000 in
theorem lw_w635 : Cond.static yX8_isFarProduct ∈ lw_tbl := lw_m4 (List.mem_of_getElem? (l := tables_1_4) (i := 146) (by decide +kernel))
set_option maxRecDepth 100000 in
theorem lw_w636 : Cond.code yX8_isFarProduct cX8_isFarProduct 8 (some .boolean) ∈ lw_tbl := lw_m4 (List.mem_of_getElem? (l := tables_1_4) (i := 147) (rfl))
set_option maxRecDepth 100000 in
theorem lw_w637 : Cond.methodLink RX8 201 Lib.MathLoose.abs_long.x ∈ lw_tbl := lw_m4 (List.mem_of_getElem? (l := tables_1_4) (i := 148) (by decide +kernel))
set_option maxRecDepth 100000 in
theorem lw_w638 : Cond.methodLink RX8 222 yX8_needOf ∈ lw_tbl := lw_m4 (List.mem_of_getElem? (l := tables_1_4) (i := 149) (by decide +kernel))
set_option maxRecDepth 100000 in
theorem lw_w639 : Cond.instanceMethod yX8_needOf ∈ lw_tbl := lw_m4 (List.mem_of_getElem? (l := tables_1_4) (i := 151) (by decide +kernel))
set_option maxRecDepth 100000 in
theorem lw_w640 : Cond.selects RX8 yX8_needOf yX8_needOf ∈ lw_tbl := lw_m0 (List.mem_of_getElem? (l := (k2_sels lw_privs)) (i := 49) (by decide +kernel))
set_option maxRecDepth 100000 in
theorem lw_w641 : Cond.code yX8_needOf cX8_needOf 7 (some .int) ∈ lw_tbl := lw_m4 (List.mem_of_getElem? (l := tables_1_4) (i := 152) (rfl))
set_option maxRecDepth 100000 in
theorem lw_w642 : Cond.methodLink RL 72 yX8_need ∈ lw_tbl := lw_m4 (List.mem_of_getElem? (l := tables_1_4) (i := 124) (by decide +kernel))
set_option maxRecDepth 100000 in
theorem lw_w643 : Cond.instanceMethod yX8_need ∈ lw_tbl := lw_m4 (List.mem_of_getElem? (l := tables_1_4) (i := 125) (by decide +kernel))
set_option maxRecDepth 100000 in
theorem lw_w644 : Cond.selects RX8 yX8_need yX8_need ∈ lw_tbl := lw_m4 (List.mem_of_getElem? (l := tables_1_4) (i := 126) (by decide +kernel))
set_option maxRecDepth 100000 in
theorem lw_w645 : Cond.code yX7_price cX7_price 3 (some .int) ∈ lw_tbl := lw_m3 (List.mem_of_getElem? (l := tables_1_3) (i := 94) (rfl))
set_option maxRecDepth 100000 in
theorem lw_w646 : Cond.fieldLink RX7 162 "SumsOver$Names" "widths" "[I" ∈ lw_tbl := lw_m1 (List.mem_of_getElem? (l := tables_1_1) (i := 37) (by decide +kernel))
set_option maxRecDepth 100000 in
theorem lw_w647 : Cond.methodLink RX7 165 Lib.Math.max.name ∈ lw_tbl := lw_m3 (List.mem_of_getElem? (l := tables_1_3) (i := 99) (by decide +kernel))
set_option maxRecDepth 100000 in
theorem lw_w648 : Cond.methodLink RX7 158 yX7_canMend ∈ lw_tbl := lw_m3 (List.mem_of_getElem? (l := tables_1_3) (i := 95) (by decide +kernel))
set_option maxRecDepth 100000 in
theorem lw_w649 : Cond.instanceMethod yX7_canMend ∈ lw_tbl := lw_m3 (List.mem_of_getElem? (l := tables_1_3) (i := 97) (by decide +kernel))
set_option maxRecDepth 100000 in
theorem lw_w650 : Cond.selects RX7 yX7_canMend yX7_canMend ∈ lw_tbl := lw_m0 (List.mem_of_getElem? (l := (k2_sels lw_privs)) (i := 22) (by decide +kernel))
set_option maxRecDepth 100000 in
theorem lw_w651 : Cond.code yX7_canMend cX7_canMend 2 (some .boolean) ∈ lw_tbl := lw_m3 (List.mem_of_getElem? (l := tables_1_3) (i := 98) (rfl))
set_option maxRecDepth 100000 in
theorem lw_w652 : Cond.methodLink RL 73 yX7_price ∈ lw_tbl := lw_m3 (List.mem_of_getElem? (l := tables_1_3) (i := 91) (by decide +kernel))
set_option maxRecDepth 100000 in
theorem lw_w653 : Cond.instanceMethod yX7_price ∈ lw_tbl := lw_m3 (List.mem_of_getElem? (l := tables_1_3) (i := 92) (by decide +kernel))
set_option maxRecDepth 100000 in
theorem lw_w654 : Cond.selects RX7 yX7_price yX7_price ∈ lw_tbl := lw_m3 (List.mem_of_getElem? (l := tables_1_3) (i := 93) (by decide +kernel))
set_option maxRecDepth 100000 in
theorem lw_w655 : Cond.code yX8_price cX8_price 4 (some .int) ∈ lw_tbl := lw_m4 (List.mem_of_getElem? (l := tables_1_4) (i := 156) (rfl))
set_option maxRecDepth 100000 in
theorem lw_w656 : Cond.methodLink RL 77 yX8_price ∈ lw_tbl := lw_m4 (List.mem_of_getElem? (l := tables_1_4) (i := 153) (by decide +kernel))
set_option maxRecDepth 100000 in
theorem lw_w657 : Cond.instanceMethod yX8_price ∈ lw_tbl := lw_m4 (List.mem_of_getElem? (l := tables_1_4) (i := 154) (by decide +kernel))
set_option maxRecDepth 100000 in
theorem lw_w658 : Cond.selects RX8 yX8_price yX8_price ∈ lw_tbl := lw_m4 (List.mem_of_getElem? (l := tables_1_4) (i := 155) (by decide +kernel))
set_option maxRecDepth 100000 in
theorem lw_w659 : Cond.code yX7_mend cX7_mend 4 (some .int) ∈ lw_tbl := lw_m3 (List.mem_of_getElem? (l := tables_1_3) (i := 103) (rfl))
