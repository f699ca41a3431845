theorem lw_m0 {w : Cond} (h : w ∈ k2_sels lw_privs) : w ∈ lw_tbl := List.mem_append_left _ h
theorem lw_m1 {w : Cond} (h : w ∈ tables_1_1) : w ∈ lw_tbl := List.mem_append_right _ (List.mem_append_left _ h)
theorem lw_m2 {w : Cond} (h : w ∈ tables_1_2) : w ∈ lw_tbl := List.mem_append_right _ (List.mem_append_right _ (List.mem_append_left _ h))
theorem lw_m3 {w : Cond} (h : w ∈ tables_1_3) : w ∈ lw_tbl := List.mem_append_right _ (List.mem_append_right _ (List.mem_append_right _ (List.mem_append_left _ h)))
theorem lw_m4 {w : Cond} (h : w ∈ tables_1_4) : w ∈ lw_tbl := List.mem_append_right _ (List.mem_append_right _ (List.mem_append_right _ (List.mem_append_right _ h)))
set_option maxRecDepth 100000 in
theorem lw_w0 : Cond.code yX7_init cX7_init 1 none ∈ lw_tbl := lw_m1 (List.mem_of_getElem? (l := tables_1_1) (i := 16) (rfl))
set_option maxRecDepth 100000 in
theorem lw_w1 : Cond.methodLink RX7 1 objectInit ∈ lw_tbl := lw_m1 (List.mem_of_getElem? (l := tables_1_1) (i := 17) (by decide +kernel))
set_option maxRecDepth 100000 in
theorem lw_w2 : Cond.instanceMethod objectInit ∈ lw_tbl := lw_m1 (List.mem_of_getElem? (l := tables_1_1) (i := 18) (by decide +kernel))
set_option maxRecDepth 100000 in
theorem lw_w3 : Cond.code objectInit ⟨#[0xb1]⟩ 1 none ∈ lw_tbl := lw_m1 (List.mem_of_getElem? (l := tables_1_1) (i := 19) (rfl))
set_option maxRecDepth 100000 in
theorem lw_w4 : Cond.classLink RX7 7 RX1 ∈ lw_tbl := lw_m1 (List.mem_of_getElem? (l := tables_1_1) (i := 20) (by decide +kernel))
set_option maxRecDepth 100000 in
theorem lw_w5 : Cond.instantiable RX1 5 ∈ lw_tbl := lw_m1 (List.mem_of_getElem? (l := tables_1_1) (i := 21) (by decide +kernel))
set_option maxRecDepth 100000 in
theorem lw_w6 : Cond.initialized RX1 ∈ lw_tbl := lw_m1 (List.mem_of_getElem? (l := tables_1_1) (i := 2) (by decide +kernel))
set_option maxRecDepth 100000 in
theorem lw_w7 : Cond.fieldLink RX7 10 "SumsOver" "names" "LSumsOver$Names;" ∈ lw_tbl := lw_m2 (List.mem_of_getElem? (l := tables_1_2) (i := 26) (by decide +kernel))
set_option maxRecDepth 100000 in
theorem lw_w8 : Cond.classLink RX7 16 RX0 ∈ lw_tbl := lw_m1 (List.mem_of_getElem? (l := tables_1_1) (i := 61) (by decide +kernel))
set_option maxRecDepth 100000 in
theorem lw_w9 : Cond.instantiable RX0 2 ∈ lw_tbl := lw_m1 (List.mem_of_getElem? (l := tables_1_1) (i := 62) (by decide +kernel))
set_option maxRecDepth 100000 in
theorem lw_w10 : Cond.initialized RX0 ∈ lw_tbl := lw_m1 (List.mem_of_getElem? (l := tables_1_1) (i := 3) (by decide +kernel))
set_option maxRecDepth 100000 in
theorem lw_w11 : Cond.fieldLink RX7 19 "SumsOver" "inputs" "LSumsOver$Inputs;" ∈ lw_tbl := lw_m2 (List.mem_of_getElem? (l := tables_1_2) (i := 27) (by decide +kernel))
set_option maxRecDepth 100000 in
theorem lw_w12 : Cond.classLink RX7 23 RX4 ∈ lw_tbl := lw_m1 (List.mem_of_getElem? (l := tables_1_1) (i := 82) (by decide +kernel))
set_option maxRecDepth 100000 in
theorem lw_w13 : Cond.instantiable RX4 9 ∈ lw_tbl := lw_m1 (List.mem_of_getElem? (l := tables_1_1) (i := 83) (by decide +kernel))
set_option maxRecDepth 100000 in
theorem lw_w14 : Cond.initialized RX4 ∈ lw_tbl := lw_m1 (List.mem_of_getElem? (l := tables_1_1) (i := 4) (by decide +kernel))
set_option maxRecDepth 100000 in
theorem lw_w15 : Cond.fieldLink RX7 26 "SumsOver" "steps" "LSumsOver$Steps;" ∈ lw_tbl := lw_m2 (List.mem_of_getElem? (l := tables_1_2) (i := 28) (by decide +kernel))
set_option maxRecDepth 100000 in
theorem lw_w16 : Cond.classLink RX7 30 RX3 ∈ lw_tbl := lw_m1 (List.mem_of_getElem? (l := tables_1_1) (i := 135) (by decide +kernel))
set_option maxRecDepth 100000 in
theorem lw_w17 : Cond.instantiable RX3 6 ∈ lw_tbl := lw_m1 (List.mem_of_getElem? (l := tables_1_1) (i := 136) (by decide +kernel))
set_option maxRecDepth 100000 in
theorem lw_w18 : Cond.initialized RX3 ∈ lw_tbl := lw_m1 (List.mem_of_getElem? (l := tables_1_1) (i := 5) (by decide +kernel))
set_option maxRecDepth 100000 in
theorem lw_w19 : Cond.fieldLink RX7 35 "SumsOver" "runner" "LSumsOver$Runner;" ∈ lw_tbl := lw_m2 (List.mem_of_getElem? (l := tables_1_2) (i := 29) (by decide +kernel))
set_option maxRecDepth 100000 in
theorem lw_w20 : Cond.classLink RX7 39 RX5 ∈ lw_tbl := lw_m1 (List.mem_of_getElem? (l := tables_1_1) (i := 164) (by decide +kernel))
set_option maxRecDepth 100000 in
theorem lw_w21 : Cond.instantiable RX5 7 ∈ lw_tbl := lw_m1 (List.mem_of_getElem? (l := tables_1_1) (i := 165) (by decide +kernel))
set_option maxRecDepth 100000 in
theorem lw_w22 : Cond.initialized RX5 ∈ lw_tbl := lw_m1 (List.mem_of_getElem? (l := tables_1_1) (i := 6) (by decide +kernel))
set_option maxRecDepth 100000 in
theorem lw_w23 : Cond.fieldLink RX7 44 "SumsOver" "tally" "LSumsOver$Tally;" ∈ lw_tbl := lw_m2 (List.mem_of_getElem? (l := tables_1_2) (i := 30) (by decide +kernel))
set_option maxRecDepth 100000 in
theorem lw_w24 : Cond.classLink RX7 48 RX2 ∈ lw_tbl := lw_m1 (List.mem_of_getElem? (l := tables_1_1) (i := 197) (by decide +kernel))
set_option maxRecDepth 100000 in
theorem lw_w25 : Cond.instantiable RX2 9 ∈ lw_tbl := lw_m1 (List.mem_of_getElem? (l := tables_1_1) (i := 198) (by decide +kernel))
set_option maxRecDepth 100000 in
theorem lw_w26 : Cond.initialized RX2 ∈ lw_tbl := lw_m1 (List.mem_of_getElem? (l := tables_1_1) (i := 7) (by decide +kernel))
set_option maxRecDepth 100000 in
theorem lw_w27 : Cond.fieldLink RX7 53 "SumsOver" "reach" "LSumsOver$Reach;" ∈ lw_tbl := lw_m2 (List.mem_of_getElem? (l := tables_1_2) (i := 31) (by decide +kernel))
set_option maxRecDepth 100000 in
theorem lw_w28 : Cond.classLink RX7 57 RX6 ∈ lw_tbl := lw_m1 (List.mem_of_getElem? (l := tables_1_1) (i := 234) (by decide +kernel))
set_option maxRecDepth 100000 in
theorem lw_w29 : Cond.instantiable RX6 7 ∈ lw_tbl := lw_m1 (List.mem_of_getElem? (l := tables_1_1) (i := 235) (by decide +kernel))
set_option maxRecDepth 100000 in
theorem lw_w30 : Cond.initialized RX6 ∈ lw_tbl := lw_m1 (List.mem_of_getElem? (l := tables_1_1) (i := 8) (by decide +kernel))
set_option maxRecDepth 100000 in
theorem lw_w31 : Cond.fieldLink RX7 62 "SumsOver" "trues" "LSumsOver$Trues;" ∈ lw_tbl := lw_m2 (List.mem_of_getElem? (l := tables_1_2) (i := 32) (by decide +kernel))
set_option maxRecDepth 100000 in
theorem lw_w32 : Cond.methodLink RX7 9 yX1_init ∈ lw_tbl := lw_m1 (List.mem_of_getElem? (l := tables_1_1) (i := 22) (by decide +kernel))
set_option maxRecDepth 100000 in
theorem lw_w33 : Cond.instanceMethod yX1_init ∈ lw_tbl := lw_m1 (List.mem_of_getElem? (l := tables_1_1) (i := 23) (by decide +kernel))
set_option maxRecDepth 100000 in
theorem lw_w34 : Cond.code yX1_init cX1_init 2 none ∈ lw_tbl := lw_m1 (List.mem_of_getElem? (l := tables_1_1) (i := 24) (rfl))
set_option maxRecDepth 100000 in
theorem lw_w35 : Cond.methodLink RX1 3 objectInit ∈ lw_tbl := lw_m1 (List.mem_of_getElem? (l := tables_1_1) (i := 25) (by decide +kernel))
set_option maxRecDepth 100000 in
theorem lw_w36 : Cond.arrayClass .int ∈ lw_tbl := lw_m1 (List.mem_of_getElem? (l := tables_1_1) (i := 58) (by decide +kernel))
set_option maxRecDepth 100000 in
theorem lw_w37 : Cond.fieldLink RX1 9 "SumsOver$Names" "widths" "[I" ∈ lw_tbl := lw_m1 (List.mem_of_getElem? (l := tables_1_1) (i := 36) (by decide +kernel))
set_option maxRecDepth 100000 in
theorem lw_w38 : Cond.arrayClass .boolean ∈ lw_tbl := lw_m1 (List.mem_of_getElem? (l := tables_1_1) (i := 59) (by decide +kernel))
set_option maxRecDepth 100000 in
theorem lw_w39 : Cond.fieldLink RX1 15 "SumsOver$Names" "signs" "[Z" ∈ lw_tbl := lw_m1 (List.mem_of_getElem? (l := tables_1_1) (i := 38) (by decide +kernel))
set_option maxRecDepth 100000 in
theorem lw_w40 : Cond.arrayClass .long ∈ lw_tbl := lw_m1 (List.mem_of_getElem? (l := tables_1_1) (i := 60) (by decide +kernel))
set_option maxRecDepth 100000 in
theorem lw_w41 : Cond.fieldLink RX1 19 "SumsOver$Names" "least" "[J" ∈ lw_tbl := lw_m1 (List.mem_of_getElem? (l := tables_1_1) (i := 40) (by decide +kernel))
set_option maxRecDepth 100000 in
theorem lw_w42 : Cond.fieldLink RX1 23 "SumsOver$Names" "greatest" "[J" ∈ lw_tbl := lw_m1 (List.mem_of_getElem? (l := tables_1_1) (i := 42) (by decide +kernel))
set_option maxRecDepth 100000 in
theorem lw_w43 : Cond.methodLink RX1 26 yX1_tell ∈ lw_tbl := lw_m1 (List.mem_of_getElem? (l := tables_1_1) (i := 26) (by decide +kernel))
set_option maxRecDepth 100000 in
theorem lw_w44 : Cond.instanceMethod yX1_tell ∈ lw_tbl := lw_m1 (List.mem_of_getElem? (l := tables_1_1) (i := 27) (by decide +kernel))
set_option maxRecDepth 100000 in
theorem lw_w45 : Cond.selects RX1 yX1_tell yX1_tell ∈ lw_tbl := lw_m1 (List.mem_of_getElem? (l := tables_1_1) (i := 28) (by decide +kernel))
set_option maxRecDepth 100000 in
theorem lw_w46 : Cond.code yX1_tell cX1_tell 4 none ∈ lw_tbl := lw_m1 (List.mem_of_getElem? (l := tables_1_1) (i := 29) (rfl))
set_option maxRecDepth 100000 in
theorem lw_w47 : Cond.static yX7_leastOf ∈ lw_tbl := lw_m1 (List.mem_of_getElem? (l := tables_1_1) (i := 31) (by decide +kernel))
set_option maxRecDepth 100000 in
theorem lw_w48 : Cond.initialized RX7 ∈ lw_tbl := lw_m1 (List.mem_of_getElem? (l := tables_1_1) (i := 1) (by decide +kernel))
set_option maxRecDepth 100000 in
theorem lw_w49 : Cond.code yX7_leastOf cX7_leastOf 2 (some .long) ∈ lw_tbl := lw_m1 (List.mem_of_getElem? (l := tables_1_1) (i := 32) (rfl))
set_option maxRecDepth 100000 in
theorem lw_w50 : Cond.static yX7_greatestOf ∈ lw_tbl := lw_m1 (List.mem_of_getElem? (l := tables_1_1) (i := 34) (by decide +kernel))
set_option maxRecDepth 100000 in
theorem lw_w51 : Cond.code yX7_greatestOf cX7_greatestOf 2 (some .long) ∈ lw_tbl := lw_m1 (List.mem_of_getElem? (l := tables_1_1) (i := 35) (rfl))
set_option maxRecDepth 100000 in
theorem lw_w52 : Cond.instanceMethod yX0_init ∈ lw_tbl := lw_m1 (List.mem_of_getElem? (l := tables_1_1) (i := 64) (by decide +kernel))
set_option maxRecDepth 100000 in
theorem lw_w53 : Cond.code yX0_init cX0_init 1 none ∈ lw_tbl := lw_m1 (List.mem_of_getElem? (l := tables_1_1) (i := 65) (rfl))
set_option maxRecDepth 100000 in
theorem lw_w54 : Cond.methodLink RX0 3 objectInit ∈ lw_tbl := lw_m1 (List.mem_of_getElem? (l := tables_1_1) (i := 66) (by decide +kernel))
set_option maxRecDepth 100000 in
theorem lw_w55 : Cond.fieldLink RX0 9 "SumsOver$Inputs" "from" "[I" ∈ lw_tbl := lw_m1 (List.mem_of_getElem? (l := tables_1_1) (i := 67) (by decide +kernel))
set_option maxRecDepth 100000 in
theorem lw_w56 : Cond.fieldLink RX0 15 "SumsOver$Inputs" "to" "[I" ∈ lw_tbl := lw_m1 (List.mem_of_getElem? (l := tables_1_1) (i := 72) (by decide +kernel))
set_option maxRecDepth 100000 in
theorem lw_w57 : Cond.instanceMethod yX4_init ∈ lw_tbl := lw_m1 (List.mem_of_getElem? (l := tables_1_1) (i := 85) (by decide +kernel))
set_option maxRecDepth 100000 in
theorem lw_w58 : Cond.code yX4_init cX4_init 1 none ∈ lw_tbl := lw_m1 (List.mem_of_getElem? (l := tables_1_1) (i := 86) (rfl))
set_option maxRecDepth 100000 in
theorem lw_w59 : Cond.methodLink RX4 3 objectInit ∈ lw_tbl := lw_m1 (List.mem_of_getElem? (l := tables_1_1) (i := 87) (by decide +kernel))
set_option maxRecDepth 100000 in
theorem lw_w60 : Cond.fieldLink RX4 9 "SumsOver$Steps" "kinds" "[I" ∈ lw_tbl := lw_m1 (List.mem_of_getElem? (l := tables_1_1) (i := 88) (by decide +kernel))
set_option maxRecDepth 100000 in
theorem lw_w61 : Cond.fieldLink RX4 15 "SumsOver$Steps" "targets" "[I" ∈ lw_tbl := lw_m1 (List.mem_of_getElem? (l := tables_1_1) (i := 93) (by decide +kernel))
set_option maxRecDepth 100000 in
theorem lw_w62 : Cond.fieldLink RX4 18 "SumsOver$Steps" "as" "[I" ∈ lw_tbl := lw_m1 (List.mem_of_getElem? (l := tables_1_1) (i := 97) (by decide +kernel))
set_option maxRecDepth 100000 in
theorem lw_w63 : Cond.fieldLink RX4 21 "SumsOver$Steps" "bs" "[I" ∈ lw_tbl := lw_m1 (List.mem_of_getElem? (l := tables_1_1) (i := 100) (by decide +kernel))
set_option maxRecDepth 100000 in
theorem lw_w64 : Cond.fieldLink RX4 24 "SumsOver$Steps" "bIsName" "[Z" ∈ lw_tbl := lw_m1 (List.mem_of_getElem? (l := tables_1_1) (i := 103) (by decide +kernel))
set_option maxRecDepth 100000 in
theorem lw_w65 : Cond.fieldLink RX4 28 "SumsOver$Steps" "meant" "[Z" ∈ lw_tbl := lw_m1 (List.mem_of_getElem? (l := tables_1_1) (i := 104) (by decide +kernel))
set_option maxRecDepth 100000 in
theorem lw_w66 : Cond.fieldLink RX4 31 "SumsOver$Steps" "path" "[I" ∈ lw_tbl := lw_m1 (List.mem_of_getElem? (l := tables_1_1) (i := 108) (by decide +kernel))
set_option maxRecDepth 100000 in
theorem lw_w67 : Cond.methodLink RX7 32 yX3_init ∈ lw_tbl := lw_m1 (List.mem_of_getElem? (l := tables_1_1) (i := 137) (by decide +kernel))
set_option maxRecDepth 100000 in
theorem lw_w68 : Cond.instanceMethod yX3_init ∈ lw_tbl := lw_m1 (List.mem_of_getElem? (l := tables_1_1) (i := 138) (by decide +kernel))
set_option maxRecDepth 100000 in
theorem lw_w69 : Cond.code yX3_init cX3_init 3 none ∈ lw_tbl := lw_m1 (List.mem_of_getElem? (l := tables_1_1) (i := 139) (rfl))
set_option maxRecDepth 100000 in
theorem lw_w70 : Cond.methodLink RX3 3 objectInit ∈ lw_tbl := lw_m1 (List.mem_of_getElem? (l := tables_1_1) (i := 140) (by decide +kernel))
set_option maxRecDepth 100000 in
theorem lw_w71 : Cond.fieldLink RX3 9 "SumsOver$Runner" "values" "[J" ∈ lw_tbl := lw_m1 (List.mem_of_getElem? (l := tables_1_1) (i := 143) (by decide +kernel))
set_option maxRecDepth 100000 in
theorem lw_w72 : Cond.fieldLink RX3 15 "SumsOver$Runner" "names" "LSumsOver$Names;" ∈ lw_tbl := lw_m1 (List.mem_of_getElem? (l := tables_1_1) (i := 141) (by decide +kernel))
set_option maxRecDepth 100000 in
theorem lw_w73 : Cond.fieldLink RX3 19 "SumsOver$Runner" "steps" "LSumsOver$Steps;" ∈ lw_tbl := lw_m1 (List.mem_of_getElem? (l := tables_1_1) (i := 142) (by decide +kernel))
set_option maxRecDepth 100000 in
theorem lw_w74 : Cond.methodLink RX7 41 yX5_init ∈ lw_tbl := lw_m1 (List.mem_of_getElem? (l := tables_1_1) (i := 166) (by decide +kernel))
set_option maxRecDepth 100000 in
theorem lw_w75 : Cond.instanceMethod yX5_init ∈ lw_tbl := lw_m1 (List.mem_of_getElem? (l := tables_1_1) (i := 167) (by decide +kernel))
set_option maxRecDepth 100000 in
theorem lw_w76 : Cond.code yX5_init cX5_init 3 none ∈ lw_tbl := lw_m1 (List.mem_of_getElem? (l := tables_1_1) (i := 168) (rfl))
set_option maxRecDepth 100000 in
theorem lw_w77 : Cond.methodLink RX5 3 objectInit ∈ lw_tbl := lw_m1 (List.mem_of_getElem? (l := tables_1_1) (i := 169) (by decide +kernel))
set_option maxRecDepth 100000 in
theorem lw_w78 : Cond.fieldLink RX5 9 "SumsOver$Tally" "over" "[I" ∈ lw_tbl := lw_m1 (List.mem_of_getElem? (l := tables_1_1) (i := 170) (by decide +kernel))
set_option maxRecDepth 100000 in
theorem lw_w79 : Cond.fieldLink RX5 15 "SumsOver$Tally" "shown" "[I" ∈ lw_tbl := lw_m1 (List.mem_of_getElem? (l := tables_1_1) (i := 172) (by decide +kernel))
set_option maxRecDepth 100000 in
theorem lw_w80 : Cond.fieldLink RX5 18 "SumsOver$Tally" "turned" "[I" ∈ lw_tbl := lw_m1 (List.mem_of_getElem? (l := tables_1_1) (i := 174) (by decide +kernel))
set_option maxRecDepth 100000 in
theorem lw_w81 : Cond.fieldLink RX5 21 "SumsOver$Tally" "runner" "LSumsOver$Runner;" ∈ lw_tbl := lw_m1 (List.mem_of_getElem? (l := tables_1_1) (i := 180) (by decide +kernel))
set_option maxRecDepth 100000 in
theorem lw_w82 : Cond.fieldLink RX5 25 "SumsOver$Tally" "inputs" "LSumsOver$Inputs;" ∈ lw_tbl := lw_m1 (List.mem_of_getElem? (l := tables_1_1) (i := 181) (by decide +kernel))
set_option maxRecDepth 100000 in
theorem lw_w83 : Cond.methodLink RX7 50 yX2_init ∈ lw_tbl := lw_m1 (List.mem_of_getElem? (l := tables_1_1) (i := 199) (by decide +kernel))
set_option maxRecDepth 100000 in
theorem lw_w84 : Cond.instanceMethod yX2_init ∈ lw_tbl := lw_m1 (List.mem_of_getElem? (l := tables_1_1) (i := 200) (by decide +kernel))
set_option maxRecDepth 100000 in
theorem lw_w85 : Cond.code yX2_init cX2_init 4 none ∈ lw_tbl := lw_m1 (List.mem_of_getElem? (l := tables_1_1) (i := 201) (rfl))
set_option maxRecDepth 100000 in
theorem lw_w86 : Cond.methodLink RX2 3 objectInit ∈ lw_tbl := lw_m1 (List.mem_of_getElem? (l := tables_1_1) (i := 202) (by decide +kernel))
set_option maxRecDepth 100000 in
theorem lw_w87 : Cond.fieldLink RX2 9 "SumsOver$Reach" "least" "[J" ∈ lw_tbl := lw_m1 (List.mem_of_getElem? (l := tables_1_1) (i := 203) (by decide +kernel))
set_option maxRecDepth 100000 in
theorem lw_w88 : Cond.fieldLink RX2 15 "SumsOver$Reach" "greatest" "[J" ∈ lw_tbl := lw_m1 (List.mem_of_getElem? (l := tables_1_1) (i := 205) (by decide +kernel))
set_option maxRecDepth 100000 in
theorem lw_w89 : Cond.fieldLink RX2 18 "SumsOver$Reach" "names" "LSumsOver$Names;" ∈ lw_tbl := lw_m1 (List.mem_of_getElem? (l := tables_1_1) (i := 212) (by decide +kernel))
set_option maxRecDepth 100000 in
theorem lw_w90 : Cond.fieldLink RX2 22 "SumsOver$Reach" "steps" "LSumsOver$Steps;" ∈ lw_tbl := lw_m1 (List.mem_of_getElem? (l := tables_1_1) (i := 213) (by decide +kernel))
set_option maxRecDepth 100000 in
theorem lw_w91 : Cond.fieldLink RX2 26 "SumsOver$Reach" "inputs" "LSumsOver$Inputs;" ∈ lw_tbl := lw_m1 (List.mem_of_getElem? (l := tables_1_1) (i := 214) (by decide +kernel))
set_option maxRecDepth 100000 in
theorem lw_w92 : Cond.methodLink RX7 59 yX6_init ∈ lw_tbl := lw_m1 (List.mem_of_getElem? (l := tables_1_1) (i := 236) (by decide +kernel))
set_option maxRecDepth 100000 in
theorem lw_w93 : Cond.instanceMethod yX6_init ∈ lw_tbl := lw_m1 (List.mem_of_getElem? (l := tables_1_1) (i := 237) (by decide +kernel))
set_option maxRecDepth 100000 in
theorem lw_w94 : Cond.code yX6_init cX6_init 3 none ∈ lw_tbl := lw_m1 (List.mem_of_getElem? (l := tables_1_1) (i := 238) (rfl))
set_option maxRecDepth 100000 in
theorem lw_w95 : Cond.methodLink RX6 3 objectInit ∈ lw_tbl := lw_m1 (List.mem_of_getElem? (l := tables_1_1) (i := 239) (by decide +kernel))
set_option maxRecDepth 100000 in
theorem lw_w96 : Cond.fieldLink RX6 9 "SumsOver$Trues" "least" "[J" ∈ lw_tbl := lw_m2 (List.mem_of_getElem? (l := tables_1_2) (i := 0) (by decide +kernel))
set_option maxRecDepth 100000 in
theorem lw_w97 : Cond.fieldLink RX6 15 "SumsOver$Trues" "greatest" "[J" ∈ lw_tbl := lw_m2 (List.mem_of_getElem? (l := tables_1_2) (i := 2) (by decide +kernel))
set_option maxRecDepth 100000 in
theorem lw_w98 : Cond.fieldLink RX6 18 "SumsOver$Trues" "values" "[J" ∈ lw_tbl := lw_m2 (List.mem_of_getElem? (l := tables_1_2) (i := 8) (by decide +kernel))
set_option maxRecDepth 100000 in
theorem lw_w99 : Cond.fieldLink RX6 21 "SumsOver$Trues" "steps" "LSumsOver$Steps;" ∈ lw_tbl := lw_m2 (List.mem_of_getElem? (l := tables_1_2) (i := 9) (by decide +kernel))
set_option maxRecDepth 100000 in
theorem lw_w100 : Cond.fieldLink RX6 25 "SumsOver$Trues" "inputs" "LSumsOver$Inputs;" ∈ lw_tbl := lw_m2 (List.mem_of_getElem? (l := tables_1_2) (i := 10) (by decide +kernel))
set_option maxRecDepth 100000 in
theorem lw_w101 : Cond.code yX8_init cX8_init 2 none ∈ lw_tbl := lw_m3 (List.mem_of_getElem? (l := tables_1_3) (i := 136) (rfl))
set_option maxRecDepth 100000 in
theorem lw_w102 : Cond.methodLink RX8 1 objectInit ∈ lw_tbl := lw_m3 (List.mem_of_getElem? (l := tables_1_3) (i := 137) (by decide +kernel))
set_option maxRecDepth 100000 in
theorem lw_w103 : Cond.fieldLink RX8 9 "SumsOverModel" "width" "[I" ∈ lw_tbl := lw_m3 (List.mem_of_getElem? (l := tables_1_3) (i := 138) (by decide +kernel))
set_option maxRecDepth 100000 in
theorem lw_w104 : Cond.fieldLink RX8 13 "SumsOverModel" "isSigned" "[Z" ∈ lw_tbl := lw_m3 (List.mem_of_getElem? (l := tables_1_3) (i := 139) (by decide +kernel))
set_option maxRecDepth 100000 in
theorem lw_w105 : Cond.fieldLink RX8 17 "SumsOverModel" "from" "[I" ∈ lw_tbl := lw_m3 (List.mem_of_getElem? (l := tables_1_3) (i := 140) (by decide +kernel))
set_option maxRecDepth 100000 in
theorem lw_w106 : Cond.fieldLink RX8 20 "SumsOverModel" "to" "[I" ∈ lw_tbl := lw_m3 (List.mem_of_getElem? (l := tables_1_3) (i := 141) (by decide +kernel))
set_option maxRecDepth 100000 in
theorem lw_w107 : Cond.fieldLink RX8 23 "SumsOverModel" "kind" "[I" ∈ lw_tbl := lw_m3 (List.mem_of_getElem? (l := tables_1_3) (i := 142) (by decide +kernel))
set_option maxRecDepth 100000 in
theorem lw_w108 : Cond.fieldLink RX8 26 "SumsOverModel" "target" "[I" ∈ lw_tbl := lw_m3 (List.mem_of_getElem? (l := tables_1_3) (i := 143) (by decide +kernel))
set_option maxRecDepth 100000 in
theorem lw_w109 : Cond.fieldLink RX8 29 "SumsOverModel" "a" "[I" ∈ lw_tbl := lw_m3 (List.mem_of_getElem? (l := tables_1_3) (i := 144) (by decide +kernel))
set_option maxRecDepth 100000 in
theorem lw_w110 : Cond.fieldLink RX8 32 "SumsOverModel" "b" "[I" ∈ lw_tbl := lw_m3 (List.mem_of_getElem? (l := tables_1_3) (i := 145) (by decide +kernel))
set_option maxRecDepth 100000 in
theorem lw_w111 : Cond.fieldLink RX8 35 "SumsOverModel" "isMeant" "[Z" ∈ lw_tbl := lw_m3 (List.mem_of_getElem? (l := tables_1_3) (i := 146) (by decide +kernel))
set_option maxRecDepth 100000 in
theorem lw_w112 : Cond.fieldLink RX8 38 "SumsOverModel" "line" "[I" ∈ lw_tbl := lw_m3 (List.mem_of_getElem? (l := tables_1_3) (i := 149) (by decide +kernel))
set_option maxRecDepth 100000 in
theorem lw_w113 : Cond.fieldLink RX8 41 "SumsOverModel" "values" "[J" ∈ lw_tbl := lw_m3 (List.mem_of_getElem? (l := tables_1_3) (i := 151) (by decide +kernel))
set_option maxRecDepth 100000 in
theorem lw_w114 : Cond.fieldLink RX8 45 "SumsOverModel" "isOver" "[Z" ∈ lw_tbl := lw_m3 (List.mem_of_getElem? (l := tables_1_3) (i := 152) (by decide +kernel))
set_option maxRecDepth 100000 in
theorem lw_w115 : Cond.fieldLink RX8 48 "SumsOverModel" "isTurned" "[Z" ∈ lw_tbl := lw_m3 (List.mem_of_getElem? (l := tables_1_3) (i := 153) (by decide +kernel))
set_option maxRecDepth 100000 in
theorem lw_w116 : Cond.fieldLink RX8 51 "SumsOverModel" "overs" "[I" ∈ lw_tbl := lw_m3 (List.mem_of_getElem? (l := tables_1_3) (i := 155) (by decide +kernel))
set_option maxRecDepth 100000 in
theorem lw_w117 : Cond.fieldLink RX8 54 "SumsOverModel" "turns" "[I" ∈ lw_tbl := lw_m3 (List.mem_of_getElem? (l := tables_1_3) (i := 156) (by decide +kernel))
set_option maxRecDepth 100000 in
theorem lw_w118 : Cond.fieldLink RX8 57 "SumsOverModel" "shows" "[I" ∈ lw_tbl := lw_m3 (List.mem_of_getElem? (l := tables_1_3) (i := 157) (by decide +kernel))
set_option maxRecDepth 100000 in
theorem lw_w119 : Cond.fieldLink RX8 60 "SumsOverModel" "least" "[J" ∈ lw_tbl := lw_m3 (List.mem_of_getElem? (l := tables_1_3) (i := 159) (by decide +kernel))
set_option maxRecDepth 100000 in
theorem lw_w120 : Cond.fieldLink RX8 63 "SumsOverModel" "most" "[J" ∈ lw_tbl := lw_m3 (List.mem_of_getElem? (l := tables_1_3) (i := 160) (by decide +kernel))
set_option maxRecDepth 100000 in
theorem lw_w121 : Cond.fieldLink RX8 66 "SumsOverModel" "could" "[Z" ∈ lw_tbl := lw_m3 (List.mem_of_getElem? (l := tables_1_3) (i := 161) (by decide +kernel))
set_option maxRecDepth 100000 in
theorem lw_w122 : Cond.fieldLink RX8 69 "SumsOverModel" "lowest" "[J" ∈ lw_tbl := lw_m3 (List.mem_of_getElem? (l := tables_1_3) (i := 162) (by decide +kernel))
set_option maxRecDepth 100000 in
theorem lw_w123 : Cond.fieldLink RX8 72 "SumsOverModel" "highest" "[J" ∈ lw_tbl := lw_m3 (List.mem_of_getElem? (l := tables_1_3) (i := 163) (by decide +kernel))
set_option maxRecDepth 100000 in
theorem lw_w124 : Cond.code yX7_name cX7_name 4 (some .boolean) ∈ lw_tbl := lw_m2 (List.mem_of_getElem? (l := tables_1_2) (i := 51) (rfl))
set_option maxRecDepth 100000 in
theorem lw_w125 : Cond.methodLink RX7 66 yX7_isName ∈ lw_tbl := lw_m2 (List.mem_of_getElem? (l := tables_1_2) (i := 52) (by decide +kernel))
set_option maxRecDepth 100000 in
theorem lw_w126 : Cond.static yX7_isName ∈ lw_tbl := lw_m2 (List.mem_of_getElem? (l := tables_1_2) (i := 53) (by decide +kernel))
set_option maxRecDepth 100000 in
theorem lw_w127 : Cond.code yX7_isName cX7_isName 1 (some .boolean) ∈ lw_tbl := lw_m2 (List.mem_of_getElem? (l := tables_1_2) (i := 54) (rfl))
set_option maxRecDepth 100000 in
theorem lw_w128 : Cond.methodLink RX7 70 yX1_tell ∈ lw_tbl := lw_m2 (List.mem_of_getElem? (l := tables_1_2) (i := 55) (by decide +kernel))
set_option maxRecDepth 100000 in
theorem lw_w129 : Cond.methodLink RX7 74 yX7_forget ∈ lw_tbl := lw_m2 (List.mem_of_getElem? (l := tables_1_2) (i := 56) (by decide +kernel))
set_option maxRecDepth 100000 in
theorem lw_w130 : Cond.instanceMethod yX7_forget ∈ lw_tbl := lw_m2 (List.mem_of_getElem? (l := tables_1_2) (i := 58) (by decide +kernel))
set_option maxRecDepth 100000 in
theorem lw_w131 : Cond.selects RX7 yX7_forget yX7_forget ∈ lw_tbl := lw_m0 (List.mem_of_getElem? (l := (k2_sels lw_privs)) (i := 0) (by decide +kernel))
set_option maxRecDepth 100000 in
theorem lw_w132 : Cond.code yX7_forget cX7_forget 1 none ∈ lw_tbl := lw_m2 (List.mem_of_getElem? (l := tables_1_2) (i := 59) (rfl))
set_option maxRecDepth 100000 in
theorem lw_w133 : Cond.fieldLink RX7 215 "SumsOver$Tally" "known" "Z" ∈ lw_tbl := lw_m1 (List.mem_of_getElem? (l := tables_1_1) (i := 179) (by decide +kernel))
set_option maxRecDepth 100000 in
theorem lw_w134 : Cond.fieldLink RX7 218 "SumsOver$Reach" "known" "Z" ∈ lw_tbl := lw_m1 (List.mem_of_getElem? (l := tables_1_1) (i := 208) (by decide +kernel))
set_option maxRecDepth 100000 in
theorem lw_w135 : Cond.fieldLink RX7 219 "SumsOver$Trues" "known" "Z" ∈ lw_tbl := lw_m2 (List.mem_of_getElem? (l := tables_1_2) (i := 7) (by decide +kernel))
set_option maxRecDepth 100000 in
theorem lw_w136 : Cond.methodLink RL 13 yX7_name ∈ lw_tbl := lw_m2 (List.mem_of_getElem? (l := tables_1_2) (i := 48) (by decide +kernel))
set_option maxRecDepth 100000 in
theorem lw_w137 : Cond.instanceMethod yX7_name ∈ lw_tbl := lw_m2 (List.mem_of_getElem? (l := tables_1_2) (i := 49) (by decide +kernel))
set_option maxRecDepth 100000 in
theorem lw_w138 : Cond.selects RX7 yX7_name yX7_name ∈ lw_tbl := lw_m2 (List.mem_of_getElem? (l := tables_1_2) (i := 50) (by decide +kernel))
set_option maxRecDepth 100000 in
theorem lw_w139 : Cond.code yX8_name cX8_name 4 (some .boolean) ∈ lw_tbl := lw_m3 (List.mem_of_getElem? (l := tables_1_3) (i := 220) (rfl))
set_option maxRecDepth 100000 in
theorem lw_w140 : Cond.constantLong RX8 89 (2) ∈ lw_tbl := lw_m3 (List.mem_of_getElem? (l := tables_1_3) (i := 228) (by decide +kernel))
set_option maxRecDepth 100000 in
theorem lw_w141 : Cond.constantLong RX8 91 (31) ∈ lw_tbl := lw_m3 (List.mem_of_getElem? (l := tables_1_3) (i := 229) (by decide +kernel))
set_option maxRecDepth 100000 in
theorem lw_w142 : Cond.methodLink RX8 85 yX8_isName ∈ lw_tbl := lw_m3 (List.mem_of_getElem? (l := tables_1_3) (i := 221) (by decide +kernel))
set_option maxRecDepth 100000 in
theorem lw_w143 : Cond.static yX8_isName ∈ lw_tbl := lw_m3 (List.mem_of_getElem? (l := tables_1_3) (i := 222) (by decide +kernel))
set_option maxRecDepth 100000 in
theorem lw_w144 : Cond.initialized RX8 ∈ lw_tbl := lw_m1 (List.mem_of_getElem? (l := tables_1_1) (i := 9) (by decide +kernel))
set_option maxRecDepth 100000 in
theorem lw_w145 : Cond.code yX8_isName cX8_isName 1 (some .boolean) ∈ lw_tbl := lw_m3 (List.mem_of_getElem? (l := tables_1_3) (i := 223) (rfl))
set_option maxRecDepth 100000 in
theorem lw_w146 : Cond.constantLong RX8 83 (5) ∈ lw_tbl := lw_m3 (List.mem_of_getElem? (l := tables_1_3) (i := 224) (by decide +kernel))
set_option maxRecDepth 100000 in
theorem lw_w147 : Cond.methodLink RX8 79 yX8_in ∈ lw_tbl := lw_m3 (List.mem_of_getElem? (l := tables_1_3) (i := 225) (by decide +kernel))
set_option maxRecDepth 100000 in
theorem lw_w148 : Cond.static yX8_in ∈ lw_tbl := lw_m3 (List.mem_of_getElem? (l := tables_1_3) (i := 226) (by decide +kernel))
set_option maxRecDepth 100000 in
theorem lw_w149 : Cond.code yX8_in cX8_in 6 (some .boolean) ∈ lw_tbl := lw_m3 (List.mem_of_getElem? (l := tables_1_3) (i := 227) (rfl))
set_option maxRecDepth 100000 in
theorem lw_w150 : Cond.methodLink RL 17 yX8_name ∈ lw_tbl := lw_m3 (List.mem_of_getElem? (l := tables_1_3) (i := 217) (by decide +kernel))
set_option maxRecDepth 100000 in
theorem lw_w151 : Cond.instanceMethod yX8_name ∈ lw_tbl := lw_m3 (List.mem_of_getElem? (l := tables_1_3) (i := 218) (by decide +kernel))
set_option maxRecDepth 100000 in
theorem lw_w152 : Cond.selects RX8 yX8_name yX8_name ∈ lw_tbl := lw_m3 (List.mem_of_getElem? (l := tables_1_3) (i := 219) (by decide +kernel))
set_option maxRecDepth 100000 in
theorem lw_w153 : Cond.code yX7_span cX7_span 4 (some .boolean) ∈ lw_tbl := lw_m2 (List.mem_of_getElem? (l := tables_1_2) (i := 63) (rfl))
set_option maxRecDepth 100000 in
theorem lw_w154 : Cond.fieldLink RX7 80 "SumsOver$Inputs" "from" "[I" ∈ lw_tbl := lw_m1 (List.mem_of_getElem? (l := tables_1_1) (i := 70) (by decide +kernel))
set_option maxRecDepth 100000 in
theorem lw_w155 : Cond.fieldLink RX7 84 "SumsOver$Inputs" "to" "[I" ∈ lw_tbl := lw_m1 (List.mem_of_getElem? (l := tables_1_1) (i := 75) (by decide +kernel))
set_option maxRecDepth 100000 in
theorem lw_w156 : Cond.methodLink RX7 77 yX7_isTold ∈ lw_tbl := lw_m2 (List.mem_of_getElem? (l := tables_1_2) (i := 64) (by decide +kernel))
set_option maxRecDepth 100000 in
theorem lw_w157 : Cond.static yX7_isTold ∈ lw_tbl := lw_m2 (List.mem_of_getElem? (l := tables_1_2) (i := 65) (by decide +kernel))
set_option maxRecDepth 100000 in
theorem lw_w158 : Cond.code yX7_isTold cX7_isTold 1 (some .boolean) ∈ lw_tbl := lw_m2 (List.mem_of_getElem? (l := tables_1_2) (i := 66) (rfl))
set_option maxRecDepth 100000 in
theorem lw_w159 : Cond.constant RX7 194 (-100000) ∈ lw_tbl := lw_m2 (List.mem_of_getElem? (l := tables_1_2) (i := 67) (by decide +kernel))
set_option maxRecDepth 100000 in
theorem lw_w160 : Cond.constant RX7 195 (100000) ∈ lw_tbl := lw_m2 (List.mem_of_getElem? (l := tables_1_2) (i := 68) (by decide +kernel))
set_option maxRecDepth 100000 in
theorem lw_w161 : Cond.methodLink RL 18 yX7_span ∈ lw_tbl := lw_m2 (List.mem_of_getElem? (l := tables_1_2) (i := 60) (by decide +kernel))
set_option maxRecDepth 100000 in
theorem lw_w162 : Cond.instanceMethod yX7_span ∈ lw_tbl := lw_m2 (List.mem_of_getElem? (l := tables_1_2) (i := 61) (by decide +kernel))
set_option maxRecDepth 100000 in
theorem lw_w163 : Cond.selects RX7 yX7_span yX7_span ∈ lw_tbl := lw_m2 (List.mem_of_getElem? (l := tables_1_2) (i := 62) (by decide +kernel))
set_option maxRecDepth 100000 in
theorem lw_w164 : Cond.code yX8_span cX8_span 4 (some .boolean) ∈ lw_tbl := lw_m3 (List.mem_of_getElem? (l := tables_1_3) (i := 233) (rfl))
set_option maxRecDepth 100000 in
theorem lw_w165 : Cond.constantLong RX8 93 (-100000) ∈ lw_tbl := lw_m3 (List.mem_of_getElem? (l := tables_1_3) (i := 234) (by decide +kernel))
set_option maxRecDepth 100000 in
theorem lw_w166 : Cond.constantLong RX8 95 (100000) ∈ lw_tbl := lw_m3 (List.mem_of_getElem? (l := tables_1_3) (i := 235) (by decide +kernel))
set_option maxRecDepth 100000 in
theorem lw_w167 : Cond.methodLink RL 22 yX8_span ∈ lw_tbl := lw_m3 (List.mem_of_getElem? (l := tables_1_3) (i := 230) (by decide +kernel))
set_option maxRecDepth 100000 in
theorem lw_w168 : Cond.instanceMethod yX8_span ∈ lw_tbl := lw_m3 (List.mem_of_getElem? (l := tables_1_3) (i := 231) (by decide +kernel))
set_option maxRecDepth 100000 in
theorem lw_w169 : Cond.selects RX8 yX8_span yX8_span ∈ lw_tbl := lw_m3 (List.mem_of_getElem? (l := tables_1_3) (i := 232) (by decide +kernel))
set_option maxRecDepth 100000 in
theorem lw_w170 : Cond.code yX7_step cX7_step 5 (some .int) ∈ lw_tbl := lw_m2 (List.mem_of_getElem? (l := tables_1_2) (i := 72) (rfl))
set_option maxRecDepth 100000 in
theorem lw_w171 : Cond.fieldLink RX7 87 "SumsOver$Steps" "size" "I" ∈ lw_tbl := lw_m1 (List.mem_of_getElem? (l := tables_1_1) (i := 107) (by decide +kernel))
set_option maxRecDepth 100000 in
theorem lw_w172 : Cond.methodLink RX7 91 yX7_canFollow ∈ lw_tbl := lw_m2 (List.mem_of_getElem? (l := tables_1_2) (i := 73) (by decide +kernel))
set_option maxRecDepth 100000 in
theorem lw_w173 : Cond.instanceMethod yX7_canFollow ∈ lw_tbl := lw_m2 (List.mem_of_getElem? (l := tables_1_2) (i := 75) (by decide +kernel))
set_option maxRecDepth 100000 in
theorem lw_w174 : Cond.selects RX7 yX7_canFollow yX7_canFollow ∈ lw_tbl := lw_m0 (List.mem_of_getElem? (l := (k2_sels lw_privs)) (i := 1) (by decide +kernel))
set_option maxRecDepth 100000 in
theorem lw_w175 : Cond.code yX7_canFollow cX7_canFollow 2 (some .boolean) ∈ lw_tbl := lw_m2 (List.mem_of_getElem? (l := tables_1_2) (i := 76) (rfl))
set_option maxRecDepth 100000 in
theorem lw_w176 : Cond.methodLink RX7 196 yX4_inLoop ∈ lw_tbl := lw_m2 (List.mem_of_getElem? (l := tables_1_2) (i := 77) (by decide +kernel))
set_option maxRecDepth 100000 in
theorem lw_w177 : Cond.instanceMethod yX4_inLoop ∈ lw_tbl := lw_m2 (List.mem_of_getElem? (l := tables_1_2) (i := 78) (by decide +kernel))
set_option maxRecDepth 100000 in
theorem lw_w178 : Cond.selects RX4 yX4_inLoop yX4_inLoop ∈ lw_tbl := lw_m2 (List.mem_of_getElem? (l := tables_1_2) (i := 79) (by decide +kernel))
set_option maxRecDepth 100000 in
theorem lw_w179 : Cond.code yX4_inLoop cX4_inLoop 3 (some .boolean) ∈ lw_tbl := lw_m2 (List.mem_of_getElem? (l := tables_1_2) (i := 80) (rfl))
set_option maxRecDepth 100000 in
theorem lw_w180 : Cond.fieldLink RX4 34 "SumsOver$Steps" "size" "I" ∈ lw_tbl := lw_m1 (List.mem_of_getElem? (l := tables_1_1) (i := 106) (by decide +kernel))
set_option maxRecDepth 100000 in
theorem lw_w181 : Cond.methodLink RX7 94 yX7_canBe ∈ lw_tbl := lw_m2 (List.mem_of_getElem? (l := tables_1_2) (i := 81) (by decide +kernel))
set_option maxRecDepth 100000 in
theorem lw_w182 : Cond.static yX7_canBe ∈ lw_tbl := lw_m2 (List.mem_of_getElem? (l := tables_1_2) (i := 82) (by decide +kernel))
set_option maxRecDepth 100000 in
theorem lw_w183 : Cond.code yX7_canBe cX7_canBe 4 (some .boolean) ∈ lw_tbl := lw_m2 (List.mem_of_getElem? (l := tables_1_2) (i := 83) (rfl))
set_option maxRecDepth 100000 in
theorem lw_w184 : Cond.methodLink RX7 199 yX7_hasTarget ∈ lw_tbl := lw_m2 (List.mem_of_getElem? (l := tables_1_2) (i := 84) (by decide +kernel))
set_option maxRecDepth 100000 in
theorem lw_w185 : Cond.static yX7_hasTarget ∈ lw_tbl := lw_m2 (List.mem_of_getElem? (l := tables_1_2) (i := 85) (by decide +kernel))
set_option maxRecDepth 100000 in
theorem lw_w186 : Cond.code yX7_hasTarget cX7_hasTarget 1 (some .boolean) ∈ lw_tbl := lw_m2 (List.mem_of_getElem? (l := tables_1_2) (i := 86) (rfl))
set_option maxRecDepth 100000 in
theorem lw_w187 : Cond.methodLink RX7 202 yX7_readsA ∈ lw_tbl := lw_m2 (List.mem_of_getElem? (l := tables_1_2) (i := 87) (by decide +kernel))
set_option maxRecDepth 100000 in
theorem lw_w188 : Cond.static yX7_readsA ∈ lw_tbl := lw_m2 (List.mem_of_getElem? (l := tables_1_2) (i := 88) (by decide +kernel))
set_option maxRecDepth 100000 in
theorem lw_w189 : Cond.code yX7_readsA cX7_readsA 1 (some .boolean) ∈ lw_tbl := lw_m2 (List.mem_of_getElem? (l := tables_1_2) (i := 89) (rfl))
set_option maxRecDepth 100000 in
theorem lw_w190 : Cond.methodLink RX7 205 yX7_canBeB ∈ lw_tbl := lw_m2 (List.mem_of_getElem? (l := tables_1_2) (i := 90) (by decide +kernel))
set_option maxRecDepth 100000 in
theorem lw_w191 : Cond.static yX7_canBeB ∈ lw_tbl := lw_m2 (List.mem_of_getElem? (l := tables_1_2) (i := 91) (by decide +kernel))
set_option maxRecDepth 100000 in
theorem lw_w192 : Cond.code yX7_canBeB cX7_canBeB 2 (some .boolean) ∈ lw_tbl := lw_m2 (List.mem_of_getElem? (l := tables_1_2) (i := 92) (rfl))
set_option maxRecDepth 100000 in
theorem lw_w193 : Cond.methodLink RX7 208 yX7_readsB ∈ lw_tbl := lw_m2 (List.mem_of_getElem? (l := tables_1_2) (i := 93) (by decide +kernel))
set_option maxRecDepth 100000 in
theorem lw_w194 : Cond.static yX7_readsB ∈ lw_tbl := lw_m2 (List.mem_of_getElem? (l := tables_1_2) (i := 94) (by decide +kernel))
set_option maxRecDepth 100000 in
theorem lw_w195 : Cond.code yX7_readsB cX7_readsB 1 (some .boolean) ∈ lw_tbl := lw_m2 (List.mem_of_getElem? (l := tables_1_2) (i := 95) (rfl))
set_option maxRecDepth 100000 in
theorem lw_w196 : Cond.methodLink RX7 98 yX4_append ∈ lw_tbl := lw_m2 (List.mem_of_getElem? (l := tables_1_2) (i := 96) (by decide +kernel))
set_option maxRecDepth 100000 in
theorem lw_w197 : Cond.instanceMethod yX4_append ∈ lw_tbl := lw_m2 (List.mem_of_getElem? (l := tables_1_2) (i := 97) (by decide +kernel))
set_option maxRecDepth 100000 in
theorem lw_w198 : Cond.selects RX4 yX4_append yX4_append ∈ lw_tbl := lw_m2 (List.mem_of_getElem? (l := tables_1_2) (i := 98) (by decide +kernel))
set_option maxRecDepth 100000 in
theorem lw_w199 : Cond.code yX4_append cX4_append 5 none ∈ lw_tbl := lw_m2 (List.mem_of_getElem? (l := tables_1_2) (i := 99) (rfl))
set_option maxRecDepth 100000 in
theorem lw_w200 : Cond.methodLink RX4 48 yX4_retrace ∈ lw_tbl := lw_m2 (List.mem_of_getElem? (l := tables_1_2) (i := 103) (by decide +kernel))
set_option maxRecDepth 100000 in
theorem lw_w201 : Cond.instanceMethod yX4_retrace ∈ lw_tbl := lw_m2 (List.mem_of_getElem? (l := tables_1_2) (i := 105) (by decide +kernel))
set_option maxRecDepth 100000 in
theorem lw_w202 : Cond.selects RX4 yX4_retrace yX4_retrace ∈ lw_tbl := lw_m0 (List.mem_of_getElem? (l := (k2_sels lw_privs)) (i := 2) (by decide +kernel))
set_option maxRecDepth 100000 in
theorem lw_w203 : Cond.code yX4_retrace cX4_retrace 4 none ∈ lw_tbl := lw_m2 (List.mem_of_getElem? (l := tables_1_2) (i := 106) (rfl))
set_option maxRecDepth 100000 in
theorem lw_w204 : Cond.fieldLink RX4 51 "SumsOver$Steps" "pathLength" "I" ∈ lw_tbl := lw_m1 (List.mem_of_getElem? (l := tables_1_1) (i := 115) (by decide +kernel))
set_option maxRecDepth 100000 in
theorem lw_w205 : Cond.methodLink RX4 54 yX4_endOf ∈ lw_tbl := lw_m2 (List.mem_of_getElem? (l := tables_1_2) (i := 107) (by decide +kernel))
set_option maxRecDepth 100000 in
theorem lw_w206 : Cond.instanceMethod yX4_endOf ∈ lw_tbl := lw_m2 (List.mem_of_getElem? (l := tables_1_2) (i := 109) (by decide +kernel))
set_option maxRecDepth 100000 in
theorem lw_w207 : Cond.selects RX4 yX4_endOf yX4_endOf ∈ lw_tbl := lw_m0 (List.mem_of_getElem? (l := (k2_sels lw_privs)) (i := 3) (by decide +kernel))
set_option maxRecDepth 100000 in
theorem lw_w208 : Cond.code yX4_endOf cX4_endOf 3 (some .int) ∈ lw_tbl := lw_m2 (List.mem_of_getElem? (l := tables_1_2) (i := 110) (rfl))
set_option maxRecDepth 100000 in
theorem lw_w209 : Cond.methodLink RX4 58 yX4_trace ∈ lw_tbl := lw_m2 (List.mem_of_getElem? (l := tables_1_2) (i := 111) (by decide +kernel))
set_option maxRecDepth 100000 in
theorem lw_w210 : Cond.instanceMethod yX4_trace ∈ lw_tbl := lw_m2 (List.mem_of_getElem? (l := tables_1_2) (i := 113) (by decide +kernel))
set_option maxRecDepth 100000 in
theorem lw_w211 : Cond.selects RX4 yX4_trace yX4_trace ∈ lw_tbl := lw_m0 (List.mem_of_getElem? (l := (k2_sels lw_privs)) (i := 4) (by decide +kernel))
set_option maxRecDepth 100000 in
theorem lw_w212 : Cond.code yX4_trace cX4_trace 4 none ∈ lw_tbl := lw_m2 (List.mem_of_getElem? (l := tables_1_2) (i := 114) (rfl))
set_option maxRecDepth 100000 in
theorem lw_w213 : Cond.methodLink RL 23 yX7_step ∈ lw_tbl := lw_m2 (List.mem_of_getElem? (l := tables_1_2) (i := 69) (by decide +kernel))
set_option maxRecDepth 100000 in
theorem lw_w214 : Cond.instanceMethod yX7_step ∈ lw_tbl := lw_m2 (List.mem_of_getElem? (l := tables_1_2) (i := 70) (by decide +kernel))
set_option maxRecDepth 100000 in
theorem lw_w215 : Cond.selects RX7 yX7_step yX7_step ∈ lw_tbl := lw_m2 (List.mem_of_getElem? (l := tables_1_2) (i := 71) (by decide +kernel))
set_option maxRecDepth 100000 in
theorem lw_w216 : Cond.code yX8_step cX8_step 5 (some .int) ∈ lw_tbl := lw_m3 (List.mem_of_getElem? (l := tables_1_3) (i := 239) (rfl))
set_option maxRecDepth 100000 in
theorem lw_w217 : Cond.fieldLink RX8 75 "SumsOverModel" "steps" "I" ∈ lw_tbl := lw_m3 (List.mem_of_getElem? (l := tables_1_3) (i := 147) (by decide +kernel))
set_option maxRecDepth 100000 in
theorem lw_w218 : Cond.methodLink RX8 103 yX8_canBe ∈ lw_tbl := lw_m4 (List.mem_of_getElem? (l := tables_1_4) (i := 0) (by decide +kernel))
set_option maxRecDepth 100000 in
theorem lw_w219 : Cond.instanceMethod yX8_canBe ∈ lw_tbl := lw_m4 (List.mem_of_getElem? (l := tables_1_4) (i := 2) (by decide +kernel))
