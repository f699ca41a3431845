set_option maxRecDepth 100000 in
theorem lw_w660 : Cond.methodLink RL 78 yX7_mend ∈ lw_tbl := lw_m3 (List.mem_of_getElem? (l := tables_1_3) (i := 100) (by decide +kernel))
set_option maxRecDepth 100000 in
theorem lw_w661 : Cond.instanceMethod yX7_mend ∈ lw_tbl := lw_m3 (List.mem_of_getElem? (l := tables_1_3) (i := 101) (by decide +kernel))
set_option maxRecDepth 100000 in
theorem lw_w662 : Cond.selects RX7 yX7_mend yX7_mend ∈ lw_tbl := lw_m3 (List.mem_of_getElem? (l := tables_1_3) (i := 102) (by decide +kernel))
set_option maxRecDepth 100000 in
theorem lw_w663 : Cond.code yX8_mend cX8_mend 4 (some .int) ∈ lw_tbl := lw_m4 (List.mem_of_getElem? (l := tables_1_4) (i := 160) (rfl))
set_option maxRecDepth 100000 in
theorem lw_w664 : Cond.methodLink RX8 225 yX8_price ∈ lw_tbl := lw_m4 (List.mem_of_getElem? (l := tables_1_4) (i := 161) (by decide +kernel))
set_option maxRecDepth 100000 in
theorem lw_w665 : Cond.methodLink RL 81 yX8_mend ∈ lw_tbl := lw_m4 (List.mem_of_getElem? (l := tables_1_4) (i := 157) (by decide +kernel))
set_option maxRecDepth 100000 in
theorem lw_w666 : Cond.instanceMethod yX8_mend ∈ lw_tbl := lw_m4 (List.mem_of_getElem? (l := tables_1_4) (i := 158) (by decide +kernel))
set_option maxRecDepth 100000 in
theorem lw_w667 : Cond.selects RX8 yX8_mend yX8_mend ∈ lw_tbl := lw_m4 (List.mem_of_getElem? (l := tables_1_4) (i := 159) (by decide +kernel))
set_option maxRecDepth 100000 in
theorem lw_w668 : Cond.code yX7_mean cX7_mean 3 (some .boolean) ∈ lw_tbl := lw_m3 (List.mem_of_getElem? (l := tables_1_3) (i := 107) (rfl))
set_option maxRecDepth 100000 in
theorem lw_w669 : Cond.fieldLink RX7 175 "SumsOver$Steps" "meant" "[Z" ∈ lw_tbl := lw_m1 (List.mem_of_getElem? (l := tables_1_1) (i := 105) (by decide +kernel))
set_option maxRecDepth 100000 in
theorem lw_w670 : Cond.methodLink RL 82 yX7_mean ∈ lw_tbl := lw_m3 (List.mem_of_getElem? (l := tables_1_3) (i := 104) (by decide +kernel))
set_option maxRecDepth 100000 in
theorem lw_w671 : Cond.instanceMethod yX7_mean ∈ lw_tbl := lw_m3 (List.mem_of_getElem? (l := tables_1_3) (i := 105) (by decide +kernel))
set_option maxRecDepth 100000 in
theorem lw_w672 : Cond.selects RX7 yX7_mean yX7_mean ∈ lw_tbl := lw_m3 (List.mem_of_getElem? (l := tables_1_3) (i := 106) (by decide +kernel))
set_option maxRecDepth 100000 in
theorem lw_w673 : Cond.code yX8_mean cX8_mean 3 (some .boolean) ∈ lw_tbl := lw_m4 (List.mem_of_getElem? (l := tables_1_4) (i := 165) (rfl))
set_option maxRecDepth 100000 in
theorem lw_w674 : Cond.methodLink RL 86 yX8_mean ∈ lw_tbl := lw_m4 (List.mem_of_getElem? (l := tables_1_4) (i := 162) (by decide +kernel))
set_option maxRecDepth 100000 in
theorem lw_w675 : Cond.instanceMethod yX8_mean ∈ lw_tbl := lw_m4 (List.mem_of_getElem? (l := tables_1_4) (i := 163) (by decide +kernel))
set_option maxRecDepth 100000 in
theorem lw_w676 : Cond.selects RX8 yX8_mean yX8_mean ∈ lw_tbl := lw_m4 (List.mem_of_getElem? (l := tables_1_4) (i := 164) (by decide +kernel))
set_option maxRecDepth 100000 in
theorem lw_w677 : Cond.code yX7_listed cX7_listed 3 (some .int) ∈ lw_tbl := lw_m3 (List.mem_of_getElem? (l := tables_1_3) (i := 111) (rfl))
set_option maxRecDepth 100000 in
theorem lw_w678 : Cond.methodLink RX7 178 yX7_isListed ∈ lw_tbl := lw_m3 (List.mem_of_getElem? (l := tables_1_3) (i := 112) (by decide +kernel))
set_option maxRecDepth 100000 in
theorem lw_w679 : Cond.instanceMethod yX7_isListed ∈ lw_tbl := lw_m3 (List.mem_of_getElem? (l := tables_1_3) (i := 114) (by decide +kernel))
set_option maxRecDepth 100000 in
theorem lw_w680 : Cond.selects RX7 yX7_isListed yX7_isListed ∈ lw_tbl := lw_m0 (List.mem_of_getElem? (l := (k2_sels lw_privs)) (i := 23) (by decide +kernel))
set_option maxRecDepth 100000 in
theorem lw_w681 : Cond.code yX7_isListed cX7_isListed 2 (some .boolean) ∈ lw_tbl := lw_m3 (List.mem_of_getElem? (l := tables_1_3) (i := 115) (rfl))
set_option maxRecDepth 100000 in
theorem lw_w682 : Cond.methodLink RX7 181 yX7_listedBefore ∈ lw_tbl := lw_m3 (List.mem_of_getElem? (l := tables_1_3) (i := 116) (by decide +kernel))
set_option maxRecDepth 100000 in
theorem lw_w683 : Cond.instanceMethod yX7_listedBefore ∈ lw_tbl := lw_m3 (List.mem_of_getElem? (l := tables_1_3) (i := 118) (by decide +kernel))
set_option maxRecDepth 100000 in
theorem lw_w684 : Cond.selects RX7 yX7_listedBefore yX7_listedBefore ∈ lw_tbl := lw_m0 (List.mem_of_getElem? (l := (k2_sels lw_privs)) (i := 24) (by decide +kernel))
set_option maxRecDepth 100000 in
theorem lw_w685 : Cond.code yX7_listedBefore cX7_listedBefore 4 (some .int) ∈ lw_tbl := lw_m3 (List.mem_of_getElem? (l := tables_1_3) (i := 119) (rfl))
set_option maxRecDepth 100000 in
theorem lw_w686 : Cond.methodLink RX7 235 yX7_comesBefore ∈ lw_tbl := lw_m3 (List.mem_of_getElem? (l := tables_1_3) (i := 120) (by decide +kernel))
set_option maxRecDepth 100000 in
theorem lw_w687 : Cond.instanceMethod yX7_comesBefore ∈ lw_tbl := lw_m3 (List.mem_of_getElem? (l := tables_1_3) (i := 122) (by decide +kernel))
set_option maxRecDepth 100000 in
theorem lw_w688 : Cond.selects RX7 yX7_comesBefore yX7_comesBefore ∈ lw_tbl := lw_m0 (List.mem_of_getElem? (l := (k2_sels lw_privs)) (i := 25) (by decide +kernel))
set_option maxRecDepth 100000 in
theorem lw_w689 : Cond.code yX7_comesBefore cX7_comesBefore 3 (some .boolean) ∈ lw_tbl := lw_m3 (List.mem_of_getElem? (l := tables_1_3) (i := 123) (rfl))
set_option maxRecDepth 100000 in
theorem lw_w690 : Cond.methodLink RL 87 yX7_listed ∈ lw_tbl := lw_m3 (List.mem_of_getElem? (l := tables_1_3) (i := 108) (by decide +kernel))
set_option maxRecDepth 100000 in
theorem lw_w691 : Cond.instanceMethod yX7_listed ∈ lw_tbl := lw_m3 (List.mem_of_getElem? (l := tables_1_3) (i := 109) (by decide +kernel))
set_option maxRecDepth 100000 in
theorem lw_w692 : Cond.selects RX7 yX7_listed yX7_listed ∈ lw_tbl := lw_m3 (List.mem_of_getElem? (l := tables_1_3) (i := 110) (by decide +kernel))
set_option maxRecDepth 100000 in
theorem lw_w693 : Cond.code yX8_listed cX8_listed 5 (some .int) ∈ lw_tbl := lw_m4 (List.mem_of_getElem? (l := tables_1_4) (i := 169) (rfl))
set_option maxRecDepth 100000 in
theorem lw_w694 : Cond.methodLink RL 90 yX8_listed ∈ lw_tbl := lw_m4 (List.mem_of_getElem? (l := tables_1_4) (i := 166) (by decide +kernel))
set_option maxRecDepth 100000 in
theorem lw_w695 : Cond.instanceMethod yX8_listed ∈ lw_tbl := lw_m4 (List.mem_of_getElem? (l := tables_1_4) (i := 167) (by decide +kernel))
set_option maxRecDepth 100000 in
theorem lw_w696 : Cond.selects RX8 yX8_listed yX8_listed ∈ lw_tbl := lw_m4 (List.mem_of_getElem? (l := tables_1_4) (i := 168) (by decide +kernel))
set_option maxRecDepth 100000 in
theorem lw_w697 : Cond.code yX7_count cX7_count 2 (some .int) ∈ lw_tbl := lw_m3 (List.mem_of_getElem? (l := tables_1_3) (i := 127) (rfl))
set_option maxRecDepth 100000 in
theorem lw_w698 : Cond.fieldLink RX7 188 "SumsOver$Tally" "runsOver" "I" ∈ lw_tbl := lw_m1 (List.mem_of_getElem? (l := tables_1_1) (i := 177) (by decide +kernel))
set_option maxRecDepth 100000 in
theorem lw_w699 : Cond.methodLink RX7 191 yX4_marks ∈ lw_tbl := lw_m3 (List.mem_of_getElem? (l := tables_1_3) (i := 128) (by decide +kernel))
set_option maxRecDepth 100000 in
theorem lw_w700 : Cond.instanceMethod yX4_marks ∈ lw_tbl := lw_m3 (List.mem_of_getElem? (l := tables_1_3) (i := 129) (by decide +kernel))
set_option maxRecDepth 100000 in
theorem lw_w701 : Cond.selects RX4 yX4_marks yX4_marks ∈ lw_tbl := lw_m3 (List.mem_of_getElem? (l := tables_1_3) (i := 130) (by decide +kernel))
set_option maxRecDepth 100000 in
theorem lw_w702 : Cond.code yX4_marks cX4_marks 3 (some .int) ∈ lw_tbl := lw_m3 (List.mem_of_getElem? (l := tables_1_3) (i := 131) (rfl))
set_option maxRecDepth 100000 in
theorem lw_w703 : Cond.methodLink RL 91 yX7_count ∈ lw_tbl := lw_m3 (List.mem_of_getElem? (l := tables_1_3) (i := 124) (by decide +kernel))
set_option maxRecDepth 100000 in
theorem lw_w704 : Cond.instanceMethod yX7_count ∈ lw_tbl := lw_m3 (List.mem_of_getElem? (l := tables_1_3) (i := 125) (by decide +kernel))
set_option maxRecDepth 100000 in
theorem lw_w705 : Cond.selects RX7 yX7_count yX7_count ∈ lw_tbl := lw_m3 (List.mem_of_getElem? (l := tables_1_3) (i := 126) (by decide +kernel))
set_option maxRecDepth 100000 in
theorem lw_w706 : Cond.code yX8_count cX8_count 4 (some .int) ∈ lw_tbl := lw_m4 (List.mem_of_getElem? (l := tables_1_4) (i := 173) (rfl))
set_option maxRecDepth 100000 in
theorem lw_w707 : Cond.constantLong RX8 228 (10) ∈ lw_tbl := lw_m4 (List.mem_of_getElem? (l := tables_1_4) (i := 174) (by decide +kernel))
set_option maxRecDepth 100000 in
theorem lw_w708 : Cond.constantLong RX8 230 (15) ∈ lw_tbl := lw_m4 (List.mem_of_getElem? (l := tables_1_4) (i := 175) (by decide +kernel))
set_option maxRecDepth 100000 in
theorem lw_w709 : Cond.constantLong RX8 232 (20) ∈ lw_tbl := lw_m4 (List.mem_of_getElem? (l := tables_1_4) (i := 176) (by decide +kernel))
set_option maxRecDepth 100000 in
theorem lw_w710 : Cond.constantLong RX8 234 (25) ∈ lw_tbl := lw_m4 (List.mem_of_getElem? (l := tables_1_4) (i := 177) (by decide +kernel))
set_option maxRecDepth 100000 in
theorem lw_w711 : Cond.methodLink RL 94 yX8_count ∈ lw_tbl := lw_m4 (List.mem_of_getElem? (l := tables_1_4) (i := 170) (by decide +kernel))
set_option maxRecDepth 100000 in
theorem lw_w712 : Cond.instanceMethod yX8_count ∈ lw_tbl := lw_m4 (List.mem_of_getElem? (l := tables_1_4) (i := 171) (by decide +kernel))
set_option maxRecDepth 100000 in
theorem lw_w713 : Cond.selects RX8 yX8_count yX8_count ∈ lw_tbl := lw_m4 (List.mem_of_getElem? (l := tables_1_4) (i := 172) (by decide +kernel))
set_option maxRecDepth 100000 in
theorem lw_w714 : Cond.classLink RL 7 RX7 ∈ lw_tbl := lw_m1 (List.mem_of_getElem? (l := tables_1_1) (i := 12) (by decide +kernel))
set_option maxRecDepth 100000 in
theorem lw_w715 : Cond.instantiable RX7 7 ∈ lw_tbl := lw_m1 (List.mem_of_getElem? (l := tables_1_1) (i := 13) (by decide +kernel))
set_option maxRecDepth 100000 in
theorem lw_w716 : Cond.classLink RL 10 RX8 ∈ lw_tbl := lw_m3 (List.mem_of_getElem? (l := tables_1_3) (i := 132) (by decide +kernel))
set_option maxRecDepth 100000 in
theorem lw_w717 : Cond.instantiable RX8 26 ∈ lw_tbl := lw_m3 (List.mem_of_getElem? (l := tables_1_3) (i := 133) (by decide +kernel))
set_option maxRecDepth 100000 in
theorem lw_w718 : Cond.methodLink RL 9 yX7_init ∈ lw_tbl := lw_m1 (List.mem_of_getElem? (l := tables_1_1) (i := 14) (by decide +kernel))
set_option maxRecDepth 100000 in
theorem lw_w719 : Cond.instanceMethod yX7_init ∈ lw_tbl := lw_m1 (List.mem_of_getElem? (l := tables_1_1) (i := 15) (by decide +kernel))
set_option maxRecDepth 100000 in
theorem lw_w720 : Cond.methodLink RL 12 yX8_init ∈ lw_tbl := lw_m3 (List.mem_of_getElem? (l := tables_1_3) (i := 134) (by decide +kernel))
set_option maxRecDepth 100000 in
theorem lw_w721 : Cond.instanceMethod yX8_init ∈ lw_tbl := lw_m3 (List.mem_of_getElem? (l := tables_1_3) (i := 135) (by decide +kernel))
