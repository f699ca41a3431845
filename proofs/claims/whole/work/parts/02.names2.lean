theorem dX1_belowByRests_17 : decode cX1_belowByRests 17 = .ok (.lload_n 3, 1) := by decide +kernel
theorem dX1_belowByRests_18 : decode cX1_belowByRests 18 = .ok (.iload 7, 2) := by decide +kernel
theorem dX1_belowByRests_20 : decode cX1_belowByRests 20 = .ok (.invokestatic 57, 3) := by decide +kernel
theorem dX1_belowByRests_23 : decode cX1_belowByRests 23 = .ok (.lload 5, 2) := by decide +kernel
theorem dX1_belowByRests_25 : decode cX1_belowByRests 25 = .ok (.iload 7, 2) := by decide +kernel
theorem dX1_belowByRests_27 : decode cX1_belowByRests 27 = .ok (.invokestatic 57, 3) := by decide +kernel
theorem dX1_belowByRests_30 : decode cX1_belowByRests 30 = .ok (.lcmp, 1) := by decide +kernel
theorem dX1_belowByRests_31 : decode cX1_belowByRests 31 = .ok (.ifCond .ge 7, 3) := by decide +kernel
theorem dX1_belowByRests_34 : decode cX1_belowByRests 34 = .ok (.lconst 1, 1) := by decide +kernel
theorem dX1_belowByRests_35 : decode cX1_belowByRests 35 = .ok (.goto 4, 3) := by decide +kernel
theorem dX1_belowByRests_38 : decode cX1_belowByRests 38 = .ok (.lconst 0, 1) := by decide +kernel
theorem dX1_belowByRests_39 : decode cX1_belowByRests 39 = .ok (.lreturn, 1) := by decide +kernel
theorem dX1_rest_0 : decode cX1_rest 0 = .ok (.lload_n 0, 1) := by decide +kernel
theorem dX1_rest_1 : decode cX1_rest 1 = .ok (.lconst 1, 1) := by decide +kernel
theorem dX1_rest_2 : decode cX1_rest 2 = .ok (.iload_n 2, 1) := by decide +kernel
theorem dX1_rest_3 : decode cX1_rest 3 = .ok (.lshl, 1) := by decide +kernel
theorem dX1_rest_4 : decode cX1_rest 4 = .ok (.lconst 1, 1) := by decide +kernel
theorem dX1_rest_5 : decode cX1_rest 5 = .ok (.lsub, 1) := by decide +kernel
theorem dX1_rest_6 : decode cX1_rest 6 = .ok (.land, 1) := by decide +kernel
theorem dX1_rest_7 : decode cX1_rest 7 = .ok (.lreturn, 1) := by decide +kernel
theorem dX2_init_0 : decode cX2_init 0 = .ok (.aload_n 0, 1) := by decide +kernel
theorem dX2_init_1 : decode cX2_init 1 = .ok (.invokespecial 3, 3) := by decide +kernel
theorem dX2_init_4 : decode cX2_init 4 = .ok (.aload_n 0, 1) := by decide +kernel
theorem dX2_init_5 : decode cX2_init 5 = .ok (.bipush 6, 2) := by decide +kernel
theorem dX2_init_7 : decode cX2_init 7 = .ok (.newarray .long, 2) := by decide +kernel
theorem dX2_init_9 : decode cX2_init 9 = .ok (.putfield 9, 3) := by decide +kernel
theorem dX2_init_12 : decode cX2_init 12 = .ok (.aload_n 0, 1) := by decide +kernel
theorem dX2_init_13 : decode cX2_init 13 = .ok (.bipush 6, 2) := by decide +kernel
theorem dX2_init_15 : decode cX2_init 15 = .ok (.newarray .long, 2) := by decide +kernel
theorem dX2_init_17 : decode cX2_init 17 = .ok (.putfield 15, 3) := by decide +kernel
theorem dX2_init_20 : decode cX2_init 20 = .ok (.aload_n 0, 1) := by decide +kernel
theorem dX2_init_21 : decode cX2_init 21 = .ok (.aload_n 1, 1) := by decide +kernel
theorem dX2_init_22 : decode cX2_init 22 = .ok (.putfield 18, 3) := by decide +kernel
theorem dX2_init_25 : decode cX2_init 25 = .ok (.aload_n 0, 1) := by decide +kernel
theorem dX2_init_26 : decode cX2_init 26 = .ok (.aload_n 2, 1) := by decide +kernel
theorem dX2_init_27 : decode cX2_init 27 = .ok (.putfield 22, 3) := by decide +kernel
theorem dX2_init_30 : decode cX2_init 30 = .ok (.aload_n 0, 1) := by decide +kernel
theorem dX2_init_31 : decode cX2_init 31 = .ok (.aload_n 3, 1) := by decide +kernel
theorem dX2_init_32 : decode cX2_init 32 = .ok (.putfield 26, 3) := by decide +kernel
theorem dX2_init_35 : decode cX2_init 35 = .ok (.return_, 1) := by decide +kernel
theorem dX2_couldGoOver_0 : decode cX2_couldGoOver 0 = .ok (.aload_n 0, 1) := by decide +kernel
theorem dX2_couldGoOver_1 : decode cX2_couldGoOver 1 = .ok (.getfield 30, 3) := by decide +kernel
theorem dX2_couldGoOver_4 : decode cX2_couldGoOver 4 = .ok (.iload_n 1, 1) := by decide +kernel
theorem dX2_couldGoOver_5 : decode cX2_couldGoOver 5 = .ok (.ishr, 1) := by decide +kernel
theorem dX2_couldGoOver_6 : decode cX2_couldGoOver 6 = .ok (.iconst 1, 1) := by decide +kernel
theorem dX2_couldGoOver_7 : decode cX2_couldGoOver 7 = .ok (.iand, 1) := by decide +kernel
theorem dX2_couldGoOver_8 : decode cX2_couldGoOver 8 = .ok (.iconst 1, 1) := by decide +kernel
theorem dX2_couldGoOver_9 : decode cX2_couldGoOver 9 = .ok (.if_icmp .ne 7, 3) := by decide +kernel
theorem dX2_couldGoOver_12 : decode cX2_couldGoOver 12 = .ok (.iconst 1, 1) := by decide +kernel
theorem dX2_couldGoOver_13 : decode cX2_couldGoOver 13 = .ok (.goto 4, 3) := by decide +kernel
theorem dX2_couldGoOver_16 : decode cX2_couldGoOver 16 = .ok (.iconst 0, 1) := by decide +kernel
theorem dX2_couldGoOver_17 : decode cX2_couldGoOver 17 = .ok (.ireturn, 1) := by decide +kernel
set_option maxRecDepth 20000 in
theorem ggX2_learn_J7_fill_d0a16 : GoodIn wsX2_learn wsJ7_fill_d0a16 := goodIn_r _ [16] (by decide +kernel) (by decide +kernel)
set_option maxRecDepth 20000 in
theorem gX2_learn_J7_fill_d0a16 : GoodIn wsX2_learn (va_wsS RX2 38 yJ7_fill_d0a16 wsJ7_fill_d0a16) := goodIn_app (goodIn_of _ (by decide +kernel)) ggX2_learn_J7_fill_d0a16
set_option maxRecDepth 20000 in
theorem ggX2_learn_X2_settle : GoodIn wsX2_learn wsX2_settle := goodIn_r _ [21, 3, 7, 4, 9, 22, 23, 24, 25, 26, 27, 28, 20, 29, 30, 31, 32, 33, 34, 35, 36, 37, 38, 39, 40, 41, 42, 43, 44, 45, 46, 47, 83, 84, 85, 86, 87, 88, 89, 90, 91, 103, 104, 105, 106, 107] (by decide +kernel) (by decide +kernel)
set_option maxRecDepth 20000 in
theorem gX2_learn_X2_settle : GoodIn wsX2_learn (wsV RX2 60 RX2 yX2_settle wsX2_settle) := goodIn_app (goodIn_of _ (by decide +kernel)) ggX2_learn_X2_settle
set_option maxRecDepth 20000 in
theorem ggX2_learn_X2_perform : GoodIn wsX2_learn wsX2_perform := goodIn_r _ [51, 10, 52, 2, 53, 54, 55, 20, 56, 3, 4, 57, 7, 9, 58, 42, 43, 44, 59, 46, 47, 22, 60, 61, 62, 63, 64, 65, 66, 67, 68, 69, 70, 71, 72, 73, 74, 75, 76, 33, 77, 78, 79, 80, 81, 82, 26, 27, 28, 29, 30, 31, 32, 34, 35, 36, 17, 18, 19, 21, 23, 24, 25, 37, 38, 39, 40, 41, 45, 83, 84, 85, 86, 87, 88, 89, 90, 91, 94, 95, 96, 97, 98, 99, 100, 101, 102, 103, 104, 105, 106, 107] (by decide +kernel) (by decide +kernel)
set_option maxRecDepth 20000 in
theorem gX2_learn_X2_perform : GoodIn wsX2_learn (wsV RX2 72 RX2 yX2_perform wsX2_perform) := goodIn_app (goodIn_of _ (by decide +kernel)) ggX2_learn_X2_perform
theorem dX2_learn_0 : decode cX2_learn 0 = .ok (.aload_n 0, 1) := by decide +kernel
theorem dX2_learn_1 : decode cX2_learn 1 = .ok (.getfield 34, 3) := by decide +kernel
theorem dX2_learn_4 : decode cX2_learn 4 = .ok (.ifCond .eq 4, 3) := by decide +kernel
theorem dX2_learn_7 : decode cX2_learn 7 = .ok (.return_, 1) := by decide +kernel
theorem dX2_learn_8 : decode cX2_learn 8 = .ok (.aload_n 0, 1) := by decide +kernel
theorem dX2_learn_9 : decode cX2_learn 9 = .ok (.iconst 1, 1) := by decide +kernel
theorem dX2_learn_10 : decode cX2_learn 10 = .ok (.putfield 34, 3) := by decide +kernel
theorem dX2_learn_13 : decode cX2_learn 13 = .ok (.aload_n 0, 1) := by decide +kernel
theorem dX2_learn_14 : decode cX2_learn 14 = .ok (.iconst 0, 1) := by decide +kernel
theorem dX2_learn_15 : decode cX2_learn 15 = .ok (.putfield 30, 3) := by decide +kernel
theorem dX2_learn_18 : decode cX2_learn 18 = .ok (.aload_n 0, 1) := by decide +kernel
theorem dX2_learn_19 : decode cX2_learn 19 = .ok (.getfield 9, 3) := by decide +kernel
theorem dX2_learn_22 : decode cX2_learn 22 = .ok (.lconst 0, 1) := by decide +kernel
theorem dX2_learn_23 : decode cX2_learn 23 = .ok (.invokestatic 38, 3) := by decide +kernel
theorem dX2_learn_26 : decode cX2_learn 26 = .ok (.aload_n 0, 1) := by decide +kernel
theorem dX2_learn_27 : decode cX2_learn 27 = .ok (.getfield 15, 3) := by decide +kernel
theorem dX2_learn_30 : decode cX2_learn 30 = .ok (.lconst 0, 1) := by decide +kernel
theorem dX2_learn_31 : decode cX2_learn 31 = .ok (.invokestatic 38, 3) := by decide +kernel
theorem dX2_learn_34 : decode cX2_learn 34 = .ok (.iconst 0, 1) := by decide +kernel
theorem dX2_learn_35 : decode cX2_learn 35 = .ok (.istore_n 1, 1) := by decide +kernel
theorem dX2_learn_36 : decode cX2_learn 36 = .ok (.iload_n 1, 1) := by decide +kernel
theorem dX2_learn_37 : decode cX2_learn 37 = .ok (.iconst 2, 1) := by decide +kernel
theorem dX2_learn_38 : decode cX2_learn 38 = .ok (.if_icmp .ge 42, 3) := by decide +kernel
theorem dX2_learn_41 : decode cX2_learn 41 = .ok (.aload_n 0, 1) := by decide +kernel
theorem dX2_learn_42 : decode cX2_learn 42 = .ok (.aload_n 0, 1) := by decide +kernel
theorem dX2_learn_43 : decode cX2_learn 43 = .ok (.getfield 26, 3) := by decide +kernel
theorem dX2_learn_46 : decode cX2_learn 46 = .ok (.getfield 44, 3) := by decide +kernel
theorem dX2_learn_49 : decode cX2_learn 49 = .ok (.iload_n 1, 1) := by decide +kernel
theorem dX2_learn_50 : decode cX2_learn 50 = .ok (.iaload, 1) := by decide +kernel
theorem dX2_learn_51 : decode cX2_learn 51 = .ok (.i2l, 1) := by decide +kernel
theorem dX2_learn_52 : decode cX2_learn 52 = .ok (.putfield 50, 3) := by decide +kernel
theorem dX2_learn_55 : decode cX2_learn 55 = .ok (.aload_n 0, 1) := by decide +kernel
theorem dX2_learn_56 : decode cX2_learn 56 = .ok (.aload_n 0, 1) := by decide +kernel
theorem dX2_learn_57 : decode cX2_learn 57 = .ok (.getfield 26, 3) := by decide +kernel
theorem dX2_learn_60 : decode cX2_learn 60 = .ok (.getfield 54, 3) := by decide +kernel
theorem dX2_learn_63 : decode cX2_learn 63 = .ok (.iload_n 1, 1) := by decide +kernel
theorem dX2_learn_64 : decode cX2_learn 64 = .ok (.iaload, 1) := by decide +kernel
theorem dX2_learn_65 : decode cX2_learn 65 = .ok (.i2l, 1) := by decide +kernel
theorem dX2_learn_66 : decode cX2_learn 66 = .ok (.putfield 57, 3) := by decide +kernel
theorem dX2_learn_69 : decode cX2_learn 69 = .ok (.aload_n 0, 1) := by decide +kernel
theorem dX2_learn_70 : decode cX2_learn 70 = .ok (.iload_n 1, 1) := by decide +kernel
theorem dX2_learn_71 : decode cX2_learn 71 = .ok (.invokevirtual 60, 3) := by decide +kernel
theorem dX2_learn_74 : decode cX2_learn 74 = .ok (.iinc 1 1, 3) := by decide +kernel
theorem dX2_learn_77 : decode cX2_learn 77 = .ok (.goto (-41), 3) := by decide +kernel
theorem dX2_learn_80 : decode cX2_learn 80 = .ok (.iconst 0, 1) := by decide +kernel
theorem dX2_learn_81 : decode cX2_learn 81 = .ok (.istore_n 1, 1) := by decide +kernel
theorem dX2_learn_82 : decode cX2_learn 82 = .ok (.iload_n 1, 1) := by decide +kernel
theorem dX2_learn_83 : decode cX2_learn 83 = .ok (.aload_n 0, 1) := by decide +kernel
theorem dX2_learn_84 : decode cX2_learn 84 = .ok (.getfield 22, 3) := by decide +kernel
theorem dX2_learn_87 : decode cX2_learn 87 = .ok (.getfield 64, 3) := by decide +kernel
theorem dX2_learn_90 : decode cX2_learn 90 = .ok (.if_icmp .ge 22, 3) := by decide +kernel
theorem dX2_learn_93 : decode cX2_learn 93 = .ok (.aload_n 0, 1) := by decide +kernel
theorem dX2_learn_94 : decode cX2_learn 94 = .ok (.aload_n 0, 1) := by decide +kernel
theorem dX2_learn_95 : decode cX2_learn 95 = .ok (.getfield 22, 3) := by decide +kernel
theorem dX2_learn_98 : decode cX2_learn 98 = .ok (.getfield 69, 3) := by decide +kernel
theorem dX2_learn_101 : decode cX2_learn 101 = .ok (.iload_n 1, 1) := by decide +kernel
theorem dX2_learn_102 : decode cX2_learn 102 = .ok (.iaload, 1) := by decide +kernel
theorem dX2_learn_103 : decode cX2_learn 103 = .ok (.invokevirtual 72, 3) := by decide +kernel
theorem dX2_learn_106 : decode cX2_learn 106 = .ok (.iinc 1 1, 3) := by decide +kernel
theorem dX2_learn_109 : decode cX2_learn 109 = .ok (.goto (-27), 3) := by decide +kernel
theorem dX2_learn_112 : decode cX2_learn 112 = .ok (.return_, 1) := by decide +kernel
set_option maxRecDepth 20000 in
theorem ggX2_perform_X2_reckon : GoodIn wsX2_perform wsX2_reckon := goodIn_r _ [8, 1, 9, 10, 11, 12, 13, 14, 15, 16, 17, 18, 19, 20, 21, 22, 23, 24, 25, 26, 27, 28, 29, 30, 31, 32, 33, 34, 35, 36, 37, 38, 39, 40, 41, 42, 43, 44, 45, 69, 70, 71, 72, 73, 74, 75, 76, 77, 78, 79, 80, 81, 82, 83, 84, 85, 86, 87, 88, 89, 90, 91] (by decide +kernel) (by decide +kernel)
set_option maxRecDepth 20000 in
theorem gX2_perform_X2_reckon : GoodIn wsX2_perform (wsV RX2 78 RX2 yX2_reckon wsX2_reckon) := goodIn_app (goodIn_of _ (by decide +kernel)) ggX2_perform_X2_reckon
set_option maxRecDepth 20000 in
theorem ggX2_perform_X2_fits : GoodIn wsX2_perform wsX2_fits := goodIn_r _ [49, 21, 12, 13, 50, 51, 52, 39, 53, 54, 55, 69, 70, 71, 72, 73, 74, 75, 76, 77, 87, 88, 89, 90, 91] (by decide +kernel) (by decide +kernel)
set_option maxRecDepth 20000 in
theorem gX2_perform_X2_fits : GoodIn wsX2_perform (wsV RX2 81 RX2 yX2_fits wsX2_fits) := goodIn_app (goodIn_of _ (by decide +kernel)) ggX2_perform_X2_fits
set_option maxRecDepth 20000 in
theorem ggX2_perform_X2_settle : GoodIn wsX2_perform wsX2_settle := goodIn_r _ [59, 9, 12, 10, 13, 21, 60, 61, 62, 46, 47, 48, 7, 49, 50, 51, 52, 39, 53, 54, 55, 63, 64, 65, 66, 67, 15, 16, 17, 68, 19, 20, 69, 70, 71, 72, 73, 74, 75, 76, 77, 87, 88, 89, 90, 91] (by decide +kernel) (by decide +kernel)
set_option maxRecDepth 20000 in
theorem gX2_perform_X2_settle : GoodIn wsX2_perform (wsV RX2 60 RX2 yX2_settle wsX2_settle) := goodIn_app (goodIn_of _ (by decide +kernel)) ggX2_perform_X2_settle
theorem dX2_perform_0 : decode cX2_perform 0 = .ok (.aload_n 0, 1) := by decide +kernel
theorem dX2_perform_1 : decode cX2_perform 1 = .ok (.getfield 22, 3) := by decide +kernel
theorem dX2_perform_4 : decode cX2_perform 4 = .ok (.getfield 75, 3) := by decide +kernel
theorem dX2_perform_7 : decode cX2_perform 7 = .ok (.iload_n 1, 1) := by decide +kernel
theorem dX2_perform_8 : decode cX2_perform 8 = .ok (.iaload, 1) := by decide +kernel
theorem dX2_perform_9 : decode cX2_perform 9 = .ok (.istore_n 2, 1) := by decide +kernel
theorem dX2_perform_10 : decode cX2_perform 10 = .ok (.aload_n 0, 1) := by decide +kernel
theorem dX2_perform_11 : decode cX2_perform 11 = .ok (.iload_n 1, 1) := by decide +kernel
theorem dX2_perform_12 : decode cX2_perform 12 = .ok (.invokevirtual 78, 3) := by decide +kernel
theorem dX2_perform_15 : decode cX2_perform 15 = .ok (.aload_n 0, 1) := by decide +kernel
theorem dX2_perform_16 : decode cX2_perform 16 = .ok (.iload_n 2, 1) := by decide +kernel
theorem dX2_perform_17 : decode cX2_perform 17 = .ok (.invokevirtual 81, 3) := by decide +kernel
theorem dX2_perform_20 : decode cX2_perform 20 = .ok (.ifCond .ne 15, 3) := by decide +kernel
theorem dX2_perform_23 : decode cX2_perform 23 = .ok (.aload_n 0, 1) := by decide +kernel
theorem dX2_perform_24 : decode cX2_perform 24 = .ok (.dup, 1) := by decide +kernel
theorem dX2_perform_25 : decode cX2_perform 25 = .ok (.getfield 30, 3) := by decide +kernel
theorem dX2_perform_28 : decode cX2_perform 28 = .ok (.iconst 1, 1) := by decide +kernel
theorem dX2_perform_29 : decode cX2_perform 29 = .ok (.iload_n 1, 1) := by decide +kernel
theorem dX2_perform_30 : decode cX2_perform 30 = .ok (.ishl, 1) := by decide +kernel
theorem dX2_perform_31 : decode cX2_perform 31 = .ok (.ior, 1) := by decide +kernel
theorem dX2_perform_32 : decode cX2_perform 32 = .ok (.putfield 30, 3) := by decide +kernel
theorem dX2_perform_35 : decode cX2_perform 35 = .ok (.aload_n 0, 1) := by decide +kernel
theorem dX2_perform_36 : decode cX2_perform 36 = .ok (.iload_n 2, 1) := by decide +kernel
theorem dX2_perform_37 : decode cX2_perform 37 = .ok (.invokevirtual 60, 3) := by decide +kernel
theorem dX2_perform_40 : decode cX2_perform 40 = .ok (.return_, 1) := by decide +kernel
set_option maxRecDepth 20000 in
theorem ggX2_fits_X1_holds : GoodIn wsX2_fits wsX1_holds := goodIn_r _ [8, 9, 10, 20, 21, 22, 23, 24] (by decide +kernel) (by decide +kernel)
set_option maxRecDepth 20000 in
theorem gX2_fits_X1_holds : GoodIn wsX2_fits (wsV RX2 85 RX1 yX1_holds wsX1_holds) := goodIn_app (goodIn_of _ (by decide +kernel)) ggX2_fits_X1_holds
theorem dX2_fits_0 : decode cX2_fits 0 = .ok (.aload_n 0, 1) := by decide +kernel
theorem dX2_fits_1 : decode cX2_fits 1 = .ok (.getfield 18, 3) := by decide +kernel
theorem dX2_fits_4 : decode cX2_fits 4 = .ok (.iload_n 1, 1) := by decide +kernel
theorem dX2_fits_5 : decode cX2_fits 5 = .ok (.aload_n 0, 1) := by decide +kernel
theorem dX2_fits_6 : decode cX2_fits 6 = .ok (.getfield 50, 3) := by decide +kernel
theorem dX2_fits_9 : decode cX2_fits 9 = .ok (.invokevirtual 85, 3) := by decide +kernel
theorem dX2_fits_12 : decode cX2_fits 12 = .ok (.ifCond .eq 22, 3) := by decide +kernel
theorem dX2_fits_15 : decode cX2_fits 15 = .ok (.aload_n 0, 1) := by decide +kernel
theorem dX2_fits_16 : decode cX2_fits 16 = .ok (.getfield 18, 3) := by decide +kernel
theorem dX2_fits_19 : decode cX2_fits 19 = .ok (.iload_n 1, 1) := by decide +kernel
theorem dX2_fits_20 : decode cX2_fits 20 = .ok (.aload_n 0, 1) := by decide +kernel
theorem dX2_fits_21 : decode cX2_fits 21 = .ok (.getfield 57, 3) := by decide +kernel
theorem dX2_fits_24 : decode cX2_fits 24 = .ok (.invokevirtual 85, 3) := by decide +kernel
theorem dX2_fits_27 : decode cX2_fits 27 = .ok (.ifCond .eq 7, 3) := by decide +kernel
theorem dX2_fits_30 : decode cX2_fits 30 = .ok (.iconst 1, 1) := by decide +kernel
theorem dX2_fits_31 : decode cX2_fits 31 = .ok (.goto 4, 3) := by decide +kernel
theorem dX2_fits_34 : decode cX2_fits 34 = .ok (.iconst 0, 1) := by decide +kernel
theorem dX2_fits_35 : decode cX2_fits 35 = .ok (.ireturn, 1) := by decide +kernel
set_option maxRecDepth 20000 in
theorem ggX2_settle_X2_fits : GoodIn wsX2_settle wsX2_fits := goodIn_r _ [13, 5, 2, 4, 14, 15, 16, 17, 18, 19, 20, 32, 33, 34, 35, 36, 37, 38, 39, 40, 41, 42, 43, 44, 45] (by decide +kernel) (by decide +kernel)
set_option maxRecDepth 20000 in
theorem gX2_settle_X2_fits : GoodIn wsX2_settle (wsV RX2 81 RX2 yX2_fits wsX2_fits) := goodIn_app (goodIn_of _ (by decide +kernel)) ggX2_settle_X2_fits
set_option maxRecDepth 20000 in
theorem ggX2_settle_X1_nearestTo : GoodIn wsX2_settle wsX1_nearestTo := goodIn_r _ [24, 19, 20, 25, 26, 27, 28, 29, 30, 31, 41, 42, 43, 44, 45] (by decide +kernel) (by decide +kernel)
set_option maxRecDepth 20000 in
theorem gX2_settle_X1_nearestTo : GoodIn wsX2_settle (wsV RX2 94 RX1 yX1_nearestTo wsX1_nearestTo) := goodIn_app (goodIn_of _ (by decide +kernel)) ggX2_settle_X1_nearestTo
theorem dX2_settle_0 : decode cX2_settle 0 = .ok (.aload_n 0, 1) := by decide +kernel
theorem dX2_settle_1 : decode cX2_settle 1 = .ok (.iload_n 1, 1) := by decide +kernel
theorem dX2_settle_2 : decode cX2_settle 2 = .ok (.invokevirtual 81, 3) := by decide +kernel
theorem dX2_settle_5 : decode cX2_settle 5 = .ok (.ifCond .eq 26, 3) := by decide +kernel
theorem dX2_settle_8 : decode cX2_settle 8 = .ok (.aload_n 0, 1) := by decide +kernel
theorem dX2_settle_9 : decode cX2_settle 9 = .ok (.getfield 9, 3) := by decide +kernel
theorem dX2_settle_12 : decode cX2_settle 12 = .ok (.iload_n 1, 1) := by decide +kernel
theorem dX2_settle_13 : decode cX2_settle 13 = .ok (.aload_n 0, 1) := by decide +kernel
theorem dX2_settle_14 : decode cX2_settle 14 = .ok (.getfield 50, 3) := by decide +kernel
theorem dX2_settle_17 : decode cX2_settle 17 = .ok (.lastore, 1) := by decide +kernel
theorem dX2_settle_18 : decode cX2_settle 18 = .ok (.aload_n 0, 1) := by decide +kernel
theorem dX2_settle_19 : decode cX2_settle 19 = .ok (.getfield 15, 3) := by decide +kernel
theorem dX2_settle_22 : decode cX2_settle 22 = .ok (.iload_n 1, 1) := by decide +kernel
theorem dX2_settle_23 : decode cX2_settle 23 = .ok (.aload_n 0, 1) := by decide +kernel
theorem dX2_settle_24 : decode cX2_settle 24 = .ok (.getfield 57, 3) := by decide +kernel
theorem dX2_settle_27 : decode cX2_settle 27 = .ok (.lastore, 1) := by decide +kernel
theorem dX2_settle_28 : decode cX2_settle 28 = .ok (.goto 82, 3) := by decide +kernel
theorem dX2_settle_31 : decode cX2_settle 31 = .ok (.aload_n 0, 1) := by decide +kernel
theorem dX2_settle_32 : decode cX2_settle 32 = .ok (.getfield 18, 3) := by decide +kernel
theorem dX2_settle_35 : decode cX2_settle 35 = .ok (.getfield 91, 3) := by decide +kernel
theorem dX2_settle_38 : decode cX2_settle 38 = .ok (.ifCond .eq 42, 3) := by decide +kernel
theorem dX2_settle_41 : decode cX2_settle 41 = .ok (.aload_n 0, 1) := by decide +kernel
theorem dX2_settle_42 : decode cX2_settle 42 = .ok (.getfield 9, 3) := by decide +kernel
theorem dX2_settle_45 : decode cX2_settle 45 = .ok (.iload_n 1, 1) := by decide +kernel
theorem dX2_settle_46 : decode cX2_settle 46 = .ok (.aload_n 0, 1) := by decide +kernel
theorem dX2_settle_47 : decode cX2_settle 47 = .ok (.getfield 18, 3) := by decide +kernel
theorem dX2_settle_50 : decode cX2_settle 50 = .ok (.iload_n 1, 1) := by decide +kernel
theorem dX2_settle_51 : decode cX2_settle 51 = .ok (.aload_n 0, 1) := by decide +kernel
theorem dX2_settle_52 : decode cX2_settle 52 = .ok (.getfield 50, 3) := by decide +kernel
theorem dX2_settle_55 : decode cX2_settle 55 = .ok (.invokevirtual 94, 3) := by decide +kernel
theorem dX2_settle_58 : decode cX2_settle 58 = .ok (.lastore, 1) := by decide +kernel
theorem dX2_settle_59 : decode cX2_settle 59 = .ok (.aload_n 0, 1) := by decide +kernel
theorem dX2_settle_60 : decode cX2_settle 60 = .ok (.getfield 15, 3) := by decide +kernel
theorem dX2_settle_63 : decode cX2_settle 63 = .ok (.iload_n 1, 1) := by decide +kernel
theorem dX2_settle_64 : decode cX2_settle 64 = .ok (.aload_n 0, 1) := by decide +kernel
theorem dX2_settle_65 : decode cX2_settle 65 = .ok (.getfield 18, 3) := by decide +kernel
theorem dX2_settle_68 : decode cX2_settle 68 = .ok (.iload_n 1, 1) := by decide +kernel
theorem dX2_settle_69 : decode cX2_settle 69 = .ok (.aload_n 0, 1) := by decide +kernel
theorem dX2_settle_70 : decode cX2_settle 70 = .ok (.getfield 57, 3) := by decide +kernel
theorem dX2_settle_73 : decode cX2_settle 73 = .ok (.invokevirtual 94, 3) := by decide +kernel
theorem dX2_settle_76 : decode cX2_settle 76 = .ok (.lastore, 1) := by decide +kernel
theorem dX2_settle_77 : decode cX2_settle 77 = .ok (.goto 33, 3) := by decide +kernel
theorem dX2_settle_80 : decode cX2_settle 80 = .ok (.aload_n 0, 1) := by decide +kernel
theorem dX2_settle_81 : decode cX2_settle 81 = .ok (.getfield 9, 3) := by decide +kernel
theorem dX2_settle_84 : decode cX2_settle 84 = .ok (.iload_n 1, 1) := by decide +kernel
theorem dX2_settle_85 : decode cX2_settle 85 = .ok (.aload_n 0, 1) := by decide +kernel
theorem dX2_settle_86 : decode cX2_settle 86 = .ok (.getfield 18, 3) := by decide +kernel
theorem dX2_settle_89 : decode cX2_settle 89 = .ok (.getfield 98, 3) := by decide +kernel
theorem dX2_settle_92 : decode cX2_settle 92 = .ok (.iload_n 1, 1) := by decide +kernel
theorem dX2_settle_93 : decode cX2_settle 93 = .ok (.laload, 1) := by decide +kernel
theorem dX2_settle_94 : decode cX2_settle 94 = .ok (.lastore, 1) := by decide +kernel
theorem dX2_settle_95 : decode cX2_settle 95 = .ok (.aload_n 0, 1) := by decide +kernel
theorem dX2_settle_96 : decode cX2_settle 96 = .ok (.getfield 15, 3) := by decide +kernel
theorem dX2_settle_99 : decode cX2_settle 99 = .ok (.iload_n 1, 1) := by decide +kernel
theorem dX2_settle_100 : decode cX2_settle 100 = .ok (.aload_n 0, 1) := by decide +kernel
theorem dX2_settle_101 : decode cX2_settle 101 = .ok (.getfield 18, 3) := by decide +kernel
theorem dX2_settle_104 : decode cX2_settle 104 = .ok (.getfield 99, 3) := by decide +kernel
theorem dX2_settle_107 : decode cX2_settle 107 = .ok (.iload_n 1, 1) := by decide +kernel
theorem dX2_settle_108 : decode cX2_settle 108 = .ok (.laload, 1) := by decide +kernel
theorem dX2_settle_109 : decode cX2_settle 109 = .ok (.lastore, 1) := by decide +kernel
theorem dX2_settle_110 : decode cX2_settle 110 = .ok (.return_, 1) := by decide +kernel
set_option maxRecDepth 20000 in
theorem ggX2_reckon_X4_valueOfA : GoodIn wsX2_reckon wsX4_valueOfA := goodIn_r _ [21, 22, 48, 49, 50, 51, 52, 53, 54, 55, 56] (by decide +kernel) (by decide +kernel)
set_option maxRecDepth 20000 in
theorem gX2_reckon_X4_valueOfA : GoodIn wsX2_reckon (wsV RX2 100 RX4 yX4_valueOfA wsX4_valueOfA) := goodIn_app (goodIn_of _ (by decide +kernel)) ggX2_reckon_X4_valueOfA
set_option maxRecDepth 20000 in
theorem ggX2_reckon_X4_valueOfB : GoodIn wsX2_reckon wsX4_valueOfB := goodIn_r _ [26, 27, 28, 48, 49, 50, 51, 52, 53, 54, 55, 56] (by decide +kernel) (by decide +kernel)
set_option maxRecDepth 20000 in
theorem gX2_reckon_X4_valueOfB : GoodIn wsX2_reckon (wsV RX2 104 RX4 yX4_valueOfB wsX4_valueOfB) := goodIn_app (goodIn_of _ (by decide +kernel)) ggX2_reckon_X4_valueOfB
set_option maxRecDepth 20000 in
theorem ggX2_reckon_X1_signedAlike : GoodIn wsX2_reckon wsX1_signedAlike := goodIn_r _ [33, 34, 57, 58, 59, 60, 61] (by decide +kernel) (by decide +kernel)
set_option maxRecDepth 20000 in
theorem gX2_reckon_X1_signedAlike : GoodIn wsX2_reckon (wsV RX2 125 RX1 yX1_signedAlike wsX1_signedAlike) := goodIn_app (goodIn_of _ (by decide +kernel)) ggX2_reckon_X1_signedAlike
set_option maxRecDepth 20000 in
theorem ggX2_reckon_X7_made : GoodIn wsX2_reckon wsX7_made := goodIn_r _ [37, 38, 8, 9, 10] (by decide +kernel) (by decide +kernel)
set_option maxRecDepth 20000 in
theorem gX2_reckon_X7_made_n129 : GoodIn wsX2_reckon (wsX7_made) := ggX2_reckon_X7_made
theorem dX2_reckon_0 : decode cX2_reckon 0 = .ok (.aload_n 0, 1) := by decide +kernel
theorem dX2_reckon_1 : decode cX2_reckon 1 = .ok (.getfield 22, 3) := by decide +kernel
theorem dX2_reckon_4 : decode cX2_reckon 4 = .ok (.iload_n 1, 1) := by decide +kernel
theorem dX2_reckon_5 : decode cX2_reckon 5 = .ok (.aload_n 0, 1) := by decide +kernel
theorem dX2_reckon_6 : decode cX2_reckon 6 = .ok (.getfield 9, 3) := by decide +kernel
theorem dX2_reckon_9 : decode cX2_reckon 9 = .ok (.invokevirtual 100, 3) := by decide +kernel
theorem dX2_reckon_12 : decode cX2_reckon 12 = .ok (.lstore_n 2, 1) := by decide +kernel
theorem dX2_reckon_13 : decode cX2_reckon 13 = .ok (.aload_n 0, 1) := by decide +kernel
theorem dX2_reckon_14 : decode cX2_reckon 14 = .ok (.getfield 22, 3) := by decide +kernel
theorem dX2_reckon_17 : decode cX2_reckon 17 = .ok (.iload_n 1, 1) := by decide +kernel
theorem dX2_reckon_18 : decode cX2_reckon 18 = .ok (.aload_n 0, 1) := by decide +kernel
theorem dX2_reckon_19 : decode cX2_reckon 19 = .ok (.getfield 9, 3) := by decide +kernel
theorem dX2_reckon_22 : decode cX2_reckon 22 = .ok (.invokevirtual 104, 3) := by decide +kernel
theorem dX2_reckon_25 : decode cX2_reckon 25 = .ok (.lstore 4, 2) := by decide +kernel
theorem dX2_reckon_27 : decode cX2_reckon 27 = .ok (.aload_n 0, 1) := by decide +kernel
theorem dX2_reckon_28 : decode cX2_reckon 28 = .ok (.getfield 22, 3) := by decide +kernel
theorem dX2_reckon_31 : decode cX2_reckon 31 = .ok (.iload_n 1, 1) := by decide +kernel
theorem dX2_reckon_32 : decode cX2_reckon 32 = .ok (.aload_n 0, 1) := by decide +kernel
theorem dX2_reckon_33 : decode cX2_reckon 33 = .ok (.getfield 15, 3) := by decide +kernel
theorem dX2_reckon_36 : decode cX2_reckon 36 = .ok (.invokevirtual 100, 3) := by decide +kernel
theorem dX2_reckon_39 : decode cX2_reckon 39 = .ok (.lstore 6, 2) := by decide +kernel
theorem dX2_reckon_41 : decode cX2_reckon 41 = .ok (.aload_n 0, 1) := by decide +kernel
theorem dX2_reckon_42 : decode cX2_reckon 42 = .ok (.getfield 22, 3) := by decide +kernel
theorem dX2_reckon_45 : decode cX2_reckon 45 = .ok (.iload_n 1, 1) := by decide +kernel
theorem dX2_reckon_46 : decode cX2_reckon 46 = .ok (.aload_n 0, 1) := by decide +kernel
theorem dX2_reckon_47 : decode cX2_reckon 47 = .ok (.getfield 15, 3) := by decide +kernel
theorem dX2_reckon_50 : decode cX2_reckon 50 = .ok (.invokevirtual 104, 3) := by decide +kernel
theorem dX2_reckon_53 : decode cX2_reckon 53 = .ok (.lstore 8, 2) := by decide +kernel
theorem dX2_reckon_55 : decode cX2_reckon 55 = .ok (.aload_n 0, 1) := by decide +kernel
theorem dX2_reckon_56 : decode cX2_reckon 56 = .ok (.getfield 22, 3) := by decide +kernel
theorem dX2_reckon_59 : decode cX2_reckon 59 = .ok (.getfield 107, 3) := by decide +kernel
theorem dX2_reckon_62 : decode cX2_reckon 62 = .ok (.iload_n 1, 1) := by decide +kernel
theorem dX2_reckon_63 : decode cX2_reckon 63 = .ok (.iaload, 1) := by decide +kernel
theorem dX2_reckon_64 : decode cX2_reckon 64 = .ok (.istore 10, 2) := by decide +kernel
theorem dX2_reckon_66 : decode cX2_reckon 66 = .ok (.iload 10, 2) := by decide +kernel
theorem dX2_reckon_68 : decode cX2_reckon 68 = .ok (.tableswitch 194 3 7 #[36, 56, 194, 194, 121], 36) := by decide +kernel
theorem dX2_reckon_104 : decode cX2_reckon 104 = .ok (.aload_n 0, 1) := by decide +kernel
theorem dX2_reckon_105 : decode cX2_reckon 105 = .ok (.lload_n 2, 1) := by decide +kernel
theorem dX2_reckon_106 : decode cX2_reckon 106 = .ok (.lload 8, 2) := by decide +kernel
theorem dX2_reckon_108 : decode cX2_reckon 108 = .ok (.lsub, 1) := by decide +kernel
theorem dX2_reckon_109 : decode cX2_reckon 109 = .ok (.putfield 50, 3) := by decide +kernel
theorem dX2_reckon_112 : decode cX2_reckon 112 = .ok (.aload_n 0, 1) := by decide +kernel
theorem dX2_reckon_113 : decode cX2_reckon 113 = .ok (.lload 6, 2) := by decide +kernel
theorem dX2_reckon_115 : decode cX2_reckon 115 = .ok (.lload 4, 2) := by decide +kernel
theorem dX2_reckon_117 : decode cX2_reckon 117 = .ok (.lsub, 1) := by decide +kernel
theorem dX2_reckon_118 : decode cX2_reckon 118 = .ok (.putfield 57, 3) := by decide +kernel
theorem dX2_reckon_121 : decode cX2_reckon 121 = .ok (.goto 166, 3) := by decide +kernel
theorem dX2_reckon_124 : decode cX2_reckon 124 = .ok (.aload_n 0, 1) := by decide +kernel
theorem dX2_reckon_125 : decode cX2_reckon 125 = .ok (.lload_n 2, 1) := by decide +kernel
theorem dX2_reckon_126 : decode cX2_reckon 126 = .ok (.lload 4, 2) := by decide +kernel
theorem dX2_reckon_128 : decode cX2_reckon 128 = .ok (.lmul, 1) := by decide +kernel
theorem dX2_reckon_129 : decode cX2_reckon 129 = .ok (.lload_n 2, 1) := by decide +kernel
theorem dX2_reckon_130 : decode cX2_reckon 130 = .ok (.lload 8, 2) := by decide +kernel
theorem dX2_reckon_132 : decode cX2_reckon 132 = .ok (.lmul, 1) := by decide +kernel
theorem dX2_reckon_133 : decode cX2_reckon 133 = .ok (.invokestatic 110, 3) := by decide +kernel
theorem dX2_reckon_136 : decode cX2_reckon 136 = .ok (.lload 6, 2) := by decide +kernel
theorem dX2_reckon_138 : decode cX2_reckon 138 = .ok (.lload 4, 2) := by decide +kernel
theorem dX2_reckon_140 : decode cX2_reckon 140 = .ok (.lmul, 1) := by decide +kernel
theorem dX2_reckon_141 : decode cX2_reckon 141 = .ok (.lload 6, 2) := by decide +kernel
theorem dX2_reckon_143 : decode cX2_reckon 143 = .ok (.lload 8, 2) := by decide +kernel
theorem dX2_reckon_145 : decode cX2_reckon 145 = .ok (.lmul, 1) := by decide +kernel
theorem dX2_reckon_146 : decode cX2_reckon 146 = .ok (.invokestatic 110, 3) := by decide +kernel
theorem dX2_reckon_149 : decode cX2_reckon 149 = .ok (.invokestatic 110, 3) := by decide +kernel
theorem dX2_reckon_152 : decode cX2_reckon 152 = .ok (.putfield 50, 3) := by decide +kernel
theorem dX2_reckon_155 : decode cX2_reckon 155 = .ok (.aload_n 0, 1) := by decide +kernel
theorem dX2_reckon_156 : decode cX2_reckon 156 = .ok (.lload_n 2, 1) := by decide +kernel
theorem dX2_reckon_157 : decode cX2_reckon 157 = .ok (.lload 4, 2) := by decide +kernel
theorem dX2_reckon_159 : decode cX2_reckon 159 = .ok (.lmul, 1) := by decide +kernel
theorem dX2_reckon_160 : decode cX2_reckon 160 = .ok (.lload_n 2, 1) := by decide +kernel
theorem dX2_reckon_161 : decode cX2_reckon 161 = .ok (.lload 8, 2) := by decide +kernel
theorem dX2_reckon_163 : decode cX2_reckon 163 = .ok (.lmul, 1) := by decide +kernel
theorem dX2_reckon_164 : decode cX2_reckon 164 = .ok (.invokestatic 116, 3) := by decide +kernel
theorem dX2_reckon_167 : decode cX2_reckon 167 = .ok (.lload 6, 2) := by decide +kernel
theorem dX2_reckon_169 : decode cX2_reckon 169 = .ok (.lload 4, 2) := by decide +kernel
theorem dX2_reckon_171 : decode cX2_reckon 171 = .ok (.lmul, 1) := by decide +kernel
theorem dX2_reckon_172 : decode cX2_reckon 172 = .ok (.lload 6, 2) := by decide +kernel
theorem dX2_reckon_174 : decode cX2_reckon 174 = .ok (.lload 8, 2) := by decide +kernel
theorem dX2_reckon_176 : decode cX2_reckon 176 = .ok (.lmul, 1) := by decide +kernel
theorem dX2_reckon_177 : decode cX2_reckon 177 = .ok (.invokestatic 116, 3) := by decide +kernel
theorem dX2_reckon_180 : decode cX2_reckon 180 = .ok (.invokestatic 116, 3) := by decide +kernel
theorem dX2_reckon_183 : decode cX2_reckon 183 = .ok (.putfield 57, 3) := by decide +kernel
theorem dX2_reckon_186 : decode cX2_reckon 186 = .ok (.goto 101, 3) := by decide +kernel
theorem dX2_reckon_189 : decode cX2_reckon 189 = .ok (.aload_n 0, 1) := by decide +kernel
theorem dX2_reckon_190 : decode cX2_reckon 190 = .ok (.getfield 18, 3) := by decide +kernel
theorem dX2_reckon_193 : decode cX2_reckon 193 = .ok (.aload_n 0, 1) := by decide +kernel
theorem dX2_reckon_194 : decode cX2_reckon 194 = .ok (.getfield 22, 3) := by decide +kernel
theorem dX2_reckon_197 : decode cX2_reckon 197 = .ok (.getfield 119, 3) := by decide +kernel
theorem dX2_reckon_200 : decode cX2_reckon 200 = .ok (.iload_n 1, 1) := by decide +kernel
theorem dX2_reckon_201 : decode cX2_reckon 201 = .ok (.iaload, 1) := by decide +kernel
theorem dX2_reckon_202 : decode cX2_reckon 202 = .ok (.aload_n 0, 1) := by decide +kernel
theorem dX2_reckon_203 : decode cX2_reckon 203 = .ok (.getfield 22, 3) := by decide +kernel
theorem dX2_reckon_206 : decode cX2_reckon 206 = .ok (.getfield 122, 3) := by decide +kernel
theorem dX2_reckon_209 : decode cX2_reckon 209 = .ok (.iload_n 1, 1) := by decide +kernel
theorem dX2_reckon_210 : decode cX2_reckon 210 = .ok (.iaload, 1) := by decide +kernel
theorem dX2_reckon_211 : decode cX2_reckon 211 = .ok (.invokevirtual 125, 3) := by decide +kernel
theorem dX2_reckon_214 : decode cX2_reckon 214 = .ok (.istore 11, 2) := by decide +kernel
theorem dX2_reckon_216 : decode cX2_reckon 216 = .ok (.aload_n 0, 1) := by decide +kernel
theorem dX2_reckon_217 : decode cX2_reckon 217 = .ok (.iload 11, 2) := by decide +kernel
theorem dX2_reckon_219 : decode cX2_reckon 219 = .ok (.ifCond .eq 15, 3) := by decide +kernel
theorem dX2_reckon_222 : decode cX2_reckon 222 = .ok (.lload 6, 2) := by decide +kernel
theorem dX2_reckon_224 : decode cX2_reckon 224 = .ok (.lload 4, 2) := by decide +kernel
theorem dX2_reckon_226 : decode cX2_reckon 226 = .ok (.lcmp, 1) := by decide +kernel
theorem dX2_reckon_227 : decode cX2_reckon 227 = .ok (.ifCond .ge 7, 3) := by decide +kernel
theorem dX2_reckon_230 : decode cX2_reckon 230 = .ok (.lconst 1, 1) := by decide +kernel
theorem dX2_reckon_231 : decode cX2_reckon 231 = .ok (.goto 4, 3) := by decide +kernel
theorem dX2_reckon_234 : decode cX2_reckon 234 = .ok (.lconst 0, 1) := by decide +kernel
theorem dX2_reckon_235 : decode cX2_reckon 235 = .ok (.putfield 50, 3) := by decide +kernel
theorem dX2_reckon_238 : decode cX2_reckon 238 = .ok (.aload_n 0, 1) := by decide +kernel
theorem dX2_reckon_239 : decode cX2_reckon 239 = .ok (.iload 11, 2) := by decide +kernel
theorem dX2_reckon_241 : decode cX2_reckon 241 = .ok (.ifCond .eq 14, 3) := by decide +kernel
theorem dX2_reckon_244 : decode cX2_reckon 244 = .ok (.lload_n 2, 1) := by decide +kernel
theorem dX2_reckon_245 : decode cX2_reckon 245 = .ok (.lload 8, 2) := by decide +kernel
theorem dX2_reckon_247 : decode cX2_reckon 247 = .ok (.lcmp, 1) := by decide +kernel
theorem dX2_reckon_248 : decode cX2_reckon 248 = .ok (.ifCond .lt 7, 3) := by decide +kernel
theorem dX2_reckon_251 : decode cX2_reckon 251 = .ok (.lconst 0, 1) := by decide +kernel
theorem dX2_reckon_252 : decode cX2_reckon 252 = .ok (.goto 4, 3) := by decide +kernel
theorem dX2_reckon_255 : decode cX2_reckon 255 = .ok (.lconst 1, 1) := by decide +kernel
theorem dX2_reckon_256 : decode cX2_reckon 256 = .ok (.putfield 57, 3) := by decide +kernel
theorem dX2_reckon_259 : decode cX2_reckon 259 = .ok (.goto 28, 3) := by decide +kernel
theorem dX2_reckon_262 : decode cX2_reckon 262 = .ok (.aload_n 0, 1) := by decide +kernel
theorem dX2_reckon_263 : decode cX2_reckon 263 = .ok (.iload 10, 2) := by decide +kernel
theorem dX2_reckon_265 : decode cX2_reckon 265 = .ok (.lload_n 2, 1) := by decide +kernel
theorem dX2_reckon_266 : decode cX2_reckon 266 = .ok (.lload 4, 2) := by decide +kernel
theorem dX2_reckon_268 : decode cX2_reckon 268 = .ok (.invokestatic 129, 3) := by decide +kernel
theorem dX2_reckon_271 : decode cX2_reckon 271 = .ok (.putfield 50, 3) := by decide +kernel
theorem dX2_reckon_274 : decode cX2_reckon 274 = .ok (.aload_n 0, 1) := by decide +kernel
theorem dX2_reckon_275 : decode cX2_reckon 275 = .ok (.iload 10, 2) := by decide +kernel
theorem dX2_reckon_277 : decode cX2_reckon 277 = .ok (.lload 6, 2) := by decide +kernel
theorem dX2_reckon_279 : decode cX2_reckon 279 = .ok (.lload 8, 2) := by decide +kernel
theorem dX2_reckon_281 : decode cX2_reckon 281 = .ok (.invokestatic 129, 3) := by decide +kernel
theorem dX2_reckon_284 : decode cX2_reckon 284 = .ok (.putfield 57, 3) := by decide +kernel
theorem dX2_reckon_287 : decode cX2_reckon 287 = .ok (.return_, 1) := by decide +kernel
theorem dX3_init_0 : decode cX3_init 0 = .ok (.aload_n 0, 1) := by decide +kernel
theorem dX3_init_1 : decode cX3_init 1 = .ok (.invokespecial 3, 3) := by decide +kernel
theorem dX3_init_4 : decode cX3_init 4 = .ok (.aload_n 0, 1) := by decide +kernel
theorem dX3_init_5 : decode cX3_init 5 = .ok (.bipush 6, 2) := by decide +kernel
theorem dX3_init_7 : decode cX3_init 7 = .ok (.newarray .long, 2) := by decide +kernel
theorem dX3_init_9 : decode cX3_init 9 = .ok (.putfield 9, 3) := by decide +kernel
theorem dX3_init_12 : decode cX3_init 12 = .ok (.aload_n 0, 1) := by decide +kernel
theorem dX3_init_13 : decode cX3_init 13 = .ok (.aload_n 1, 1) := by decide +kernel
theorem dX3_init_14 : decode cX3_init 14 = .ok (.putfield 15, 3) := by decide +kernel
theorem dX3_init_17 : decode cX3_init 17 = .ok (.aload_n 0, 1) := by decide +kernel
theorem dX3_init_18 : decode cX3_init 18 = .ok (.aload_n 2, 1) := by decide +kernel
theorem dX3_init_19 : decode cX3_init 19 = .ok (.putfield 19, 3) := by decide +kernel
theorem dX3_init_22 : decode cX3_init 22 = .ok (.return_, 1) := by decide +kernel
set_option maxRecDepth 20000 in
theorem ggX3_follow_J7_fill_d0a16 : GoodIn wsX3_follow wsJ7_fill_d0a16 := goodIn_r _ [12] (by decide +kernel) (by decide +kernel)
set_option maxRecDepth 20000 in
theorem gX3_follow_J7_fill_d0a16 : GoodIn wsX3_follow (va_wsS RX3 33 yJ7_fill_d0a16 wsJ7_fill_d0a16) := goodIn_app (goodIn_of _ (by decide +kernel)) ggX3_follow_J7_fill_d0a16
set_option maxRecDepth 20000 in
theorem ggX3_follow_X1_fitted : GoodIn wsX3_follow wsX1_fitted := goodIn_r _ [17, 18, 19, 20, 21, 16, 22, 23, 24, 25, 26, 27, 28, 29, 30, 31, 32, 33, 34, 35, 36, 37, 38, 39, 104, 105, 106, 107, 108] (by decide +kernel) (by decide +kernel)
set_option maxRecDepth 20000 in
theorem gX3_follow_X1_fitted : GoodIn wsX3_follow (wsV RX3 39 RX1 yX1_fitted wsX1_fitted) := goodIn_app (goodIn_of _ (by decide +kernel)) ggX3_follow_X1_fitted
set_option maxRecDepth 20000 in
theorem ggX3_follow_X3_perform : GoodIn wsX3_follow wsX3_perform := goodIn_r _ [44, 6, 45, 5, 4, 46, 47, 48, 43, 49, 50, 51, 52, 2, 53, 54, 55, 56, 57, 58, 59, 60, 61, 62, 63, 64, 65, 66, 67, 68, 26, 27, 28, 69, 70, 71, 16, 72, 73, 74, 75, 76, 77, 36, 78, 79, 80, 37, 38, 39, 81, 82, 83, 84, 23, 24, 85, 86, 87, 88, 1, 3, 13, 14, 15, 17, 18, 19, 20, 21, 22, 25, 29, 30, 31, 32, 33, 34, 35, 89, 90, 91, 92, 93, 94, 95, 96, 97, 98, 99, 100, 101, 102, 103, 104, 105, 106, 107, 108] (by decide +kernel) (by decide +kernel)
set_option maxRecDepth 20000 in
theorem gX3_follow_X3_perform : GoodIn wsX3_follow (wsV RX3 54 RX3 yX3_perform wsX3_perform) := goodIn_app (goodIn_of _ (by decide +kernel)) ggX3_follow_X3_perform
theorem dX3_follow_0 : decode cX3_follow 0 = .ok (.aload_n 0, 1) := by decide +kernel
theorem dX3_follow_1 : decode cX3_follow 1 = .ok (.iconst 0, 1) := by decide +kernel
theorem dX3_follow_2 : decode cX3_follow 2 = .ok (.putfield 23, 3) := by decide +kernel
theorem dX3_follow_5 : decode cX3_follow 5 = .ok (.aload_n 0, 1) := by decide +kernel
theorem dX3_follow_6 : decode cX3_follow 6 = .ok (.iconst 0, 1) := by decide +kernel
theorem dX3_follow_7 : decode cX3_follow 7 = .ok (.putfield 27, 3) := by decide +kernel
theorem dX3_follow_10 : decode cX3_follow 10 = .ok (.aload_n 0, 1) := by decide +kernel
theorem dX3_follow_11 : decode cX3_follow 11 = .ok (.iconst (-1), 1) := by decide +kernel
theorem dX3_follow_12 : decode cX3_follow 12 = .ok (.putfield 30, 3) := by decide +kernel
theorem dX3_follow_15 : decode cX3_follow 15 = .ok (.aload_n 0, 1) := by decide +kernel
theorem dX3_follow_16 : decode cX3_follow 16 = .ok (.getfield 9, 3) := by decide +kernel
theorem dX3_follow_19 : decode cX3_follow 19 = .ok (.lconst 0, 1) := by decide +kernel
theorem dX3_follow_20 : decode cX3_follow 20 = .ok (.invokestatic 33, 3) := by decide +kernel
theorem dX3_follow_23 : decode cX3_follow 23 = .ok (.aload_n 0, 1) := by decide +kernel
theorem dX3_follow_24 : decode cX3_follow 24 = .ok (.getfield 9, 3) := by decide +kernel
theorem dX3_follow_27 : decode cX3_follow 27 = .ok (.iconst 0, 1) := by decide +kernel
theorem dX3_follow_28 : decode cX3_follow 28 = .ok (.aload_n 0, 1) := by decide +kernel
theorem dX3_follow_29 : decode cX3_follow 29 = .ok (.getfield 15, 3) := by decide +kernel
theorem dX3_follow_32 : decode cX3_follow 32 = .ok (.iconst 0, 1) := by decide +kernel
theorem dX3_follow_33 : decode cX3_follow 33 = .ok (.iload_n 1, 1) := by decide +kernel
theorem dX3_follow_34 : decode cX3_follow 34 = .ok (.i2l, 1) := by decide +kernel
theorem dX3_follow_35 : decode cX3_follow 35 = .ok (.invokevirtual 39, 3) := by decide +kernel
theorem dX3_follow_38 : decode cX3_follow 38 = .ok (.lastore, 1) := by decide +kernel
theorem dX3_follow_39 : decode cX3_follow 39 = .ok (.aload_n 0, 1) := by decide +kernel
theorem dX3_follow_40 : decode cX3_follow 40 = .ok (.getfield 9, 3) := by decide +kernel
theorem dX3_follow_43 : decode cX3_follow 43 = .ok (.iconst 1, 1) := by decide +kernel
theorem dX3_follow_44 : decode cX3_follow 44 = .ok (.aload_n 0, 1) := by decide +kernel
theorem dX3_follow_45 : decode cX3_follow 45 = .ok (.getfield 15, 3) := by decide +kernel
theorem dX3_follow_48 : decode cX3_follow 48 = .ok (.iconst 1, 1) := by decide +kernel
theorem dX3_follow_49 : decode cX3_follow 49 = .ok (.iload_n 2, 1) := by decide +kernel
theorem dX3_follow_50 : decode cX3_follow 50 = .ok (.i2l, 1) := by decide +kernel
theorem dX3_follow_51 : decode cX3_follow 51 = .ok (.invokevirtual 39, 3) := by decide +kernel
theorem dX3_follow_54 : decode cX3_follow 54 = .ok (.lastore, 1) := by decide +kernel
theorem dX3_follow_55 : decode cX3_follow 55 = .ok (.iconst 0, 1) := by decide +kernel
theorem dX3_follow_56 : decode cX3_follow 56 = .ok (.istore_n 3, 1) := by decide +kernel
theorem dX3_follow_57 : decode cX3_follow 57 = .ok (.iload_n 3, 1) := by decide +kernel
theorem dX3_follow_58 : decode cX3_follow 58 = .ok (.aload_n 0, 1) := by decide +kernel
theorem dX3_follow_59 : decode cX3_follow 59 = .ok (.getfield 19, 3) := by decide +kernel
theorem dX3_follow_62 : decode cX3_follow 62 = .ok (.getfield 45, 3) := by decide +kernel
theorem dX3_follow_65 : decode cX3_follow 65 = .ok (.if_icmp .ge 22, 3) := by decide +kernel
theorem dX3_follow_68 : decode cX3_follow 68 = .ok (.aload_n 0, 1) := by decide +kernel
theorem dX3_follow_69 : decode cX3_follow 69 = .ok (.aload_n 0, 1) := by decide +kernel
theorem dX3_follow_70 : decode cX3_follow 70 = .ok (.getfield 19, 3) := by decide +kernel
theorem dX3_follow_73 : decode cX3_follow 73 = .ok (.getfield 50, 3) := by decide +kernel
theorem dX3_follow_76 : decode cX3_follow 76 = .ok (.iload_n 3, 1) := by decide +kernel
theorem dX3_follow_77 : decode cX3_follow 77 = .ok (.iaload, 1) := by decide +kernel
theorem dX3_follow_78 : decode cX3_follow 78 = .ok (.invokevirtual 54, 3) := by decide +kernel
theorem dX3_follow_81 : decode cX3_follow 81 = .ok (.iinc 3 1, 3) := by decide +kernel
theorem dX3_follow_84 : decode cX3_follow 84 = .ok (.goto (-27), 3) := by decide +kernel
theorem dX3_follow_87 : decode cX3_follow 87 = .ok (.return_, 1) := by decide +kernel
set_option maxRecDepth 20000 in
theorem ggX3_perform_X3_answer : GoodIn wsX3_perform wsX3_answer := goodIn_r _ [9, 1, 10, 4, 3, 11, 12, 13, 14, 15, 16, 17, 18, 19, 20, 21, 22, 23, 24, 25, 26, 27, 28, 29, 30, 31, 32, 33, 34, 35, 36, 37, 38, 39, 40, 41, 42, 43, 44, 45, 46, 47, 48, 49, 79, 80, 81, 82, 83, 84, 85, 86, 87, 88, 89, 90, 91, 92, 93, 94, 95, 96, 97, 98] (by decide +kernel) (by decide +kernel)
set_option maxRecDepth 20000 in
theorem gX3_perform_X3_answer : GoodIn wsX3_perform (wsV RX3 61 RX3 yX3_answer wsX3_answer) := goodIn_app (goodIn_of _ (by decide +kernel)) ggX3_perform_X3_answer
set_option maxRecDepth 20000 in
theorem ggX3_perform_X1_holds : GoodIn wsX3_perform wsX1_holds := goodIn_r _ [53, 54, 55, 94, 95, 96, 97, 98] (by decide +kernel) (by decide +kernel)
set_option maxRecDepth 20000 in
theorem gX3_perform_X1_holds : GoodIn wsX3_perform (wsV RX3 65 RX1 yX1_holds wsX1_holds) := goodIn_app (goodIn_of _ (by decide +kernel)) ggX3_perform_X1_holds
set_option maxRecDepth 20000 in
theorem ggX3_perform_X3_noteOver : GoodIn wsX3_perform wsX3_noteOver := goodIn_r _ [59, 60, 61, 79, 80, 81, 82, 83, 84] (by decide +kernel) (by decide +kernel)
set_option maxRecDepth 20000 in
theorem gX3_perform_X3_noteOver : GoodIn wsX3_perform (wsV RX3 69 RX3 yX3_noteOver wsX3_noteOver) := goodIn_app (goodIn_of _ (by decide +kernel)) ggX3_perform_X3_noteOver
set_option maxRecDepth 20000 in
theorem ggX3_perform_X1_fitted : GoodIn wsX3_perform wsX1_fitted := goodIn_r _ [65, 66, 67, 68, 69, 36, 70, 54, 55, 71, 30, 31, 32, 72, 73, 74, 75, 76, 77, 78, 43, 47, 48, 49, 94, 95, 96, 97, 98] (by decide +kernel) (by decide +kernel)
set_option maxRecDepth 20000 in
theorem gX3_perform_X1_fitted : GoodIn wsX3_perform (wsV RX3 39 RX1 yX1_fitted wsX1_fitted) := goodIn_app (goodIn_of _ (by decide +kernel)) ggX3_perform_X1_fitted
theorem dX3_perform_0 : decode cX3_perform 0 = .ok (.aload_n 0, 1) := by decide +kernel
theorem dX3_perform_1 : decode cX3_perform 1 = .ok (.getfield 19, 3) := by decide +kernel
theorem dX3_perform_4 : decode cX3_perform 4 = .ok (.getfield 58, 3) := by decide +kernel
theorem dX3_perform_7 : decode cX3_perform 7 = .ok (.iload_n 1, 1) := by decide +kernel
theorem dX3_perform_8 : decode cX3_perform 8 = .ok (.iaload, 1) := by decide +kernel
theorem dX3_perform_9 : decode cX3_perform 9 = .ok (.istore_n 2, 1) := by decide +kernel
theorem dX3_perform_10 : decode cX3_perform 10 = .ok (.aload_n 0, 1) := by decide +kernel
theorem dX3_perform_11 : decode cX3_perform 11 = .ok (.iload_n 1, 1) := by decide +kernel
theorem dX3_perform_12 : decode cX3_perform 12 = .ok (.invokevirtual 61, 3) := by decide +kernel
theorem dX3_perform_15 : decode cX3_perform 15 = .ok (.lstore_n 3, 1) := by decide +kernel
theorem dX3_perform_16 : decode cX3_perform 16 = .ok (.aload_n 0, 1) := by decide +kernel
theorem dX3_perform_17 : decode cX3_perform 17 = .ok (.getfield 15, 3) := by decide +kernel
theorem dX3_perform_20 : decode cX3_perform 20 = .ok (.iload_n 2, 1) := by decide +kernel
theorem dX3_perform_21 : decode cX3_perform 21 = .ok (.lload_n 3, 1) := by decide +kernel
theorem dX3_perform_22 : decode cX3_perform 22 = .ok (.invokevirtual 65, 3) := by decide +kernel
theorem dX3_perform_25 : decode cX3_perform 25 = .ok (.ifCond .ne 8, 3) := by decide +kernel
theorem dX3_perform_28 : decode cX3_perform 28 = .ok (.aload_n 0, 1) := by decide +kernel
theorem dX3_perform_29 : decode cX3_perform 29 = .ok (.iload_n 1, 1) := by decide +kernel
theorem dX3_perform_30 : decode cX3_perform 30 = .ok (.invokevirtual 69, 3) := by decide +kernel
theorem dX3_perform_33 : decode cX3_perform 33 = .ok (.aload_n 0, 1) := by decide +kernel
theorem dX3_perform_34 : decode cX3_perform 34 = .ok (.getfield 9, 3) := by decide +kernel
theorem dX3_perform_37 : decode cX3_perform 37 = .ok (.iload_n 2, 1) := by decide +kernel
theorem dX3_perform_38 : decode cX3_perform 38 = .ok (.aload_n 0, 1) := by decide +kernel
theorem dX3_perform_39 : decode cX3_perform 39 = .ok (.getfield 15, 3) := by decide +kernel
theorem dX3_perform_42 : decode cX3_perform 42 = .ok (.iload_n 2, 1) := by decide +kernel
theorem dX3_perform_43 : decode cX3_perform 43 = .ok (.lload_n 3, 1) := by decide +kernel
theorem dX3_perform_44 : decode cX3_perform 44 = .ok (.invokevirtual 39, 3) := by decide +kernel
theorem dX3_perform_47 : decode cX3_perform 47 = .ok (.lastore, 1) := by decide +kernel
theorem dX3_perform_48 : decode cX3_perform 48 = .ok (.return_, 1) := by decide +kernel
theorem dX3_noteOver_0 : decode cX3_noteOver 0 = .ok (.aload_n 0, 1) := by decide +kernel
theorem dX3_noteOver_1 : decode cX3_noteOver 1 = .ok (.getfield 23, 3) := by decide +kernel
theorem dX3_noteOver_4 : decode cX3_noteOver 4 = .ok (.ifCond .ne 8, 3) := by decide +kernel
theorem dX3_noteOver_7 : decode cX3_noteOver 7 = .ok (.aload_n 0, 1) := by decide +kernel
theorem dX3_noteOver_8 : decode cX3_noteOver 8 = .ok (.iload_n 1, 1) := by decide +kernel
theorem dX3_noteOver_9 : decode cX3_noteOver 9 = .ok (.putfield 30, 3) := by decide +kernel
theorem dX3_noteOver_12 : decode cX3_noteOver 12 = .ok (.aload_n 0, 1) := by decide +kernel
theorem dX3_noteOver_13 : decode cX3_noteOver 13 = .ok (.dup, 1) := by decide +kernel
theorem dX3_noteOver_14 : decode cX3_noteOver 14 = .ok (.getfield 23, 3) := by decide +kernel
theorem dX3_noteOver_17 : decode cX3_noteOver 17 = .ok (.iconst 1, 1) := by decide +kernel
theorem dX3_noteOver_18 : decode cX3_noteOver 18 = .ok (.iload_n 1, 1) := by decide +kernel
theorem dX3_noteOver_19 : decode cX3_noteOver 19 = .ok (.ishl, 1) := by decide +kernel
theorem dX3_noteOver_20 : decode cX3_noteOver 20 = .ok (.ior, 1) := by decide +kernel
theorem dX3_noteOver_21 : decode cX3_noteOver 21 = .ok (.putfield 23, 3) := by decide +kernel
theorem dX3_noteOver_24 : decode cX3_noteOver 24 = .ok (.return_, 1) := by decide +kernel
set_option maxRecDepth 20000 in
theorem ggX3_answer_X4_valueOfA : GoodIn wsX3_answer wsX4_valueOfA := goodIn_r _ [12, 13, 50, 51, 52, 53, 54, 55, 56, 57, 58] (by decide +kernel) (by decide +kernel)
set_option maxRecDepth 20000 in
theorem gX3_answer_X4_valueOfA : GoodIn wsX3_answer (wsV RX3 75 RX4 yX4_valueOfA wsX4_valueOfA) := goodIn_app (goodIn_of _ (by decide +kernel)) ggX3_answer_X4_valueOfA
set_option maxRecDepth 20000 in
theorem ggX3_answer_X4_valueOfB : GoodIn wsX3_answer wsX4_valueOfB := goodIn_r _ [17, 18, 19, 50, 51, 52, 53, 54, 55, 56, 57, 58] (by decide +kernel) (by decide +kernel)
set_option maxRecDepth 20000 in
theorem gX3_answer_X4_valueOfB : GoodIn wsX3_answer (wsV RX3 79 RX4 yX4_valueOfB wsX4_valueOfB) := goodIn_app (goodIn_of _ (by decide +kernel)) ggX3_answer_X4_valueOfB
set_option maxRecDepth 20000 in
theorem ggX3_answer_X7_made : GoodIn wsX3_answer wsX7_made := goodIn_r _ [22, 23, 24, 25, 26] (by decide +kernel) (by decide +kernel)
set_option maxRecDepth 20000 in
theorem gX3_answer_X7_made_n82 : GoodIn wsX3_answer (wsX7_made) := ggX3_answer_X7_made
set_option maxRecDepth 20000 in
theorem ggX3_answer_X1_signedAlike : GoodIn wsX3_answer wsX1_signedAlike := goodIn_r _ [31, 32, 59, 60, 61, 62, 63] (by decide +kernel) (by decide +kernel)
set_option maxRecDepth 20000 in
theorem gX3_answer_X1_signedAlike : GoodIn wsX3_answer (wsV RX3 92 RX1 yX1_signedAlike wsX1_signedAlike) := goodIn_app (goodIn_of _ (by decide +kernel)) ggX3_answer_X1_signedAlike
set_option maxRecDepth 20000 in
theorem ggX3_answer_X1_belowByRests : GoodIn wsX3_answer wsX1_belowByRests := goodIn_r _ [36, 37, 38, 39, 25, 40, 41, 42, 30, 43, 59, 60, 61, 62, 63] (by decide +kernel) (by decide +kernel)
set_option maxRecDepth 20000 in
theorem gX3_answer_X1_belowByRests : GoodIn wsX3_answer (wsV RX3 96 RX1 yX1_belowByRests wsX1_belowByRests) := goodIn_app (goodIn_of _ (by decide +kernel)) ggX3_answer_X1_belowByRests
theorem dX3_answer_0 : decode cX3_answer 0 = .ok (.aload_n 0, 1) := by decide +kernel
theorem dX3_answer_1 : decode cX3_answer 1 = .ok (.getfield 19, 3) := by decide +kernel
theorem dX3_answer_4 : decode cX3_answer 4 = .ok (.getfield 72, 3) := by decide +kernel
theorem dX3_answer_7 : decode cX3_answer 7 = .ok (.iload_n 1, 1) := by decide +kernel
theorem dX3_answer_8 : decode cX3_answer 8 = .ok (.iaload, 1) := by decide +kernel
theorem dX3_answer_9 : decode cX3_answer 9 = .ok (.istore_n 2, 1) := by decide +kernel
theorem dX3_answer_10 : decode cX3_answer 10 = .ok (.aload_n 0, 1) := by decide +kernel
theorem dX3_answer_11 : decode cX3_answer 11 = .ok (.getfield 19, 3) := by decide +kernel
theorem dX3_answer_14 : decode cX3_answer 14 = .ok (.iload_n 1, 1) := by decide +kernel
theorem dX3_answer_15 : decode cX3_answer 15 = .ok (.aload_n 0, 1) := by decide +kernel
theorem dX3_answer_16 : decode cX3_answer 16 = .ok (.getfield 9, 3) := by decide +kernel
theorem dX3_answer_19 : decode cX3_answer 19 = .ok (.invokevirtual 75, 3) := by decide +kernel
theorem dX3_answer_22 : decode cX3_answer 22 = .ok (.lstore_n 3, 1) := by decide +kernel
theorem dX3_answer_23 : decode cX3_answer 23 = .ok (.aload_n 0, 1) := by decide +kernel
theorem dX3_answer_24 : decode cX3_answer 24 = .ok (.getfield 19, 3) := by decide +kernel
theorem dX3_answer_27 : decode cX3_answer 27 = .ok (.iload_n 1, 1) := by decide +kernel
theorem dX3_answer_28 : decode cX3_answer 28 = .ok (.aload_n 0, 1) := by decide +kernel
theorem dX3_answer_29 : decode cX3_answer 29 = .ok (.getfield 9, 3) := by decide +kernel
theorem dX3_answer_32 : decode cX3_answer 32 = .ok (.invokevirtual 79, 3) := by decide +kernel
theorem dX3_answer_35 : decode cX3_answer 35 = .ok (.lstore 5, 2) := by decide +kernel
theorem dX3_answer_37 : decode cX3_answer 37 = .ok (.iload_n 2, 1) := by decide +kernel
theorem dX3_answer_38 : decode cX3_answer 38 = .ok (.lload_n 3, 1) := by decide +kernel
theorem dX3_answer_39 : decode cX3_answer 39 = .ok (.lload 5, 2) := by decide +kernel
theorem dX3_answer_41 : decode cX3_answer 41 = .ok (.invokestatic 82, 3) := by decide +kernel
theorem dX3_answer_44 : decode cX3_answer 44 = .ok (.lstore 7, 2) := by decide +kernel
theorem dX3_answer_46 : decode cX3_answer 46 = .ok (.iload_n 2, 1) := by decide +kernel
theorem dX3_answer_47 : decode cX3_answer 47 = .ok (.bipush 7, 2) := by decide +kernel
theorem dX3_answer_49 : decode cX3_answer 49 = .ok (.if_icmp .ne 31, 3) := by decide +kernel
theorem dX3_answer_52 : decode cX3_answer 52 = .ok (.aload_n 0, 1) := by decide +kernel
theorem dX3_answer_53 : decode cX3_answer 53 = .ok (.getfield 15, 3) := by decide +kernel
theorem dX3_answer_56 : decode cX3_answer 56 = .ok (.aload_n 0, 1) := by decide +kernel
theorem dX3_answer_57 : decode cX3_answer 57 = .ok (.getfield 19, 3) := by decide +kernel
theorem dX3_answer_60 : decode cX3_answer 60 = .ok (.getfield 86, 3) := by decide +kernel
theorem dX3_answer_63 : decode cX3_answer 63 = .ok (.iload_n 1, 1) := by decide +kernel
theorem dX3_answer_64 : decode cX3_answer 64 = .ok (.iaload, 1) := by decide +kernel
theorem dX3_answer_65 : decode cX3_answer 65 = .ok (.aload_n 0, 1) := by decide +kernel
theorem dX3_answer_66 : decode cX3_answer 66 = .ok (.getfield 19, 3) := by decide +kernel
theorem dX3_answer_69 : decode cX3_answer 69 = .ok (.getfield 89, 3) := by decide +kernel
theorem dX3_answer_72 : decode cX3_answer 72 = .ok (.iload_n 1, 1) := by decide +kernel
theorem dX3_answer_73 : decode cX3_answer 73 = .ok (.iaload, 1) := by decide +kernel
theorem dX3_answer_74 : decode cX3_answer 74 = .ok (.invokevirtual 92, 3) := by decide +kernel
theorem dX3_answer_77 : decode cX3_answer 77 = .ok (.ifCond .eq 6, 3) := by decide +kernel
theorem dX3_answer_80 : decode cX3_answer 80 = .ok (.lload 7, 2) := by decide +kernel
theorem dX3_answer_82 : decode cX3_answer 82 = .ok (.lreturn, 1) := by decide +kernel
theorem dX3_answer_83 : decode cX3_answer 83 = .ok (.aload_n 0, 1) := by decide +kernel
theorem dX3_answer_84 : decode cX3_answer 84 = .ok (.getfield 15, 3) := by decide +kernel
theorem dX3_answer_87 : decode cX3_answer 87 = .ok (.aload_n 0, 1) := by decide +kernel
theorem dX3_answer_88 : decode cX3_answer 88 = .ok (.getfield 19, 3) := by decide +kernel
theorem dX3_answer_91 : decode cX3_answer 91 = .ok (.getfield 86, 3) := by decide +kernel
theorem dX3_answer_94 : decode cX3_answer 94 = .ok (.iload_n 1, 1) := by decide +kernel
theorem dX3_answer_95 : decode cX3_answer 95 = .ok (.iaload, 1) := by decide +kernel
theorem dX3_answer_96 : decode cX3_answer 96 = .ok (.aload_n 0, 1) := by decide +kernel
theorem dX3_answer_97 : decode cX3_answer 97 = .ok (.getfield 19, 3) := by decide +kernel
theorem dX3_answer_100 : decode cX3_answer 100 = .ok (.getfield 89, 3) := by decide +kernel
theorem dX3_answer_103 : decode cX3_answer 103 = .ok (.iload_n 1, 1) := by decide +kernel
theorem dX3_answer_104 : decode cX3_answer 104 = .ok (.iaload, 1) := by decide +kernel
theorem dX3_answer_105 : decode cX3_answer 105 = .ok (.lload_n 3, 1) := by decide +kernel
theorem dX3_answer_106 : decode cX3_answer 106 = .ok (.lload 5, 2) := by decide +kernel
theorem dX3_answer_108 : decode cX3_answer 108 = .ok (.invokevirtual 96, 3) := by decide +kernel
theorem dX3_answer_111 : decode cX3_answer 111 = .ok (.lstore 9, 2) := by decide +kernel
theorem dX3_answer_113 : decode cX3_answer 113 = .ok (.lload 9, 2) := by decide +kernel
theorem dX3_answer_115 : decode cX3_answer 115 = .ok (.lload 7, 2) := by decide +kernel
theorem dX3_answer_117 : decode cX3_answer 117 = .ok (.lcmp, 1) := by decide +kernel
theorem dX3_answer_118 : decode cX3_answer 118 = .ok (.ifCond .eq 15, 3) := by decide +kernel
theorem dX3_answer_121 : decode cX3_answer 121 = .ok (.aload_n 0, 1) := by decide +kernel
theorem dX3_answer_122 : decode cX3_answer 122 = .ok (.dup, 1) := by decide +kernel
theorem dX3_answer_123 : decode cX3_answer 123 = .ok (.getfield 27, 3) := by decide +kernel
theorem dX3_answer_126 : decode cX3_answer 126 = .ok (.iconst 1, 1) := by decide +kernel
theorem dX3_answer_127 : decode cX3_answer 127 = .ok (.iload_n 1, 1) := by decide +kernel
theorem dX3_answer_128 : decode cX3_answer 128 = .ok (.ishl, 1) := by decide +kernel
theorem dX3_answer_129 : decode cX3_answer 129 = .ok (.ior, 1) := by decide +kernel
theorem dX3_answer_130 : decode cX3_answer 130 = .ok (.putfield 27, 3) := by decide +kernel
theorem dX3_answer_133 : decode cX3_answer 133 = .ok (.lload 9, 2) := by decide +kernel
theorem dX3_answer_135 : decode cX3_answer 135 = .ok (.lreturn, 1) := by decide +kernel
theorem dX4_init_0 : decode cX4_init 0 = .ok (.aload_n 0, 1) := by decide +kernel
theorem dX4_init_1 : decode cX4_init 1 = .ok (.invokespecial 3, 3) := by decide +kernel
theorem dX4_init_4 : decode cX4_init 4 = .ok (.aload_n 0, 1) := by decide +kernel
theorem dX4_init_5 : decode cX4_init 5 = .ok (.bipush 24, 2) := by decide +kernel
theorem dX4_init_7 : decode cX4_init 7 = .ok (.newarray .int, 2) := by decide +kernel
theorem dX4_init_9 : decode cX4_init 9 = .ok (.putfield 9, 3) := by decide +kernel
theorem dX4_init_12 : decode cX4_init 12 = .ok (.aload_n 0, 1) := by decide +kernel
theorem dX4_init_13 : decode cX4_init 13 = .ok (.bipush 24, 2) := by decide +kernel
theorem dX4_init_15 : decode cX4_init 15 = .ok (.newarray .int, 2) := by decide +kernel
theorem dX4_init_17 : decode cX4_init 17 = .ok (.putfield 15, 3) := by decide +kernel
theorem dX4_init_20 : decode cX4_init 20 = .ok (.aload_n 0, 1) := by decide +kernel
theorem dX4_init_21 : decode cX4_init 21 = .ok (.bipush 24, 2) := by decide +kernel
theorem dX4_init_23 : decode cX4_init 23 = .ok (.newarray .int, 2) := by decide +kernel
theorem dX4_init_25 : decode cX4_init 25 = .ok (.putfield 18, 3) := by decide +kernel
theorem dX4_init_28 : decode cX4_init 28 = .ok (.aload_n 0, 1) := by decide +kernel
theorem dX4_init_29 : decode cX4_init 29 = .ok (.bipush 24, 2) := by decide +kernel
theorem dX4_init_31 : decode cX4_init 31 = .ok (.newarray .int, 2) := by decide +kernel
theorem dX4_init_33 : decode cX4_init 33 = .ok (.putfield 21, 3) := by decide +kernel
theorem dX4_init_36 : decode cX4_init 36 = .ok (.aload_n 0, 1) := by decide +kernel
theorem dX4_init_37 : decode cX4_init 37 = .ok (.bipush 24, 2) := by decide +kernel
theorem dX4_init_39 : decode cX4_init 39 = .ok (.newarray .boolean, 2) := by decide +kernel
theorem dX4_init_41 : decode cX4_init 41 = .ok (.putfield 24, 3) := by decide +kernel
theorem dX4_init_44 : decode cX4_init 44 = .ok (.aload_n 0, 1) := by decide +kernel
theorem dX4_init_45 : decode cX4_init 45 = .ok (.bipush 24, 2) := by decide +kernel
theorem dX4_init_47 : decode cX4_init 47 = .ok (.newarray .boolean, 2) := by decide +kernel
theorem dX4_init_49 : decode cX4_init 49 = .ok (.putfield 28, 3) := by decide +kernel
theorem dX4_init_52 : decode cX4_init 52 = .ok (.aload_n 0, 1) := by decide +kernel
theorem dX4_init_53 : decode cX4_init 53 = .ok (.sipush 288, 3) := by decide +kernel
theorem dX4_init_56 : decode cX4_init 56 = .ok (.newarray .int, 2) := by decide +kernel
theorem dX4_init_58 : decode cX4_init 58 = .ok (.putfield 31, 3) := by decide +kernel
theorem dX4_init_61 : decode cX4_init 61 = .ok (.return_, 1) := by decide +kernel
set_option maxRecDepth 20000 in
theorem ggX4_append_X7_hasTarget : GoodIn wsX4_append wsX7_hasTarget := goodIn_r _ [9] (by decide +kernel) (by decide +kernel)
set_option maxRecDepth 20000 in
theorem gX4_append_X7_hasTarget_n38 : GoodIn wsX4_append (wsX7_hasTarget) := ggX4_append_X7_hasTarget
set_option maxRecDepth 20000 in
theorem ggX4_append_X7_readsA : GoodIn wsX4_append wsX7_readsA := goodIn_r _ [11] (by decide +kernel) (by decide +kernel)
set_option maxRecDepth 20000 in
theorem gX4_append_X7_readsA_n42 : GoodIn wsX4_append (wsX7_readsA) := ggX4_append_X7_readsA
set_option maxRecDepth 20000 in
theorem ggX4_append_X7_readsB : GoodIn wsX4_append wsX7_readsB := goodIn_r _ [13] (by decide +kernel) (by decide +kernel)
set_option maxRecDepth 20000 in
theorem gX4_append_X7_readsB_n45 : GoodIn wsX4_append (wsX7_readsB) := ggX4_append_X7_readsB
set_option maxRecDepth 20000 in
theorem ggX4_append_X4_retrace : GoodIn wsX4_append wsX4_retrace := goodIn_r _ [18, 19, 2, 1, 5, 20, 21, 22, 17, 23, 24, 25, 26, 27, 28, 29, 30, 31, 32, 33, 34, 35, 36, 37] (by decide +kernel) (by decide +kernel)
set_option maxRecDepth 20000 in
theorem gX4_append_X4_retrace : GoodIn wsX4_append (wsV RX4 48 RX4 yX4_retrace wsX4_retrace) := goodIn_app (goodIn_of _ (by decide +kernel)) ggX4_append_X4_retrace
theorem dX4_append_0 : decode cX4_append 0 = .ok (.aload_n 0, 1) := by decide +kernel
theorem dX4_append_1 : decode cX4_append 1 = .ok (.getfield 9, 3) := by decide +kernel
theorem dX4_append_4 : decode cX4_append 4 = .ok (.aload_n 0, 1) := by decide +kernel
theorem dX4_append_5 : decode cX4_append 5 = .ok (.getfield 34, 3) := by decide +kernel
theorem dX4_append_8 : decode cX4_append 8 = .ok (.iload_n 1, 1) := by decide +kernel
theorem dX4_append_9 : decode cX4_append 9 = .ok (.iastore, 1) := by decide +kernel
theorem dX4_append_10 : decode cX4_append 10 = .ok (.aload_n 0, 1) := by decide +kernel
theorem dX4_append_11 : decode cX4_append 11 = .ok (.getfield 15, 3) := by decide +kernel
theorem dX4_append_14 : decode cX4_append 14 = .ok (.aload_n 0, 1) := by decide +kernel
theorem dX4_append_15 : decode cX4_append 15 = .ok (.getfield 34, 3) := by decide +kernel
theorem dX4_append_18 : decode cX4_append 18 = .ok (.iload_n 1, 1) := by decide +kernel
theorem dX4_append_19 : decode cX4_append 19 = .ok (.invokestatic 38, 3) := by decide +kernel
theorem dX4_append_22 : decode cX4_append 22 = .ok (.ifCond .eq 7, 3) := by decide +kernel
theorem dX4_append_25 : decode cX4_append 25 = .ok (.iload_n 2, 1) := by decide +kernel
theorem dX4_append_26 : decode cX4_append 26 = .ok (.goto 4, 3) := by decide +kernel
theorem dX4_append_29 : decode cX4_append 29 = .ok (.iconst 0, 1) := by decide +kernel
theorem dX4_append_30 : decode cX4_append 30 = .ok (.iastore, 1) := by decide +kernel
theorem dX4_append_31 : decode cX4_append 31 = .ok (.aload_n 0, 1) := by decide +kernel
theorem dX4_append_32 : decode cX4_append 32 = .ok (.getfield 18, 3) := by decide +kernel
theorem dX4_append_35 : decode cX4_append 35 = .ok (.aload_n 0, 1) := by decide +kernel
theorem dX4_append_36 : decode cX4_append 36 = .ok (.getfield 34, 3) := by decide +kernel
theorem dX4_append_39 : decode cX4_append 39 = .ok (.iload_n 1, 1) := by decide +kernel
theorem dX4_append_40 : decode cX4_append 40 = .ok (.invokestatic 42, 3) := by decide +kernel
theorem dX4_append_43 : decode cX4_append 43 = .ok (.ifCond .eq 7, 3) := by decide +kernel
theorem dX4_append_46 : decode cX4_append 46 = .ok (.iload_n 3, 1) := by decide +kernel
theorem dX4_append_47 : decode cX4_append 47 = .ok (.goto 4, 3) := by decide +kernel
theorem dX4_append_50 : decode cX4_append 50 = .ok (.iconst 0, 1) := by decide +kernel
theorem dX4_append_51 : decode cX4_append 51 = .ok (.iastore, 1) := by decide +kernel
theorem dX4_append_52 : decode cX4_append 52 = .ok (.aload_n 0, 1) := by decide +kernel
theorem dX4_append_53 : decode cX4_append 53 = .ok (.getfield 21, 3) := by decide +kernel
theorem dX4_append_56 : decode cX4_append 56 = .ok (.aload_n 0, 1) := by decide +kernel
theorem dX4_append_57 : decode cX4_append 57 = .ok (.getfield 34, 3) := by decide +kernel
theorem dX4_append_60 : decode cX4_append 60 = .ok (.iload 4, 2) := by decide +kernel
theorem dX4_append_62 : decode cX4_append 62 = .ok (.iastore, 1) := by decide +kernel
theorem dX4_append_63 : decode cX4_append 63 = .ok (.aload_n 0, 1) := by decide +kernel
theorem dX4_append_64 : decode cX4_append 64 = .ok (.getfield 24, 3) := by decide +kernel
theorem dX4_append_67 : decode cX4_append 67 = .ok (.aload_n 0, 1) := by decide +kernel
theorem dX4_append_68 : decode cX4_append 68 = .ok (.getfield 34, 3) := by decide +kernel
theorem dX4_append_71 : decode cX4_append 71 = .ok (.iload_n 1, 1) := by decide +kernel
theorem dX4_append_72 : decode cX4_append 72 = .ok (.invokestatic 45, 3) := by decide +kernel
theorem dX4_append_75 : decode cX4_append 75 = .ok (.bastore, 1) := by decide +kernel
theorem dX4_append_76 : decode cX4_append 76 = .ok (.aload_n 0, 1) := by decide +kernel
theorem dX4_append_77 : decode cX4_append 77 = .ok (.dup, 1) := by decide +kernel
theorem dX4_append_78 : decode cX4_append 78 = .ok (.getfield 34, 3) := by decide +kernel
theorem dX4_append_81 : decode cX4_append 81 = .ok (.iconst 1, 1) := by decide +kernel
theorem dX4_append_82 : decode cX4_append 82 = .ok (.iadd, 1) := by decide +kernel
theorem dX4_append_83 : decode cX4_append 83 = .ok (.putfield 34, 3) := by decide +kernel
theorem dX4_append_86 : decode cX4_append 86 = .ok (.aload_n 0, 1) := by decide +kernel
theorem dX4_append_87 : decode cX4_append 87 = .ok (.invokevirtual 48, 3) := by decide +kernel
theorem dX4_append_90 : decode cX4_append 90 = .ok (.return_, 1) := by decide +kernel
set_option maxRecDepth 20000 in
theorem ggX4_dropLast_X4_retrace : GoodIn wsX4_dropLast wsX4_retrace := goodIn_r _ [7, 8, 1, 9, 10, 11, 12, 13, 6, 14, 15, 16, 17, 18, 19, 20, 21, 22, 23, 24, 25, 26, 27, 28] (by decide +kernel) (by decide +kernel)
set_option maxRecDepth 20000 in
theorem gX4_dropLast_X4_retrace : GoodIn wsX4_dropLast (wsV RX4 48 RX4 yX4_retrace wsX4_retrace) := goodIn_app (goodIn_of _ (by decide +kernel)) ggX4_dropLast_X4_retrace
theorem dX4_dropLast_0 : decode cX4_dropLast 0 = .ok (.aload_n 0, 1) := by decide +kernel
theorem dX4_dropLast_1 : decode cX4_dropLast 1 = .ok (.dup, 1) := by decide +kernel
theorem dX4_dropLast_2 : decode cX4_dropLast 2 = .ok (.getfield 34, 3) := by decide +kernel
theorem dX4_dropLast_5 : decode cX4_dropLast 5 = .ok (.iconst 1, 1) := by decide +kernel
theorem dX4_dropLast_6 : decode cX4_dropLast 6 = .ok (.isub, 1) := by decide +kernel
theorem dX4_dropLast_7 : decode cX4_dropLast 7 = .ok (.putfield 34, 3) := by decide +kernel
theorem dX4_dropLast_10 : decode cX4_dropLast 10 = .ok (.aload_n 0, 1) := by decide +kernel
theorem dX4_dropLast_11 : decode cX4_dropLast 11 = .ok (.getfield 28, 3) := by decide +kernel
theorem dX4_dropLast_14 : decode cX4_dropLast 14 = .ok (.aload_n 0, 1) := by decide +kernel
theorem dX4_dropLast_15 : decode cX4_dropLast 15 = .ok (.getfield 34, 3) := by decide +kernel
theorem dX4_dropLast_18 : decode cX4_dropLast 18 = .ok (.iconst 0, 1) := by decide +kernel
theorem dX4_dropLast_19 : decode cX4_dropLast 19 = .ok (.bastore, 1) := by decide +kernel
theorem dX4_dropLast_20 : decode cX4_dropLast 20 = .ok (.aload_n 0, 1) := by decide +kernel
theorem dX4_dropLast_21 : decode cX4_dropLast 21 = .ok (.invokevirtual 48, 3) := by decide +kernel
theorem dX4_dropLast_24 : decode cX4_dropLast 24 = .ok (.return_, 1) := by decide +kernel
theorem dX4_inLoop_0 : decode cX4_inLoop 0 = .ok (.iconst 0, 1) := by decide +kernel
theorem dX4_inLoop_1 : decode cX4_inLoop 1 = .ok (.istore_n 1, 1) := by decide +kernel
theorem dX4_inLoop_2 : decode cX4_inLoop 2 = .ok (.iconst 0, 1) := by decide +kernel
theorem dX4_inLoop_3 : decode cX4_inLoop 3 = .ok (.istore_n 2, 1) := by decide +kernel
theorem dX4_inLoop_4 : decode cX4_inLoop 4 = .ok (.iload_n 2, 1) := by decide +kernel
theorem dX4_inLoop_5 : decode cX4_inLoop 5 = .ok (.aload_n 0, 1) := by decide +kernel
theorem dX4_inLoop_6 : decode cX4_inLoop 6 = .ok (.getfield 34, 3) := by decide +kernel
theorem dX4_inLoop_9 : decode cX4_inLoop 9 = .ok (.if_icmp .ge 38, 3) := by decide +kernel
theorem dX4_inLoop_12 : decode cX4_inLoop 12 = .ok (.aload_n 0, 1) := by decide +kernel
theorem dX4_inLoop_13 : decode cX4_inLoop 13 = .ok (.getfield 9, 3) := by decide +kernel
theorem dX4_inLoop_16 : decode cX4_inLoop 16 = .ok (.iload_n 2, 1) := by decide +kernel
theorem dX4_inLoop_17 : decode cX4_inLoop 17 = .ok (.iaload, 1) := by decide +kernel
theorem dX4_inLoop_18 : decode cX4_inLoop 18 = .ok (.bipush 8, 2) := by decide +kernel
theorem dX4_inLoop_20 : decode cX4_inLoop 20 = .ok (.if_icmp .ne 8, 3) := by decide +kernel
theorem dX4_inLoop_23 : decode cX4_inLoop 23 = .ok (.iconst 1, 1) := by decide +kernel
theorem dX4_inLoop_24 : decode cX4_inLoop 24 = .ok (.istore_n 1, 1) := by decide +kernel
theorem dX4_inLoop_25 : decode cX4_inLoop 25 = .ok (.goto 16, 3) := by decide +kernel
theorem dX4_inLoop_28 : decode cX4_inLoop 28 = .ok (.aload_n 0, 1) := by decide +kernel
theorem dX4_inLoop_29 : decode cX4_inLoop 29 = .ok (.getfield 9, 3) := by decide +kernel
theorem dX4_inLoop_32 : decode cX4_inLoop 32 = .ok (.iload_n 2, 1) := by decide +kernel
theorem dX4_inLoop_33 : decode cX4_inLoop 33 = .ok (.iaload, 1) := by decide +kernel
theorem dX4_inLoop_34 : decode cX4_inLoop 34 = .ok (.bipush 9, 2) := by decide +kernel
theorem dX4_inLoop_36 : decode cX4_inLoop 36 = .ok (.if_icmp .ne 5, 3) := by decide +kernel
theorem dX4_inLoop_39 : decode cX4_inLoop 39 = .ok (.iconst 0, 1) := by decide +kernel
theorem dX4_inLoop_40 : decode cX4_inLoop 40 = .ok (.istore_n 1, 1) := by decide +kernel
theorem dX4_inLoop_41 : decode cX4_inLoop 41 = .ok (.iinc 2 1, 3) := by decide +kernel
theorem dX4_inLoop_44 : decode cX4_inLoop 44 = .ok (.goto (-40), 3) := by decide +kernel
theorem dX4_inLoop_47 : decode cX4_inLoop 47 = .ok (.iload_n 1, 1) := by decide +kernel
theorem dX4_inLoop_48 : decode cX4_inLoop 48 = .ok (.ireturn, 1) := by decide +kernel
theorem dX4_marks_0 : decode cX4_marks 0 = .ok (.iconst 0, 1) := by decide +kernel
theorem dX4_marks_1 : decode cX4_marks 1 = .ok (.istore_n 1, 1) := by decide +kernel
theorem dX4_marks_2 : decode cX4_marks 2 = .ok (.iconst 0, 1) := by decide +kernel
theorem dX4_marks_3 : decode cX4_marks 3 = .ok (.istore_n 2, 1) := by decide +kernel
theorem dX4_marks_4 : decode cX4_marks 4 = .ok (.iload_n 2, 1) := by decide +kernel
theorem dX4_marks_5 : decode cX4_marks 5 = .ok (.aload_n 0, 1) := by decide +kernel
theorem dX4_marks_6 : decode cX4_marks 6 = .ok (.getfield 34, 3) := by decide +kernel
theorem dX4_marks_9 : decode cX4_marks 9 = .ok (.if_icmp .ge 21, 3) := by decide +kernel
theorem dX4_marks_12 : decode cX4_marks 12 = .ok (.aload_n 0, 1) := by decide +kernel
theorem dX4_marks_13 : decode cX4_marks 13 = .ok (.getfield 28, 3) := by decide +kernel
theorem dX4_marks_16 : decode cX4_marks 16 = .ok (.iload_n 2, 1) := by decide +kernel
theorem dX4_marks_17 : decode cX4_marks 17 = .ok (.baload, 1) := by decide +kernel
theorem dX4_marks_18 : decode cX4_marks 18 = .ok (.ifCond .eq 6, 3) := by decide +kernel
theorem dX4_marks_21 : decode cX4_marks 21 = .ok (.iinc 1 1, 3) := by decide +kernel
theorem dX4_marks_24 : decode cX4_marks 24 = .ok (.iinc 2 1, 3) := by decide +kernel
theorem dX4_marks_27 : decode cX4_marks 27 = .ok (.goto (-23), 3) := by decide +kernel
theorem dX4_marks_30 : decode cX4_marks 30 = .ok (.iload_n 1, 1) := by decide +kernel
theorem dX4_marks_31 : decode cX4_marks 31 = .ok (.ireturn, 1) := by decide +kernel
theorem dX4_valueOfA_0 : decode cX4_valueOfA 0 = .ok (.aload_n 2, 1) := by decide +kernel
theorem dX4_valueOfA_1 : decode cX4_valueOfA 1 = .ok (.aload_n 0, 1) := by decide +kernel
theorem dX4_valueOfA_2 : decode cX4_valueOfA 2 = .ok (.getfield 18, 3) := by decide +kernel
theorem dX4_valueOfA_5 : decode cX4_valueOfA 5 = .ok (.iload_n 1, 1) := by decide +kernel
theorem dX4_valueOfA_6 : decode cX4_valueOfA 6 = .ok (.iaload, 1) := by decide +kernel
theorem dX4_valueOfA_7 : decode cX4_valueOfA 7 = .ok (.laload, 1) := by decide +kernel
theorem dX4_valueOfA_8 : decode cX4_valueOfA 8 = .ok (.lreturn, 1) := by decide +kernel
theorem dX4_valueOfB_0 : decode cX4_valueOfB 0 = .ok (.aload_n 0, 1) := by decide +kernel
theorem dX4_valueOfB_1 : decode cX4_valueOfB 1 = .ok (.getfield 24, 3) := by decide +kernel
theorem dX4_valueOfB_4 : decode cX4_valueOfB 4 = .ok (.iload_n 1, 1) := by decide +kernel
theorem dX4_valueOfB_5 : decode cX4_valueOfB 5 = .ok (.baload, 1) := by decide +kernel
theorem dX4_valueOfB_6 : decode cX4_valueOfB 6 = .ok (.ifCond .eq 14, 3) := by decide +kernel
theorem dX4_valueOfB_9 : decode cX4_valueOfB 9 = .ok (.aload_n 2, 1) := by decide +kernel
theorem dX4_valueOfB_10 : decode cX4_valueOfB 10 = .ok (.aload_n 0, 1) := by decide +kernel
theorem dX4_valueOfB_11 : decode cX4_valueOfB 11 = .ok (.getfield 21, 3) := by decide +kernel
theorem dX4_valueOfB_14 : decode cX4_valueOfB 14 = .ok (.iload_n 1, 1) := by decide +kernel
theorem dX4_valueOfB_15 : decode cX4_valueOfB 15 = .ok (.iaload, 1) := by decide +kernel
theorem dX4_valueOfB_16 : decode cX4_valueOfB 16 = .ok (.laload, 1) := by decide +kernel
theorem dX4_valueOfB_17 : decode cX4_valueOfB 17 = .ok (.goto 10, 3) := by decide +kernel
theorem dX4_valueOfB_20 : decode cX4_valueOfB 20 = .ok (.aload_n 0, 1) := by decide +kernel
theorem dX4_valueOfB_21 : decode cX4_valueOfB 21 = .ok (.getfield 21, 3) := by decide +kernel
theorem dX4_valueOfB_24 : decode cX4_valueOfB 24 = .ok (.iload_n 1, 1) := by decide +kernel
theorem dX4_valueOfB_25 : decode cX4_valueOfB 25 = .ok (.iaload, 1) := by decide +kernel
theorem dX4_valueOfB_26 : decode cX4_valueOfB 26 = .ok (.i2l, 1) := by decide +kernel
theorem dX4_valueOfB_27 : decode cX4_valueOfB 27 = .ok (.lreturn, 1) := by decide +kernel
set_option maxRecDepth 20000 in
theorem ggX4_retrace_X4_endOf : GoodIn wsX4_retrace wsX4_endOf := goodIn_r _ [9, 2, 3, 15, 16, 17, 18, 19, 20, 21, 22, 23] (by decide +kernel) (by decide +kernel)
set_option maxRecDepth 20000 in
theorem gX4_retrace_X4_endOf : GoodIn wsX4_retrace (wsV RX4 54 RX4 yX4_endOf wsX4_endOf) := goodIn_app (goodIn_of _ (by decide +kernel)) ggX4_retrace_X4_endOf
set_option maxRecDepth 20000 in
theorem ggX4_retrace_X4_trace : GoodIn wsX4_retrace wsX4_trace := goodIn_r _ [13, 1, 14, 15, 16, 17, 18, 19, 20, 21, 22, 23] (by decide +kernel) (by decide +kernel)
set_option maxRecDepth 20000 in
theorem gX4_retrace_X4_trace : GoodIn wsX4_retrace (wsV RX4 58 RX4 yX4_trace wsX4_trace) := goodIn_app (goodIn_of _ (by decide +kernel)) ggX4_retrace_X4_trace
theorem dX4_retrace_0 : decode cX4_retrace 0 = .ok (.aload_n 0, 1) := by decide +kernel
theorem dX4_retrace_1 : decode cX4_retrace 1 = .ok (.iconst 0, 1) := by decide +kernel
theorem dX4_retrace_2 : decode cX4_retrace 2 = .ok (.putfield 51, 3) := by decide +kernel
theorem dX4_retrace_5 : decode cX4_retrace 5 = .ok (.iconst (-1), 1) := by decide +kernel
theorem dX4_retrace_6 : decode cX4_retrace 6 = .ok (.istore_n 1, 1) := by decide +kernel
theorem dX4_retrace_7 : decode cX4_retrace 7 = .ok (.iconst 0, 1) := by decide +kernel
theorem dX4_retrace_8 : decode cX4_retrace 8 = .ok (.istore_n 2, 1) := by decide +kernel
theorem dX4_retrace_9 : decode cX4_retrace 9 = .ok (.iload_n 2, 1) := by decide +kernel
theorem dX4_retrace_10 : decode cX4_retrace 10 = .ok (.aload_n 0, 1) := by decide +kernel
theorem dX4_retrace_11 : decode cX4_retrace 11 = .ok (.getfield 34, 3) := by decide +kernel
theorem dX4_retrace_14 : decode cX4_retrace 14 = .ok (.if_icmp .ge 68, 3) := by decide +kernel
theorem dX4_retrace_17 : decode cX4_retrace 17 = .ok (.aload_n 0, 1) := by decide +kernel
theorem dX4_retrace_18 : decode cX4_retrace 18 = .ok (.getfield 9, 3) := by decide +kernel
theorem dX4_retrace_21 : decode cX4_retrace 21 = .ok (.iload_n 2, 1) := by decide +kernel
theorem dX4_retrace_22 : decode cX4_retrace 22 = .ok (.iaload, 1) := by decide +kernel
theorem dX4_retrace_23 : decode cX4_retrace 23 = .ok (.bipush 8, 2) := by decide +kernel
theorem dX4_retrace_25 : decode cX4_retrace 25 = .ok (.if_icmp .ne 38, 3) := by decide +kernel
theorem dX4_retrace_28 : decode cX4_retrace 28 = .ok (.aload_n 0, 1) := by decide +kernel
theorem dX4_retrace_29 : decode cX4_retrace 29 = .ok (.iload_n 2, 1) := by decide +kernel
theorem dX4_retrace_30 : decode cX4_retrace 30 = .ok (.invokevirtual 54, 3) := by decide +kernel
theorem dX4_retrace_33 : decode cX4_retrace 33 = .ok (.istore_n 1, 1) := by decide +kernel
theorem dX4_retrace_34 : decode cX4_retrace 34 = .ok (.iconst 0, 1) := by decide +kernel
theorem dX4_retrace_35 : decode cX4_retrace 35 = .ok (.istore_n 3, 1) := by decide +kernel
theorem dX4_retrace_36 : decode cX4_retrace 36 = .ok (.iload_n 3, 1) := by decide +kernel
theorem dX4_retrace_37 : decode cX4_retrace 37 = .ok (.aload_n 0, 1) := by decide +kernel
theorem dX4_retrace_38 : decode cX4_retrace 38 = .ok (.getfield 21, 3) := by decide +kernel
theorem dX4_retrace_41 : decode cX4_retrace 41 = .ok (.iload_n 2, 1) := by decide +kernel
theorem dX4_retrace_42 : decode cX4_retrace 42 = .ok (.iaload, 1) := by decide +kernel
theorem dX4_retrace_43 : decode cX4_retrace 43 = .ok (.if_icmp .ge 17, 3) := by decide +kernel
theorem dX4_retrace_46 : decode cX4_retrace 46 = .ok (.aload_n 0, 1) := by decide +kernel
theorem dX4_retrace_47 : decode cX4_retrace 47 = .ok (.iload_n 2, 1) := by decide +kernel
theorem dX4_retrace_48 : decode cX4_retrace 48 = .ok (.iconst 1, 1) := by decide +kernel
theorem dX4_retrace_49 : decode cX4_retrace 49 = .ok (.iadd, 1) := by decide +kernel
theorem dX4_retrace_50 : decode cX4_retrace 50 = .ok (.iload_n 1, 1) := by decide +kernel
theorem dX4_retrace_51 : decode cX4_retrace 51 = .ok (.invokevirtual 58, 3) := by decide +kernel
theorem dX4_retrace_54 : decode cX4_retrace 54 = .ok (.iinc 3 1, 3) := by decide +kernel
theorem dX4_retrace_57 : decode cX4_retrace 57 = .ok (.goto (-21), 3) := by decide +kernel
theorem dX4_retrace_60 : decode cX4_retrace 60 = .ok (.goto 16, 3) := by decide +kernel
theorem dX4_retrace_63 : decode cX4_retrace 63 = .ok (.iload_n 2, 1) := by decide +kernel
theorem dX4_retrace_64 : decode cX4_retrace 64 = .ok (.iload_n 1, 1) := by decide +kernel
theorem dX4_retrace_65 : decode cX4_retrace 65 = .ok (.if_icmp .le 11, 3) := by decide +kernel
theorem dX4_retrace_68 : decode cX4_retrace 68 = .ok (.aload_n 0, 1) := by decide +kernel
theorem dX4_retrace_69 : decode cX4_retrace 69 = .ok (.iload_n 2, 1) := by decide +kernel
theorem dX4_retrace_70 : decode cX4_retrace 70 = .ok (.iload_n 2, 1) := by decide +kernel
theorem dX4_retrace_71 : decode cX4_retrace 71 = .ok (.iconst 1, 1) := by decide +kernel
theorem dX4_retrace_72 : decode cX4_retrace 72 = .ok (.iadd, 1) := by decide +kernel
theorem dX4_retrace_73 : decode cX4_retrace 73 = .ok (.invokevirtual 58, 3) := by decide +kernel
theorem dX4_retrace_76 : decode cX4_retrace 76 = .ok (.iinc 2 1, 3) := by decide +kernel
theorem dX4_retrace_79 : decode cX4_retrace 79 = .ok (.goto (-70), 3) := by decide +kernel
theorem dX4_retrace_82 : decode cX4_retrace 82 = .ok (.return_, 1) := by decide +kernel
theorem dX4_endOf_0 : decode cX4_endOf 0 = .ok (.iload_n 1, 1) := by decide +kernel
theorem dX4_endOf_1 : decode cX4_endOf 1 = .ok (.iconst 1, 1) := by decide +kernel
theorem dX4_endOf_2 : decode cX4_endOf 2 = .ok (.iadd, 1) := by decide +kernel
theorem dX4_endOf_3 : decode cX4_endOf 3 = .ok (.istore_n 2, 1) := by decide +kernel
theorem dX4_endOf_4 : decode cX4_endOf 4 = .ok (.iload_n 2, 1) := by decide +kernel
theorem dX4_endOf_5 : decode cX4_endOf 5 = .ok (.aload_n 0, 1) := by decide +kernel
theorem dX4_endOf_6 : decode cX4_endOf 6 = .ok (.getfield 34, 3) := by decide +kernel
theorem dX4_endOf_9 : decode cX4_endOf 9 = .ok (.if_icmp .ge 22, 3) := by decide +kernel
theorem dX4_endOf_12 : decode cX4_endOf 12 = .ok (.aload_n 0, 1) := by decide +kernel
theorem dX4_endOf_13 : decode cX4_endOf 13 = .ok (.getfield 9, 3) := by decide +kernel
theorem dX4_endOf_16 : decode cX4_endOf 16 = .ok (.iload_n 2, 1) := by decide +kernel
theorem dX4_endOf_17 : decode cX4_endOf 17 = .ok (.iaload, 1) := by decide +kernel
theorem dX4_endOf_18 : decode cX4_endOf 18 = .ok (.bipush 9, 2) := by decide +kernel
theorem dX4_endOf_20 : decode cX4_endOf 20 = .ok (.if_icmp .ne 5, 3) := by decide +kernel
theorem dX4_endOf_23 : decode cX4_endOf 23 = .ok (.iload_n 2, 1) := by decide +kernel
theorem dX4_endOf_24 : decode cX4_endOf 24 = .ok (.ireturn, 1) := by decide +kernel
theorem dX4_endOf_25 : decode cX4_endOf 25 = .ok (.iinc 2 1, 3) := by decide +kernel
theorem dX4_endOf_28 : decode cX4_endOf 28 = .ok (.goto (-24), 3) := by decide +kernel
theorem dX4_endOf_31 : decode cX4_endOf 31 = .ok (.aload_n 0, 1) := by decide +kernel
theorem dX4_endOf_32 : decode cX4_endOf 32 = .ok (.getfield 34, 3) := by decide +kernel
theorem dX4_endOf_35 : decode cX4_endOf 35 = .ok (.ireturn, 1) := by decide +kernel
theorem dX4_trace_0 : decode cX4_trace 0 = .ok (.iload_n 1, 1) := by decide +kernel
theorem dX4_trace_1 : decode cX4_trace 1 = .ok (.istore_n 3, 1) := by decide +kernel
theorem dX4_trace_2 : decode cX4_trace 2 = .ok (.iload_n 3, 1) := by decide +kernel
theorem dX4_trace_3 : decode cX4_trace 3 = .ok (.iload_n 2, 1) := by decide +kernel
theorem dX4_trace_4 : decode cX4_trace 4 = .ok (.if_icmp .ge 41, 3) := by decide +kernel
theorem dX4_trace_7 : decode cX4_trace 7 = .ok (.aload_n 0, 1) := by decide +kernel
theorem dX4_trace_8 : decode cX4_trace 8 = .ok (.getfield 51, 3) := by decide +kernel
theorem dX4_trace_11 : decode cX4_trace 11 = .ok (.aload_n 0, 1) := by decide +kernel
theorem dX4_trace_12 : decode cX4_trace 12 = .ok (.getfield 31, 3) := by decide +kernel
theorem dX4_trace_15 : decode cX4_trace 15 = .ok (.arraylength, 1) := by decide +kernel
theorem dX4_trace_16 : decode cX4_trace 16 = .ok (.if_icmp .ge 29, 3) := by decide +kernel
theorem dX4_trace_19 : decode cX4_trace 19 = .ok (.aload_n 0, 1) := by decide +kernel
theorem dX4_trace_20 : decode cX4_trace 20 = .ok (.getfield 31, 3) := by decide +kernel
theorem dX4_trace_23 : decode cX4_trace 23 = .ok (.aload_n 0, 1) := by decide +kernel
theorem dX4_trace_24 : decode cX4_trace 24 = .ok (.getfield 51, 3) := by decide +kernel
theorem dX4_trace_27 : decode cX4_trace 27 = .ok (.iload_n 3, 1) := by decide +kernel
theorem dX4_trace_28 : decode cX4_trace 28 = .ok (.iastore, 1) := by decide +kernel
theorem dX4_trace_29 : decode cX4_trace 29 = .ok (.aload_n 0, 1) := by decide +kernel
theorem dX4_trace_30 : decode cX4_trace 30 = .ok (.dup, 1) := by decide +kernel
theorem dX4_trace_31 : decode cX4_trace 31 = .ok (.getfield 51, 3) := by decide +kernel
theorem dX4_trace_34 : decode cX4_trace 34 = .ok (.iconst 1, 1) := by decide +kernel
theorem dX4_trace_35 : decode cX4_trace 35 = .ok (.iadd, 1) := by decide +kernel
theorem dX4_trace_36 : decode cX4_trace 36 = .ok (.putfield 51, 3) := by decide +kernel
theorem dX4_trace_39 : decode cX4_trace 39 = .ok (.iinc 3 1, 3) := by decide +kernel
theorem dX4_trace_42 : decode cX4_trace 42 = .ok (.goto (-40), 3) := by decide +kernel
theorem dX4_trace_45 : decode cX4_trace 45 = .ok (.return_, 1) := by decide +kernel
theorem dX5_init_0 : decode cX5_init 0 = .ok (.aload_n 0, 1) := by decide +kernel
theorem dX5_init_1 : decode cX5_init 1 = .ok (.invokespecial 3, 3) := by decide +kernel
theorem dX5_init_4 : decode cX5_init 4 = .ok (.aload_n 0, 1) := by decide +kernel
theorem dX5_init_5 : decode cX5_init 5 = .ok (.bipush 24, 2) := by decide +kernel
theorem dX5_init_7 : decode cX5_init 7 = .ok (.newarray .int, 2) := by decide +kernel
theorem dX5_init_9 : decode cX5_init 9 = .ok (.putfield 9, 3) := by decide +kernel
theorem dX5_init_12 : decode cX5_init 12 = .ok (.aload_n 0, 1) := by decide +kernel
theorem dX5_init_13 : decode cX5_init 13 = .ok (.bipush 24, 2) := by decide +kernel
theorem dX5_init_15 : decode cX5_init 15 = .ok (.newarray .int, 2) := by decide +kernel
theorem dX5_init_17 : decode cX5_init 17 = .ok (.putfield 15, 3) := by decide +kernel
theorem dX5_init_20 : decode cX5_init 20 = .ok (.aload_n 0, 1) := by decide +kernel
theorem dX5_init_21 : decode cX5_init 21 = .ok (.bipush 24, 2) := by decide +kernel
theorem dX5_init_23 : decode cX5_init 23 = .ok (.newarray .int, 2) := by decide +kernel
theorem dX5_init_25 : decode cX5_init 25 = .ok (.putfield 18, 3) := by decide +kernel
theorem dX5_init_28 : decode cX5_init 28 = .ok (.aload_n 0, 1) := by decide +kernel
theorem dX5_init_29 : decode cX5_init 29 = .ok (.aload_n 1, 1) := by decide +kernel
theorem dX5_init_30 : decode cX5_init 30 = .ok (.putfield 21, 3) := by decide +kernel
theorem dX5_init_33 : decode cX5_init 33 = .ok (.aload_n 0, 1) := by decide +kernel
theorem dX5_init_34 : decode cX5_init 34 = .ok (.aload_n 2, 1) := by decide +kernel
theorem dX5_init_35 : decode cX5_init 35 = .ok (.putfield 25, 3) := by decide +kernel
theorem dX5_init_38 : decode cX5_init 38 = .ok (.return_, 1) := by decide +kernel
set_option maxRecDepth 20000 in
theorem ggX5_learn_J7_fill_53178 : GoodIn wsX5_learn wsJ7_fill_53178 := goodIn_r _ [13] (by decide +kernel) (by decide +kernel)
set_option maxRecDepth 20000 in
theorem gX5_learn_J7_fill_53178 : GoodIn wsX5_learn (va_wsS RX5 33 yJ7_fill_53178 wsJ7_fill_53178) := goodIn_app (goodIn_of _ (by decide +kernel)) ggX5_learn_J7_fill_53178
set_option maxRecDepth 20000 in
theorem ggX5_learn_X3_follow : GoodIn wsX5_learn wsX3_follow := goodIn_r _ [18, 19, 20, 21, 22, 23, 24, 25, 26, 27, 28, 12, 29, 30, 31, 32, 33, 34, 35, 36, 37, 38, 39, 40, 41, 42, 43, 44, 45, 46, 47, 48, 49, 50, 51, 52, 53, 54, 55, 56, 57, 58, 59, 17, 60, 61, 62, 63, 64, 65, 66, 67, 68, 69, 70, 71, 72, 73, 74, 75, 76, 77, 78, 79, 80, 81, 82, 83, 84, 85, 86, 87, 88, 89, 90, 91, 92, 93, 94, 95, 96, 97, 98, 99, 100, 101, 102, 103, 104, 129, 130, 131, 132, 133, 134, 135, 136, 137, 138, 139, 140, 141, 142, 143, 144, 145, 146, 147, 148] (by decide +kernel) (by decide +kernel)
set_option maxRecDepth 20000 in
theorem gX5_learn_X3_follow : GoodIn wsX5_learn (wsV RX5 51 RX3 yX3_follow wsX3_follow) := goodIn_app (goodIn_of _ (by decide +kernel)) ggX5_learn_X3_follow
set_option maxRecDepth 20000 in
theorem ggX5_learn_X5_note : GoodIn wsX5_learn wsX5_note := goodIn_r _ [109, 9, 110, 5, 111, 112, 113, 114, 108, 115, 2, 3, 116, 117, 118, 119, 4, 120, 121, 122, 123, 124, 125, 126, 129, 130, 131, 132, 133, 134] (by decide +kernel) (by decide +kernel)
set_option maxRecDepth 20000 in
theorem gX5_learn_X5_note : GoodIn wsX5_learn (wsV RX5 57 RX5 yX5_note wsX5_note) := goodIn_app (goodIn_of _ (by decide +kernel)) ggX5_learn_X5_note
theorem dX5_learn_0 : decode cX5_learn 0 = .ok (.aload_n 0, 1) := by decide +kernel
theorem dX5_learn_1 : decode cX5_learn 1 = .ok (.getfield 29, 3) := by decide +kernel
theorem dX5_learn_4 : decode cX5_learn 4 = .ok (.ifCond .eq 4, 3) := by decide +kernel
theorem dX5_learn_7 : decode cX5_learn 7 = .ok (.return_, 1) := by decide +kernel
theorem dX5_learn_8 : decode cX5_learn 8 = .ok (.aload_n 0, 1) := by decide +kernel
theorem dX5_learn_9 : decode cX5_learn 9 = .ok (.iconst 1, 1) := by decide +kernel
theorem dX5_learn_10 : decode cX5_learn 10 = .ok (.putfield 29, 3) := by decide +kernel
theorem dX5_learn_13 : decode cX5_learn 13 = .ok (.aload_n 0, 1) := by decide +kernel
theorem dX5_learn_14 : decode cX5_learn 14 = .ok (.getfield 9, 3) := by decide +kernel
theorem dX5_learn_17 : decode cX5_learn 17 = .ok (.iconst 0, 1) := by decide +kernel
theorem dX5_learn_18 : decode cX5_learn 18 = .ok (.invokestatic 33, 3) := by decide +kernel
theorem dX5_learn_21 : decode cX5_learn 21 = .ok (.aload_n 0, 1) := by decide +kernel
theorem dX5_learn_22 : decode cX5_learn 22 = .ok (.getfield 15, 3) := by decide +kernel
theorem dX5_learn_25 : decode cX5_learn 25 = .ok (.iconst (-1), 1) := by decide +kernel
theorem dX5_learn_26 : decode cX5_learn 26 = .ok (.invokestatic 33, 3) := by decide +kernel
theorem dX5_learn_29 : decode cX5_learn 29 = .ok (.aload_n 0, 1) := by decide +kernel
theorem dX5_learn_30 : decode cX5_learn 30 = .ok (.getfield 18, 3) := by decide +kernel
theorem dX5_learn_33 : decode cX5_learn 33 = .ok (.iconst 0, 1) := by decide +kernel
theorem dX5_learn_34 : decode cX5_learn 34 = .ok (.invokestatic 33, 3) := by decide +kernel
theorem dX5_learn_37 : decode cX5_learn 37 = .ok (.aload_n 0, 1) := by decide +kernel
theorem dX5_learn_38 : decode cX5_learn 38 = .ok (.iconst 0, 1) := by decide +kernel
theorem dX5_learn_39 : decode cX5_learn 39 = .ok (.putfield 39, 3) := by decide +kernel
theorem dX5_learn_42 : decode cX5_learn 42 = .ok (.aload_n 0, 1) := by decide +kernel
theorem dX5_learn_43 : decode cX5_learn 43 = .ok (.getfield 25, 3) := by decide +kernel
theorem dX5_learn_46 : decode cX5_learn 46 = .ok (.getfield 43, 3) := by decide +kernel
theorem dX5_learn_49 : decode cX5_learn 49 = .ok (.iconst 0, 1) := by decide +kernel
theorem dX5_learn_50 : decode cX5_learn 50 = .ok (.iaload, 1) := by decide +kernel
theorem dX5_learn_51 : decode cX5_learn 51 = .ok (.istore_n 1, 1) := by decide +kernel
theorem dX5_learn_52 : decode cX5_learn 52 = .ok (.iload_n 1, 1) := by decide +kernel
theorem dX5_learn_53 : decode cX5_learn 53 = .ok (.aload_n 0, 1) := by decide +kernel
theorem dX5_learn_54 : decode cX5_learn 54 = .ok (.getfield 25, 3) := by decide +kernel
theorem dX5_learn_57 : decode cX5_learn 57 = .ok (.getfield 48, 3) := by decide +kernel
theorem dX5_learn_60 : decode cX5_learn 60 = .ok (.iconst 0, 1) := by decide +kernel
theorem dX5_learn_61 : decode cX5_learn 61 = .ok (.iaload, 1) := by decide +kernel
theorem dX5_learn_62 : decode cX5_learn 62 = .ok (.if_icmp .gt 77, 3) := by decide +kernel
theorem dX5_learn_65 : decode cX5_learn 65 = .ok (.aload_n 0, 1) := by decide +kernel
theorem dX5_learn_66 : decode cX5_learn 66 = .ok (.getfield 25, 3) := by decide +kernel
theorem dX5_learn_69 : decode cX5_learn 69 = .ok (.getfield 43, 3) := by decide +kernel
theorem dX5_learn_72 : decode cX5_learn 72 = .ok (.iconst 1, 1) := by decide +kernel
theorem dX5_learn_73 : decode cX5_learn 73 = .ok (.iaload, 1) := by decide +kernel
theorem dX5_learn_74 : decode cX5_learn 74 = .ok (.istore_n 2, 1) := by decide +kernel
theorem dX5_learn_75 : decode cX5_learn 75 = .ok (.iload_n 2, 1) := by decide +kernel
theorem dX5_learn_76 : decode cX5_learn 76 = .ok (.aload_n 0, 1) := by decide +kernel
theorem dX5_learn_77 : decode cX5_learn 77 = .ok (.getfield 25, 3) := by decide +kernel
theorem dX5_learn_80 : decode cX5_learn 80 = .ok (.getfield 48, 3) := by decide +kernel
theorem dX5_learn_83 : decode cX5_learn 83 = .ok (.iconst 1, 1) := by decide +kernel
theorem dX5_learn_84 : decode cX5_learn 84 = .ok (.iaload, 1) := by decide +kernel
theorem dX5_learn_85 : decode cX5_learn 85 = .ok (.if_icmp .gt 48, 3) := by decide +kernel
theorem dX5_learn_88 : decode cX5_learn 88 = .ok (.aload_n 0, 1) := by decide +kernel
theorem dX5_learn_89 : decode cX5_learn 89 = .ok (.getfield 21, 3) := by decide +kernel
theorem dX5_learn_92 : decode cX5_learn 92 = .ok (.iload_n 1, 1) := by decide +kernel
theorem dX5_learn_93 : decode cX5_learn 93 = .ok (.iload_n 2, 1) := by decide +kernel
theorem dX5_learn_94 : decode cX5_learn 94 = .ok (.invokevirtual 51, 3) := by decide +kernel
theorem dX5_learn_97 : decode cX5_learn 97 = .ok (.aload_n 0, 1) := by decide +kernel
theorem dX5_learn_98 : decode cX5_learn 98 = .ok (.bipush 32, 2) := by decide +kernel
theorem dX5_learn_100 : decode cX5_learn 100 = .ok (.iload_n 1, 1) := by decide +kernel
theorem dX5_learn_101 : decode cX5_learn 101 = .ok (.aload_n 0, 1) := by decide +kernel
theorem dX5_learn_102 : decode cX5_learn 102 = .ok (.getfield 25, 3) := by decide +kernel
theorem dX5_learn_105 : decode cX5_learn 105 = .ok (.getfield 43, 3) := by decide +kernel
theorem dX5_learn_108 : decode cX5_learn 108 = .ok (.iconst 0, 1) := by decide +kernel
theorem dX5_learn_109 : decode cX5_learn 109 = .ok (.iaload, 1) := by decide +kernel
theorem dX5_learn_110 : decode cX5_learn 110 = .ok (.isub, 1) := by decide +kernel
theorem dX5_learn_111 : decode cX5_learn 111 = .ok (.imul, 1) := by decide +kernel
theorem dX5_learn_112 : decode cX5_learn 112 = .ok (.iload_n 2, 1) := by decide +kernel
theorem dX5_learn_113 : decode cX5_learn 113 = .ok (.iadd, 1) := by decide +kernel
theorem dX5_learn_114 : decode cX5_learn 114 = .ok (.aload_n 0, 1) := by decide +kernel
theorem dX5_learn_115 : decode cX5_learn 115 = .ok (.getfield 25, 3) := by decide +kernel
theorem dX5_learn_118 : decode cX5_learn 118 = .ok (.getfield 43, 3) := by decide +kernel
theorem dX5_learn_121 : decode cX5_learn 121 = .ok (.iconst 1, 1) := by decide +kernel
theorem dX5_learn_122 : decode cX5_learn 122 = .ok (.iaload, 1) := by decide +kernel
theorem dX5_learn_123 : decode cX5_learn 123 = .ok (.isub, 1) := by decide +kernel
theorem dX5_learn_124 : decode cX5_learn 124 = .ok (.invokevirtual 57, 3) := by decide +kernel
theorem dX5_learn_127 : decode cX5_learn 127 = .ok (.iinc 2 1, 3) := by decide +kernel
theorem dX5_learn_130 : decode cX5_learn 130 = .ok (.goto (-55), 3) := by decide +kernel
theorem dX5_learn_133 : decode cX5_learn 133 = .ok (.iinc 1 1, 3) := by decide +kernel
theorem dX5_learn_136 : decode cX5_learn 136 = .ok (.goto (-84), 3) := by decide +kernel
theorem dX5_learn_139 : decode cX5_learn 139 = .ok (.return_, 1) := by decide +kernel
set_option maxRecDepth 20000 in
theorem ggX5_note_X5_noteOver : GoodIn wsX5_note wsX5_noteOver := goodIn_r _ [9, 10, 11, 17, 18, 19, 20, 21, 22, 23] (by decide +kernel) (by decide +kernel)
set_option maxRecDepth 20000 in
theorem gX5_note_X5_noteOver : GoodIn wsX5_note (wsV RX5 64 RX5 yX5_noteOver wsX5_noteOver) := goodIn_app (goodIn_of _ (by decide +kernel)) ggX5_note_X5_noteOver
set_option maxRecDepth 20000 in
theorem ggX5_note_X5_noteTurned : GoodIn wsX5_note wsX5_noteTurned := goodIn_r _ [15, 16, 17, 18, 19, 20, 21, 22, 23] (by decide +kernel) (by decide +kernel)
set_option maxRecDepth 20000 in
theorem gX5_note_X5_noteTurned : GoodIn wsX5_note (wsV RX5 70 RX5 yX5_noteTurned wsX5_noteTurned) := goodIn_app (goodIn_of _ (by decide +kernel)) ggX5_note_X5_noteTurned
theorem dX5_note_0 : decode cX5_note 0 = .ok (.aload_n 0, 1) := by decide +kernel
theorem dX5_note_1 : decode cX5_note 1 = .ok (.getfield 21, 3) := by decide +kernel
theorem dX5_note_4 : decode cX5_note 4 = .ok (.getfield 61, 3) := by decide +kernel
theorem dX5_note_7 : decode cX5_note 7 = .ok (.ifCond .eq 25, 3) := by decide +kernel
theorem dX5_note_10 : decode cX5_note 10 = .ok (.aload_n 0, 1) := by decide +kernel
theorem dX5_note_11 : decode cX5_note 11 = .ok (.dup, 1) := by decide +kernel
theorem dX5_note_12 : decode cX5_note 12 = .ok (.getfield 39, 3) := by decide +kernel
theorem dX5_note_15 : decode cX5_note 15 = .ok (.iconst 1, 1) := by decide +kernel
theorem dX5_note_16 : decode cX5_note 16 = .ok (.iadd, 1) := by decide +kernel
theorem dX5_note_17 : decode cX5_note 17 = .ok (.putfield 39, 3) := by decide +kernel
theorem dX5_note_20 : decode cX5_note 20 = .ok (.aload_n 0, 1) := by decide +kernel
theorem dX5_note_21 : decode cX5_note 21 = .ok (.aload_n 0, 1) := by decide +kernel
theorem dX5_note_22 : decode cX5_note 22 = .ok (.getfield 21, 3) := by decide +kernel
theorem dX5_note_25 : decode cX5_note 25 = .ok (.getfield 61, 3) := by decide +kernel
theorem dX5_note_28 : decode cX5_note 28 = .ok (.iload_n 1, 1) := by decide +kernel
theorem dX5_note_29 : decode cX5_note 29 = .ok (.invokevirtual 64, 3) := by decide +kernel
theorem dX5_note_32 : decode cX5_note 32 = .ok (.aload_n 0, 1) := by decide +kernel
theorem dX5_note_33 : decode cX5_note 33 = .ok (.getfield 21, 3) := by decide +kernel
theorem dX5_note_36 : decode cX5_note 36 = .ok (.getfield 67, 3) := by decide +kernel
theorem dX5_note_39 : decode cX5_note 39 = .ok (.ifCond .eq 14, 3) := by decide +kernel
theorem dX5_note_42 : decode cX5_note 42 = .ok (.aload_n 0, 1) := by decide +kernel
theorem dX5_note_43 : decode cX5_note 43 = .ok (.aload_n 0, 1) := by decide +kernel
theorem dX5_note_44 : decode cX5_note 44 = .ok (.getfield 21, 3) := by decide +kernel
theorem dX5_note_47 : decode cX5_note 47 = .ok (.getfield 67, 3) := by decide +kernel
theorem dX5_note_50 : decode cX5_note 50 = .ok (.invokevirtual 70, 3) := by decide +kernel
theorem dX5_note_53 : decode cX5_note 53 = .ok (.return_, 1) := by decide +kernel
theorem dX5_noteOver_0 : decode cX5_noteOver 0 = .ok (.iconst 0, 1) := by decide +kernel
theorem dX5_noteOver_1 : decode cX5_noteOver 1 = .ok (.istore_n 3, 1) := by decide +kernel
theorem dX5_noteOver_2 : decode cX5_noteOver 2 = .ok (.iload_n 3, 1) := by decide +kernel
theorem dX5_noteOver_3 : decode cX5_noteOver 3 = .ok (.bipush 24, 2) := by decide +kernel
theorem dX5_noteOver_5 : decode cX5_noteOver 5 = .ok (.if_icmp .ge 44, 3) := by decide +kernel
theorem dX5_noteOver_8 : decode cX5_noteOver 8 = .ok (.iload_n 1, 1) := by decide +kernel
theorem dX5_noteOver_9 : decode cX5_noteOver 9 = .ok (.iload_n 3, 1) := by decide +kernel
theorem dX5_noteOver_10 : decode cX5_noteOver 10 = .ok (.ishr, 1) := by decide +kernel
theorem dX5_noteOver_11 : decode cX5_noteOver 11 = .ok (.iconst 1, 1) := by decide +kernel
theorem dX5_noteOver_12 : decode cX5_noteOver 12 = .ok (.iand, 1) := by decide +kernel
theorem dX5_noteOver_13 : decode cX5_noteOver 13 = .ok (.iconst 1, 1) := by decide +kernel
theorem dX5_noteOver_14 : decode cX5_noteOver 14 = .ok (.if_icmp .ne 29, 3) := by decide +kernel
theorem dX5_noteOver_17 : decode cX5_noteOver 17 = .ok (.aload_n 0, 1) := by decide +kernel
theorem dX5_noteOver_18 : decode cX5_noteOver 18 = .ok (.getfield 9, 3) := by decide +kernel
theorem dX5_noteOver_21 : decode cX5_noteOver 21 = .ok (.iload_n 3, 1) := by decide +kernel
theorem dX5_noteOver_22 : decode cX5_noteOver 22 = .ok (.iaload, 1) := by decide +kernel
theorem dX5_noteOver_23 : decode cX5_noteOver 23 = .ok (.ifCond .ne 10, 3) := by decide +kernel
theorem dX5_noteOver_26 : decode cX5_noteOver 26 = .ok (.aload_n 0, 1) := by decide +kernel
theorem dX5_noteOver_27 : decode cX5_noteOver 27 = .ok (.getfield 15, 3) := by decide +kernel
theorem dX5_noteOver_30 : decode cX5_noteOver 30 = .ok (.iload_n 3, 1) := by decide +kernel
theorem dX5_noteOver_31 : decode cX5_noteOver 31 = .ok (.iload_n 2, 1) := by decide +kernel
theorem dX5_noteOver_32 : decode cX5_noteOver 32 = .ok (.iastore, 1) := by decide +kernel
theorem dX5_noteOver_33 : decode cX5_noteOver 33 = .ok (.aload_n 0, 1) := by decide +kernel
theorem dX5_noteOver_34 : decode cX5_noteOver 34 = .ok (.getfield 9, 3) := by decide +kernel
theorem dX5_noteOver_37 : decode cX5_noteOver 37 = .ok (.iload_n 3, 1) := by decide +kernel
theorem dX5_noteOver_38 : decode cX5_noteOver 38 = .ok (.dup2, 1) := by decide +kernel
theorem dX5_noteOver_39 : decode cX5_noteOver 39 = .ok (.iaload, 1) := by decide +kernel
theorem dX5_noteOver_40 : decode cX5_noteOver 40 = .ok (.iconst 1, 1) := by decide +kernel
theorem dX5_noteOver_41 : decode cX5_noteOver 41 = .ok (.iadd, 1) := by decide +kernel
theorem dX5_noteOver_42 : decode cX5_noteOver 42 = .ok (.iastore, 1) := by decide +kernel
theorem dX5_noteOver_43 : decode cX5_noteOver 43 = .ok (.iinc 3 1, 3) := by decide +kernel
theorem dX5_noteOver_46 : decode cX5_noteOver 46 = .ok (.goto (-44), 3) := by decide +kernel
theorem dX5_noteOver_49 : decode cX5_noteOver 49 = .ok (.return_, 1) := by decide +kernel
theorem dX5_noteTurned_0 : decode cX5_noteTurned 0 = .ok (.iconst 0, 1) := by decide +kernel
theorem dX5_noteTurned_1 : decode cX5_noteTurned 1 = .ok (.istore_n 2, 1) := by decide +kernel
theorem dX5_noteTurned_2 : decode cX5_noteTurned 2 = .ok (.iload_n 2, 1) := by decide +kernel
theorem dX5_noteTurned_3 : decode cX5_noteTurned 3 = .ok (.bipush 24, 2) := by decide +kernel
theorem dX5_noteTurned_5 : decode cX5_noteTurned 5 = .ok (.if_icmp .ge 23, 3) := by decide +kernel
theorem dX5_noteTurned_8 : decode cX5_noteTurned 8 = .ok (.aload_n 0, 1) := by decide +kernel
theorem dX5_noteTurned_9 : decode cX5_noteTurned 9 = .ok (.getfield 18, 3) := by decide +kernel
theorem dX5_noteTurned_12 : decode cX5_noteTurned 12 = .ok (.iload_n 2, 1) := by decide +kernel
theorem dX5_noteTurned_13 : decode cX5_noteTurned 13 = .ok (.dup2, 1) := by decide +kernel
theorem dX5_noteTurned_14 : decode cX5_noteTurned 14 = .ok (.iaload, 1) := by decide +kernel
theorem dX5_noteTurned_15 : decode cX5_noteTurned 15 = .ok (.iload_n 1, 1) := by decide +kernel
theorem dX5_noteTurned_16 : decode cX5_noteTurned 16 = .ok (.iload_n 2, 1) := by decide +kernel
theorem dX5_noteTurned_17 : decode cX5_noteTurned 17 = .ok (.ishr, 1) := by decide +kernel
theorem dX5_noteTurned_18 : decode cX5_noteTurned 18 = .ok (.iconst 1, 1) := by decide +kernel
theorem dX5_noteTurned_19 : decode cX5_noteTurned 19 = .ok (.iand, 1) := by decide +kernel
theorem dX5_noteTurned_20 : decode cX5_noteTurned 20 = .ok (.iadd, 1) := by decide +kernel
theorem dX5_noteTurned_21 : decode cX5_noteTurned 21 = .ok (.iastore, 1) := by decide +kernel
theorem dX5_noteTurned_22 : decode cX5_noteTurned 22 = .ok (.iinc 2 1, 3) := by decide +kernel
theorem dX5_noteTurned_25 : decode cX5_noteTurned 25 = .ok (.goto (-23), 3) := by decide +kernel
theorem dX5_noteTurned_28 : decode cX5_noteTurned 28 = .ok (.return_, 1) := by decide +kernel
theorem dX6_init_0 : decode cX6_init 0 = .ok (.aload_n 0, 1) := by decide +kernel
theorem dX6_init_1 : decode cX6_init 1 = .ok (.invokespecial 3, 3) := by decide +kernel
theorem dX6_init_4 : decode cX6_init 4 = .ok (.aload_n 0, 1) := by decide +kernel
