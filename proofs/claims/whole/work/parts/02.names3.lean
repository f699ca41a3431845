theorem dX6_init_5 : decode cX6_init 5 = .ok (.bipush 6, 2) := by decide +kernel
theorem dX6_init_7 : decode cX6_init 7 = .ok (.newarray .long, 2) := by decide +kernel
theorem dX6_init_9 : decode cX6_init 9 = .ok (.putfield 9, 3) := by decide +kernel
theorem dX6_init_12 : decode cX6_init 12 = .ok (.aload_n 0, 1) := by decide +kernel
theorem dX6_init_13 : decode cX6_init 13 = .ok (.bipush 6, 2) := by decide +kernel
theorem dX6_init_15 : decode cX6_init 15 = .ok (.newarray .long, 2) := by decide +kernel
theorem dX6_init_17 : decode cX6_init 17 = .ok (.putfield 15, 3) := by decide +kernel
theorem dX6_init_20 : decode cX6_init 20 = .ok (.aload_n 0, 1) := by decide +kernel
theorem dX6_init_21 : decode cX6_init 21 = .ok (.bipush 6, 2) := by decide +kernel
theorem dX6_init_23 : decode cX6_init 23 = .ok (.newarray .long, 2) := by decide +kernel
theorem dX6_init_25 : decode cX6_init 25 = .ok (.putfield 18, 3) := by decide +kernel
theorem dX6_init_28 : decode cX6_init 28 = .ok (.aload_n 0, 1) := by decide +kernel
theorem dX6_init_29 : decode cX6_init 29 = .ok (.aload_n 1, 1) := by decide +kernel
theorem dX6_init_30 : decode cX6_init 30 = .ok (.putfield 21, 3) := by decide +kernel
theorem dX6_init_33 : decode cX6_init 33 = .ok (.aload_n 0, 1) := by decide +kernel
theorem dX6_init_34 : decode cX6_init 34 = .ok (.aload_n 2, 1) := by decide +kernel
theorem dX6_init_35 : decode cX6_init 35 = .ok (.putfield 25, 3) := by decide +kernel
theorem dX6_init_38 : decode cX6_init 38 = .ok (.return_, 1) := by decide +kernel
set_option maxRecDepth 20000 in
theorem ggX6_learn_J7_fill_d0a16 : GoodIn wsX6_learn wsJ7_fill_d0a16 := goodIn_r _ [11] (by decide +kernel) (by decide +kernel)
set_option maxRecDepth 20000 in
theorem gX6_learn_J7_fill_d0a16 : GoodIn wsX6_learn (va_wsS RX6 36 yJ7_fill_d0a16 wsJ7_fill_d0a16) := goodIn_app (goodIn_of _ (by decide +kernel)) ggX6_learn_J7_fill_d0a16
set_option maxRecDepth 20000 in
theorem ggX6_learn_X6_follow : GoodIn wsX6_learn wsX6_follow := goodIn_r _ [16, 17, 18, 19, 2, 20, 8, 9, 10, 11, 21, 22, 23, 15, 24, 3, 25, 26, 27, 28, 4, 29, 30, 31, 32, 33, 34, 35, 36, 37, 38, 39, 40, 41, 42, 43, 44, 45, 46, 47, 48, 49, 50, 51, 52, 53, 54, 55, 56, 57, 58, 59, 60, 61, 62, 63, 64, 65, 66, 67, 70, 71, 72, 73, 74, 75, 76, 77, 78] (by decide +kernel) (by decide +kernel)
set_option maxRecDepth 20000 in
theorem gX6_learn_X6_follow : GoodIn wsX6_learn (wsV RX6 51 RX6 yX6_follow wsX6_follow) := goodIn_app (goodIn_of _ (by decide +kernel)) ggX6_learn_X6_follow
theorem dX6_learn_0 : decode cX6_learn 0 = .ok (.aload_n 0, 1) := by decide +kernel
theorem dX6_learn_1 : decode cX6_learn 1 = .ok (.getfield 29, 3) := by decide +kernel
theorem dX6_learn_4 : decode cX6_learn 4 = .ok (.ifCond .eq 4, 3) := by decide +kernel
theorem dX6_learn_7 : decode cX6_learn 7 = .ok (.return_, 1) := by decide +kernel
theorem dX6_learn_8 : decode cX6_learn 8 = .ok (.aload_n 0, 1) := by decide +kernel
theorem dX6_learn_9 : decode cX6_learn 9 = .ok (.iconst 1, 1) := by decide +kernel
theorem dX6_learn_10 : decode cX6_learn 10 = .ok (.putfield 29, 3) := by decide +kernel
theorem dX6_learn_13 : decode cX6_learn 13 = .ok (.aload_n 0, 1) := by decide +kernel
theorem dX6_learn_14 : decode cX6_learn 14 = .ok (.iconst 0, 1) := by decide +kernel
theorem dX6_learn_15 : decode cX6_learn 15 = .ok (.putfield 33, 3) := by decide +kernel
theorem dX6_learn_18 : decode cX6_learn 18 = .ok (.aload_n 0, 1) := by decide +kernel
theorem dX6_learn_19 : decode cX6_learn 19 = .ok (.getfield 9, 3) := by decide +kernel
theorem dX6_learn_22 : decode cX6_learn 22 = .ok (.lconst 0, 1) := by decide +kernel
theorem dX6_learn_23 : decode cX6_learn 23 = .ok (.invokestatic 36, 3) := by decide +kernel
theorem dX6_learn_26 : decode cX6_learn 26 = .ok (.aload_n 0, 1) := by decide +kernel
theorem dX6_learn_27 : decode cX6_learn 27 = .ok (.getfield 15, 3) := by decide +kernel
theorem dX6_learn_30 : decode cX6_learn 30 = .ok (.lconst 0, 1) := by decide +kernel
theorem dX6_learn_31 : decode cX6_learn 31 = .ok (.invokestatic 36, 3) := by decide +kernel
theorem dX6_learn_34 : decode cX6_learn 34 = .ok (.aload_n 0, 1) := by decide +kernel
theorem dX6_learn_35 : decode cX6_learn 35 = .ok (.getfield 25, 3) := by decide +kernel
theorem dX6_learn_38 : decode cX6_learn 38 = .ok (.getfield 42, 3) := by decide +kernel
theorem dX6_learn_41 : decode cX6_learn 41 = .ok (.iconst 0, 1) := by decide +kernel
theorem dX6_learn_42 : decode cX6_learn 42 = .ok (.iaload, 1) := by decide +kernel
theorem dX6_learn_43 : decode cX6_learn 43 = .ok (.istore_n 1, 1) := by decide +kernel
theorem dX6_learn_44 : decode cX6_learn 44 = .ok (.iload_n 1, 1) := by decide +kernel
theorem dX6_learn_45 : decode cX6_learn 45 = .ok (.aload_n 0, 1) := by decide +kernel
theorem dX6_learn_46 : decode cX6_learn 46 = .ok (.getfield 25, 3) := by decide +kernel
theorem dX6_learn_49 : decode cX6_learn 49 = .ok (.getfield 48, 3) := by decide +kernel
theorem dX6_learn_52 : decode cX6_learn 52 = .ok (.iconst 0, 1) := by decide +kernel
theorem dX6_learn_53 : decode cX6_learn 53 = .ok (.iaload, 1) := by decide +kernel
theorem dX6_learn_54 : decode cX6_learn 54 = .ok (.if_icmp .gt 58, 3) := by decide +kernel
theorem dX6_learn_57 : decode cX6_learn 57 = .ok (.aload_n 0, 1) := by decide +kernel
theorem dX6_learn_58 : decode cX6_learn 58 = .ok (.getfield 33, 3) := by decide +kernel
theorem dX6_learn_61 : decode cX6_learn 61 = .ok (.ifCond .ne 51, 3) := by decide +kernel
theorem dX6_learn_64 : decode cX6_learn 64 = .ok (.aload_n 0, 1) := by decide +kernel
theorem dX6_learn_65 : decode cX6_learn 65 = .ok (.getfield 25, 3) := by decide +kernel
theorem dX6_learn_68 : decode cX6_learn 68 = .ok (.getfield 42, 3) := by decide +kernel
theorem dX6_learn_71 : decode cX6_learn 71 = .ok (.iconst 1, 1) := by decide +kernel
theorem dX6_learn_72 : decode cX6_learn 72 = .ok (.iaload, 1) := by decide +kernel
theorem dX6_learn_73 : decode cX6_learn 73 = .ok (.istore_n 2, 1) := by decide +kernel
theorem dX6_learn_74 : decode cX6_learn 74 = .ok (.iload_n 2, 1) := by decide +kernel
theorem dX6_learn_75 : decode cX6_learn 75 = .ok (.aload_n 0, 1) := by decide +kernel
theorem dX6_learn_76 : decode cX6_learn 76 = .ok (.getfield 25, 3) := by decide +kernel
theorem dX6_learn_79 : decode cX6_learn 79 = .ok (.getfield 48, 3) := by decide +kernel
theorem dX6_learn_82 : decode cX6_learn 82 = .ok (.iconst 1, 1) := by decide +kernel
theorem dX6_learn_83 : decode cX6_learn 83 = .ok (.iaload, 1) := by decide +kernel
theorem dX6_learn_84 : decode cX6_learn 84 = .ok (.if_icmp .gt 22, 3) := by decide +kernel
theorem dX6_learn_87 : decode cX6_learn 87 = .ok (.aload_n 0, 1) := by decide +kernel
theorem dX6_learn_88 : decode cX6_learn 88 = .ok (.getfield 33, 3) := by decide +kernel
theorem dX6_learn_91 : decode cX6_learn 91 = .ok (.ifCond .ne 15, 3) := by decide +kernel
theorem dX6_learn_94 : decode cX6_learn 94 = .ok (.aload_n 0, 1) := by decide +kernel
theorem dX6_learn_95 : decode cX6_learn 95 = .ok (.iload_n 1, 1) := by decide +kernel
theorem dX6_learn_96 : decode cX6_learn 96 = .ok (.iload_n 2, 1) := by decide +kernel
theorem dX6_learn_97 : decode cX6_learn 97 = .ok (.invokevirtual 51, 3) := by decide +kernel
theorem dX6_learn_100 : decode cX6_learn 100 = .ok (.iinc 2 1, 3) := by decide +kernel
theorem dX6_learn_103 : decode cX6_learn 103 = .ok (.goto (-29), 3) := by decide +kernel
theorem dX6_learn_106 : decode cX6_learn 106 = .ok (.iinc 1 1, 3) := by decide +kernel
theorem dX6_learn_109 : decode cX6_learn 109 = .ok (.goto (-65), 3) := by decide +kernel
theorem dX6_learn_112 : decode cX6_learn 112 = .ok (.return_, 1) := by decide +kernel
set_option maxRecDepth 20000 in
theorem ggX6_follow_J7_fill_d0a16 : GoodIn wsX6_follow wsJ7_fill_d0a16 := goodIn_r _ [9] (by decide +kernel) (by decide +kernel)
set_option maxRecDepth 20000 in
theorem gX6_follow_J7_fill_d0a16 : GoodIn wsX6_follow (va_wsS RX6 36 yJ7_fill_d0a16 wsJ7_fill_d0a16) := goodIn_app (goodIn_of _ (by decide +kernel)) ggX6_follow_J7_fill_d0a16
set_option maxRecDepth 20000 in
theorem ggX6_follow_X6_give : GoodIn wsX6_follow wsX6_give := goodIn_r _ [14, 1, 15, 16, 17, 18, 19, 20, 21, 22, 23, 24, 25, 26, 27, 4, 53, 54, 55, 56, 57, 58, 59] (by decide +kernel) (by decide +kernel)
set_option maxRecDepth 20000 in
theorem gX6_follow_X6_give : GoodIn wsX6_follow (wsV RX6 55 RX6 yX6_give wsX6_give) := goodIn_app (goodIn_of _ (by decide +kernel)) ggX6_follow_X6_give
set_option maxRecDepth 20000 in
theorem ggX6_follow_X6_perform : GoodIn wsX6_follow wsX6_perform := goodIn_r _ [31, 2, 32, 1, 4, 33, 34, 35, 36, 37, 38, 39, 40, 41, 42, 43, 44, 45, 46, 47, 13, 48, 24, 25, 18, 26, 27, 49, 50, 51, 52, 17, 19, 10, 11, 12, 14, 15, 16, 20, 21, 22, 23, 53, 54, 55, 56, 57, 58, 59, 60, 61, 62, 63, 64, 65, 66, 67, 68] (by decide +kernel) (by decide +kernel)
set_option maxRecDepth 20000 in
theorem gX6_follow_X6_perform : GoodIn wsX6_follow (wsV RX6 68 RX6 yX6_perform wsX6_perform) := goodIn_app (goodIn_of _ (by decide +kernel)) ggX6_follow_X6_perform
theorem dX6_follow_0 : decode cX6_follow 0 = .ok (.aload_n 0, 1) := by decide +kernel
theorem dX6_follow_1 : decode cX6_follow 1 = .ok (.getfield 18, 3) := by decide +kernel
theorem dX6_follow_4 : decode cX6_follow 4 = .ok (.lconst 0, 1) := by decide +kernel
theorem dX6_follow_5 : decode cX6_follow 5 = .ok (.invokestatic 36, 3) := by decide +kernel
theorem dX6_follow_8 : decode cX6_follow 8 = .ok (.aload_n 0, 1) := by decide +kernel
theorem dX6_follow_9 : decode cX6_follow 9 = .ok (.iconst 0, 1) := by decide +kernel
theorem dX6_follow_10 : decode cX6_follow 10 = .ok (.iload_n 1, 1) := by decide +kernel
theorem dX6_follow_11 : decode cX6_follow 11 = .ok (.i2l, 1) := by decide +kernel
theorem dX6_follow_12 : decode cX6_follow 12 = .ok (.invokevirtual 55, 3) := by decide +kernel
theorem dX6_follow_15 : decode cX6_follow 15 = .ok (.aload_n 0, 1) := by decide +kernel
theorem dX6_follow_16 : decode cX6_follow 16 = .ok (.iconst 1, 1) := by decide +kernel
theorem dX6_follow_17 : decode cX6_follow 17 = .ok (.iload_n 2, 1) := by decide +kernel
theorem dX6_follow_18 : decode cX6_follow 18 = .ok (.i2l, 1) := by decide +kernel
theorem dX6_follow_19 : decode cX6_follow 19 = .ok (.invokevirtual 55, 3) := by decide +kernel
theorem dX6_follow_22 : decode cX6_follow 22 = .ok (.iconst 0, 1) := by decide +kernel
theorem dX6_follow_23 : decode cX6_follow 23 = .ok (.istore_n 3, 1) := by decide +kernel
theorem dX6_follow_24 : decode cX6_follow 24 = .ok (.iload_n 3, 1) := by decide +kernel
theorem dX6_follow_25 : decode cX6_follow 25 = .ok (.aload_n 0, 1) := by decide +kernel
theorem dX6_follow_26 : decode cX6_follow 26 = .ok (.getfield 21, 3) := by decide +kernel
theorem dX6_follow_29 : decode cX6_follow 29 = .ok (.getfield 59, 3) := by decide +kernel
theorem dX6_follow_32 : decode cX6_follow 32 = .ok (.if_icmp .ge 29, 3) := by decide +kernel
theorem dX6_follow_35 : decode cX6_follow 35 = .ok (.aload_n 0, 1) := by decide +kernel
theorem dX6_follow_36 : decode cX6_follow 36 = .ok (.getfield 33, 3) := by decide +kernel
theorem dX6_follow_39 : decode cX6_follow 39 = .ok (.ifCond .ne 22, 3) := by decide +kernel
theorem dX6_follow_42 : decode cX6_follow 42 = .ok (.aload_n 0, 1) := by decide +kernel
theorem dX6_follow_43 : decode cX6_follow 43 = .ok (.aload_n 0, 1) := by decide +kernel
theorem dX6_follow_44 : decode cX6_follow 44 = .ok (.getfield 21, 3) := by decide +kernel
theorem dX6_follow_47 : decode cX6_follow 47 = .ok (.getfield 65, 3) := by decide +kernel
theorem dX6_follow_50 : decode cX6_follow 50 = .ok (.iload_n 3, 1) := by decide +kernel
theorem dX6_follow_51 : decode cX6_follow 51 = .ok (.iaload, 1) := by decide +kernel
theorem dX6_follow_52 : decode cX6_follow 52 = .ok (.invokevirtual 68, 3) := by decide +kernel
theorem dX6_follow_55 : decode cX6_follow 55 = .ok (.iinc 3 1, 3) := by decide +kernel
theorem dX6_follow_58 : decode cX6_follow 58 = .ok (.goto (-34), 3) := by decide +kernel
theorem dX6_follow_61 : decode cX6_follow 61 = .ok (.return_, 1) := by decide +kernel
set_option maxRecDepth 20000 in
theorem ggX6_perform_X4_valueOfA : GoodIn wsX6_perform wsX4_valueOfA := goodIn_r _ [10, 11, 50, 51, 52, 53, 54, 55, 56, 57, 58] (by decide +kernel) (by decide +kernel)
set_option maxRecDepth 20000 in
theorem gX6_perform_X4_valueOfA : GoodIn wsX6_perform (wsV RX6 75 RX4 yX4_valueOfA wsX4_valueOfA) := goodIn_app (goodIn_of _ (by decide +kernel)) ggX6_perform_X4_valueOfA
set_option maxRecDepth 20000 in
theorem ggX6_perform_X4_valueOfB : GoodIn wsX6_perform wsX4_valueOfB := goodIn_r _ [15, 16, 17, 50, 51, 52, 53, 54, 55, 56, 57, 58] (by decide +kernel) (by decide +kernel)
set_option maxRecDepth 20000 in
theorem gX6_perform_X4_valueOfB : GoodIn wsX6_perform (wsV RX6 79 RX4 yX4_valueOfB wsX4_valueOfB) := goodIn_app (goodIn_of _ (by decide +kernel)) ggX6_perform_X4_valueOfB
set_option maxRecDepth 20000 in
theorem ggX6_perform_X6_isProductTooFar : GoodIn wsX6_perform wsX6_isProductTooFar := goodIn_r _ [21, 22, 23, 24, 25, 26] (by decide +kernel) (by decide +kernel)
set_option maxRecDepth 20000 in
theorem gX6_perform_X6_isProductTooFar : GoodIn wsX6_perform (va_wsS RX6 82 yX6_isProductTooFar wsX6_isProductTooFar) := goodIn_app (goodIn_of _ (by decide +kernel)) ggX6_perform_X6_isProductTooFar
set_option maxRecDepth 20000 in
theorem ggX6_perform_X7_made : GoodIn wsX6_perform wsX7_made := goodIn_r _ [29, 30, 31, 24, 32] (by decide +kernel) (by decide +kernel)
set_option maxRecDepth 20000 in
theorem gX6_perform_X7_made_n89 : GoodIn wsX6_perform (wsX7_made) := ggX6_perform_X7_made
set_option maxRecDepth 20000 in
theorem ggX6_perform_X6_give : GoodIn wsX6_perform wsX6_give := goodIn_r _ [36, 3, 37, 38, 31, 24, 32, 39, 40, 41, 42, 22, 23, 25, 26, 4, 43, 44, 45, 46, 47, 48, 49] (by decide +kernel) (by decide +kernel)
set_option maxRecDepth 20000 in
theorem gX6_perform_X6_give : GoodIn wsX6_perform (wsV RX6 55 RX6 yX6_give wsX6_give) := goodIn_app (goodIn_of _ (by decide +kernel)) ggX6_perform_X6_give
theorem dX6_perform_0 : decode cX6_perform 0 = .ok (.aload_n 0, 1) := by decide +kernel
theorem dX6_perform_1 : decode cX6_perform 1 = .ok (.getfield 21, 3) := by decide +kernel
theorem dX6_perform_4 : decode cX6_perform 4 = .ok (.getfield 72, 3) := by decide +kernel
theorem dX6_perform_7 : decode cX6_perform 7 = .ok (.iload_n 1, 1) := by decide +kernel
theorem dX6_perform_8 : decode cX6_perform 8 = .ok (.iaload, 1) := by decide +kernel
theorem dX6_perform_9 : decode cX6_perform 9 = .ok (.istore_n 2, 1) := by decide +kernel
theorem dX6_perform_10 : decode cX6_perform 10 = .ok (.aload_n 0, 1) := by decide +kernel
theorem dX6_perform_11 : decode cX6_perform 11 = .ok (.getfield 21, 3) := by decide +kernel
theorem dX6_perform_14 : decode cX6_perform 14 = .ok (.iload_n 1, 1) := by decide +kernel
theorem dX6_perform_15 : decode cX6_perform 15 = .ok (.aload_n 0, 1) := by decide +kernel
theorem dX6_perform_16 : decode cX6_perform 16 = .ok (.getfield 18, 3) := by decide +kernel
theorem dX6_perform_19 : decode cX6_perform 19 = .ok (.invokevirtual 75, 3) := by decide +kernel
theorem dX6_perform_22 : decode cX6_perform 22 = .ok (.lstore_n 3, 1) := by decide +kernel
theorem dX6_perform_23 : decode cX6_perform 23 = .ok (.aload_n 0, 1) := by decide +kernel
theorem dX6_perform_24 : decode cX6_perform 24 = .ok (.getfield 21, 3) := by decide +kernel
theorem dX6_perform_27 : decode cX6_perform 27 = .ok (.iload_n 1, 1) := by decide +kernel
theorem dX6_perform_28 : decode cX6_perform 28 = .ok (.aload_n 0, 1) := by decide +kernel
theorem dX6_perform_29 : decode cX6_perform 29 = .ok (.getfield 18, 3) := by decide +kernel
theorem dX6_perform_32 : decode cX6_perform 32 = .ok (.invokevirtual 79, 3) := by decide +kernel
theorem dX6_perform_35 : decode cX6_perform 35 = .ok (.lstore 5, 2) := by decide +kernel
theorem dX6_perform_37 : decode cX6_perform 37 = .ok (.iload_n 2, 1) := by decide +kernel
theorem dX6_perform_38 : decode cX6_perform 38 = .ok (.iconst 4, 1) := by decide +kernel
theorem dX6_perform_39 : decode cX6_perform 39 = .ok (.if_icmp .ne 20, 3) := by decide +kernel
theorem dX6_perform_42 : decode cX6_perform 42 = .ok (.lload_n 3, 1) := by decide +kernel
theorem dX6_perform_43 : decode cX6_perform 43 = .ok (.lload 5, 2) := by decide +kernel
theorem dX6_perform_45 : decode cX6_perform 45 = .ok (.invokestatic 82, 3) := by decide +kernel
theorem dX6_perform_48 : decode cX6_perform 48 = .ok (.ifCond .eq 11, 3) := by decide +kernel
theorem dX6_perform_51 : decode cX6_perform 51 = .ok (.aload_n 0, 1) := by decide +kernel
theorem dX6_perform_52 : decode cX6_perform 52 = .ok (.iconst 1, 1) := by decide +kernel
theorem dX6_perform_53 : decode cX6_perform 53 = .ok (.putfield 33, 3) := by decide +kernel
theorem dX6_perform_56 : decode cX6_perform 56 = .ok (.goto 23, 3) := by decide +kernel
theorem dX6_perform_59 : decode cX6_perform 59 = .ok (.aload_n 0, 1) := by decide +kernel
theorem dX6_perform_60 : decode cX6_perform 60 = .ok (.aload_n 0, 1) := by decide +kernel
theorem dX6_perform_61 : decode cX6_perform 61 = .ok (.getfield 21, 3) := by decide +kernel
theorem dX6_perform_64 : decode cX6_perform 64 = .ok (.getfield 86, 3) := by decide +kernel
theorem dX6_perform_67 : decode cX6_perform 67 = .ok (.iload_n 1, 1) := by decide +kernel
theorem dX6_perform_68 : decode cX6_perform 68 = .ok (.iaload, 1) := by decide +kernel
theorem dX6_perform_69 : decode cX6_perform 69 = .ok (.iload_n 2, 1) := by decide +kernel
theorem dX6_perform_70 : decode cX6_perform 70 = .ok (.lload_n 3, 1) := by decide +kernel
theorem dX6_perform_71 : decode cX6_perform 71 = .ok (.lload 5, 2) := by decide +kernel
theorem dX6_perform_73 : decode cX6_perform 73 = .ok (.invokestatic 89, 3) := by decide +kernel
theorem dX6_perform_76 : decode cX6_perform 76 = .ok (.invokevirtual 55, 3) := by decide +kernel
theorem dX6_perform_79 : decode cX6_perform 79 = .ok (.return_, 1) := by decide +kernel
theorem dX6_isProductTooFar_0 : decode cX6_isProductTooFar 0 = .ok (.lload_n 0, 1) := by decide +kernel
theorem dX6_isProductTooFar_1 : decode cX6_isProductTooFar 1 = .ok (.lconst 0, 1) := by decide +kernel
theorem dX6_isProductTooFar_2 : decode cX6_isProductTooFar 2 = .ok (.lcmp, 1) := by decide +kernel
theorem dX6_isProductTooFar_3 : decode cX6_isProductTooFar 3 = .ok (.ifCond .eq 23, 3) := by decide +kernel
theorem dX6_isProductTooFar_6 : decode cX6_isProductTooFar 6 = .ok (.lload_n 2, 1) := by decide +kernel
theorem dX6_isProductTooFar_7 : decode cX6_isProductTooFar 7 = .ok (.invokestatic 93, 3) := by decide +kernel
theorem dX6_isProductTooFar_10 : decode cX6_isProductTooFar 10 = .ok (.ldc2_w 99, 3) := by decide +kernel
theorem dX6_isProductTooFar_13 : decode cX6_isProductTooFar 13 = .ok (.lload_n 0, 1) := by decide +kernel
theorem dX6_isProductTooFar_14 : decode cX6_isProductTooFar 14 = .ok (.invokestatic 93, 3) := by decide +kernel
theorem dX6_isProductTooFar_17 : decode cX6_isProductTooFar 17 = .ok (.ldiv, 1) := by decide +kernel
theorem dX6_isProductTooFar_18 : decode cX6_isProductTooFar 18 = .ok (.lcmp, 1) := by decide +kernel
theorem dX6_isProductTooFar_19 : decode cX6_isProductTooFar 19 = .ok (.ifCond .le 7, 3) := by decide +kernel
theorem dX6_isProductTooFar_22 : decode cX6_isProductTooFar 22 = .ok (.iconst 1, 1) := by decide +kernel
theorem dX6_isProductTooFar_23 : decode cX6_isProductTooFar 23 = .ok (.goto 4, 3) := by decide +kernel
theorem dX6_isProductTooFar_26 : decode cX6_isProductTooFar 26 = .ok (.iconst 0, 1) := by decide +kernel
theorem dX6_isProductTooFar_27 : decode cX6_isProductTooFar 27 = .ok (.ireturn, 1) := by decide +kernel
theorem dX6_give_0 : decode cX6_give 0 = .ok (.aload_n 0, 1) := by decide +kernel
theorem dX6_give_1 : decode cX6_give 1 = .ok (.getfield 18, 3) := by decide +kernel
theorem dX6_give_4 : decode cX6_give 4 = .ok (.iload_n 1, 1) := by decide +kernel
theorem dX6_give_5 : decode cX6_give 5 = .ok (.lload_n 2, 1) := by decide +kernel
theorem dX6_give_6 : decode cX6_give 6 = .ok (.lastore, 1) := by decide +kernel
theorem dX6_give_7 : decode cX6_give 7 = .ok (.aload_n 0, 1) := by decide +kernel
theorem dX6_give_8 : decode cX6_give 8 = .ok (.getfield 9, 3) := by decide +kernel
theorem dX6_give_11 : decode cX6_give 11 = .ok (.iload_n 1, 1) := by decide +kernel
theorem dX6_give_12 : decode cX6_give 12 = .ok (.aload_n 0, 1) := by decide +kernel
theorem dX6_give_13 : decode cX6_give 13 = .ok (.getfield 9, 3) := by decide +kernel
theorem dX6_give_16 : decode cX6_give 16 = .ok (.iload_n 1, 1) := by decide +kernel
theorem dX6_give_17 : decode cX6_give 17 = .ok (.laload, 1) := by decide +kernel
theorem dX6_give_18 : decode cX6_give 18 = .ok (.lload_n 2, 1) := by decide +kernel
theorem dX6_give_19 : decode cX6_give 19 = .ok (.invokestatic 101, 3) := by decide +kernel
theorem dX6_give_22 : decode cX6_give 22 = .ok (.lastore, 1) := by decide +kernel
theorem dX6_give_23 : decode cX6_give 23 = .ok (.aload_n 0, 1) := by decide +kernel
theorem dX6_give_24 : decode cX6_give 24 = .ok (.getfield 15, 3) := by decide +kernel
theorem dX6_give_27 : decode cX6_give 27 = .ok (.iload_n 1, 1) := by decide +kernel
theorem dX6_give_28 : decode cX6_give 28 = .ok (.aload_n 0, 1) := by decide +kernel
theorem dX6_give_29 : decode cX6_give 29 = .ok (.getfield 15, 3) := by decide +kernel
theorem dX6_give_32 : decode cX6_give 32 = .ok (.iload_n 1, 1) := by decide +kernel
theorem dX6_give_33 : decode cX6_give 33 = .ok (.laload, 1) := by decide +kernel
theorem dX6_give_34 : decode cX6_give 34 = .ok (.lload_n 2, 1) := by decide +kernel
theorem dX6_give_35 : decode cX6_give 35 = .ok (.invokestatic 105, 3) := by decide +kernel
theorem dX6_give_38 : decode cX6_give 38 = .ok (.lastore, 1) := by decide +kernel
theorem dX6_give_39 : decode cX6_give 39 = .ok (.lload_n 2, 1) := by decide +kernel
theorem dX6_give_40 : decode cX6_give 40 = .ok (.invokestatic 93, 3) := by decide +kernel
theorem dX6_give_43 : decode cX6_give 43 = .ok (.ldc2_w 99, 3) := by decide +kernel
theorem dX6_give_46 : decode cX6_give 46 = .ok (.lcmp, 1) := by decide +kernel
theorem dX6_give_47 : decode cX6_give 47 = .ok (.ifCond .le 8, 3) := by decide +kernel
theorem dX6_give_50 : decode cX6_give 50 = .ok (.aload_n 0, 1) := by decide +kernel
theorem dX6_give_51 : decode cX6_give 51 = .ok (.iconst 1, 1) := by decide +kernel
theorem dX6_give_52 : decode cX6_give 52 = .ok (.putfield 33, 3) := by decide +kernel
theorem dX6_give_55 : decode cX6_give 55 = .ok (.return_, 1) := by decide +kernel
set_option maxRecDepth 20000 in
theorem ggX7_init_X1_init : GoodIn wsX7_init wsX1_init := goodIn_r _ [34, 35, 2, 3, 36, 37, 38, 39, 40, 41, 42, 43, 44, 45, 6, 46, 47, 48, 49, 50, 51, 101, 102, 103, 104, 105] (by decide +kernel) (by decide +kernel)
set_option maxRecDepth 20000 in
theorem gX7_init_X1_init : GoodIn wsX7_init (wsX1_init) := ggX7_init_X1_init
set_option maxRecDepth 20000 in
theorem ggX7_init_X0_init : GoodIn wsX7_init wsX0_init := goodIn_r _ [53, 54, 2, 3, 36, 55, 56, 113, 114] (by decide +kernel) (by decide +kernel)
set_option maxRecDepth 20000 in
theorem gX7_init_X0_init_n18 : GoodIn wsX7_init (wsX0_init) := ggX7_init_X0_init
set_option maxRecDepth 20000 in
theorem ggX7_init_X4_init : GoodIn wsX7_init wsX4_init := goodIn_r _ [58, 59, 2, 3, 36, 60, 61, 62, 63, 38, 64, 65, 66, 115, 116, 117, 118, 119, 120, 121, 122, 123] (by decide +kernel) (by decide +kernel)
set_option maxRecDepth 20000 in
theorem gX7_init_X4_init_n25 : GoodIn wsX7_init (wsX4_init) := ggX7_init_X4_init
set_option maxRecDepth 20000 in
theorem ggX7_init_X3_init : GoodIn wsX7_init wsX3_init := goodIn_r _ [69, 70, 2, 3, 40, 71, 72, 73, 124, 125, 126, 127, 128, 129] (by decide +kernel) (by decide +kernel)
set_option maxRecDepth 20000 in
theorem gX7_init_X3_init : GoodIn wsX7_init (wsX3_init) := ggX7_init_X3_init
set_option maxRecDepth 20000 in
theorem ggX7_init_X5_init : GoodIn wsX7_init wsX5_init := goodIn_r _ [76, 77, 2, 3, 36, 78, 79, 80, 81, 82, 130, 131, 132, 133, 134, 135, 136] (by decide +kernel) (by decide +kernel)
set_option maxRecDepth 20000 in
theorem gX7_init_X5_init : GoodIn wsX7_init (wsX5_init) := ggX7_init_X5_init
set_option maxRecDepth 20000 in
theorem ggX7_init_X2_init : GoodIn wsX7_init wsX2_init := goodIn_r _ [85, 86, 2, 3, 40, 87, 88, 89, 90, 91, 137, 138, 139, 140, 141, 142, 143, 144, 145] (by decide +kernel) (by decide +kernel)
set_option maxRecDepth 20000 in
theorem gX7_init_X2_init : GoodIn wsX7_init (wsX2_init) := ggX7_init_X2_init
set_option maxRecDepth 20000 in
theorem ggX7_init_X6_init : GoodIn wsX7_init wsX6_init := goodIn_r _ [94, 95, 2, 3, 40, 96, 97, 98, 99, 100, 146, 147, 148, 149, 150, 151, 152] (by decide +kernel) (by decide +kernel)
set_option maxRecDepth 20000 in
theorem gX7_init_X6_init : GoodIn wsX7_init (wsX6_init) := ggX7_init_X6_init
theorem dX7_init_0 : decode cX7_init 0 = .ok (.aload_n 0, 1) := by decide +kernel
theorem dX7_init_1 : decode cX7_init 1 = .ok (.invokespecial 1, 3) := by decide +kernel
theorem dX7_init_4 : decode cX7_init 4 = .ok (.aload_n 0, 1) := by decide +kernel
theorem dX7_init_5 : decode cX7_init 5 = .ok (.new 7, 3) := by decide +kernel
theorem dX7_init_8 : decode cX7_init 8 = .ok (.dup, 1) := by decide +kernel
theorem dX7_init_9 : decode cX7_init 9 = .ok (.invokespecial 9, 3) := by decide +kernel
theorem dX7_init_12 : decode cX7_init 12 = .ok (.putfield 10, 3) := by decide +kernel
theorem dX7_init_15 : decode cX7_init 15 = .ok (.aload_n 0, 1) := by decide +kernel
theorem dX7_init_16 : decode cX7_init 16 = .ok (.new 16, 3) := by decide +kernel
theorem dX7_init_19 : decode cX7_init 19 = .ok (.dup, 1) := by decide +kernel
theorem dX7_init_20 : decode cX7_init 20 = .ok (.invokespecial 18, 3) := by decide +kernel
theorem dX7_init_23 : decode cX7_init 23 = .ok (.putfield 19, 3) := by decide +kernel
theorem dX7_init_26 : decode cX7_init 26 = .ok (.aload_n 0, 1) := by decide +kernel
theorem dX7_init_27 : decode cX7_init 27 = .ok (.new 23, 3) := by decide +kernel
theorem dX7_init_30 : decode cX7_init 30 = .ok (.dup, 1) := by decide +kernel
theorem dX7_init_31 : decode cX7_init 31 = .ok (.invokespecial 25, 3) := by decide +kernel
theorem dX7_init_34 : decode cX7_init 34 = .ok (.putfield 26, 3) := by decide +kernel
theorem dX7_init_37 : decode cX7_init 37 = .ok (.aload_n 0, 1) := by decide +kernel
theorem dX7_init_38 : decode cX7_init 38 = .ok (.new 30, 3) := by decide +kernel
theorem dX7_init_41 : decode cX7_init 41 = .ok (.dup, 1) := by decide +kernel
theorem dX7_init_42 : decode cX7_init 42 = .ok (.aload_n 0, 1) := by decide +kernel
theorem dX7_init_43 : decode cX7_init 43 = .ok (.getfield 10, 3) := by decide +kernel
theorem dX7_init_46 : decode cX7_init 46 = .ok (.aload_n 0, 1) := by decide +kernel
theorem dX7_init_47 : decode cX7_init 47 = .ok (.getfield 26, 3) := by decide +kernel
theorem dX7_init_50 : decode cX7_init 50 = .ok (.invokespecial 32, 3) := by decide +kernel
theorem dX7_init_53 : decode cX7_init 53 = .ok (.putfield 35, 3) := by decide +kernel
theorem dX7_init_56 : decode cX7_init 56 = .ok (.aload_n 0, 1) := by decide +kernel
theorem dX7_init_57 : decode cX7_init 57 = .ok (.new 39, 3) := by decide +kernel
theorem dX7_init_60 : decode cX7_init 60 = .ok (.dup, 1) := by decide +kernel
theorem dX7_init_61 : decode cX7_init 61 = .ok (.aload_n 0, 1) := by decide +kernel
theorem dX7_init_62 : decode cX7_init 62 = .ok (.getfield 35, 3) := by decide +kernel
theorem dX7_init_65 : decode cX7_init 65 = .ok (.aload_n 0, 1) := by decide +kernel
theorem dX7_init_66 : decode cX7_init 66 = .ok (.getfield 19, 3) := by decide +kernel
theorem dX7_init_69 : decode cX7_init 69 = .ok (.invokespecial 41, 3) := by decide +kernel
theorem dX7_init_72 : decode cX7_init 72 = .ok (.putfield 44, 3) := by decide +kernel
theorem dX7_init_75 : decode cX7_init 75 = .ok (.aload_n 0, 1) := by decide +kernel
theorem dX7_init_76 : decode cX7_init 76 = .ok (.new 48, 3) := by decide +kernel
theorem dX7_init_79 : decode cX7_init 79 = .ok (.dup, 1) := by decide +kernel
theorem dX7_init_80 : decode cX7_init 80 = .ok (.aload_n 0, 1) := by decide +kernel
theorem dX7_init_81 : decode cX7_init 81 = .ok (.getfield 10, 3) := by decide +kernel
theorem dX7_init_84 : decode cX7_init 84 = .ok (.aload_n 0, 1) := by decide +kernel
theorem dX7_init_85 : decode cX7_init 85 = .ok (.getfield 26, 3) := by decide +kernel
theorem dX7_init_88 : decode cX7_init 88 = .ok (.aload_n 0, 1) := by decide +kernel
theorem dX7_init_89 : decode cX7_init 89 = .ok (.getfield 19, 3) := by decide +kernel
theorem dX7_init_92 : decode cX7_init 92 = .ok (.invokespecial 50, 3) := by decide +kernel
theorem dX7_init_95 : decode cX7_init 95 = .ok (.putfield 53, 3) := by decide +kernel
theorem dX7_init_98 : decode cX7_init 98 = .ok (.aload_n 0, 1) := by decide +kernel
theorem dX7_init_99 : decode cX7_init 99 = .ok (.new 57, 3) := by decide +kernel
theorem dX7_init_102 : decode cX7_init 102 = .ok (.dup, 1) := by decide +kernel
theorem dX7_init_103 : decode cX7_init 103 = .ok (.aload_n 0, 1) := by decide +kernel
theorem dX7_init_104 : decode cX7_init 104 = .ok (.getfield 26, 3) := by decide +kernel
theorem dX7_init_107 : decode cX7_init 107 = .ok (.aload_n 0, 1) := by decide +kernel
theorem dX7_init_108 : decode cX7_init 108 = .ok (.getfield 19, 3) := by decide +kernel
theorem dX7_init_111 : decode cX7_init 111 = .ok (.invokespecial 59, 3) := by decide +kernel
theorem dX7_init_114 : decode cX7_init 114 = .ok (.putfield 62, 3) := by decide +kernel
theorem dX7_init_117 : decode cX7_init 117 = .ok (.return_, 1) := by decide +kernel
set_option maxRecDepth 20000 in
theorem ggX7_name_X7_isName : GoodIn wsX7_name wsX7_isName := goodIn_r _ [5] (by decide +kernel) (by decide +kernel)
set_option maxRecDepth 20000 in
theorem gX7_name_X7_isName : GoodIn wsX7_name (va_wsS RX7 66 yX7_isName wsX7_isName) := goodIn_app (goodIn_of _ (by decide +kernel)) ggX7_name_X7_isName
set_option maxRecDepth 20000 in
theorem ggX7_name_X1_tell : GoodIn wsX7_name wsX1_tell := goodIn_r _ [10, 11, 12, 13, 14, 15, 4, 16, 17, 18, 36, 37, 38, 39, 40] (by decide +kernel) (by decide +kernel)
set_option maxRecDepth 20000 in
theorem gX7_name_X1_tell : GoodIn wsX7_name (wsV RX7 70 RX1 yX1_tell wsX1_tell) := goodIn_app (goodIn_of _ (by decide +kernel)) ggX7_name_X1_tell
set_option maxRecDepth 20000 in
theorem ggX7_name_X7_forget : GoodIn wsX7_name wsX7_forget := goodIn_r _ [22, 23, 24, 25, 26, 27, 28, 29, 30, 31, 32, 33, 34, 35, 41, 42, 43, 44, 45, 46, 47, 48, 49, 50, 51, 52, 53, 54, 55, 56, 57, 58, 59, 60, 61, 62, 63] (by decide +kernel) (by decide +kernel)
set_option maxRecDepth 20000 in
theorem gX7_name_X7_forget : GoodIn wsX7_name (wsV RX7 74 RX7 yX7_forget wsX7_forget) := goodIn_app (goodIn_of _ (by decide +kernel)) ggX7_name_X7_forget
theorem dX7_name_0 : decode cX7_name 0 = .ok (.iload_n 1, 1) := by decide +kernel
theorem dX7_name_1 : decode cX7_name 1 = .ok (.invokestatic 66, 3) := by decide +kernel
theorem dX7_name_4 : decode cX7_name 4 = .ok (.ifCond .eq 14, 3) := by decide +kernel
theorem dX7_name_7 : decode cX7_name 7 = .ok (.iload_n 2, 1) := by decide +kernel
theorem dX7_name_8 : decode cX7_name 8 = .ok (.iconst 2, 1) := by decide +kernel
theorem dX7_name_9 : decode cX7_name 9 = .ok (.if_icmp .lt 9, 3) := by decide +kernel
theorem dX7_name_12 : decode cX7_name 12 = .ok (.iload_n 2, 1) := by decide +kernel
theorem dX7_name_13 : decode cX7_name 13 = .ok (.bipush 31, 2) := by decide +kernel
theorem dX7_name_15 : decode cX7_name 15 = .ok (.if_icmp .le 5, 3) := by decide +kernel
theorem dX7_name_18 : decode cX7_name 18 = .ok (.iconst 0, 1) := by decide +kernel
theorem dX7_name_19 : decode cX7_name 19 = .ok (.ireturn, 1) := by decide +kernel
theorem dX7_name_20 : decode cX7_name 20 = .ok (.aload_n 0, 1) := by decide +kernel
theorem dX7_name_21 : decode cX7_name 21 = .ok (.getfield 10, 3) := by decide +kernel
theorem dX7_name_24 : decode cX7_name 24 = .ok (.iload_n 1, 1) := by decide +kernel
theorem dX7_name_25 : decode cX7_name 25 = .ok (.iload_n 2, 1) := by decide +kernel
theorem dX7_name_26 : decode cX7_name 26 = .ok (.iload_n 3, 1) := by decide +kernel
theorem dX7_name_27 : decode cX7_name 27 = .ok (.invokevirtual 70, 3) := by decide +kernel
theorem dX7_name_30 : decode cX7_name 30 = .ok (.aload_n 0, 1) := by decide +kernel
theorem dX7_name_31 : decode cX7_name 31 = .ok (.invokevirtual 74, 3) := by decide +kernel
theorem dX7_name_34 : decode cX7_name 34 = .ok (.iconst 1, 1) := by decide +kernel
theorem dX7_name_35 : decode cX7_name 35 = .ok (.ireturn, 1) := by decide +kernel
set_option maxRecDepth 20000 in
theorem ggX7_span_X7_isTold : GoodIn wsX7_span wsX7_isTold := goodIn_r _ [7, 8, 9] (by decide +kernel) (by decide +kernel)
set_option maxRecDepth 20000 in
theorem gX7_span_X7_isTold : GoodIn wsX7_span (va_wsS RX7 77 yX7_isTold wsX7_isTold) := goodIn_app (goodIn_of _ (by decide +kernel)) ggX7_span_X7_isTold
set_option maxRecDepth 20000 in
theorem ggX7_span_X7_forget : GoodIn wsX7_span wsX7_forget := goodIn_r _ [13, 14, 15, 16, 17, 18, 19, 20, 21, 22, 23, 24, 25, 26, 29, 30, 31, 32, 33, 34, 35, 36, 37, 38, 39, 40, 41, 42, 43, 44, 45, 46, 47, 48, 49, 50, 51] (by decide +kernel) (by decide +kernel)
set_option maxRecDepth 20000 in
theorem gX7_span_X7_forget : GoodIn wsX7_span (wsV RX7 74 RX7 yX7_forget wsX7_forget) := goodIn_app (goodIn_of _ (by decide +kernel)) ggX7_span_X7_forget
theorem dX7_span_0 : decode cX7_span 0 = .ok (.iload_n 1, 1) := by decide +kernel
theorem dX7_span_1 : decode cX7_span 1 = .ok (.ifCond .lt 22, 3) := by decide +kernel
theorem dX7_span_4 : decode cX7_span 4 = .ok (.iload_n 1, 1) := by decide +kernel
theorem dX7_span_5 : decode cX7_span 5 = .ok (.iconst 2, 1) := by decide +kernel
theorem dX7_span_6 : decode cX7_span 6 = .ok (.if_icmp .ge 17, 3) := by decide +kernel
theorem dX7_span_9 : decode cX7_span 9 = .ok (.iload_n 2, 1) := by decide +kernel
theorem dX7_span_10 : decode cX7_span 10 = .ok (.invokestatic 77, 3) := by decide +kernel
theorem dX7_span_13 : decode cX7_span 13 = .ok (.ifCond .eq 10, 3) := by decide +kernel
theorem dX7_span_16 : decode cX7_span 16 = .ok (.iload_n 3, 1) := by decide +kernel
theorem dX7_span_17 : decode cX7_span 17 = .ok (.invokestatic 77, 3) := by decide +kernel
theorem dX7_span_20 : decode cX7_span 20 = .ok (.ifCond .ne 5, 3) := by decide +kernel
theorem dX7_span_23 : decode cX7_span 23 = .ok (.iconst 0, 1) := by decide +kernel
theorem dX7_span_24 : decode cX7_span 24 = .ok (.ireturn, 1) := by decide +kernel
theorem dX7_span_25 : decode cX7_span 25 = .ok (.iload_n 3, 1) := by decide +kernel
theorem dX7_span_26 : decode cX7_span 26 = .ok (.iload_n 2, 1) := by decide +kernel
theorem dX7_span_27 : decode cX7_span 27 = .ok (.if_icmp .lt 11, 3) := by decide +kernel
theorem dX7_span_30 : decode cX7_span 30 = .ok (.iload_n 3, 1) := by decide +kernel
theorem dX7_span_31 : decode cX7_span 31 = .ok (.iload_n 2, 1) := by decide +kernel
theorem dX7_span_32 : decode cX7_span 32 = .ok (.isub, 1) := by decide +kernel
theorem dX7_span_33 : decode cX7_span 33 = .ok (.bipush 32, 2) := by decide +kernel
theorem dX7_span_35 : decode cX7_span 35 = .ok (.if_icmp .lt 5, 3) := by decide +kernel
theorem dX7_span_38 : decode cX7_span 38 = .ok (.iconst 0, 1) := by decide +kernel
theorem dX7_span_39 : decode cX7_span 39 = .ok (.ireturn, 1) := by decide +kernel
theorem dX7_span_40 : decode cX7_span 40 = .ok (.aload_n 0, 1) := by decide +kernel
theorem dX7_span_41 : decode cX7_span 41 = .ok (.getfield 19, 3) := by decide +kernel
theorem dX7_span_44 : decode cX7_span 44 = .ok (.getfield 80, 3) := by decide +kernel
theorem dX7_span_47 : decode cX7_span 47 = .ok (.iload_n 1, 1) := by decide +kernel
theorem dX7_span_48 : decode cX7_span 48 = .ok (.iload_n 2, 1) := by decide +kernel
theorem dX7_span_49 : decode cX7_span 49 = .ok (.iastore, 1) := by decide +kernel
theorem dX7_span_50 : decode cX7_span 50 = .ok (.aload_n 0, 1) := by decide +kernel
theorem dX7_span_51 : decode cX7_span 51 = .ok (.getfield 19, 3) := by decide +kernel
theorem dX7_span_54 : decode cX7_span 54 = .ok (.getfield 84, 3) := by decide +kernel
theorem dX7_span_57 : decode cX7_span 57 = .ok (.iload_n 1, 1) := by decide +kernel
theorem dX7_span_58 : decode cX7_span 58 = .ok (.iload_n 3, 1) := by decide +kernel
theorem dX7_span_59 : decode cX7_span 59 = .ok (.iastore, 1) := by decide +kernel
theorem dX7_span_60 : decode cX7_span 60 = .ok (.aload_n 0, 1) := by decide +kernel
theorem dX7_span_61 : decode cX7_span 61 = .ok (.invokevirtual 74, 3) := by decide +kernel
theorem dX7_span_64 : decode cX7_span 64 = .ok (.iconst 1, 1) := by decide +kernel
theorem dX7_span_65 : decode cX7_span 65 = .ok (.ireturn, 1) := by decide +kernel
set_option maxRecDepth 20000 in
theorem ggX7_step_X7_canFollow : GoodIn wsX7_step wsX7_canFollow := goodIn_r _ [7, 1, 8, 9, 10, 11, 12, 13, 14, 70, 71, 72, 73, 74, 75, 76, 77, 78, 79, 80, 81, 82, 83, 84, 85] (by decide +kernel) (by decide +kernel)
set_option maxRecDepth 20000 in
theorem gX7_step_X7_canFollow : GoodIn wsX7_step (wsV RX7 91 RX7 yX7_canFollow wsX7_canFollow) := goodIn_app (goodIn_of _ (by decide +kernel)) ggX7_step_X7_canFollow
set_option maxRecDepth 20000 in
theorem ggX7_step_X7_canBe : GoodIn wsX7_step wsX7_canBe := goodIn_r _ [17, 18, 19, 6, 20, 21, 22, 23, 24, 25, 26, 27, 28, 29, 30, 31, 32, 33, 34, 35, 36, 37] (by decide +kernel) (by decide +kernel)
set_option maxRecDepth 20000 in
theorem gX7_step_X7_canBe : GoodIn wsX7_step (va_wsS RX7 94 yX7_canBe wsX7_canBe) := goodIn_app (goodIn_of _ (by decide +kernel)) ggX7_step_X7_canBe
set_option maxRecDepth 20000 in
theorem ggX7_step_X4_append : GoodIn wsX7_step wsX4_append := goodIn_r _ [41, 14, 13, 42, 43, 44, 45, 19, 6, 20, 25, 26, 31, 32, 46, 47, 48, 11, 49, 50, 51, 52, 53, 54, 55, 56, 57, 58, 59, 77, 78, 79, 80, 81, 82, 83, 84, 85] (by decide +kernel) (by decide +kernel)
set_option maxRecDepth 20000 in
theorem gX7_step_X4_append : GoodIn wsX7_step (wsV RX7 98 RX4 yX4_append wsX4_append) := goodIn_app (goodIn_of _ (by decide +kernel)) ggX7_step_X4_append
set_option maxRecDepth 20000 in
theorem ggX7_step_X7_forget : GoodIn wsX7_step wsX7_forget := goodIn_r _ [63, 64, 65, 66, 67, 68, 69, 70, 71, 72, 73, 74, 75, 76, 86, 87, 88, 89, 90, 91, 92, 93, 94, 95, 96, 97, 98, 99, 100, 101, 102, 103, 104, 105, 106, 107, 108] (by decide +kernel) (by decide +kernel)
set_option maxRecDepth 20000 in
theorem gX7_step_X7_forget : GoodIn wsX7_step (wsV RX7 74 RX7 yX7_forget wsX7_forget) := goodIn_app (goodIn_of _ (by decide +kernel)) ggX7_step_X7_forget
theorem dX7_step_0 : decode cX7_step 0 = .ok (.aload_n 0, 1) := by decide +kernel
theorem dX7_step_1 : decode cX7_step 1 = .ok (.getfield 26, 3) := by decide +kernel
theorem dX7_step_4 : decode cX7_step 4 = .ok (.getfield 87, 3) := by decide +kernel
theorem dX7_step_7 : decode cX7_step 7 = .ok (.bipush 24, 2) := by decide +kernel
theorem dX7_step_9 : decode cX7_step 9 = .ok (.if_icmp .ge 22, 3) := by decide +kernel
theorem dX7_step_12 : decode cX7_step 12 = .ok (.aload_n 0, 1) := by decide +kernel
theorem dX7_step_13 : decode cX7_step 13 = .ok (.iload_n 1, 1) := by decide +kernel
theorem dX7_step_14 : decode cX7_step 14 = .ok (.invokevirtual 91, 3) := by decide +kernel
theorem dX7_step_17 : decode cX7_step 17 = .ok (.ifCond .eq 14, 3) := by decide +kernel
theorem dX7_step_20 : decode cX7_step 20 = .ok (.iload_n 1, 1) := by decide +kernel
theorem dX7_step_21 : decode cX7_step 21 = .ok (.iload_n 2, 1) := by decide +kernel
theorem dX7_step_22 : decode cX7_step 22 = .ok (.iload_n 3, 1) := by decide +kernel
theorem dX7_step_23 : decode cX7_step 23 = .ok (.iload 4, 2) := by decide +kernel
theorem dX7_step_25 : decode cX7_step 25 = .ok (.invokestatic 94, 3) := by decide +kernel
theorem dX7_step_28 : decode cX7_step 28 = .ok (.ifCond .ne 5, 3) := by decide +kernel
theorem dX7_step_31 : decode cX7_step 31 = .ok (.iconst (-1), 1) := by decide +kernel
theorem dX7_step_32 : decode cX7_step 32 = .ok (.ireturn, 1) := by decide +kernel
theorem dX7_step_33 : decode cX7_step 33 = .ok (.aload_n 0, 1) := by decide +kernel
theorem dX7_step_34 : decode cX7_step 34 = .ok (.getfield 26, 3) := by decide +kernel
theorem dX7_step_37 : decode cX7_step 37 = .ok (.iload_n 1, 1) := by decide +kernel
theorem dX7_step_38 : decode cX7_step 38 = .ok (.iload_n 2, 1) := by decide +kernel
theorem dX7_step_39 : decode cX7_step 39 = .ok (.iload_n 3, 1) := by decide +kernel
theorem dX7_step_40 : decode cX7_step 40 = .ok (.iload 4, 2) := by decide +kernel
theorem dX7_step_42 : decode cX7_step 42 = .ok (.invokevirtual 98, 3) := by decide +kernel
theorem dX7_step_45 : decode cX7_step 45 = .ok (.aload_n 0, 1) := by decide +kernel
theorem dX7_step_46 : decode cX7_step 46 = .ok (.invokevirtual 74, 3) := by decide +kernel
theorem dX7_step_49 : decode cX7_step 49 = .ok (.aload_n 0, 1) := by decide +kernel
theorem dX7_step_50 : decode cX7_step 50 = .ok (.getfield 26, 3) := by decide +kernel
theorem dX7_step_53 : decode cX7_step 53 = .ok (.getfield 87, 3) := by decide +kernel
theorem dX7_step_56 : decode cX7_step 56 = .ok (.iconst 1, 1) := by decide +kernel
theorem dX7_step_57 : decode cX7_step 57 = .ok (.isub, 1) := by decide +kernel
theorem dX7_step_58 : decode cX7_step 58 = .ok (.ireturn, 1) := by decide +kernel
set_option maxRecDepth 20000 in
theorem ggX7_back_X4_dropLast : GoodIn wsX7_back wsX4_dropLast := goodIn_r _ [7, 8, 9, 10, 11, 12, 6, 13, 14, 15, 16, 17, 18, 19, 20, 21, 22, 23, 24, 25, 44, 45, 46, 47, 48, 49, 50, 51, 52] (by decide +kernel) (by decide +kernel)
set_option maxRecDepth 20000 in
theorem gX7_back_X4_dropLast : GoodIn wsX7_back (wsV RX7 102 RX4 yX4_dropLast wsX4_dropLast) := goodIn_app (goodIn_of _ (by decide +kernel)) ggX7_back_X4_dropLast
set_option maxRecDepth 20000 in
theorem ggX7_back_X7_forget : GoodIn wsX7_back wsX7_forget := goodIn_r _ [30, 31, 32, 33, 34, 35, 36, 37, 38, 39, 40, 41, 42, 43, 53, 54, 55, 56, 57, 58, 59, 60, 61, 62, 63, 64, 65, 66, 67, 68, 69, 70, 71, 72, 73, 74, 75] (by decide +kernel) (by decide +kernel)
set_option maxRecDepth 20000 in
theorem gX7_back_X7_forget : GoodIn wsX7_back (wsV RX7 74 RX7 yX7_forget wsX7_forget) := goodIn_app (goodIn_of _ (by decide +kernel)) ggX7_back_X7_forget
theorem dX7_back_0 : decode cX7_back 0 = .ok (.aload_n 0, 1) := by decide +kernel
theorem dX7_back_1 : decode cX7_back 1 = .ok (.getfield 26, 3) := by decide +kernel
theorem dX7_back_4 : decode cX7_back 4 = .ok (.getfield 87, 3) := by decide +kernel
theorem dX7_back_7 : decode cX7_back 7 = .ok (.ifCond .ne 5, 3) := by decide +kernel
theorem dX7_back_10 : decode cX7_back 10 = .ok (.iconst 0, 1) := by decide +kernel
theorem dX7_back_11 : decode cX7_back 11 = .ok (.ireturn, 1) := by decide +kernel
theorem dX7_back_12 : decode cX7_back 12 = .ok (.aload_n 0, 1) := by decide +kernel
theorem dX7_back_13 : decode cX7_back 13 = .ok (.getfield 26, 3) := by decide +kernel
theorem dX7_back_16 : decode cX7_back 16 = .ok (.invokevirtual 102, 3) := by decide +kernel
theorem dX7_back_19 : decode cX7_back 19 = .ok (.aload_n 0, 1) := by decide +kernel
theorem dX7_back_20 : decode cX7_back 20 = .ok (.invokevirtual 74, 3) := by decide +kernel
theorem dX7_back_23 : decode cX7_back 23 = .ok (.iconst 1, 1) := by decide +kernel
theorem dX7_back_24 : decode cX7_back 24 = .ok (.ireturn, 1) := by decide +kernel
set_option maxRecDepth 20000 in
theorem ggX7_mode_X7_forget : GoodIn wsX7_mode wsX7_forget := goodIn_r _ [7, 8, 9, 10, 11, 12, 13, 14, 15, 16, 17, 18, 19, 20, 26, 27, 28, 29, 30, 31, 32, 33, 34, 35, 36, 37, 38, 39, 40, 41, 42, 43, 44, 45, 46, 47, 48] (by decide +kernel) (by decide +kernel)
set_option maxRecDepth 20000 in
theorem gX7_mode_X7_forget : GoodIn wsX7_mode (wsV RX7 74 RX7 yX7_forget wsX7_forget) := goodIn_app (goodIn_of _ (by decide +kernel)) ggX7_mode_X7_forget
theorem dX7_mode_0 : decode cX7_mode 0 = .ok (.iload_n 1, 1) := by decide +kernel
theorem dX7_mode_1 : decode cX7_mode 1 = .ok (.ifCond .eq 10, 3) := by decide +kernel
theorem dX7_mode_4 : decode cX7_mode 4 = .ok (.iload_n 1, 1) := by decide +kernel
theorem dX7_mode_5 : decode cX7_mode 5 = .ok (.iconst 1, 1) := by decide +kernel
theorem dX7_mode_6 : decode cX7_mode 6 = .ok (.if_icmp .eq 5, 3) := by decide +kernel
theorem dX7_mode_9 : decode cX7_mode 9 = .ok (.iconst 0, 1) := by decide +kernel
theorem dX7_mode_10 : decode cX7_mode 10 = .ok (.ireturn, 1) := by decide +kernel
theorem dX7_mode_11 : decode cX7_mode 11 = .ok (.aload_n 0, 1) := by decide +kernel
theorem dX7_mode_12 : decode cX7_mode 12 = .ok (.getfield 10, 3) := by decide +kernel
theorem dX7_mode_15 : decode cX7_mode 15 = .ok (.iload_n 1, 1) := by decide +kernel
theorem dX7_mode_16 : decode cX7_mode 16 = .ok (.iconst 1, 1) := by decide +kernel
theorem dX7_mode_17 : decode cX7_mode 17 = .ok (.if_icmp .ne 7, 3) := by decide +kernel
theorem dX7_mode_20 : decode cX7_mode 20 = .ok (.iconst 1, 1) := by decide +kernel
theorem dX7_mode_21 : decode cX7_mode 21 = .ok (.goto 4, 3) := by decide +kernel
theorem dX7_mode_24 : decode cX7_mode 24 = .ok (.iconst 0, 1) := by decide +kernel
theorem dX7_mode_25 : decode cX7_mode 25 = .ok (.putfield 105, 3) := by decide +kernel
theorem dX7_mode_28 : decode cX7_mode 28 = .ok (.aload_n 0, 1) := by decide +kernel
theorem dX7_mode_29 : decode cX7_mode 29 = .ok (.invokevirtual 74, 3) := by decide +kernel
theorem dX7_mode_32 : decode cX7_mode 32 = .ok (.iconst 1, 1) := by decide +kernel
theorem dX7_mode_33 : decode cX7_mode 33 = .ok (.ireturn, 1) := by decide +kernel
set_option maxRecDepth 20000 in
theorem ggX7_run_X7_isName : GoodIn wsX7_run wsX7_isName := goodIn_r _ [8] (by decide +kernel) (by decide +kernel)
set_option maxRecDepth 20000 in
theorem gX7_run_X7_isName : GoodIn wsX7_run (va_wsS RX7 66 yX7_isName wsX7_isName) := goodIn_app (goodIn_of _ (by decide +kernel)) ggX7_run_X7_isName
set_option maxRecDepth 20000 in
theorem ggX7_run_X0_hold : GoodIn wsX7_run wsX0_hold := goodIn_r _ [13, 14, 15, 120, 121] (by decide +kernel) (by decide +kernel)
set_option maxRecDepth 20000 in
theorem gX7_run_X0_hold : GoodIn wsX7_run (wsV RX7 109 RX0 yX0_hold wsX0_hold) := goodIn_app (goodIn_of _ (by decide +kernel)) ggX7_run_X0_hold
set_option maxRecDepth 20000 in
theorem ggX7_run_X3_follow : GoodIn wsX7_run wsX3_follow := goodIn_r _ [20, 21, 22, 23, 24, 25, 26, 27, 28, 29, 30, 31, 32, 33, 34, 35, 36, 37, 38, 39, 40, 41, 42, 43, 44, 45, 46, 47, 48, 49, 50, 51, 52, 53, 54, 55, 56, 57, 58, 59, 60, 61, 62, 19, 63, 64, 65, 66, 67, 68, 69, 70, 71, 72, 73, 74, 75, 76, 77, 78, 79, 80, 81, 82, 83, 84, 7, 85, 86, 87, 88, 89, 90, 91, 92, 93, 94, 95, 96, 97, 98, 99, 100, 101, 102, 103, 104, 105, 106, 114, 115, 116, 117, 118, 119, 122, 123, 124, 125, 126, 127, 128, 129, 130, 131, 132, 133, 134, 135] (by decide +kernel) (by decide +kernel)
set_option maxRecDepth 20000 in
theorem gX7_run_X3_follow : GoodIn wsX7_run (wsV RX7 114 RX3 yX3_follow wsX3_follow) := goodIn_app (goodIn_of _ (by decide +kernel)) ggX7_run_X3_follow
theorem dX7_run_0 : decode cX7_run 0 = .ok (.iload_n 3, 1) := by decide +kernel
theorem dX7_run_1 : decode cX7_run 1 = .ok (.invokestatic 66, 3) := by decide +kernel
theorem dX7_run_4 : decode cX7_run 4 = .ok (.ifCond .eq 15, 3) := by decide +kernel
theorem dX7_run_7 : decode cX7_run 7 = .ok (.aload_n 0, 1) := by decide +kernel
theorem dX7_run_8 : decode cX7_run 8 = .ok (.getfield 19, 3) := by decide +kernel
theorem dX7_run_11 : decode cX7_run 11 = .ok (.iload_n 1, 1) := by decide +kernel
theorem dX7_run_12 : decode cX7_run 12 = .ok (.iload_n 2, 1) := by decide +kernel
theorem dX7_run_13 : decode cX7_run 13 = .ok (.invokevirtual 109, 3) := by decide +kernel
theorem dX7_run_16 : decode cX7_run 16 = .ok (.ifCond .ne 6, 3) := by decide +kernel
theorem dX7_run_19 : decode cX7_run 19 = .ok (.ldc 113, 2) := by decide +kernel
theorem dX7_run_21 : decode cX7_run 21 = .ok (.ireturn, 1) := by decide +kernel
theorem dX7_run_22 : decode cX7_run 22 = .ok (.aload_n 0, 1) := by decide +kernel
theorem dX7_run_23 : decode cX7_run 23 = .ok (.getfield 35, 3) := by decide +kernel
theorem dX7_run_26 : decode cX7_run 26 = .ok (.iload_n 1, 1) := by decide +kernel
theorem dX7_run_27 : decode cX7_run 27 = .ok (.iload_n 2, 1) := by decide +kernel
theorem dX7_run_28 : decode cX7_run 28 = .ok (.invokevirtual 114, 3) := by decide +kernel
theorem dX7_run_31 : decode cX7_run 31 = .ok (.aload_n 0, 1) := by decide +kernel
theorem dX7_run_32 : decode cX7_run 32 = .ok (.getfield 35, 3) := by decide +kernel
theorem dX7_run_35 : decode cX7_run 35 = .ok (.getfield 118, 3) := by decide +kernel
theorem dX7_run_38 : decode cX7_run 38 = .ok (.iload_n 3, 1) := by decide +kernel
theorem dX7_run_39 : decode cX7_run 39 = .ok (.laload, 1) := by decide +kernel
theorem dX7_run_40 : decode cX7_run 40 = .ok (.l2i, 1) := by decide +kernel
theorem dX7_run_41 : decode cX7_run 41 = .ok (.ireturn, 1) := by decide +kernel
set_option maxRecDepth 20000 in
theorem ggX7_first_X0_hold : GoodIn wsX7_first wsX0_hold := goodIn_r _ [8, 9, 10, 116, 117] (by decide +kernel) (by decide +kernel)
set_option maxRecDepth 20000 in
theorem gX7_first_X0_hold : GoodIn wsX7_first (wsV RX7 109 RX0 yX0_hold wsX0_hold) := goodIn_app (goodIn_of _ (by decide +kernel)) ggX7_first_X0_hold
set_option maxRecDepth 20000 in
theorem ggX7_first_X3_follow : GoodIn wsX7_first wsX3_follow := goodIn_r _ [15, 16, 17, 18, 19, 20, 21, 22, 23, 24, 25, 26, 27, 28, 29, 30, 31, 32, 33, 34, 35, 36, 37, 38, 39, 40, 41, 42, 43, 44, 45, 46, 47, 48, 49, 50, 51, 52, 53, 54, 55, 56, 57, 14, 58, 59, 60, 61, 62, 63, 64, 65, 66, 67, 68, 69, 70, 71, 72, 73, 74, 75, 76, 77, 78, 79, 80, 81, 82, 83, 84, 85, 86, 87, 88, 89, 90, 91, 92, 93, 94, 95, 96, 97, 98, 99, 100, 101, 102, 110, 111, 112, 113, 114, 115, 118, 119, 120, 121, 122, 123, 124, 125, 126, 127, 128, 129, 130, 131] (by decide +kernel) (by decide +kernel)
set_option maxRecDepth 20000 in
theorem gX7_first_X3_follow : GoodIn wsX7_first (wsV RX7 114 RX3 yX3_follow wsX3_follow) := goodIn_app (goodIn_of _ (by decide +kernel)) ggX7_first_X3_follow
theorem dX7_first_0 : decode cX7_first 0 = .ok (.aload_n 0, 1) := by decide +kernel
theorem dX7_first_1 : decode cX7_first 1 = .ok (.getfield 19, 3) := by decide +kernel
theorem dX7_first_4 : decode cX7_first 4 = .ok (.iload_n 1, 1) := by decide +kernel
theorem dX7_first_5 : decode cX7_first 5 = .ok (.iload_n 2, 1) := by decide +kernel
theorem dX7_first_6 : decode cX7_first 6 = .ok (.invokevirtual 109, 3) := by decide +kernel
theorem dX7_first_9 : decode cX7_first 9 = .ok (.ifCond .ne 5, 3) := by decide +kernel
theorem dX7_first_12 : decode cX7_first 12 = .ok (.iconst (-1), 1) := by decide +kernel
theorem dX7_first_13 : decode cX7_first 13 = .ok (.ireturn, 1) := by decide +kernel
theorem dX7_first_14 : decode cX7_first 14 = .ok (.aload_n 0, 1) := by decide +kernel
theorem dX7_first_15 : decode cX7_first 15 = .ok (.getfield 35, 3) := by decide +kernel
theorem dX7_first_18 : decode cX7_first 18 = .ok (.iload_n 1, 1) := by decide +kernel
theorem dX7_first_19 : decode cX7_first 19 = .ok (.iload_n 2, 1) := by decide +kernel
theorem dX7_first_20 : decode cX7_first 20 = .ok (.invokevirtual 114, 3) := by decide +kernel
theorem dX7_first_23 : decode cX7_first 23 = .ok (.aload_n 0, 1) := by decide +kernel
theorem dX7_first_24 : decode cX7_first 24 = .ok (.getfield 35, 3) := by decide +kernel
theorem dX7_first_27 : decode cX7_first 27 = .ok (.getfield 122, 3) := by decide +kernel
theorem dX7_first_30 : decode cX7_first 30 = .ok (.ireturn, 1) := by decide +kernel
set_option maxRecDepth 20000 in
theorem ggX7_judge_X7_isStep : GoodIn wsX7_judge wsX7_isStep := goodIn_r _ [7, 8, 9, 198, 199, 200, 201, 202, 203, 204, 205, 206, 207, 208, 209, 210, 211, 212, 213] (by decide +kernel) (by decide +kernel)
set_option maxRecDepth 20000 in
theorem gX7_judge_X7_isStep : GoodIn wsX7_judge (wsV RX7 125 RX7 yX7_isStep wsX7_isStep) := goodIn_app (goodIn_of _ (by decide +kernel)) ggX7_judge_X7_isStep
set_option maxRecDepth 20000 in
theorem ggX7_judge_X2_learn : GoodIn wsX7_judge wsX2_learn := goodIn_r _ [14, 15, 16, 17, 18, 19, 20, 21, 22, 23, 24, 25, 26, 27, 28, 29, 30, 31, 32, 33, 13, 34, 35, 36, 37, 38, 39, 40, 41, 42, 43, 44, 45, 46, 47, 48, 49, 50, 51, 52, 53, 54, 55, 56, 57, 58, 59, 60, 61, 62, 63, 64, 65, 66, 67, 68, 69, 70, 71, 72, 73, 74, 75, 76, 77, 78, 79, 80, 81, 82, 83, 84, 85, 86, 87, 88, 89, 90, 91, 92, 6, 93, 94, 214, 215, 216, 217, 218, 219, 220, 221, 222, 223, 224, 205, 206, 207, 208, 209, 210, 211, 212, 213, 225, 226, 227, 228, 229] (by decide +kernel) (by decide +kernel)
set_option maxRecDepth 20000 in
theorem gX7_judge_X2_learn : GoodIn wsX7_judge (wsV RX7 128 RX2 yX2_learn wsX2_learn) := goodIn_app (goodIn_of _ (by decide +kernel)) ggX7_judge_X2_learn
set_option maxRecDepth 20000 in
theorem ggX7_judge_X5_learn : GoodIn wsX7_judge wsX5_learn := goodIn_r _ [99, 100, 101, 102, 103, 104, 105, 106, 107, 108, 109, 110, 29, 111, 112, 113, 114, 115, 116, 117, 118, 119, 120, 121, 122, 123, 124, 125, 28, 30, 126, 127, 128, 46, 129, 130, 131, 51, 52, 53, 48, 49, 54, 55, 56, 57, 58, 59, 60, 132, 133, 134, 135, 136, 137, 138, 139, 140, 141, 142, 143, 144, 145, 146, 147, 148, 149, 150, 151, 152, 76, 77, 78, 79, 80, 153, 82, 83, 84, 85, 86, 92, 6, 93, 94, 154, 88, 89, 90, 91, 155, 156, 157, 158, 159, 160, 161, 162, 44, 45, 47, 163, 164, 165, 166, 167, 168, 169, 98, 170, 171, 172, 173, 174, 175, 176, 177, 178, 179, 180, 230, 231, 232, 233, 234, 235, 236, 223, 224, 237, 238, 239, 240, 241, 242, 205, 206, 207, 208, 209, 210, 211, 212, 213, 225, 226, 227, 228, 229] (by decide +kernel) (by decide +kernel)
set_option maxRecDepth 20000 in
theorem gX7_judge_X5_learn : GoodIn wsX7_judge (wsV RX7 131 RX5 yX5_learn wsX5_learn) := goodIn_app (goodIn_of _ (by decide +kernel)) ggX7_judge_X5_learn
set_option maxRecDepth 20000 in
theorem ggX7_judge_X7_judged : GoodIn wsX7_judge wsX7_judged := goodIn_r _ [184, 1, 2, 185, 186, 187, 188, 189, 13, 190, 16, 191, 192, 193, 194, 195, 196, 197, 198, 199, 200, 201, 202, 203, 204, 230, 231, 232, 233, 234, 235, 236, 214, 215, 216, 217, 218, 219, 220, 221, 222, 223, 224] (by decide +kernel) (by decide +kernel)
set_option maxRecDepth 20000 in
theorem gX7_judge_X7_judged : GoodIn wsX7_judge (wsV RX7 132 RX7 yX7_judged wsX7_judged) := goodIn_app (goodIn_of _ (by decide +kernel)) ggX7_judge_X7_judged
theorem dX7_judge_0 : decode cX7_judge 0 = .ok (.aload_n 0, 1) := by decide +kernel
theorem dX7_judge_1 : decode cX7_judge 1 = .ok (.iload_n 1, 1) := by decide +kernel
theorem dX7_judge_2 : decode cX7_judge 2 = .ok (.invokevirtual 125, 3) := by decide +kernel
theorem dX7_judge_5 : decode cX7_judge 5 = .ok (.ifCond .ne 5, 3) := by decide +kernel
theorem dX7_judge_8 : decode cX7_judge 8 = .ok (.iconst (-1), 1) := by decide +kernel
theorem dX7_judge_9 : decode cX7_judge 9 = .ok (.ireturn, 1) := by decide +kernel
theorem dX7_judge_10 : decode cX7_judge 10 = .ok (.aload_n 0, 1) := by decide +kernel
theorem dX7_judge_11 : decode cX7_judge 11 = .ok (.getfield 53, 3) := by decide +kernel
theorem dX7_judge_14 : decode cX7_judge 14 = .ok (.invokevirtual 128, 3) := by decide +kernel
theorem dX7_judge_17 : decode cX7_judge 17 = .ok (.aload_n 0, 1) := by decide +kernel
theorem dX7_judge_18 : decode cX7_judge 18 = .ok (.getfield 44, 3) := by decide +kernel
theorem dX7_judge_21 : decode cX7_judge 21 = .ok (.invokevirtual 131, 3) := by decide +kernel
theorem dX7_judge_24 : decode cX7_judge 24 = .ok (.aload_n 0, 1) := by decide +kernel
theorem dX7_judge_25 : decode cX7_judge 25 = .ok (.iload_n 1, 1) := by decide +kernel
theorem dX7_judge_26 : decode cX7_judge 26 = .ok (.invokevirtual 132, 3) := by decide +kernel
theorem dX7_judge_29 : decode cX7_judge 29 = .ok (.ireturn, 1) := by decide +kernel
set_option maxRecDepth 20000 in
theorem ggX7_over_X7_isStep : GoodIn wsX7_over wsX7_isStep := goodIn_r _ [7, 8, 9, 132, 133, 134, 135, 136, 137, 138, 146, 147, 148, 149, 150, 151, 152, 153, 154] (by decide +kernel) (by decide +kernel)
set_option maxRecDepth 20000 in
theorem gX7_over_X7_isStep : GoodIn wsX7_over (wsV RX7 125 RX7 yX7_isStep wsX7_isStep) := goodIn_app (goodIn_of _ (by decide +kernel)) ggX7_over_X7_isStep
set_option maxRecDepth 20000 in
theorem ggX7_over_X5_learn : GoodIn wsX7_over wsX5_learn := goodIn_r _ [14, 15, 16, 17, 18, 19, 20, 21, 22, 23, 24, 25, 26, 27, 28, 29, 30, 31, 32, 33, 34, 35, 36, 37, 38, 39, 40, 41, 42, 43, 44, 45, 46, 47, 48, 49, 50, 51, 52, 53, 54, 55, 56, 57, 58, 59, 60, 61, 62, 63, 64, 65, 66, 67, 68, 69, 70, 71, 72, 73, 74, 75, 76, 77, 78, 79, 80, 81, 82, 83, 84, 85, 86, 87, 88, 89, 90, 91, 92, 93, 94, 95, 6, 96, 97, 98, 99, 100, 101, 102, 103, 104, 105, 106, 107, 108, 109, 110, 111, 112, 113, 114, 115, 116, 117, 118, 119, 120, 13, 121, 122, 123, 124, 125, 126, 127, 128, 129, 130, 131, 139, 140, 141, 142, 143, 144, 145, 155, 156, 157, 158, 159, 160, 161, 162, 146, 147, 148, 149, 150, 151, 152, 153, 154, 163, 164, 165, 166, 167] (by decide +kernel) (by decide +kernel)
set_option maxRecDepth 20000 in
theorem gX7_over_X5_learn : GoodIn wsX7_over (wsV RX7 131 RX5 yX5_learn wsX5_learn) := goodIn_app (goodIn_of _ (by decide +kernel)) ggX7_over_X5_learn
theorem dX7_over_0 : decode cX7_over 0 = .ok (.aload_n 0, 1) := by decide +kernel
theorem dX7_over_1 : decode cX7_over 1 = .ok (.iload_n 1, 1) := by decide +kernel
theorem dX7_over_2 : decode cX7_over 2 = .ok (.invokevirtual 125, 3) := by decide +kernel
theorem dX7_over_5 : decode cX7_over 5 = .ok (.ifCond .ne 5, 3) := by decide +kernel
theorem dX7_over_8 : decode cX7_over 8 = .ok (.iconst (-1), 1) := by decide +kernel
theorem dX7_over_9 : decode cX7_over 9 = .ok (.ireturn, 1) := by decide +kernel
theorem dX7_over_10 : decode cX7_over 10 = .ok (.aload_n 0, 1) := by decide +kernel
theorem dX7_over_11 : decode cX7_over 11 = .ok (.getfield 44, 3) := by decide +kernel
theorem dX7_over_14 : decode cX7_over 14 = .ok (.invokevirtual 131, 3) := by decide +kernel
theorem dX7_over_17 : decode cX7_over 17 = .ok (.aload_n 0, 1) := by decide +kernel
theorem dX7_over_18 : decode cX7_over 18 = .ok (.getfield 44, 3) := by decide +kernel
theorem dX7_over_21 : decode cX7_over 21 = .ok (.getfield 136, 3) := by decide +kernel
theorem dX7_over_24 : decode cX7_over 24 = .ok (.iload_n 1, 1) := by decide +kernel
theorem dX7_over_25 : decode cX7_over 25 = .ok (.iaload, 1) := by decide +kernel
theorem dX7_over_26 : decode cX7_over 26 = .ok (.ireturn, 1) := by decide +kernel
set_option maxRecDepth 20000 in
theorem ggX7_shown_X7_isStep : GoodIn wsX7_shown wsX7_isStep := goodIn_r _ [7, 8, 9, 132, 133, 134, 135, 136, 137, 138, 146, 147, 148, 149, 150, 151, 152, 153, 154] (by decide +kernel) (by decide +kernel)
set_option maxRecDepth 20000 in
theorem gX7_shown_X7_isStep : GoodIn wsX7_shown (wsV RX7 125 RX7 yX7_isStep wsX7_isStep) := goodIn_app (goodIn_of _ (by decide +kernel)) ggX7_shown_X7_isStep
set_option maxRecDepth 20000 in
theorem ggX7_shown_X5_learn : GoodIn wsX7_shown wsX5_learn := goodIn_r _ [14, 15, 16, 17, 18, 19, 20, 21, 22, 23, 24, 25, 26, 27, 28, 29, 30, 31, 32, 33, 34, 35, 36, 37, 38, 39, 40, 41, 42, 43, 44, 45, 46, 47, 48, 49, 50, 51, 52, 53, 54, 55, 56, 57, 58, 59, 60, 61, 62, 63, 64, 65, 66, 67, 68, 69, 70, 71, 72, 73, 74, 75, 76, 77, 78, 79, 80, 81, 82, 83, 84, 85, 86, 87, 88, 89, 90, 91, 92, 93, 94, 95, 6, 96, 97, 98, 99, 100, 101, 102, 103, 104, 105, 106, 107, 108, 109, 110, 111, 112, 113, 114, 115, 116, 117, 118, 119, 120, 13, 121, 122, 123, 124, 125, 126, 127, 128, 129, 130, 131, 139, 140, 141, 142, 143, 144, 145, 155, 156, 157, 158, 159, 160, 161, 162, 146, 147, 148, 149, 150, 151, 152, 153, 154, 163, 164, 165, 166, 167] (by decide +kernel) (by decide +kernel)
set_option maxRecDepth 20000 in
theorem gX7_shown_X5_learn : GoodIn wsX7_shown (wsV RX7 131 RX5 yX5_learn wsX5_learn) := goodIn_app (goodIn_of _ (by decide +kernel)) ggX7_shown_X5_learn
theorem dX7_shown_0 : decode cX7_shown 0 = .ok (.aload_n 0, 1) := by decide +kernel
theorem dX7_shown_1 : decode cX7_shown 1 = .ok (.iload_n 1, 1) := by decide +kernel
theorem dX7_shown_2 : decode cX7_shown 2 = .ok (.invokevirtual 125, 3) := by decide +kernel
theorem dX7_shown_5 : decode cX7_shown 5 = .ok (.ifCond .ne 5, 3) := by decide +kernel
theorem dX7_shown_8 : decode cX7_shown 8 = .ok (.iconst (-1), 1) := by decide +kernel
theorem dX7_shown_9 : decode cX7_shown 9 = .ok (.ireturn, 1) := by decide +kernel
theorem dX7_shown_10 : decode cX7_shown 10 = .ok (.aload_n 0, 1) := by decide +kernel
theorem dX7_shown_11 : decode cX7_shown 11 = .ok (.getfield 44, 3) := by decide +kernel
theorem dX7_shown_14 : decode cX7_shown 14 = .ok (.invokevirtual 131, 3) := by decide +kernel
theorem dX7_shown_17 : decode cX7_shown 17 = .ok (.aload_n 0, 1) := by decide +kernel
theorem dX7_shown_18 : decode cX7_shown 18 = .ok (.getfield 44, 3) := by decide +kernel
theorem dX7_shown_21 : decode cX7_shown 21 = .ok (.getfield 139, 3) := by decide +kernel
theorem dX7_shown_24 : decode cX7_shown 24 = .ok (.iload_n 1, 1) := by decide +kernel
theorem dX7_shown_25 : decode cX7_shown 25 = .ok (.iaload, 1) := by decide +kernel
theorem dX7_shown_26 : decode cX7_shown 26 = .ok (.ireturn, 1) := by decide +kernel
set_option maxRecDepth 20000 in
theorem ggX7_turned_X7_isStep : GoodIn wsX7_turned wsX7_isStep := goodIn_r _ [9, 1, 10, 133, 134, 135, 136, 137, 138, 139, 140, 141, 142, 143, 144, 145, 146, 147, 148] (by decide +kernel) (by decide +kernel)
set_option maxRecDepth 20000 in
theorem gX7_turned_X7_isStep : GoodIn wsX7_turned (wsV RX7 125 RX7 yX7_isStep wsX7_isStep) := goodIn_app (goodIn_of _ (by decide +kernel)) ggX7_turned_X7_isStep
set_option maxRecDepth 20000 in
theorem ggX7_turned_X5_learn : GoodIn wsX7_turned wsX5_learn := goodIn_r _ [15, 16, 17, 18, 19, 20, 21, 22, 23, 24, 25, 26, 27, 28, 29, 30, 31, 32, 33, 34, 35, 36, 37, 38, 39, 40, 41, 42, 43, 44, 45, 46, 47, 48, 49, 50, 51, 52, 53, 54, 55, 56, 57, 58, 59, 60, 61, 62, 63, 64, 65, 66, 67, 68, 69, 70, 71, 72, 73, 74, 75, 76, 77, 78, 79, 80, 81, 82, 83, 84, 85, 86, 87, 88, 89, 90, 91, 92, 93, 94, 95, 96, 8, 97, 98, 99, 100, 101, 102, 103, 104, 105, 106, 107, 108, 109, 110, 111, 112, 113, 114, 115, 116, 117, 118, 119, 120, 121, 14, 122, 123, 124, 125, 126, 127, 128, 129, 130, 131, 132, 149, 150, 151, 152, 153, 154, 155, 156, 157, 158, 159, 160, 161, 162, 163, 140, 141, 142, 143, 144, 145, 146, 147, 148, 164, 165, 166, 167, 168] (by decide +kernel) (by decide +kernel)
set_option maxRecDepth 20000 in
theorem gX7_turned_X5_learn : GoodIn wsX7_turned (wsV RX7 131 RX5 yX5_learn wsX5_learn) := goodIn_app (goodIn_of _ (by decide +kernel)) ggX7_turned_X5_learn
theorem dX7_turned_0 : decode cX7_turned 0 = .ok (.aload_n 0, 1) := by decide +kernel
theorem dX7_turned_1 : decode cX7_turned 1 = .ok (.iload_n 1, 1) := by decide +kernel
theorem dX7_turned_2 : decode cX7_turned 2 = .ok (.invokevirtual 125, 3) := by decide +kernel
theorem dX7_turned_5 : decode cX7_turned 5 = .ok (.ifCond .eq 17, 3) := by decide +kernel
theorem dX7_turned_8 : decode cX7_turned 8 = .ok (.aload_n 0, 1) := by decide +kernel
theorem dX7_turned_9 : decode cX7_turned 9 = .ok (.getfield 26, 3) := by decide +kernel
theorem dX7_turned_12 : decode cX7_turned 12 = .ok (.getfield 142, 3) := by decide +kernel
theorem dX7_turned_15 : decode cX7_turned 15 = .ok (.iload_n 1, 1) := by decide +kernel
theorem dX7_turned_16 : decode cX7_turned 16 = .ok (.iaload, 1) := by decide +kernel
theorem dX7_turned_17 : decode cX7_turned 17 = .ok (.bipush 7, 2) := by decide +kernel
theorem dX7_turned_19 : decode cX7_turned 19 = .ok (.if_icmp .eq 5, 3) := by decide +kernel
theorem dX7_turned_22 : decode cX7_turned 22 = .ok (.iconst (-1), 1) := by decide +kernel
theorem dX7_turned_23 : decode cX7_turned 23 = .ok (.ireturn, 1) := by decide +kernel
theorem dX7_turned_24 : decode cX7_turned 24 = .ok (.aload_n 0, 1) := by decide +kernel
theorem dX7_turned_25 : decode cX7_turned 25 = .ok (.getfield 44, 3) := by decide +kernel
theorem dX7_turned_28 : decode cX7_turned 28 = .ok (.invokevirtual 131, 3) := by decide +kernel
theorem dX7_turned_31 : decode cX7_turned 31 = .ok (.aload_n 0, 1) := by decide +kernel
theorem dX7_turned_32 : decode cX7_turned 32 = .ok (.getfield 44, 3) := by decide +kernel
theorem dX7_turned_35 : decode cX7_turned 35 = .ok (.getfield 145, 3) := by decide +kernel
theorem dX7_turned_38 : decode cX7_turned 38 = .ok (.iload_n 1, 1) := by decide +kernel
theorem dX7_turned_39 : decode cX7_turned 39 = .ok (.iaload, 1) := by decide +kernel
theorem dX7_turned_40 : decode cX7_turned 40 = .ok (.ireturn, 1) := by decide +kernel
set_option maxRecDepth 20000 in
theorem ggX7_ends_X7_isName : GoodIn wsX7_ends wsX7_isName := goodIn_r _ [8] (by decide +kernel) (by decide +kernel)
set_option maxRecDepth 20000 in
theorem gX7_ends_X7_isName : GoodIn wsX7_ends (va_wsS RX7 66 yX7_isName wsX7_isName) := goodIn_app (goodIn_of _ (by decide +kernel)) ggX7_ends_X7_isName
set_option maxRecDepth 20000 in
theorem ggX7_ends_X2_learn : GoodIn wsX7_ends wsX2_learn := goodIn_r _ [13, 14, 15, 16, 17, 18, 19, 20, 21, 22, 23, 24, 25, 26, 27, 28, 29, 30, 31, 32, 12, 33, 34, 35, 36, 37, 38, 39, 40, 41, 42, 43, 44, 45, 46, 47, 48, 49, 50, 51, 52, 53, 54, 55, 56, 57, 58, 59, 60, 61, 62, 63, 64, 65, 66, 67, 68, 69, 70, 71, 72, 73, 74, 75, 76, 77, 78, 79, 80, 81, 82, 83, 84, 85, 86, 87, 88, 89, 90, 91, 7, 92, 93, 101, 102, 103, 104, 105, 106, 107, 108, 109, 110, 111, 112, 113, 114, 115, 116, 117, 118, 119, 120, 121, 122, 123, 124, 125] (by decide +kernel) (by decide +kernel)
set_option maxRecDepth 20000 in
theorem gX7_ends_X2_learn : GoodIn wsX7_ends (wsV RX7 128 RX2 yX2_learn wsX2_learn) := goodIn_app (goodIn_of _ (by decide +kernel)) ggX7_ends_X2_learn
theorem dX7_ends_0 : decode cX7_ends 0 = .ok (.iload_n 1, 1) := by decide +kernel
theorem dX7_ends_1 : decode cX7_ends 1 = .ok (.invokestatic 66, 3) := by decide +kernel
theorem dX7_ends_4 : decode cX7_ends 4 = .ok (.ifCond .eq 12, 3) := by decide +kernel
theorem dX7_ends_7 : decode cX7_ends 7 = .ok (.iload_n 2, 1) := by decide +kernel
theorem dX7_ends_8 : decode cX7_ends 8 = .ok (.ifCond .eq 11, 3) := by decide +kernel
theorem dX7_ends_11 : decode cX7_ends 11 = .ok (.iload_n 2, 1) := by decide +kernel
theorem dX7_ends_12 : decode cX7_ends 12 = .ok (.iconst 1, 1) := by decide +kernel
theorem dX7_ends_13 : decode cX7_ends 13 = .ok (.if_icmp .eq 6, 3) := by decide +kernel
theorem dX7_ends_16 : decode cX7_ends 16 = .ok (.ldc 113, 2) := by decide +kernel
theorem dX7_ends_18 : decode cX7_ends 18 = .ok (.ireturn, 1) := by decide +kernel
theorem dX7_ends_19 : decode cX7_ends 19 = .ok (.aload_n 0, 1) := by decide +kernel
theorem dX7_ends_20 : decode cX7_ends 20 = .ok (.getfield 53, 3) := by decide +kernel
theorem dX7_ends_23 : decode cX7_ends 23 = .ok (.invokevirtual 128, 3) := by decide +kernel
theorem dX7_ends_26 : decode cX7_ends 26 = .ok (.iload_n 2, 1) := by decide +kernel
theorem dX7_ends_27 : decode cX7_ends 27 = .ok (.ifCond .ne 15, 3) := by decide +kernel
theorem dX7_ends_30 : decode cX7_ends 30 = .ok (.aload_n 0, 1) := by decide +kernel
theorem dX7_ends_31 : decode cX7_ends 31 = .ok (.getfield 53, 3) := by decide +kernel
theorem dX7_ends_34 : decode cX7_ends 34 = .ok (.getfield 148, 3) := by decide +kernel
theorem dX7_ends_37 : decode cX7_ends 37 = .ok (.iload_n 1, 1) := by decide +kernel
theorem dX7_ends_38 : decode cX7_ends 38 = .ok (.laload, 1) := by decide +kernel
theorem dX7_ends_39 : decode cX7_ends 39 = .ok (.goto 12, 3) := by decide +kernel
theorem dX7_ends_42 : decode cX7_ends 42 = .ok (.aload_n 0, 1) := by decide +kernel
theorem dX7_ends_43 : decode cX7_ends 43 = .ok (.getfield 53, 3) := by decide +kernel
theorem dX7_ends_46 : decode cX7_ends 46 = .ok (.getfield 151, 3) := by decide +kernel
theorem dX7_ends_49 : decode cX7_ends 49 = .ok (.iload_n 1, 1) := by decide +kernel
theorem dX7_ends_50 : decode cX7_ends 50 = .ok (.laload, 1) := by decide +kernel
theorem dX7_ends_51 : decode cX7_ends 51 = .ok (.l2i, 1) := by decide +kernel
theorem dX7_ends_52 : decode cX7_ends 52 = .ok (.ireturn, 1) := by decide +kernel
set_option maxRecDepth 20000 in
theorem ggX7_need_X7_isName : GoodIn wsX7_need wsX7_isName := goodIn_r _ [5] (by decide +kernel) (by decide +kernel)
set_option maxRecDepth 20000 in
theorem gX7_need_X7_isName : GoodIn wsX7_need (va_wsS RX7 66 yX7_isName wsX7_isName) := goodIn_app (goodIn_of _ (by decide +kernel)) ggX7_need_X7_isName
set_option maxRecDepth 20000 in
theorem ggX7_need_X6_learn : GoodIn wsX7_need wsX6_learn := goodIn_r _ [10, 11, 12, 13, 14, 15, 16, 17, 18, 19, 20, 21, 22, 23, 24, 9, 25, 26, 27, 28, 29, 30, 31, 32, 33, 34, 35, 36, 37, 38, 39, 40, 41, 42, 43, 44, 45, 46, 47, 48, 49, 50, 51, 52, 53, 54, 55, 56, 57, 58, 59, 60, 61, 62, 63, 64, 65, 66, 4, 67, 68, 91, 92, 93, 94, 95, 96, 97, 98, 99, 100, 101, 102, 103, 104, 105, 106, 107, 108] (by decide +kernel) (by decide +kernel)
set_option maxRecDepth 20000 in
theorem gX7_need_X6_learn : GoodIn wsX7_need (wsV RX7 154 RX6 yX6_learn wsX6_learn) := goodIn_app (goodIn_of _ (by decide +kernel)) ggX7_need_X6_learn
set_option maxRecDepth 20000 in
theorem ggX7_need_X7_needed : GoodIn wsX7_need wsX7_needed := goodIn_r _ [72, 1, 73, 74, 75, 76, 77, 78, 79, 4, 80, 81, 82, 83, 84, 85, 86, 87, 88, 89, 90, 91, 92, 93, 94, 95, 96, 97, 109, 110, 111, 112, 113] (by decide +kernel) (by decide +kernel)
set_option maxRecDepth 20000 in
theorem gX7_need_X7_needed : GoodIn wsX7_need (wsV RX7 155 RX7 yX7_needed wsX7_needed) := goodIn_app (goodIn_of _ (by decide +kernel)) ggX7_need_X7_needed
theorem dX7_need_0 : decode cX7_need 0 = .ok (.iload_n 1, 1) := by decide +kernel
theorem dX7_need_1 : decode cX7_need 1 = .ok (.invokestatic 66, 3) := by decide +kernel
theorem dX7_need_4 : decode cX7_need 4 = .ok (.ifCond .ne 5, 3) := by decide +kernel
theorem dX7_need_7 : decode cX7_need 7 = .ok (.iconst (-1), 1) := by decide +kernel
theorem dX7_need_8 : decode cX7_need 8 = .ok (.ireturn, 1) := by decide +kernel
theorem dX7_need_9 : decode cX7_need 9 = .ok (.aload_n 0, 1) := by decide +kernel
theorem dX7_need_10 : decode cX7_need 10 = .ok (.getfield 62, 3) := by decide +kernel
theorem dX7_need_13 : decode cX7_need 13 = .ok (.invokevirtual 154, 3) := by decide +kernel
theorem dX7_need_16 : decode cX7_need 16 = .ok (.aload_n 0, 1) := by decide +kernel
theorem dX7_need_17 : decode cX7_need 17 = .ok (.iload_n 1, 1) := by decide +kernel
theorem dX7_need_18 : decode cX7_need 18 = .ok (.invokevirtual 155, 3) := by decide +kernel
theorem dX7_need_21 : decode cX7_need 21 = .ok (.ireturn, 1) := by decide +kernel
set_option maxRecDepth 20000 in
theorem ggX7_price_X6_learn : GoodIn wsX7_price wsX6_learn := goodIn_r _ [12, 13, 14, 15, 16, 17, 18, 19, 20, 21, 22, 23, 24, 25, 26, 11, 27, 28, 29, 30, 31, 32, 33, 34, 35, 36, 37, 6, 38, 39, 40, 41, 42, 43, 44, 45, 46, 47, 48, 49, 50, 51, 52, 53, 54, 55, 56, 57, 58, 59, 60, 61, 62, 63, 64, 65, 66, 67, 68, 69, 70, 101, 102, 103, 104, 105, 106, 107, 108, 109, 110, 111, 112, 113, 114, 115, 116, 117, 118] (by decide +kernel) (by decide +kernel)
set_option maxRecDepth 20000 in
theorem gX7_price_X6_learn : GoodIn wsX7_price (wsV RX7 154 RX6 yX6_learn wsX6_learn) := goodIn_app (goodIn_of _ (by decide +kernel)) ggX7_price_X6_learn
set_option maxRecDepth 20000 in
theorem ggX7_price_X7_canMend : GoodIn wsX7_price wsX7_canMend := goodIn_r _ [74, 75, 76, 77, 68, 78, 1, 79, 2, 80, 81, 82, 83, 84, 85, 86, 87, 88, 89, 90, 91, 92, 93, 94, 95, 101, 102, 103, 104, 105, 106, 107, 96, 97, 98, 99, 100] (by decide +kernel) (by decide +kernel)
set_option maxRecDepth 20000 in
theorem gX7_price_X7_canMend : GoodIn wsX7_price (wsV RX7 158 RX7 yX7_canMend wsX7_canMend) := goodIn_app (goodIn_of _ (by decide +kernel)) ggX7_price_X7_canMend
set_option maxRecDepth 20000 in
theorem ggX7_price_X7_needed : GoodIn wsX7_price wsX7_needed := goodIn_r _ [78, 1, 79, 2, 80, 81, 82, 83, 84, 68, 85, 86, 87, 88, 89, 90, 91, 92, 93, 94, 95, 101, 102, 103, 104, 105, 106, 107, 96, 97, 98, 99, 100] (by decide +kernel) (by decide +kernel)
set_option maxRecDepth 20000 in
theorem gX7_price_X7_needed : GoodIn wsX7_price (wsV RX7 155 RX7 yX7_needed wsX7_needed) := goodIn_app (goodIn_of _ (by decide +kernel)) ggX7_price_X7_needed
theorem dX7_price_0 : decode cX7_price 0 = .ok (.aload_n 0, 1) := by decide +kernel
theorem dX7_price_1 : decode cX7_price 1 = .ok (.getfield 62, 3) := by decide +kernel
theorem dX7_price_4 : decode cX7_price 4 = .ok (.invokevirtual 154, 3) := by decide +kernel
theorem dX7_price_7 : decode cX7_price 7 = .ok (.aload_n 0, 1) := by decide +kernel
theorem dX7_price_8 : decode cX7_price 8 = .ok (.invokevirtual 158, 3) := by decide +kernel
theorem dX7_price_11 : decode cX7_price 11 = .ok (.ifCond .ne 5, 3) := by decide +kernel
theorem dX7_price_14 : decode cX7_price 14 = .ok (.iconst (-1), 1) := by decide +kernel
theorem dX7_price_15 : decode cX7_price 15 = .ok (.ireturn, 1) := by decide +kernel
theorem dX7_price_16 : decode cX7_price 16 = .ok (.iconst 0, 1) := by decide +kernel
theorem dX7_price_17 : decode cX7_price 17 = .ok (.istore_n 1, 1) := by decide +kernel
theorem dX7_price_18 : decode cX7_price 18 = .ok (.iconst 0, 1) := by decide +kernel
theorem dX7_price_19 : decode cX7_price 19 = .ok (.istore_n 2, 1) := by decide +kernel
theorem dX7_price_20 : decode cX7_price 20 = .ok (.iload_n 2, 1) := by decide +kernel
theorem dX7_price_21 : decode cX7_price 21 = .ok (.bipush 6, 2) := by decide +kernel
theorem dX7_price_23 : decode cX7_price 23 = .ok (.if_icmp .ge 31, 3) := by decide +kernel
theorem dX7_price_26 : decode cX7_price 26 = .ok (.iload_n 1, 1) := by decide +kernel
theorem dX7_price_27 : decode cX7_price 27 = .ok (.iconst 0, 1) := by decide +kernel
theorem dX7_price_28 : decode cX7_price 28 = .ok (.aload_n 0, 1) := by decide +kernel
theorem dX7_price_29 : decode cX7_price 29 = .ok (.iload_n 2, 1) := by decide +kernel
theorem dX7_price_30 : decode cX7_price 30 = .ok (.invokevirtual 155, 3) := by decide +kernel
theorem dX7_price_33 : decode cX7_price 33 = .ok (.aload_n 0, 1) := by decide +kernel
theorem dX7_price_34 : decode cX7_price 34 = .ok (.getfield 10, 3) := by decide +kernel
theorem dX7_price_37 : decode cX7_price 37 = .ok (.getfield 162, 3) := by decide +kernel
theorem dX7_price_40 : decode cX7_price 40 = .ok (.iload_n 2, 1) := by decide +kernel
theorem dX7_price_41 : decode cX7_price 41 = .ok (.iaload, 1) := by decide +kernel
theorem dX7_price_42 : decode cX7_price 42 = .ok (.isub, 1) := by decide +kernel
theorem dX7_price_43 : decode cX7_price 43 = .ok (.invokestatic 165, 3) := by decide +kernel
theorem dX7_price_46 : decode cX7_price 46 = .ok (.iadd, 1) := by decide +kernel
theorem dX7_price_47 : decode cX7_price 47 = .ok (.istore_n 1, 1) := by decide +kernel
theorem dX7_price_48 : decode cX7_price 48 = .ok (.iinc 2 1, 3) := by decide +kernel
theorem dX7_price_51 : decode cX7_price 51 = .ok (.goto (-31), 3) := by decide +kernel
theorem dX7_price_54 : decode cX7_price 54 = .ok (.iload_n 1, 1) := by decide +kernel
theorem dX7_price_55 : decode cX7_price 55 = .ok (.ireturn, 1) := by decide +kernel
set_option maxRecDepth 20000 in
theorem ggX7_mend_X6_learn : GoodIn wsX7_mend wsX6_learn := goodIn_r _ [9, 10, 11, 12, 13, 14, 15, 16, 17, 18, 19, 20, 21, 22, 23, 8, 24, 25, 26, 27, 28, 29, 30, 31, 32, 33, 34, 35, 36, 37, 38, 39, 40, 41, 42, 43, 44, 45, 46, 47, 48, 49, 50, 51, 52, 53, 54, 55, 56, 57, 58, 59, 60, 61, 62, 63, 64, 65, 66, 67, 68, 116, 117, 118, 119, 120, 121, 122, 123, 124, 125, 126, 127, 128, 129, 130, 131, 132, 133] (by decide +kernel) (by decide +kernel)
set_option maxRecDepth 20000 in
theorem gX7_mend_X6_learn : GoodIn wsX7_mend (wsV RX7 154 RX6 yX6_learn wsX6_learn) := goodIn_app (goodIn_of _ (by decide +kernel)) ggX7_mend_X6_learn
set_option maxRecDepth 20000 in
theorem ggX7_mend_X7_canMend : GoodIn wsX7_mend wsX7_canMend := goodIn_r _ [72, 73, 74, 75, 66, 76, 1, 77, 2, 4, 78, 79, 80, 81, 82, 83, 84, 85, 104, 105, 106, 107, 108, 109, 110, 116, 117, 118, 119, 120, 121, 122, 111, 112, 113, 114, 115] (by decide +kernel) (by decide +kernel)
set_option maxRecDepth 20000 in
theorem gX7_mend_X7_canMend : GoodIn wsX7_mend (wsV RX7 158 RX7 yX7_canMend wsX7_canMend) := goodIn_app (goodIn_of _ (by decide +kernel)) ggX7_mend_X7_canMend
set_option maxRecDepth 20000 in
theorem ggX7_mend_X7_needed : GoodIn wsX7_mend wsX7_needed := goodIn_r _ [76, 1, 77, 2, 4, 78, 79, 80, 81, 66, 82, 83, 84, 85, 104, 105, 106, 107, 108, 109, 110, 116, 117, 118, 119, 120, 121, 122, 111, 112, 113, 114, 115] (by decide +kernel) (by decide +kernel)
set_option maxRecDepth 20000 in
theorem gX7_mend_X7_needed : GoodIn wsX7_mend (wsV RX7 155 RX7 yX7_needed wsX7_needed) := goodIn_app (goodIn_of _ (by decide +kernel)) ggX7_mend_X7_needed
set_option maxRecDepth 20000 in
theorem ggX7_mend_X1_tell : GoodIn wsX7_mend wsX1_tell := goodIn_r _ [90, 91, 92, 93, 94, 81, 66, 82, 84, 85, 111, 112, 113, 114, 115] (by decide +kernel) (by decide +kernel)
set_option maxRecDepth 20000 in
theorem gX7_mend_X1_tell : GoodIn wsX7_mend (wsV RX7 70 RX1 yX1_tell wsX1_tell) := goodIn_app (goodIn_of _ (by decide +kernel)) ggX7_mend_X1_tell
set_option maxRecDepth 20000 in
theorem ggX7_mend_X7_forget : GoodIn wsX7_mend wsX7_forget := goodIn_r _ [98, 99, 100, 101, 102, 1, 103, 104, 105, 106, 107, 108, 109, 110, 134, 135, 136, 137, 138, 139, 140, 141, 142, 143, 144, 145, 146, 147, 148, 149, 116, 117, 118, 119, 120, 121, 122] (by decide +kernel) (by decide +kernel)
set_option maxRecDepth 20000 in
theorem gX7_mend_X7_forget : GoodIn wsX7_mend (wsV RX7 74 RX7 yX7_forget wsX7_forget) := goodIn_app (goodIn_of _ (by decide +kernel)) ggX7_mend_X7_forget
theorem dX7_mend_0 : decode cX7_mend 0 = .ok (.aload_n 0, 1) := by decide +kernel
theorem dX7_mend_1 : decode cX7_mend 1 = .ok (.getfield 62, 3) := by decide +kernel
theorem dX7_mend_4 : decode cX7_mend 4 = .ok (.invokevirtual 154, 3) := by decide +kernel
theorem dX7_mend_7 : decode cX7_mend 7 = .ok (.aload_n 0, 1) := by decide +kernel
theorem dX7_mend_8 : decode cX7_mend 8 = .ok (.invokevirtual 158, 3) := by decide +kernel
theorem dX7_mend_11 : decode cX7_mend 11 = .ok (.ifCond .ne 5, 3) := by decide +kernel
theorem dX7_mend_14 : decode cX7_mend 14 = .ok (.iconst (-1), 1) := by decide +kernel
theorem dX7_mend_15 : decode cX7_mend 15 = .ok (.ireturn, 1) := by decide +kernel
theorem dX7_mend_16 : decode cX7_mend 16 = .ok (.iconst 0, 1) := by decide +kernel
theorem dX7_mend_17 : decode cX7_mend 17 = .ok (.istore_n 1, 1) := by decide +kernel
theorem dX7_mend_18 : decode cX7_mend 18 = .ok (.iconst 0, 1) := by decide +kernel
theorem dX7_mend_19 : decode cX7_mend 19 = .ok (.istore_n 2, 1) := by decide +kernel
theorem dX7_mend_20 : decode cX7_mend 20 = .ok (.iload_n 2, 1) := by decide +kernel
theorem dX7_mend_21 : decode cX7_mend 21 = .ok (.bipush 6, 2) := by decide +kernel
theorem dX7_mend_23 : decode cX7_mend 23 = .ok (.if_icmp .ge 49, 3) := by decide +kernel
theorem dX7_mend_26 : decode cX7_mend 26 = .ok (.aload_n 0, 1) := by decide +kernel
theorem dX7_mend_27 : decode cX7_mend 27 = .ok (.iload_n 2, 1) := by decide +kernel
theorem dX7_mend_28 : decode cX7_mend 28 = .ok (.invokevirtual 155, 3) := by decide +kernel
theorem dX7_mend_31 : decode cX7_mend 31 = .ok (.istore_n 3, 1) := by decide +kernel
theorem dX7_mend_32 : decode cX7_mend 32 = .ok (.iload_n 3, 1) := by decide +kernel
theorem dX7_mend_33 : decode cX7_mend 33 = .ok (.aload_n 0, 1) := by decide +kernel
theorem dX7_mend_34 : decode cX7_mend 34 = .ok (.getfield 10, 3) := by decide +kernel
theorem dX7_mend_37 : decode cX7_mend 37 = .ok (.getfield 162, 3) := by decide +kernel
theorem dX7_mend_40 : decode cX7_mend 40 = .ok (.iload_n 2, 1) := by decide +kernel
theorem dX7_mend_41 : decode cX7_mend 41 = .ok (.iaload, 1) := by decide +kernel
theorem dX7_mend_42 : decode cX7_mend 42 = .ok (.if_icmp .le 24, 3) := by decide +kernel
theorem dX7_mend_45 : decode cX7_mend 45 = .ok (.aload_n 0, 1) := by decide +kernel
theorem dX7_mend_46 : decode cX7_mend 46 = .ok (.getfield 10, 3) := by decide +kernel
theorem dX7_mend_49 : decode cX7_mend 49 = .ok (.iload_n 2, 1) := by decide +kernel
theorem dX7_mend_50 : decode cX7_mend 50 = .ok (.iload_n 3, 1) := by decide +kernel
theorem dX7_mend_51 : decode cX7_mend 51 = .ok (.aload_n 0, 1) := by decide +kernel
theorem dX7_mend_52 : decode cX7_mend 52 = .ok (.getfield 10, 3) := by decide +kernel
theorem dX7_mend_55 : decode cX7_mend 55 = .ok (.getfield 171, 3) := by decide +kernel
theorem dX7_mend_58 : decode cX7_mend 58 = .ok (.iload_n 2, 1) := by decide +kernel
theorem dX7_mend_59 : decode cX7_mend 59 = .ok (.baload, 1) := by decide +kernel
theorem dX7_mend_60 : decode cX7_mend 60 = .ok (.invokevirtual 70, 3) := by decide +kernel
theorem dX7_mend_63 : decode cX7_mend 63 = .ok (.iinc 1 1, 3) := by decide +kernel
theorem dX7_mend_66 : decode cX7_mend 66 = .ok (.iinc 2 1, 3) := by decide +kernel
theorem dX7_mend_69 : decode cX7_mend 69 = .ok (.goto (-49), 3) := by decide +kernel
theorem dX7_mend_72 : decode cX7_mend 72 = .ok (.aload_n 0, 1) := by decide +kernel
theorem dX7_mend_73 : decode cX7_mend 73 = .ok (.invokevirtual 74, 3) := by decide +kernel
theorem dX7_mend_76 : decode cX7_mend 76 = .ok (.iload_n 1, 1) := by decide +kernel
theorem dX7_mend_77 : decode cX7_mend 77 = .ok (.ireturn, 1) := by decide +kernel
set_option maxRecDepth 20000 in
theorem ggX7_mean_X7_isStep : GoodIn wsX7_mean wsX7_isStep := goodIn_r _ [7, 1, 8, 9, 10, 11, 12, 13, 14, 15, 16, 17, 18, 19, 20, 21, 22, 23, 24] (by decide +kernel) (by decide +kernel)
set_option maxRecDepth 20000 in
theorem gX7_mean_X7_isStep : GoodIn wsX7_mean (wsV RX7 125 RX7 yX7_isStep wsX7_isStep) := goodIn_app (goodIn_of _ (by decide +kernel)) ggX7_mean_X7_isStep
theorem dX7_mean_0 : decode cX7_mean 0 = .ok (.aload_n 0, 1) := by decide +kernel
theorem dX7_mean_1 : decode cX7_mean 1 = .ok (.iload_n 1, 1) := by decide +kernel
theorem dX7_mean_2 : decode cX7_mean 2 = .ok (.invokevirtual 125, 3) := by decide +kernel
theorem dX7_mean_5 : decode cX7_mean 5 = .ok (.ifCond .eq 16, 3) := by decide +kernel
theorem dX7_mean_8 : decode cX7_mean 8 = .ok (.aload_n 0, 1) := by decide +kernel
theorem dX7_mean_9 : decode cX7_mean 9 = .ok (.getfield 26, 3) := by decide +kernel
theorem dX7_mean_12 : decode cX7_mean 12 = .ok (.getfield 175, 3) := by decide +kernel
theorem dX7_mean_15 : decode cX7_mean 15 = .ok (.iload_n 1, 1) := by decide +kernel
theorem dX7_mean_16 : decode cX7_mean 16 = .ok (.baload, 1) := by decide +kernel
theorem dX7_mean_17 : decode cX7_mean 17 = .ok (.iload_n 2, 1) := by decide +kernel
theorem dX7_mean_18 : decode cX7_mean 18 = .ok (.if_icmp .ne 5, 3) := by decide +kernel
theorem dX7_mean_21 : decode cX7_mean 21 = .ok (.iconst 0, 1) := by decide +kernel
theorem dX7_mean_22 : decode cX7_mean 22 = .ok (.ireturn, 1) := by decide +kernel
theorem dX7_mean_23 : decode cX7_mean 23 = .ok (.aload_n 0, 1) := by decide +kernel
theorem dX7_mean_24 : decode cX7_mean 24 = .ok (.getfield 26, 3) := by decide +kernel
theorem dX7_mean_27 : decode cX7_mean 27 = .ok (.getfield 175, 3) := by decide +kernel
theorem dX7_mean_30 : decode cX7_mean 30 = .ok (.iload_n 1, 1) := by decide +kernel
theorem dX7_mean_31 : decode cX7_mean 31 = .ok (.iload_n 2, 1) := by decide +kernel
theorem dX7_mean_32 : decode cX7_mean 32 = .ok (.bastore, 1) := by decide +kernel
theorem dX7_mean_33 : decode cX7_mean 33 = .ok (.iconst 1, 1) := by decide +kernel
theorem dX7_mean_34 : decode cX7_mean 34 = .ok (.ireturn, 1) := by decide +kernel
set_option maxRecDepth 20000 in
theorem ggX7_listed_X2_learn : GoodIn wsX7_listed wsX2_learn := goodIn_r _ [9, 10, 11, 12, 13, 14, 15, 16, 17, 18, 19, 20, 21, 22, 23, 24, 25, 26, 27, 28, 8, 29, 30, 31, 32, 33, 34, 35, 36, 37, 38, 39, 40, 41, 42, 43, 44, 45, 46, 47, 48, 49, 50, 51, 52, 53, 54, 55, 56, 57, 58, 59, 60, 61, 62, 63, 64, 65, 66, 67, 68, 69, 70, 71, 72, 73, 74, 75, 76, 77, 78, 79, 80, 81, 82, 83, 84, 85, 86, 87, 88, 89, 90, 223, 224, 225, 226, 227, 228, 229, 230, 231, 232, 233, 214, 215, 216, 217, 218, 219, 220, 221, 222, 234, 235, 236, 237, 238] (by decide +kernel) (by decide +kernel)
set_option maxRecDepth 20000 in
theorem gX7_listed_X2_learn : GoodIn wsX7_listed (wsV RX7 128 RX2 yX2_learn wsX2_learn) := goodIn_app (goodIn_of _ (by decide +kernel)) ggX7_listed_X2_learn
set_option maxRecDepth 20000 in
theorem ggX7_listed_X5_learn : GoodIn wsX7_listed wsX5_learn := goodIn_r _ [95, 96, 97, 98, 99, 100, 101, 102, 103, 104, 105, 106, 24, 107, 108, 109, 110, 111, 112, 113, 114, 115, 116, 117, 118, 119, 120, 121, 23, 25, 122, 123, 124, 41, 125, 126, 127, 46, 47, 48, 43, 44, 49, 50, 51, 52, 53, 54, 55, 128, 129, 130, 131, 132, 133, 134, 135, 136, 137, 138, 139, 140, 141, 142, 143, 144, 145, 146, 147, 148, 71, 72, 73, 74, 75, 149, 77, 78, 79, 80, 81, 87, 88, 89, 90, 150, 83, 84, 85, 86, 151, 152, 153, 154, 155, 156, 157, 158, 39, 40, 42, 159, 160, 161, 162, 163, 164, 165, 94, 166, 167, 168, 169, 170, 171, 172, 173, 174, 175, 176, 239, 240, 241, 242, 243, 244, 245, 232, 233, 246, 247, 248, 249, 250, 251, 214, 215, 216, 217, 218, 219, 220, 221, 222, 234, 235, 236, 237, 238] (by decide +kernel) (by decide +kernel)
set_option maxRecDepth 20000 in
theorem gX7_listed_X5_learn : GoodIn wsX7_listed (wsV RX7 131 RX5 yX5_learn wsX5_learn) := goodIn_app (goodIn_of _ (by decide +kernel)) ggX7_listed_X5_learn
set_option maxRecDepth 20000 in
theorem ggX7_listed_X7_isListed : GoodIn wsX7_listed wsX7_isListed := goodIn_r _ [180, 3, 181, 182, 183, 184, 88, 185, 1, 2, 186, 187, 188, 189, 190, 8, 191, 11, 192, 193, 194, 195, 196, 197, 198, 207, 208, 209, 210, 211, 212, 213, 214, 215, 216, 217, 218, 219, 220, 221, 222, 239, 240, 241, 242, 243, 244, 245, 223, 224, 225, 226, 227, 228, 229, 230, 231, 232, 233] (by decide +kernel) (by decide +kernel)
set_option maxRecDepth 20000 in
theorem gX7_listed_X7_isListed : GoodIn wsX7_listed (wsV RX7 178 RX7 yX7_isListed wsX7_isListed) := goodIn_app (goodIn_of _ (by decide +kernel)) ggX7_listed_X7_isListed
set_option maxRecDepth 20000 in
theorem ggX7_listed_X7_listedBefore : GoodIn wsX7_listed wsX7_listedBefore := goodIn_r _ [202, 3, 4, 177, 178, 179, 88, 180, 181, 182, 183, 184, 185, 1, 2, 186, 187, 188, 189, 190, 8, 191, 11, 192, 193, 194, 195, 196, 197, 198, 203, 204, 205, 206, 207, 208, 209, 210, 211, 212, 213, 214, 215, 216, 217, 218, 219, 220, 221, 222, 239, 240, 241, 242, 243, 244, 245, 223, 224, 225, 226, 227, 228, 229, 230, 231, 232, 233] (by decide +kernel) (by decide +kernel)
set_option maxRecDepth 20000 in
theorem gX7_listed_X7_listedBefore : GoodIn wsX7_listed (wsV RX7 181 RX7 yX7_listedBefore wsX7_listedBefore) := goodIn_app (goodIn_of _ (by decide +kernel)) ggX7_listed_X7_listedBefore
theorem dX7_listed_0 : decode cX7_listed 0 = .ok (.aload_n 0, 1) := by decide +kernel
theorem dX7_listed_1 : decode cX7_listed 1 = .ok (.getfield 53, 3) := by decide +kernel
theorem dX7_listed_4 : decode cX7_listed 4 = .ok (.invokevirtual 128, 3) := by decide +kernel
theorem dX7_listed_7 : decode cX7_listed 7 = .ok (.aload_n 0, 1) := by decide +kernel
theorem dX7_listed_8 : decode cX7_listed 8 = .ok (.getfield 44, 3) := by decide +kernel
theorem dX7_listed_11 : decode cX7_listed 11 = .ok (.invokevirtual 131, 3) := by decide +kernel
theorem dX7_listed_14 : decode cX7_listed 14 = .ok (.iconst 0, 1) := by decide +kernel
theorem dX7_listed_15 : decode cX7_listed 15 = .ok (.istore_n 2, 1) := by decide +kernel
theorem dX7_listed_16 : decode cX7_listed 16 = .ok (.iload_n 2, 1) := by decide +kernel
theorem dX7_listed_17 : decode cX7_listed 17 = .ok (.aload_n 0, 1) := by decide +kernel
theorem dX7_listed_18 : decode cX7_listed 18 = .ok (.getfield 26, 3) := by decide +kernel
theorem dX7_listed_21 : decode cX7_listed 21 = .ok (.getfield 87, 3) := by decide +kernel
theorem dX7_listed_24 : decode cX7_listed 24 = .ok (.if_icmp .ge 28, 3) := by decide +kernel
theorem dX7_listed_27 : decode cX7_listed 27 = .ok (.aload_n 0, 1) := by decide +kernel
theorem dX7_listed_28 : decode cX7_listed 28 = .ok (.iload_n 2, 1) := by decide +kernel
theorem dX7_listed_29 : decode cX7_listed 29 = .ok (.invokevirtual 178, 3) := by decide +kernel
theorem dX7_listed_32 : decode cX7_listed 32 = .ok (.ifCond .eq 14, 3) := by decide +kernel
theorem dX7_listed_35 : decode cX7_listed 35 = .ok (.aload_n 0, 1) := by decide +kernel
theorem dX7_listed_36 : decode cX7_listed 36 = .ok (.iload_n 2, 1) := by decide +kernel
theorem dX7_listed_37 : decode cX7_listed 37 = .ok (.invokevirtual 181, 3) := by decide +kernel
theorem dX7_listed_40 : decode cX7_listed 40 = .ok (.iload_n 1, 1) := by decide +kernel
theorem dX7_listed_41 : decode cX7_listed 41 = .ok (.if_icmp .ne 5, 3) := by decide +kernel
theorem dX7_listed_44 : decode cX7_listed 44 = .ok (.iload_n 2, 1) := by decide +kernel
theorem dX7_listed_45 : decode cX7_listed 45 = .ok (.ireturn, 1) := by decide +kernel
theorem dX7_listed_46 : decode cX7_listed 46 = .ok (.iinc 2 1, 3) := by decide +kernel
theorem dX7_listed_49 : decode cX7_listed 49 = .ok (.goto (-33), 3) := by decide +kernel
theorem dX7_listed_52 : decode cX7_listed 52 = .ok (.iconst (-1), 1) := by decide +kernel
theorem dX7_listed_53 : decode cX7_listed 53 = .ok (.ireturn, 1) := by decide +kernel
set_option maxRecDepth 20000 in
theorem ggX7_count_X0_runs : GoodIn wsX7_count wsX0_runs := goodIn_r _ [14, 15, 16, 174, 175] (by decide +kernel) (by decide +kernel)
set_option maxRecDepth 20000 in
theorem gX7_count_X0_runs : GoodIn wsX7_count (wsV RX7 184 RX0 yX0_runs wsX0_runs) := goodIn_app (goodIn_of _ (by decide +kernel)) ggX7_count_X0_runs
set_option maxRecDepth 20000 in
theorem ggX7_count_X5_learn : GoodIn wsX7_count wsX5_learn := goodIn_r _ [21, 22, 23, 24, 25, 26, 27, 28, 29, 30, 31, 32, 33, 34, 35, 36, 37, 38, 39, 40, 41, 42, 43, 44, 45, 46, 47, 48, 49, 50, 51, 52, 53, 54, 55, 56, 57, 58, 59, 60, 61, 62, 63, 64, 65, 66, 67, 68, 69, 70, 71, 72, 73, 74, 75, 76, 77, 78, 79, 80, 81, 82, 83, 84, 85, 86, 87, 88, 89, 90, 91, 92, 93, 94, 95, 96, 97, 98, 99, 100, 101, 102, 103, 104, 105, 106, 107, 108, 109, 110, 111, 112, 113, 114, 115, 116, 117, 118, 119, 120, 121, 122, 123, 124, 125, 126, 127, 128, 20, 129, 130, 131, 132, 133, 134, 135, 136, 137, 138, 139, 167, 168, 169, 170, 171, 172, 173, 174, 175, 176, 177, 178, 179, 180, 181, 158, 159, 160, 161, 162, 163, 164, 165, 166, 153, 154, 155, 156, 157] (by decide +kernel) (by decide +kernel)
set_option maxRecDepth 20000 in
theorem gX7_count_X5_learn : GoodIn wsX7_count (wsV RX7 131 RX5 yX5_learn wsX5_learn) := goodIn_app (goodIn_of _ (by decide +kernel)) ggX7_count_X5_learn
set_option maxRecDepth 20000 in
theorem ggX7_count_X4_marks : GoodIn wsX7_count wsX4_marks := goodIn_r _ [143, 144, 145, 158, 159, 160, 161, 162, 163, 164, 165, 166] (by decide +kernel) (by decide +kernel)
set_option maxRecDepth 20000 in
theorem gX7_count_X4_marks : GoodIn wsX7_count (wsV RX7 191 RX4 yX4_marks wsX4_marks) := goodIn_app (goodIn_of _ (by decide +kernel)) ggX7_count_X4_marks
theorem dX7_count_0 : decode cX7_count 0 = .ok (.iload_n 1, 1) := by decide +kernel
theorem dX7_count_1 : decode cX7_count 1 = .ok (.bipush 10, 2) := by decide +kernel
theorem dX7_count_3 : decode cX7_count 3 = .ok (.if_icmp .lt 22, 3) := by decide +kernel
theorem dX7_count_6 : decode cX7_count 6 = .ok (.iload_n 1, 1) := by decide +kernel
theorem dX7_count_7 : decode cX7_count 7 = .ok (.bipush 16, 2) := by decide +kernel
theorem dX7_count_9 : decode cX7_count 9 = .ok (.if_icmp .ge 16, 3) := by decide +kernel
theorem dX7_count_12 : decode cX7_count 12 = .ok (.aload_n 0, 1) := by decide +kernel
theorem dX7_count_13 : decode cX7_count 13 = .ok (.getfield 10, 3) := by decide +kernel
theorem dX7_count_16 : decode cX7_count 16 = .ok (.getfield 162, 3) := by decide +kernel
theorem dX7_count_19 : decode cX7_count 19 = .ok (.iload_n 1, 1) := by decide +kernel
theorem dX7_count_20 : decode cX7_count 20 = .ok (.bipush 10, 2) := by decide +kernel
theorem dX7_count_22 : decode cX7_count 22 = .ok (.isub, 1) := by decide +kernel
theorem dX7_count_23 : decode cX7_count 23 = .ok (.iaload, 1) := by decide +kernel
theorem dX7_count_24 : decode cX7_count 24 = .ok (.ireturn, 1) := by decide +kernel
theorem dX7_count_25 : decode cX7_count 25 = .ok (.iload_n 1, 1) := by decide +kernel
theorem dX7_count_26 : decode cX7_count 26 = .ok (.bipush 20, 2) := by decide +kernel
theorem dX7_count_28 : decode cX7_count 28 = .ok (.if_icmp .lt 30, 3) := by decide +kernel
theorem dX7_count_31 : decode cX7_count 31 = .ok (.iload_n 1, 1) := by decide +kernel
theorem dX7_count_32 : decode cX7_count 32 = .ok (.bipush 26, 2) := by decide +kernel
theorem dX7_count_34 : decode cX7_count 34 = .ok (.if_icmp .ge 24, 3) := by decide +kernel
theorem dX7_count_37 : decode cX7_count 37 = .ok (.aload_n 0, 1) := by decide +kernel
theorem dX7_count_38 : decode cX7_count 38 = .ok (.getfield 10, 3) := by decide +kernel
theorem dX7_count_41 : decode cX7_count 41 = .ok (.getfield 171, 3) := by decide +kernel
theorem dX7_count_44 : decode cX7_count 44 = .ok (.iload_n 1, 1) := by decide +kernel
theorem dX7_count_45 : decode cX7_count 45 = .ok (.bipush 20, 2) := by decide +kernel
theorem dX7_count_47 : decode cX7_count 47 = .ok (.isub, 1) := by decide +kernel
theorem dX7_count_48 : decode cX7_count 48 = .ok (.baload, 1) := by decide +kernel
theorem dX7_count_49 : decode cX7_count 49 = .ok (.ifCond .eq 7, 3) := by decide +kernel
theorem dX7_count_52 : decode cX7_count 52 = .ok (.iconst 1, 1) := by decide +kernel
theorem dX7_count_53 : decode cX7_count 53 = .ok (.goto 4, 3) := by decide +kernel
theorem dX7_count_56 : decode cX7_count 56 = .ok (.iconst 0, 1) := by decide +kernel
theorem dX7_count_57 : decode cX7_count 57 = .ok (.ireturn, 1) := by decide +kernel
theorem dX7_count_58 : decode cX7_count 58 = .ok (.iload_n 1, 1) := by decide +kernel
theorem dX7_count_59 : decode cX7_count 59 = .ok (.tableswitch 88 0 4 #[33, 41, 49, 64, 72], 33) := by decide +kernel
theorem dX7_count_92 : decode cX7_count 92 = .ok (.aload_n 0, 1) := by decide +kernel
theorem dX7_count_93 : decode cX7_count 93 = .ok (.getfield 26, 3) := by decide +kernel
theorem dX7_count_96 : decode cX7_count 96 = .ok (.getfield 87, 3) := by decide +kernel
theorem dX7_count_99 : decode cX7_count 99 = .ok (.ireturn, 1) := by decide +kernel
theorem dX7_count_100 : decode cX7_count 100 = .ok (.aload_n 0, 1) := by decide +kernel
theorem dX7_count_101 : decode cX7_count 101 = .ok (.getfield 19, 3) := by decide +kernel
theorem dX7_count_104 : decode cX7_count 104 = .ok (.invokevirtual 184, 3) := by decide +kernel
theorem dX7_count_107 : decode cX7_count 107 = .ok (.ireturn, 1) := by decide +kernel
theorem dX7_count_108 : decode cX7_count 108 = .ok (.aload_n 0, 1) := by decide +kernel
theorem dX7_count_109 : decode cX7_count 109 = .ok (.getfield 44, 3) := by decide +kernel
theorem dX7_count_112 : decode cX7_count 112 = .ok (.invokevirtual 131, 3) := by decide +kernel
theorem dX7_count_115 : decode cX7_count 115 = .ok (.aload_n 0, 1) := by decide +kernel
theorem dX7_count_116 : decode cX7_count 116 = .ok (.getfield 44, 3) := by decide +kernel
theorem dX7_count_119 : decode cX7_count 119 = .ok (.getfield 188, 3) := by decide +kernel
theorem dX7_count_122 : decode cX7_count 122 = .ok (.ireturn, 1) := by decide +kernel
theorem dX7_count_123 : decode cX7_count 123 = .ok (.aload_n 0, 1) := by decide +kernel
theorem dX7_count_124 : decode cX7_count 124 = .ok (.getfield 26, 3) := by decide +kernel
theorem dX7_count_127 : decode cX7_count 127 = .ok (.invokevirtual 191, 3) := by decide +kernel
theorem dX7_count_130 : decode cX7_count 130 = .ok (.ireturn, 1) := by decide +kernel
theorem dX7_count_131 : decode cX7_count 131 = .ok (.aload_n 0, 1) := by decide +kernel
theorem dX7_count_132 : decode cX7_count 132 = .ok (.getfield 10, 3) := by decide +kernel
theorem dX7_count_135 : decode cX7_count 135 = .ok (.getfield 105, 3) := by decide +kernel
theorem dX7_count_138 : decode cX7_count 138 = .ok (.ifCond .eq 7, 3) := by decide +kernel
theorem dX7_count_141 : decode cX7_count 141 = .ok (.iconst 1, 1) := by decide +kernel
theorem dX7_count_142 : decode cX7_count 142 = .ok (.goto 4, 3) := by decide +kernel
theorem dX7_count_145 : decode cX7_count 145 = .ok (.iconst 0, 1) := by decide +kernel
theorem dX7_count_146 : decode cX7_count 146 = .ok (.ireturn, 1) := by decide +kernel
theorem dX7_count_147 : decode cX7_count 147 = .ok (.iconst (-1), 1) := by decide +kernel
theorem dX7_count_148 : decode cX7_count 148 = .ok (.ireturn, 1) := by decide +kernel
theorem dX7_isName_0 : decode cX7_isName 0 = .ok (.iload_n 0, 1) := by decide +kernel
theorem dX7_isName_1 : decode cX7_isName 1 = .ok (.ifCond .lt 13, 3) := by decide +kernel
theorem dX7_isName_4 : decode cX7_isName 4 = .ok (.iload_n 0, 1) := by decide +kernel
theorem dX7_isName_5 : decode cX7_isName 5 = .ok (.bipush 6, 2) := by decide +kernel
theorem dX7_isName_7 : decode cX7_isName 7 = .ok (.if_icmp .ge 7, 3) := by decide +kernel
theorem dX7_isName_10 : decode cX7_isName 10 = .ok (.iconst 1, 1) := by decide +kernel
theorem dX7_isName_11 : decode cX7_isName 11 = .ok (.goto 4, 3) := by decide +kernel
theorem dX7_isName_14 : decode cX7_isName 14 = .ok (.iconst 0, 1) := by decide +kernel
theorem dX7_isName_15 : decode cX7_isName 15 = .ok (.ireturn, 1) := by decide +kernel
theorem dX7_isTold_0 : decode cX7_isTold 0 = .ok (.iload_n 0, 1) := by decide +kernel
theorem dX7_isTold_1 : decode cX7_isTold 1 = .ok (.ldc 194, 2) := by decide +kernel
theorem dX7_isTold_3 : decode cX7_isTold 3 = .ok (.if_icmp .lt 13, 3) := by decide +kernel
theorem dX7_isTold_6 : decode cX7_isTold 6 = .ok (.iload_n 0, 1) := by decide +kernel
theorem dX7_isTold_7 : decode cX7_isTold 7 = .ok (.ldc 195, 2) := by decide +kernel
theorem dX7_isTold_9 : decode cX7_isTold 9 = .ok (.if_icmp .gt 7, 3) := by decide +kernel
theorem dX7_isTold_12 : decode cX7_isTold 12 = .ok (.iconst 1, 1) := by decide +kernel
theorem dX7_isTold_13 : decode cX7_isTold 13 = .ok (.goto 4, 3) := by decide +kernel
theorem dX7_isTold_16 : decode cX7_isTold 16 = .ok (.iconst 0, 1) := by decide +kernel
theorem dX7_isTold_17 : decode cX7_isTold 17 = .ok (.ireturn, 1) := by decide +kernel
theorem dX7_isStep_0 : decode cX7_isStep 0 = .ok (.iload_n 1, 1) := by decide +kernel
theorem dX7_isStep_1 : decode cX7_isStep 1 = .ok (.ifCond .lt 18, 3) := by decide +kernel
theorem dX7_isStep_4 : decode cX7_isStep 4 = .ok (.iload_n 1, 1) := by decide +kernel
theorem dX7_isStep_5 : decode cX7_isStep 5 = .ok (.aload_n 0, 1) := by decide +kernel
theorem dX7_isStep_6 : decode cX7_isStep 6 = .ok (.getfield 26, 3) := by decide +kernel
theorem dX7_isStep_9 : decode cX7_isStep 9 = .ok (.getfield 87, 3) := by decide +kernel
theorem dX7_isStep_12 : decode cX7_isStep 12 = .ok (.if_icmp .ge 7, 3) := by decide +kernel
theorem dX7_isStep_15 : decode cX7_isStep 15 = .ok (.iconst 1, 1) := by decide +kernel
theorem dX7_isStep_16 : decode cX7_isStep 16 = .ok (.goto 4, 3) := by decide +kernel
theorem dX7_isStep_19 : decode cX7_isStep 19 = .ok (.iconst 0, 1) := by decide +kernel
theorem dX7_isStep_20 : decode cX7_isStep 20 = .ok (.ireturn, 1) := by decide +kernel
set_option maxRecDepth 20000 in
theorem ggX7_canFollow_X4_inLoop : GoodIn wsX7_canFollow wsX4_inLoop := goodIn_r _ [6, 7, 8, 16, 17, 18, 19, 20, 21, 22, 23, 24] (by decide +kernel) (by decide +kernel)
set_option maxRecDepth 20000 in
theorem gX7_canFollow_X4_inLoop : GoodIn wsX7_canFollow (wsV RX7 196 RX4 yX4_inLoop wsX4_inLoop) := goodIn_app (goodIn_of _ (by decide +kernel)) ggX7_canFollow_X4_inLoop
theorem dX7_canFollow_0 : decode cX7_canFollow 0 = .ok (.iload_n 1, 1) := by decide +kernel
theorem dX7_canFollow_1 : decode cX7_canFollow 1 = .ok (.bipush 8, 2) := by decide +kernel
theorem dX7_canFollow_3 : decode cX7_canFollow 3 = .ok (.if_icmp .ne 19, 3) := by decide +kernel
theorem dX7_canFollow_6 : decode cX7_canFollow 6 = .ok (.aload_n 0, 1) := by decide +kernel
theorem dX7_canFollow_7 : decode cX7_canFollow 7 = .ok (.getfield 26, 3) := by decide +kernel
theorem dX7_canFollow_10 : decode cX7_canFollow 10 = .ok (.invokevirtual 196, 3) := by decide +kernel
theorem dX7_canFollow_13 : decode cX7_canFollow 13 = .ok (.ifCond .ne 7, 3) := by decide +kernel
theorem dX7_canFollow_16 : decode cX7_canFollow 16 = .ok (.iconst 1, 1) := by decide +kernel
theorem dX7_canFollow_17 : decode cX7_canFollow 17 = .ok (.goto 4, 3) := by decide +kernel
theorem dX7_canFollow_20 : decode cX7_canFollow 20 = .ok (.iconst 0, 1) := by decide +kernel
theorem dX7_canFollow_21 : decode cX7_canFollow 21 = .ok (.ireturn, 1) := by decide +kernel
theorem dX7_canFollow_22 : decode cX7_canFollow 22 = .ok (.iload_n 1, 1) := by decide +kernel
theorem dX7_canFollow_23 : decode cX7_canFollow 23 = .ok (.bipush 9, 2) := by decide +kernel
theorem dX7_canFollow_25 : decode cX7_canFollow 25 = .ok (.if_icmp .ne 13, 3) := by decide +kernel
theorem dX7_canFollow_28 : decode cX7_canFollow 28 = .ok (.aload_n 0, 1) := by decide +kernel
theorem dX7_canFollow_29 : decode cX7_canFollow 29 = .ok (.getfield 26, 3) := by decide +kernel
theorem dX7_canFollow_32 : decode cX7_canFollow 32 = .ok (.invokevirtual 196, 3) := by decide +kernel
theorem dX7_canFollow_35 : decode cX7_canFollow 35 = .ok (.ifCond .eq 7, 3) := by decide +kernel
theorem dX7_canFollow_38 : decode cX7_canFollow 38 = .ok (.iconst 1, 1) := by decide +kernel
theorem dX7_canFollow_39 : decode cX7_canFollow 39 = .ok (.goto 4, 3) := by decide +kernel
theorem dX7_canFollow_42 : decode cX7_canFollow 42 = .ok (.iconst 0, 1) := by decide +kernel
theorem dX7_canFollow_43 : decode cX7_canFollow 43 = .ok (.ireturn, 1) := by decide +kernel
set_option maxRecDepth 20000 in
theorem ggX7_canBe_X7_hasTarget : GoodIn wsX7_canBe wsX7_hasTarget := goodIn_r _ [4] (by decide +kernel) (by decide +kernel)
set_option maxRecDepth 20000 in
theorem gX7_canBe_X7_hasTarget : GoodIn wsX7_canBe (va_wsS RX7 199 yX7_hasTarget wsX7_hasTarget) := goodIn_app (goodIn_of _ (by decide +kernel)) ggX7_canBe_X7_hasTarget
set_option maxRecDepth 20000 in
theorem ggX7_canBe_X7_isName : GoodIn wsX7_canBe wsX7_isName := goodIn_r _ [7] (by decide +kernel) (by decide +kernel)
set_option maxRecDepth 20000 in
theorem gX7_canBe_X7_isName : GoodIn wsX7_canBe (va_wsS RX7 66 yX7_isName wsX7_isName) := goodIn_app (goodIn_of _ (by decide +kernel)) ggX7_canBe_X7_isName
set_option maxRecDepth 20000 in
theorem ggX7_canBe_X7_readsA : GoodIn wsX7_canBe wsX7_readsA := goodIn_r _ [10] (by decide +kernel) (by decide +kernel)
set_option maxRecDepth 20000 in
theorem gX7_canBe_X7_readsA : GoodIn wsX7_canBe (va_wsS RX7 202 yX7_readsA wsX7_readsA) := goodIn_app (goodIn_of _ (by decide +kernel)) ggX7_canBe_X7_readsA
set_option maxRecDepth 20000 in
theorem ggX7_canBe_X7_canBeB : GoodIn wsX7_canBe wsX7_canBeB := goodIn_r _ [13, 14, 15, 3, 16, 5, 6, 7, 17, 18, 19, 20, 21] (by decide +kernel) (by decide +kernel)
set_option maxRecDepth 20000 in
theorem gX7_canBe_X7_canBeB : GoodIn wsX7_canBe (va_wsS RX7 205 yX7_canBeB wsX7_canBeB) := goodIn_app (goodIn_of _ (by decide +kernel)) ggX7_canBe_X7_canBeB
theorem dX7_canBe_0 : decode cX7_canBe 0 = .ok (.iload_n 0, 1) := by decide +kernel
theorem dX7_canBe_1 : decode cX7_canBe 1 = .ok (.ifCond .lt 9, 3) := by decide +kernel
theorem dX7_canBe_4 : decode cX7_canBe 4 = .ok (.iload_n 0, 1) := by decide +kernel
theorem dX7_canBe_5 : decode cX7_canBe 5 = .ok (.bipush 9, 2) := by decide +kernel
theorem dX7_canBe_7 : decode cX7_canBe 7 = .ok (.if_icmp .le 5, 3) := by decide +kernel
theorem dX7_canBe_10 : decode cX7_canBe 10 = .ok (.iconst 0, 1) := by decide +kernel
theorem dX7_canBe_11 : decode cX7_canBe 11 = .ok (.ireturn, 1) := by decide +kernel
theorem dX7_canBe_12 : decode cX7_canBe 12 = .ok (.iload_n 0, 1) := by decide +kernel
theorem dX7_canBe_13 : decode cX7_canBe 13 = .ok (.invokestatic 199, 3) := by decide +kernel
theorem dX7_canBe_16 : decode cX7_canBe 16 = .ok (.ifCond .eq 12, 3) := by decide +kernel
theorem dX7_canBe_19 : decode cX7_canBe 19 = .ok (.iload_n 1, 1) := by decide +kernel
theorem dX7_canBe_20 : decode cX7_canBe 20 = .ok (.invokestatic 66, 3) := by decide +kernel
theorem dX7_canBe_23 : decode cX7_canBe 23 = .ok (.ifCond .ne 5, 3) := by decide +kernel
theorem dX7_canBe_26 : decode cX7_canBe 26 = .ok (.iconst 0, 1) := by decide +kernel
theorem dX7_canBe_27 : decode cX7_canBe 27 = .ok (.ireturn, 1) := by decide +kernel
theorem dX7_canBe_28 : decode cX7_canBe 28 = .ok (.iload_n 0, 1) := by decide +kernel
theorem dX7_canBe_29 : decode cX7_canBe 29 = .ok (.invokestatic 202, 3) := by decide +kernel
theorem dX7_canBe_32 : decode cX7_canBe 32 = .ok (.ifCond .eq 12, 3) := by decide +kernel
theorem dX7_canBe_35 : decode cX7_canBe 35 = .ok (.iload_n 2, 1) := by decide +kernel
theorem dX7_canBe_36 : decode cX7_canBe 36 = .ok (.invokestatic 66, 3) := by decide +kernel
theorem dX7_canBe_39 : decode cX7_canBe 39 = .ok (.ifCond .ne 5, 3) := by decide +kernel
theorem dX7_canBe_42 : decode cX7_canBe 42 = .ok (.iconst 0, 1) := by decide +kernel
theorem dX7_canBe_43 : decode cX7_canBe 43 = .ok (.ireturn, 1) := by decide +kernel
theorem dX7_canBe_44 : decode cX7_canBe 44 = .ok (.iload_n 0, 1) := by decide +kernel
theorem dX7_canBe_45 : decode cX7_canBe 45 = .ok (.iload_n 3, 1) := by decide +kernel
theorem dX7_canBe_46 : decode cX7_canBe 46 = .ok (.invokestatic 205, 3) := by decide +kernel
theorem dX7_canBe_49 : decode cX7_canBe 49 = .ok (.ireturn, 1) := by decide +kernel
set_option maxRecDepth 20000 in
theorem ggX7_canBeB_X7_readsB : GoodIn wsX7_canBeB wsX7_readsB := goodIn_r _ [4] (by decide +kernel) (by decide +kernel)
set_option maxRecDepth 20000 in
theorem gX7_canBeB_X7_readsB : GoodIn wsX7_canBeB (va_wsS RX7 208 yX7_readsB wsX7_readsB) := goodIn_app (goodIn_of _ (by decide +kernel)) ggX7_canBeB_X7_readsB
set_option maxRecDepth 20000 in
theorem ggX7_canBeB_X7_isName : GoodIn wsX7_canBeB wsX7_isName := goodIn_r _ [7] (by decide +kernel) (by decide +kernel)
set_option maxRecDepth 20000 in
theorem gX7_canBeB_X7_isName : GoodIn wsX7_canBeB (va_wsS RX7 66 yX7_isName wsX7_isName) := goodIn_app (goodIn_of _ (by decide +kernel)) ggX7_canBeB_X7_isName
set_option maxRecDepth 20000 in
theorem ggX7_canBeB_X7_isTold : GoodIn wsX7_canBeB wsX7_isTold := goodIn_r _ [10, 11, 12] (by decide +kernel) (by decide +kernel)
set_option maxRecDepth 20000 in
theorem gX7_canBeB_X7_isTold : GoodIn wsX7_canBeB (va_wsS RX7 77 yX7_isTold wsX7_isTold) := goodIn_app (goodIn_of _ (by decide +kernel)) ggX7_canBeB_X7_isTold
theorem dX7_canBeB_0 : decode cX7_canBeB 0 = .ok (.iload_n 0, 1) := by decide +kernel
theorem dX7_canBeB_1 : decode cX7_canBeB 1 = .ok (.invokestatic 208, 3) := by decide +kernel
theorem dX7_canBeB_4 : decode cX7_canBeB 4 = .ok (.ifCond .eq 8, 3) := by decide +kernel
theorem dX7_canBeB_7 : decode cX7_canBeB 7 = .ok (.iload_n 1, 1) := by decide +kernel
theorem dX7_canBeB_8 : decode cX7_canBeB 8 = .ok (.invokestatic 66, 3) := by decide +kernel
theorem dX7_canBeB_11 : decode cX7_canBeB 11 = .ok (.ireturn, 1) := by decide +kernel
theorem dX7_canBeB_12 : decode cX7_canBeB 12 = .ok (.iload_n 0, 1) := by decide +kernel
theorem dX7_canBeB_13 : decode cX7_canBeB 13 = .ok (.lookupswitch 73 #[(0, 35), (5, 40), (8, 56)], 35) := by decide +kernel
theorem dX7_canBeB_48 : decode cX7_canBeB 48 = .ok (.iload_n 1, 1) := by decide +kernel
theorem dX7_canBeB_49 : decode cX7_canBeB 49 = .ok (.invokestatic 77, 3) := by decide +kernel
theorem dX7_canBeB_52 : decode cX7_canBeB 52 = .ok (.ireturn, 1) := by decide +kernel
theorem dX7_canBeB_53 : decode cX7_canBeB 53 = .ok (.iload_n 1, 1) := by decide +kernel
theorem dX7_canBeB_54 : decode cX7_canBeB 54 = .ok (.ifCond .lt 13, 3) := by decide +kernel
theorem dX7_canBeB_57 : decode cX7_canBeB 57 = .ok (.iload_n 1, 1) := by decide +kernel
theorem dX7_canBeB_58 : decode cX7_canBeB 58 = .ok (.bipush 12, 2) := by decide +kernel
theorem dX7_canBeB_60 : decode cX7_canBeB 60 = .ok (.if_icmp .gt 7, 3) := by decide +kernel
theorem dX7_canBeB_63 : decode cX7_canBeB 63 = .ok (.iconst 1, 1) := by decide +kernel
theorem dX7_canBeB_64 : decode cX7_canBeB 64 = .ok (.goto 4, 3) := by decide +kernel
theorem dX7_canBeB_67 : decode cX7_canBeB 67 = .ok (.iconst 0, 1) := by decide +kernel
theorem dX7_canBeB_68 : decode cX7_canBeB 68 = .ok (.ireturn, 1) := by decide +kernel
theorem dX7_canBeB_69 : decode cX7_canBeB 69 = .ok (.iload_n 1, 1) := by decide +kernel
theorem dX7_canBeB_70 : decode cX7_canBeB 70 = .ok (.iconst 1, 1) := by decide +kernel
theorem dX7_canBeB_71 : decode cX7_canBeB 71 = .ok (.if_icmp .lt 13, 3) := by decide +kernel
theorem dX7_canBeB_74 : decode cX7_canBeB 74 = .ok (.iload_n 1, 1) := by decide +kernel
theorem dX7_canBeB_75 : decode cX7_canBeB 75 = .ok (.bipush 12, 2) := by decide +kernel
theorem dX7_canBeB_77 : decode cX7_canBeB 77 = .ok (.if_icmp .gt 7, 3) := by decide +kernel
theorem dX7_canBeB_80 : decode cX7_canBeB 80 = .ok (.iconst 1, 1) := by decide +kernel
theorem dX7_canBeB_81 : decode cX7_canBeB 81 = .ok (.goto 4, 3) := by decide +kernel
theorem dX7_canBeB_84 : decode cX7_canBeB 84 = .ok (.iconst 0, 1) := by decide +kernel
theorem dX7_canBeB_85 : decode cX7_canBeB 85 = .ok (.ireturn, 1) := by decide +kernel
