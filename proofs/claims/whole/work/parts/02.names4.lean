theorem dX7_canBeB_86 : decode cX7_canBeB 86 = .ok (.iconst 1, 1) := by decide +kernel
theorem dX7_canBeB_87 : decode cX7_canBeB 87 = .ok (.ireturn, 1) := by decide +kernel
theorem dX7_hasTarget_0 : decode cX7_hasTarget 0 = .ok (.iload_n 0, 1) := by decide +kernel
theorem dX7_hasTarget_1 : decode cX7_hasTarget 1 = .ok (.ifCond .lt 13, 3) := by decide +kernel
theorem dX7_hasTarget_4 : decode cX7_hasTarget 4 = .ok (.iload_n 0, 1) := by decide +kernel
theorem dX7_hasTarget_5 : decode cX7_hasTarget 5 = .ok (.bipush 7, 2) := by decide +kernel
theorem dX7_hasTarget_7 : decode cX7_hasTarget 7 = .ok (.if_icmp .gt 7, 3) := by decide +kernel
theorem dX7_hasTarget_10 : decode cX7_hasTarget 10 = .ok (.iconst 1, 1) := by decide +kernel
theorem dX7_hasTarget_11 : decode cX7_hasTarget 11 = .ok (.goto 4, 3) := by decide +kernel
theorem dX7_hasTarget_14 : decode cX7_hasTarget 14 = .ok (.iconst 0, 1) := by decide +kernel
theorem dX7_hasTarget_15 : decode cX7_hasTarget 15 = .ok (.ireturn, 1) := by decide +kernel
theorem dX7_readsA_0 : decode cX7_readsA 0 = .ok (.iload_n 0, 1) := by decide +kernel
theorem dX7_readsA_1 : decode cX7_readsA 1 = .ok (.iconst 1, 1) := by decide +kernel
theorem dX7_readsA_2 : decode cX7_readsA 2 = .ok (.if_icmp .lt 13, 3) := by decide +kernel
theorem dX7_readsA_5 : decode cX7_readsA 5 = .ok (.iload_n 0, 1) := by decide +kernel
theorem dX7_readsA_6 : decode cX7_readsA 6 = .ok (.bipush 7, 2) := by decide +kernel
theorem dX7_readsA_8 : decode cX7_readsA 8 = .ok (.if_icmp .gt 7, 3) := by decide +kernel
theorem dX7_readsA_11 : decode cX7_readsA 11 = .ok (.iconst 1, 1) := by decide +kernel
theorem dX7_readsA_12 : decode cX7_readsA 12 = .ok (.goto 4, 3) := by decide +kernel
theorem dX7_readsA_15 : decode cX7_readsA 15 = .ok (.iconst 0, 1) := by decide +kernel
theorem dX7_readsA_16 : decode cX7_readsA 16 = .ok (.ireturn, 1) := by decide +kernel
theorem dX7_readsB_0 : decode cX7_readsB 0 = .ok (.iload_n 0, 1) := by decide +kernel
theorem dX7_readsB_1 : decode cX7_readsB 1 = .ok (.iconst 2, 1) := by decide +kernel
theorem dX7_readsB_2 : decode cX7_readsB 2 = .ok (.if_icmp .eq 25, 3) := by decide +kernel
theorem dX7_readsB_5 : decode cX7_readsB 5 = .ok (.iload_n 0, 1) := by decide +kernel
theorem dX7_readsB_6 : decode cX7_readsB 6 = .ok (.iconst 3, 1) := by decide +kernel
theorem dX7_readsB_7 : decode cX7_readsB 7 = .ok (.if_icmp .eq 20, 3) := by decide +kernel
theorem dX7_readsB_10 : decode cX7_readsB 10 = .ok (.iload_n 0, 1) := by decide +kernel
theorem dX7_readsB_11 : decode cX7_readsB 11 = .ok (.iconst 4, 1) := by decide +kernel
theorem dX7_readsB_12 : decode cX7_readsB 12 = .ok (.if_icmp .eq 15, 3) := by decide +kernel
theorem dX7_readsB_15 : decode cX7_readsB 15 = .ok (.iload_n 0, 1) := by decide +kernel
theorem dX7_readsB_16 : decode cX7_readsB 16 = .ok (.bipush 6, 2) := by decide +kernel
theorem dX7_readsB_18 : decode cX7_readsB 18 = .ok (.if_icmp .eq 9, 3) := by decide +kernel
theorem dX7_readsB_21 : decode cX7_readsB 21 = .ok (.iload_n 0, 1) := by decide +kernel
theorem dX7_readsB_22 : decode cX7_readsB 22 = .ok (.bipush 7, 2) := by decide +kernel
theorem dX7_readsB_24 : decode cX7_readsB 24 = .ok (.if_icmp .ne 7, 3) := by decide +kernel
theorem dX7_readsB_27 : decode cX7_readsB 27 = .ok (.iconst 1, 1) := by decide +kernel
theorem dX7_readsB_28 : decode cX7_readsB 28 = .ok (.goto 4, 3) := by decide +kernel
theorem dX7_readsB_31 : decode cX7_readsB 31 = .ok (.iconst 0, 1) := by decide +kernel
theorem dX7_readsB_32 : decode cX7_readsB 32 = .ok (.ireturn, 1) := by decide +kernel
theorem dX7_made_0 : decode cX7_made 0 = .ok (.iload_n 0, 1) := by decide +kernel
theorem dX7_made_1 : decode cX7_made 1 = .ok (.tableswitch 70 0 6 #[43, 45, 47, 51, 55, 59, 64], 43) := by decide +kernel
theorem dX7_made_44 : decode cX7_made 44 = .ok (.lload_n 3, 1) := by decide +kernel
theorem dX7_made_45 : decode cX7_made 45 = .ok (.lreturn, 1) := by decide +kernel
theorem dX7_made_46 : decode cX7_made 46 = .ok (.lload_n 1, 1) := by decide +kernel
theorem dX7_made_47 : decode cX7_made 47 = .ok (.lreturn, 1) := by decide +kernel
theorem dX7_made_48 : decode cX7_made 48 = .ok (.lload_n 1, 1) := by decide +kernel
theorem dX7_made_49 : decode cX7_made 49 = .ok (.lload_n 3, 1) := by decide +kernel
theorem dX7_made_50 : decode cX7_made 50 = .ok (.ladd, 1) := by decide +kernel
theorem dX7_made_51 : decode cX7_made 51 = .ok (.lreturn, 1) := by decide +kernel
theorem dX7_made_52 : decode cX7_made 52 = .ok (.lload_n 1, 1) := by decide +kernel
theorem dX7_made_53 : decode cX7_made 53 = .ok (.lload_n 3, 1) := by decide +kernel
theorem dX7_made_54 : decode cX7_made 54 = .ok (.lsub, 1) := by decide +kernel
theorem dX7_made_55 : decode cX7_made 55 = .ok (.lreturn, 1) := by decide +kernel
theorem dX7_made_56 : decode cX7_made 56 = .ok (.lload_n 1, 1) := by decide +kernel
theorem dX7_made_57 : decode cX7_made 57 = .ok (.lload_n 3, 1) := by decide +kernel
theorem dX7_made_58 : decode cX7_made 58 = .ok (.lmul, 1) := by decide +kernel
theorem dX7_made_59 : decode cX7_made 59 = .ok (.lreturn, 1) := by decide +kernel
theorem dX7_made_60 : decode cX7_made 60 = .ok (.lload_n 1, 1) := by decide +kernel
theorem dX7_made_61 : decode cX7_made 61 = .ok (.lload_n 3, 1) := by decide +kernel
theorem dX7_made_62 : decode cX7_made 62 = .ok (.l2i, 1) := by decide +kernel
theorem dX7_made_63 : decode cX7_made 63 = .ok (.lshl, 1) := by decide +kernel
theorem dX7_made_64 : decode cX7_made 64 = .ok (.lreturn, 1) := by decide +kernel
theorem dX7_made_65 : decode cX7_made 65 = .ok (.lload_n 1, 1) := by decide +kernel
theorem dX7_made_66 : decode cX7_made 66 = .ok (.lload_n 3, 1) := by decide +kernel
theorem dX7_made_67 : decode cX7_made 67 = .ok (.invokestatic 211, 3) := by decide +kernel
theorem dX7_made_70 : decode cX7_made 70 = .ok (.lreturn, 1) := by decide +kernel
theorem dX7_made_71 : decode cX7_made 71 = .ok (.lload_n 1, 1) := by decide +kernel
theorem dX7_made_72 : decode cX7_made 72 = .ok (.lload_n 3, 1) := by decide +kernel
theorem dX7_made_73 : decode cX7_made 73 = .ok (.lcmp, 1) := by decide +kernel
theorem dX7_made_74 : decode cX7_made 74 = .ok (.ifCond .ge 7, 3) := by decide +kernel
theorem dX7_made_77 : decode cX7_made 77 = .ok (.lconst 1, 1) := by decide +kernel
theorem dX7_made_78 : decode cX7_made 78 = .ok (.goto 4, 3) := by decide +kernel
theorem dX7_made_81 : decode cX7_made 81 = .ok (.lconst 0, 1) := by decide +kernel
theorem dX7_made_82 : decode cX7_made 82 = .ok (.lreturn, 1) := by decide +kernel
theorem dX7_leastOf_0 : decode cX7_leastOf 0 = .ok (.iload_n 1, 1) := by decide +kernel
theorem dX7_leastOf_1 : decode cX7_leastOf 1 = .ok (.ifCond .eq 12, 3) := by decide +kernel
theorem dX7_leastOf_4 : decode cX7_leastOf 4 = .ok (.lconst 1, 1) := by decide +kernel
theorem dX7_leastOf_5 : decode cX7_leastOf 5 = .ok (.iload_n 0, 1) := by decide +kernel
theorem dX7_leastOf_6 : decode cX7_leastOf 6 = .ok (.iconst 1, 1) := by decide +kernel
theorem dX7_leastOf_7 : decode cX7_leastOf 7 = .ok (.isub, 1) := by decide +kernel
theorem dX7_leastOf_8 : decode cX7_leastOf 8 = .ok (.lshl, 1) := by decide +kernel
theorem dX7_leastOf_9 : decode cX7_leastOf 9 = .ok (.lneg, 1) := by decide +kernel
theorem dX7_leastOf_10 : decode cX7_leastOf 10 = .ok (.goto 4, 3) := by decide +kernel
theorem dX7_leastOf_13 : decode cX7_leastOf 13 = .ok (.lconst 0, 1) := by decide +kernel
theorem dX7_leastOf_14 : decode cX7_leastOf 14 = .ok (.lreturn, 1) := by decide +kernel
theorem dX7_greatestOf_0 : decode cX7_greatestOf 0 = .ok (.lconst 1, 1) := by decide +kernel
theorem dX7_greatestOf_1 : decode cX7_greatestOf 1 = .ok (.iload_n 1, 1) := by decide +kernel
theorem dX7_greatestOf_2 : decode cX7_greatestOf 2 = .ok (.ifCond .eq 9, 3) := by decide +kernel
theorem dX7_greatestOf_5 : decode cX7_greatestOf 5 = .ok (.iload_n 0, 1) := by decide +kernel
theorem dX7_greatestOf_6 : decode cX7_greatestOf 6 = .ok (.iconst 1, 1) := by decide +kernel
theorem dX7_greatestOf_7 : decode cX7_greatestOf 7 = .ok (.isub, 1) := by decide +kernel
theorem dX7_greatestOf_8 : decode cX7_greatestOf 8 = .ok (.goto 4, 3) := by decide +kernel
theorem dX7_greatestOf_11 : decode cX7_greatestOf 11 = .ok (.iload_n 0, 1) := by decide +kernel
theorem dX7_greatestOf_12 : decode cX7_greatestOf 12 = .ok (.lshl, 1) := by decide +kernel
theorem dX7_greatestOf_13 : decode cX7_greatestOf 13 = .ok (.lconst 1, 1) := by decide +kernel
theorem dX7_greatestOf_14 : decode cX7_greatestOf 14 = .ok (.lsub, 1) := by decide +kernel
theorem dX7_greatestOf_15 : decode cX7_greatestOf 15 = .ok (.lreturn, 1) := by decide +kernel
theorem dX7_forget_0 : decode cX7_forget 0 = .ok (.aload_n 0, 1) := by decide +kernel
theorem dX7_forget_1 : decode cX7_forget 1 = .ok (.getfield 44, 3) := by decide +kernel
theorem dX7_forget_4 : decode cX7_forget 4 = .ok (.iconst 0, 1) := by decide +kernel
theorem dX7_forget_5 : decode cX7_forget 5 = .ok (.putfield 215, 3) := by decide +kernel
theorem dX7_forget_8 : decode cX7_forget 8 = .ok (.aload_n 0, 1) := by decide +kernel
theorem dX7_forget_9 : decode cX7_forget 9 = .ok (.getfield 53, 3) := by decide +kernel
theorem dX7_forget_12 : decode cX7_forget 12 = .ok (.iconst 0, 1) := by decide +kernel
theorem dX7_forget_13 : decode cX7_forget 13 = .ok (.putfield 218, 3) := by decide +kernel
theorem dX7_forget_16 : decode cX7_forget 16 = .ok (.aload_n 0, 1) := by decide +kernel
theorem dX7_forget_17 : decode cX7_forget 17 = .ok (.getfield 62, 3) := by decide +kernel
theorem dX7_forget_20 : decode cX7_forget 20 = .ok (.iconst 0, 1) := by decide +kernel
theorem dX7_forget_21 : decode cX7_forget 21 = .ok (.putfield 219, 3) := by decide +kernel
theorem dX7_forget_24 : decode cX7_forget 24 = .ok (.return_, 1) := by decide +kernel
set_option maxRecDepth 20000 in
theorem ggX7_judged_X2_couldGoOver : GoodIn wsX7_judged wsX2_couldGoOver := goodIn_r _ [9, 10, 32, 33, 34, 35, 36, 37, 38, 39, 40] (by decide +kernel) (by decide +kernel)
set_option maxRecDepth 20000 in
theorem gX7_judged_X2_couldGoOver : GoodIn wsX7_judged (wsV RX7 220 RX2 yX2_couldGoOver wsX2_couldGoOver) := goodIn_app (goodIn_of _ (by decide +kernel)) ggX7_judged_X2_couldGoOver
set_option maxRecDepth 20000 in
theorem ggX7_judged_X0_runs : GoodIn wsX7_judged wsX0_runs := goodIn_r _ [15, 16, 17, 41, 42] (by decide +kernel) (by decide +kernel)
set_option maxRecDepth 20000 in
theorem gX7_judged_X0_runs : GoodIn wsX7_judged (wsV RX7 184 RX0 yX0_runs wsX0_runs) := goodIn_app (goodIn_of _ (by decide +kernel)) ggX7_judged_X0_runs
theorem dX7_judged_0 : decode cX7_judged 0 = .ok (.aload_n 0, 1) := by decide +kernel
theorem dX7_judged_1 : decode cX7_judged 1 = .ok (.getfield 53, 3) := by decide +kernel
theorem dX7_judged_4 : decode cX7_judged 4 = .ok (.iload_n 1, 1) := by decide +kernel
theorem dX7_judged_5 : decode cX7_judged 5 = .ok (.invokevirtual 220, 3) := by decide +kernel
theorem dX7_judged_8 : decode cX7_judged 8 = .ok (.ifCond .ne 5, 3) := by decide +kernel
theorem dX7_judged_11 : decode cX7_judged 11 = .ok (.iconst 0, 1) := by decide +kernel
theorem dX7_judged_12 : decode cX7_judged 12 = .ok (.ireturn, 1) := by decide +kernel
theorem dX7_judged_13 : decode cX7_judged 13 = .ok (.aload_n 0, 1) := by decide +kernel
theorem dX7_judged_14 : decode cX7_judged 14 = .ok (.getfield 44, 3) := by decide +kernel
theorem dX7_judged_17 : decode cX7_judged 17 = .ok (.getfield 136, 3) := by decide +kernel
theorem dX7_judged_20 : decode cX7_judged 20 = .ok (.iload_n 1, 1) := by decide +kernel
theorem dX7_judged_21 : decode cX7_judged 21 = .ok (.iaload, 1) := by decide +kernel
theorem dX7_judged_22 : decode cX7_judged 22 = .ok (.ifCond .ne 5, 3) := by decide +kernel
theorem dX7_judged_25 : decode cX7_judged 25 = .ok (.iconst 1, 1) := by decide +kernel
theorem dX7_judged_26 : decode cX7_judged 26 = .ok (.ireturn, 1) := by decide +kernel
theorem dX7_judged_27 : decode cX7_judged 27 = .ok (.aload_n 0, 1) := by decide +kernel
theorem dX7_judged_28 : decode cX7_judged 28 = .ok (.getfield 44, 3) := by decide +kernel
theorem dX7_judged_31 : decode cX7_judged 31 = .ok (.getfield 136, 3) := by decide +kernel
theorem dX7_judged_34 : decode cX7_judged 34 = .ok (.iload_n 1, 1) := by decide +kernel
theorem dX7_judged_35 : decode cX7_judged 35 = .ok (.iaload, 1) := by decide +kernel
theorem dX7_judged_36 : decode cX7_judged 36 = .ok (.aload_n 0, 1) := by decide +kernel
theorem dX7_judged_37 : decode cX7_judged 37 = .ok (.getfield 19, 3) := by decide +kernel
theorem dX7_judged_40 : decode cX7_judged 40 = .ok (.invokevirtual 184, 3) := by decide +kernel
theorem dX7_judged_43 : decode cX7_judged 43 = .ok (.if_icmp .ge 7, 3) := by decide +kernel
theorem dX7_judged_46 : decode cX7_judged 46 = .ok (.iconst 2, 1) := by decide +kernel
theorem dX7_judged_47 : decode cX7_judged 47 = .ok (.goto 4, 3) := by decide +kernel
theorem dX7_judged_50 : decode cX7_judged 50 = .ok (.iconst 3, 1) := by decide +kernel
theorem dX7_judged_51 : decode cX7_judged 51 = .ok (.ireturn, 1) := by decide +kernel
set_option maxRecDepth 20000 in
theorem ggX7_needed_X7_leastOf : GoodIn wsX7_needed wsX7_leastOf := goodIn_r _ [10] (by decide +kernel) (by decide +kernel)
set_option maxRecDepth 20000 in
theorem gX7_needed_X7_leastOf : GoodIn wsX7_needed (va_wsS RX7 227 yX7_leastOf wsX7_leastOf) := goodIn_app (goodIn_of _ (by decide +kernel)) ggX7_needed_X7_leastOf
set_option maxRecDepth 20000 in
theorem ggX7_needed_X7_greatestOf : GoodIn wsX7_needed wsX7_greatestOf := goodIn_r _ [13] (by decide +kernel) (by decide +kernel)
set_option maxRecDepth 20000 in
theorem gX7_needed_X7_greatestOf : GoodIn wsX7_needed (va_wsS RX7 232 yX7_greatestOf wsX7_greatestOf) := goodIn_app (goodIn_of _ (by decide +kernel)) ggX7_needed_X7_greatestOf
theorem dX7_needed_0 : decode cX7_needed 0 = .ok (.aload_n 0, 1) := by decide +kernel
theorem dX7_needed_1 : decode cX7_needed 1 = .ok (.getfield 62, 3) := by decide +kernel
theorem dX7_needed_4 : decode cX7_needed 4 = .ok (.getfield 223, 3) := by decide +kernel
theorem dX7_needed_7 : decode cX7_needed 7 = .ok (.ifCond .eq 5, 3) := by decide +kernel
theorem dX7_needed_10 : decode cX7_needed 10 = .ok (.iconst (-1), 1) := by decide +kernel
theorem dX7_needed_11 : decode cX7_needed 11 = .ok (.ireturn, 1) := by decide +kernel
theorem dX7_needed_12 : decode cX7_needed 12 = .ok (.aload_n 0, 1) := by decide +kernel
theorem dX7_needed_13 : decode cX7_needed 13 = .ok (.getfield 10, 3) := by decide +kernel
theorem dX7_needed_16 : decode cX7_needed 16 = .ok (.getfield 171, 3) := by decide +kernel
theorem dX7_needed_19 : decode cX7_needed 19 = .ok (.iload_n 1, 1) := by decide +kernel
theorem dX7_needed_20 : decode cX7_needed 20 = .ok (.baload, 1) := by decide +kernel
theorem dX7_needed_21 : decode cX7_needed 21 = .ok (.istore_n 2, 1) := by decide +kernel
theorem dX7_needed_22 : decode cX7_needed 22 = .ok (.iconst 2, 1) := by decide +kernel
theorem dX7_needed_23 : decode cX7_needed 23 = .ok (.istore_n 3, 1) := by decide +kernel
theorem dX7_needed_24 : decode cX7_needed 24 = .ok (.iload_n 3, 1) := by decide +kernel
theorem dX7_needed_25 : decode cX7_needed 25 = .ok (.bipush 31, 2) := by decide +kernel
theorem dX7_needed_27 : decode cX7_needed 27 = .ok (.if_icmp .gt 47, 3) := by decide +kernel
theorem dX7_needed_30 : decode cX7_needed 30 = .ok (.aload_n 0, 1) := by decide +kernel
theorem dX7_needed_31 : decode cX7_needed 31 = .ok (.getfield 62, 3) := by decide +kernel
theorem dX7_needed_34 : decode cX7_needed 34 = .ok (.getfield 226, 3) := by decide +kernel
theorem dX7_needed_37 : decode cX7_needed 37 = .ok (.iload_n 1, 1) := by decide +kernel
theorem dX7_needed_38 : decode cX7_needed 38 = .ok (.laload, 1) := by decide +kernel
theorem dX7_needed_39 : decode cX7_needed 39 = .ok (.iload_n 3, 1) := by decide +kernel
theorem dX7_needed_40 : decode cX7_needed 40 = .ok (.iload_n 2, 1) := by decide +kernel
theorem dX7_needed_41 : decode cX7_needed 41 = .ok (.invokestatic 227, 3) := by decide +kernel
theorem dX7_needed_44 : decode cX7_needed 44 = .ok (.lcmp, 1) := by decide +kernel
theorem dX7_needed_45 : decode cX7_needed 45 = .ok (.ifCond .lt 23, 3) := by decide +kernel
theorem dX7_needed_48 : decode cX7_needed 48 = .ok (.aload_n 0, 1) := by decide +kernel
theorem dX7_needed_49 : decode cX7_needed 49 = .ok (.getfield 62, 3) := by decide +kernel
theorem dX7_needed_52 : decode cX7_needed 52 = .ok (.getfield 231, 3) := by decide +kernel
theorem dX7_needed_55 : decode cX7_needed 55 = .ok (.iload_n 1, 1) := by decide +kernel
theorem dX7_needed_56 : decode cX7_needed 56 = .ok (.laload, 1) := by decide +kernel
theorem dX7_needed_57 : decode cX7_needed 57 = .ok (.iload_n 3, 1) := by decide +kernel
theorem dX7_needed_58 : decode cX7_needed 58 = .ok (.iload_n 2, 1) := by decide +kernel
theorem dX7_needed_59 : decode cX7_needed 59 = .ok (.invokestatic 232, 3) := by decide +kernel
theorem dX7_needed_62 : decode cX7_needed 62 = .ok (.lcmp, 1) := by decide +kernel
theorem dX7_needed_63 : decode cX7_needed 63 = .ok (.ifCond .gt 5, 3) := by decide +kernel
theorem dX7_needed_66 : decode cX7_needed 66 = .ok (.iload_n 3, 1) := by decide +kernel
theorem dX7_needed_67 : decode cX7_needed 67 = .ok (.ireturn, 1) := by decide +kernel
theorem dX7_needed_68 : decode cX7_needed 68 = .ok (.iinc 3 1, 3) := by decide +kernel
theorem dX7_needed_71 : decode cX7_needed 71 = .ok (.goto (-47), 3) := by decide +kernel
theorem dX7_needed_74 : decode cX7_needed 74 = .ok (.iconst (-1), 1) := by decide +kernel
theorem dX7_needed_75 : decode cX7_needed 75 = .ok (.ireturn, 1) := by decide +kernel
set_option maxRecDepth 20000 in
theorem ggX7_canMend_X7_needed : GoodIn wsX7_canMend wsX7_needed := goodIn_r _ [5, 6, 7, 8, 9, 10, 11, 12, 13, 4, 14, 15, 16, 17, 18, 19, 20, 21, 22, 23, 24, 25, 26, 27, 28, 29, 30, 31, 32, 33, 34, 35, 36] (by decide +kernel) (by decide +kernel)
set_option maxRecDepth 20000 in
theorem gX7_canMend_X7_needed : GoodIn wsX7_canMend (wsV RX7 155 RX7 yX7_needed wsX7_needed) := goodIn_app (goodIn_of _ (by decide +kernel)) ggX7_canMend_X7_needed
theorem dX7_canMend_0 : decode cX7_canMend 0 = .ok (.iconst 0, 1) := by decide +kernel
theorem dX7_canMend_1 : decode cX7_canMend 1 = .ok (.istore_n 1, 1) := by decide +kernel
theorem dX7_canMend_2 : decode cX7_canMend 2 = .ok (.iload_n 1, 1) := by decide +kernel
theorem dX7_canMend_3 : decode cX7_canMend 3 = .ok (.bipush 6, 2) := by decide +kernel
theorem dX7_canMend_5 : decode cX7_canMend 5 = .ok (.if_icmp .ge 20, 3) := by decide +kernel
theorem dX7_canMend_8 : decode cX7_canMend 8 = .ok (.aload_n 0, 1) := by decide +kernel
theorem dX7_canMend_9 : decode cX7_canMend 9 = .ok (.iload_n 1, 1) := by decide +kernel
theorem dX7_canMend_10 : decode cX7_canMend 10 = .ok (.invokevirtual 155, 3) := by decide +kernel
theorem dX7_canMend_13 : decode cX7_canMend 13 = .ok (.iconst (-1), 1) := by decide +kernel
theorem dX7_canMend_14 : decode cX7_canMend 14 = .ok (.if_icmp .ne 5, 3) := by decide +kernel
theorem dX7_canMend_17 : decode cX7_canMend 17 = .ok (.iconst 0, 1) := by decide +kernel
theorem dX7_canMend_18 : decode cX7_canMend 18 = .ok (.ireturn, 1) := by decide +kernel
theorem dX7_canMend_19 : decode cX7_canMend 19 = .ok (.iinc 1 1, 3) := by decide +kernel
theorem dX7_canMend_22 : decode cX7_canMend 22 = .ok (.goto (-20), 3) := by decide +kernel
theorem dX7_canMend_25 : decode cX7_canMend 25 = .ok (.iconst 1, 1) := by decide +kernel
theorem dX7_canMend_26 : decode cX7_canMend 26 = .ok (.ireturn, 1) := by decide +kernel
set_option maxRecDepth 20000 in
theorem ggX7_isListed_X7_judged : GoodIn wsX7_isListed wsX7_judged := goodIn_r _ [7, 8, 9, 10, 11, 12, 13, 14, 15, 16, 17, 18, 19, 20, 21, 22, 23, 24, 25, 26, 27, 28, 29, 30, 31, 41, 42, 43, 44, 45, 46, 47, 48, 49, 50, 51, 52, 53, 54, 55, 56, 57, 58] (by decide +kernel) (by decide +kernel)
set_option maxRecDepth 20000 in
theorem gX7_isListed_X7_judged : GoodIn wsX7_isListed (wsV RX7 132 RX7 yX7_judged wsX7_judged) := goodIn_app (goodIn_of _ (by decide +kernel)) ggX7_isListed_X7_judged
theorem dX7_isListed_0 : decode cX7_isListed 0 = .ok (.aload_n 0, 1) := by decide +kernel
theorem dX7_isListed_1 : decode cX7_isListed 1 = .ok (.getfield 26, 3) := by decide +kernel
theorem dX7_isListed_4 : decode cX7_isListed 4 = .ok (.getfield 175, 3) := by decide +kernel
theorem dX7_isListed_7 : decode cX7_isListed 7 = .ok (.iload_n 1, 1) := by decide +kernel
theorem dX7_isListed_8 : decode cX7_isListed 8 = .ok (.baload, 1) := by decide +kernel
theorem dX7_isListed_9 : decode cX7_isListed 9 = .ok (.ifCond .ne 16, 3) := by decide +kernel
theorem dX7_isListed_12 : decode cX7_isListed 12 = .ok (.aload_n 0, 1) := by decide +kernel
theorem dX7_isListed_13 : decode cX7_isListed 13 = .ok (.iload_n 1, 1) := by decide +kernel
theorem dX7_isListed_14 : decode cX7_isListed 14 = .ok (.invokevirtual 132, 3) := by decide +kernel
theorem dX7_isListed_17 : decode cX7_isListed 17 = .ok (.iconst 2, 1) := by decide +kernel
theorem dX7_isListed_18 : decode cX7_isListed 18 = .ok (.if_icmp .lt 7, 3) := by decide +kernel
theorem dX7_isListed_21 : decode cX7_isListed 21 = .ok (.iconst 1, 1) := by decide +kernel
theorem dX7_isListed_22 : decode cX7_isListed 22 = .ok (.goto 4, 3) := by decide +kernel
theorem dX7_isListed_25 : decode cX7_isListed 25 = .ok (.iconst 0, 1) := by decide +kernel
theorem dX7_isListed_26 : decode cX7_isListed 26 = .ok (.ireturn, 1) := by decide +kernel
set_option maxRecDepth 20000 in
theorem ggX7_listedBefore_X7_isListed : GoodIn wsX7_listedBefore wsX7_isListed := goodIn_r _ [7, 1, 8, 9, 10, 11, 6, 12, 13, 14, 15, 16, 17, 18, 19, 20, 21, 22, 23, 24, 25, 26, 27, 28, 29, 34, 35, 36, 37, 38, 39, 40, 41, 42, 43, 44, 45, 46, 47, 48, 49, 50, 51, 52, 53, 54, 55, 56, 57, 58, 59, 60, 61, 62, 63, 64, 65, 66, 67] (by decide +kernel) (by decide +kernel)
set_option maxRecDepth 20000 in
theorem gX7_listedBefore_X7_isListed : GoodIn wsX7_listedBefore (wsV RX7 178 RX7 yX7_isListed wsX7_isListed) := goodIn_app (goodIn_of _ (by decide +kernel)) ggX7_listedBefore_X7_isListed
set_option maxRecDepth 20000 in
theorem ggX7_listedBefore_X7_comesBefore : GoodIn wsX7_listedBefore wsX7_comesBefore := goodIn_r _ [33, 14, 15, 34, 35, 36, 37, 38, 39, 40, 50, 51, 52, 53, 54, 55, 56] (by decide +kernel) (by decide +kernel)
set_option maxRecDepth 20000 in
theorem gX7_listedBefore_X7_comesBefore : GoodIn wsX7_listedBefore (wsV RX7 235 RX7 yX7_comesBefore wsX7_comesBefore) := goodIn_app (goodIn_of _ (by decide +kernel)) ggX7_listedBefore_X7_comesBefore
theorem dX7_listedBefore_0 : decode cX7_listedBefore 0 = .ok (.iconst 0, 1) := by decide +kernel
theorem dX7_listedBefore_1 : decode cX7_listedBefore 1 = .ok (.istore_n 2, 1) := by decide +kernel
theorem dX7_listedBefore_2 : decode cX7_listedBefore 2 = .ok (.iconst 0, 1) := by decide +kernel
theorem dX7_listedBefore_3 : decode cX7_listedBefore 3 = .ok (.istore_n 3, 1) := by decide +kernel
theorem dX7_listedBefore_4 : decode cX7_listedBefore 4 = .ok (.iload_n 3, 1) := by decide +kernel
theorem dX7_listedBefore_5 : decode cX7_listedBefore 5 = .ok (.aload_n 0, 1) := by decide +kernel
theorem dX7_listedBefore_6 : decode cX7_listedBefore 6 = .ok (.getfield 26, 3) := by decide +kernel
theorem dX7_listedBefore_9 : decode cX7_listedBefore 9 = .ok (.getfield 87, 3) := by decide +kernel
theorem dX7_listedBefore_12 : decode cX7_listedBefore 12 = .ok (.if_icmp .ge 29, 3) := by decide +kernel
theorem dX7_listedBefore_15 : decode cX7_listedBefore 15 = .ok (.aload_n 0, 1) := by decide +kernel
theorem dX7_listedBefore_16 : decode cX7_listedBefore 16 = .ok (.iload_n 3, 1) := by decide +kernel
theorem dX7_listedBefore_17 : decode cX7_listedBefore 17 = .ok (.invokevirtual 178, 3) := by decide +kernel
theorem dX7_listedBefore_20 : decode cX7_listedBefore 20 = .ok (.ifCond .eq 15, 3) := by decide +kernel
theorem dX7_listedBefore_23 : decode cX7_listedBefore 23 = .ok (.aload_n 0, 1) := by decide +kernel
theorem dX7_listedBefore_24 : decode cX7_listedBefore 24 = .ok (.iload_n 3, 1) := by decide +kernel
theorem dX7_listedBefore_25 : decode cX7_listedBefore 25 = .ok (.iload_n 1, 1) := by decide +kernel
theorem dX7_listedBefore_26 : decode cX7_listedBefore 26 = .ok (.invokevirtual 235, 3) := by decide +kernel
theorem dX7_listedBefore_29 : decode cX7_listedBefore 29 = .ok (.ifCond .eq 6, 3) := by decide +kernel
theorem dX7_listedBefore_32 : decode cX7_listedBefore 32 = .ok (.iinc 2 1, 3) := by decide +kernel
theorem dX7_listedBefore_35 : decode cX7_listedBefore 35 = .ok (.iinc 3 1, 3) := by decide +kernel
theorem dX7_listedBefore_38 : decode cX7_listedBefore 38 = .ok (.goto (-34), 3) := by decide +kernel
theorem dX7_listedBefore_41 : decode cX7_listedBefore 41 = .ok (.iload_n 2, 1) := by decide +kernel
theorem dX7_listedBefore_42 : decode cX7_listedBefore 42 = .ok (.ireturn, 1) := by decide +kernel
theorem dX7_comesBefore_0 : decode cX7_comesBefore 0 = .ok (.aload_n 0, 1) := by decide +kernel
theorem dX7_comesBefore_1 : decode cX7_comesBefore 1 = .ok (.getfield 44, 3) := by decide +kernel
theorem dX7_comesBefore_4 : decode cX7_comesBefore 4 = .ok (.getfield 136, 3) := by decide +kernel
theorem dX7_comesBefore_7 : decode cX7_comesBefore 7 = .ok (.iload_n 1, 1) := by decide +kernel
theorem dX7_comesBefore_8 : decode cX7_comesBefore 8 = .ok (.iaload, 1) := by decide +kernel
theorem dX7_comesBefore_9 : decode cX7_comesBefore 9 = .ok (.aload_n 0, 1) := by decide +kernel
theorem dX7_comesBefore_10 : decode cX7_comesBefore 10 = .ok (.getfield 44, 3) := by decide +kernel
theorem dX7_comesBefore_13 : decode cX7_comesBefore 13 = .ok (.getfield 136, 3) := by decide +kernel
theorem dX7_comesBefore_16 : decode cX7_comesBefore 16 = .ok (.iload_n 2, 1) := by decide +kernel
theorem dX7_comesBefore_17 : decode cX7_comesBefore 17 = .ok (.iaload, 1) := by decide +kernel
theorem dX7_comesBefore_18 : decode cX7_comesBefore 18 = .ok (.if_icmp .eq 30, 3) := by decide +kernel
theorem dX7_comesBefore_21 : decode cX7_comesBefore 21 = .ok (.aload_n 0, 1) := by decide +kernel
theorem dX7_comesBefore_22 : decode cX7_comesBefore 22 = .ok (.getfield 44, 3) := by decide +kernel
theorem dX7_comesBefore_25 : decode cX7_comesBefore 25 = .ok (.getfield 136, 3) := by decide +kernel
theorem dX7_comesBefore_28 : decode cX7_comesBefore 28 = .ok (.iload_n 1, 1) := by decide +kernel
theorem dX7_comesBefore_29 : decode cX7_comesBefore 29 = .ok (.iaload, 1) := by decide +kernel
theorem dX7_comesBefore_30 : decode cX7_comesBefore 30 = .ok (.aload_n 0, 1) := by decide +kernel
theorem dX7_comesBefore_31 : decode cX7_comesBefore 31 = .ok (.getfield 44, 3) := by decide +kernel
theorem dX7_comesBefore_34 : decode cX7_comesBefore 34 = .ok (.getfield 136, 3) := by decide +kernel
theorem dX7_comesBefore_37 : decode cX7_comesBefore 37 = .ok (.iload_n 2, 1) := by decide +kernel
theorem dX7_comesBefore_38 : decode cX7_comesBefore 38 = .ok (.iaload, 1) := by decide +kernel
theorem dX7_comesBefore_39 : decode cX7_comesBefore 39 = .ok (.if_icmp .le 7, 3) := by decide +kernel
theorem dX7_comesBefore_42 : decode cX7_comesBefore 42 = .ok (.iconst 1, 1) := by decide +kernel
theorem dX7_comesBefore_43 : decode cX7_comesBefore 43 = .ok (.goto 4, 3) := by decide +kernel
theorem dX7_comesBefore_46 : decode cX7_comesBefore 46 = .ok (.iconst 0, 1) := by decide +kernel
theorem dX7_comesBefore_47 : decode cX7_comesBefore 47 = .ok (.ireturn, 1) := by decide +kernel
theorem dX7_comesBefore_48 : decode cX7_comesBefore 48 = .ok (.iload_n 1, 1) := by decide +kernel
theorem dX7_comesBefore_49 : decode cX7_comesBefore 49 = .ok (.iload_n 2, 1) := by decide +kernel
theorem dX7_comesBefore_50 : decode cX7_comesBefore 50 = .ok (.if_icmp .ge 7, 3) := by decide +kernel
theorem dX7_comesBefore_53 : decode cX7_comesBefore 53 = .ok (.iconst 1, 1) := by decide +kernel
theorem dX7_comesBefore_54 : decode cX7_comesBefore 54 = .ok (.goto 4, 3) := by decide +kernel
theorem dX7_comesBefore_57 : decode cX7_comesBefore 57 = .ok (.iconst 0, 1) := by decide +kernel
theorem dX7_comesBefore_58 : decode cX7_comesBefore 58 = .ok (.ireturn, 1) := by decide +kernel
theorem dX8_init_0 : decode cX8_init 0 = .ok (.aload_n 0, 1) := by decide +kernel
theorem dX8_init_1 : decode cX8_init 1 = .ok (.invokespecial 1, 3) := by decide +kernel
theorem dX8_init_4 : decode cX8_init 4 = .ok (.aload_n 0, 1) := by decide +kernel
theorem dX8_init_5 : decode cX8_init 5 = .ok (.bipush 6, 2) := by decide +kernel
theorem dX8_init_7 : decode cX8_init 7 = .ok (.newarray .int, 2) := by decide +kernel
theorem dX8_init_9 : decode cX8_init 9 = .ok (.putfield 9, 3) := by decide +kernel
theorem dX8_init_12 : decode cX8_init 12 = .ok (.aload_n 0, 1) := by decide +kernel
theorem dX8_init_13 : decode cX8_init 13 = .ok (.bipush 6, 2) := by decide +kernel
theorem dX8_init_15 : decode cX8_init 15 = .ok (.newarray .boolean, 2) := by decide +kernel
theorem dX8_init_17 : decode cX8_init 17 = .ok (.putfield 13, 3) := by decide +kernel
theorem dX8_init_20 : decode cX8_init 20 = .ok (.aload_n 0, 1) := by decide +kernel
theorem dX8_init_21 : decode cX8_init 21 = .ok (.iconst 2, 1) := by decide +kernel
theorem dX8_init_22 : decode cX8_init 22 = .ok (.newarray .int, 2) := by decide +kernel
theorem dX8_init_24 : decode cX8_init 24 = .ok (.putfield 17, 3) := by decide +kernel
theorem dX8_init_27 : decode cX8_init 27 = .ok (.aload_n 0, 1) := by decide +kernel
theorem dX8_init_28 : decode cX8_init 28 = .ok (.iconst 2, 1) := by decide +kernel
theorem dX8_init_29 : decode cX8_init 29 = .ok (.newarray .int, 2) := by decide +kernel
theorem dX8_init_31 : decode cX8_init 31 = .ok (.putfield 20, 3) := by decide +kernel
theorem dX8_init_34 : decode cX8_init 34 = .ok (.aload_n 0, 1) := by decide +kernel
theorem dX8_init_35 : decode cX8_init 35 = .ok (.bipush 24, 2) := by decide +kernel
theorem dX8_init_37 : decode cX8_init 37 = .ok (.newarray .int, 2) := by decide +kernel
theorem dX8_init_39 : decode cX8_init 39 = .ok (.putfield 23, 3) := by decide +kernel
theorem dX8_init_42 : decode cX8_init 42 = .ok (.aload_n 0, 1) := by decide +kernel
theorem dX8_init_43 : decode cX8_init 43 = .ok (.bipush 24, 2) := by decide +kernel
theorem dX8_init_45 : decode cX8_init 45 = .ok (.newarray .int, 2) := by decide +kernel
theorem dX8_init_47 : decode cX8_init 47 = .ok (.putfield 26, 3) := by decide +kernel
theorem dX8_init_50 : decode cX8_init 50 = .ok (.aload_n 0, 1) := by decide +kernel
theorem dX8_init_51 : decode cX8_init 51 = .ok (.bipush 24, 2) := by decide +kernel
theorem dX8_init_53 : decode cX8_init 53 = .ok (.newarray .int, 2) := by decide +kernel
theorem dX8_init_55 : decode cX8_init 55 = .ok (.putfield 29, 3) := by decide +kernel
theorem dX8_init_58 : decode cX8_init 58 = .ok (.aload_n 0, 1) := by decide +kernel
theorem dX8_init_59 : decode cX8_init 59 = .ok (.bipush 24, 2) := by decide +kernel
theorem dX8_init_61 : decode cX8_init 61 = .ok (.newarray .int, 2) := by decide +kernel
theorem dX8_init_63 : decode cX8_init 63 = .ok (.putfield 32, 3) := by decide +kernel
theorem dX8_init_66 : decode cX8_init 66 = .ok (.aload_n 0, 1) := by decide +kernel
theorem dX8_init_67 : decode cX8_init 67 = .ok (.bipush 24, 2) := by decide +kernel
theorem dX8_init_69 : decode cX8_init 69 = .ok (.newarray .boolean, 2) := by decide +kernel
theorem dX8_init_71 : decode cX8_init 71 = .ok (.putfield 35, 3) := by decide +kernel
theorem dX8_init_74 : decode cX8_init 74 = .ok (.aload_n 0, 1) := by decide +kernel
theorem dX8_init_75 : decode cX8_init 75 = .ok (.sipush 288, 3) := by decide +kernel
theorem dX8_init_78 : decode cX8_init 78 = .ok (.newarray .int, 2) := by decide +kernel
theorem dX8_init_80 : decode cX8_init 80 = .ok (.putfield 38, 3) := by decide +kernel
theorem dX8_init_83 : decode cX8_init 83 = .ok (.aload_n 0, 1) := by decide +kernel
theorem dX8_init_84 : decode cX8_init 84 = .ok (.bipush 6, 2) := by decide +kernel
theorem dX8_init_86 : decode cX8_init 86 = .ok (.newarray .long, 2) := by decide +kernel
theorem dX8_init_88 : decode cX8_init 88 = .ok (.putfield 41, 3) := by decide +kernel
theorem dX8_init_91 : decode cX8_init 91 = .ok (.aload_n 0, 1) := by decide +kernel
theorem dX8_init_92 : decode cX8_init 92 = .ok (.bipush 24, 2) := by decide +kernel
theorem dX8_init_94 : decode cX8_init 94 = .ok (.newarray .boolean, 2) := by decide +kernel
theorem dX8_init_96 : decode cX8_init 96 = .ok (.putfield 45, 3) := by decide +kernel
theorem dX8_init_99 : decode cX8_init 99 = .ok (.aload_n 0, 1) := by decide +kernel
theorem dX8_init_100 : decode cX8_init 100 = .ok (.bipush 24, 2) := by decide +kernel
theorem dX8_init_102 : decode cX8_init 102 = .ok (.newarray .boolean, 2) := by decide +kernel
theorem dX8_init_104 : decode cX8_init 104 = .ok (.putfield 48, 3) := by decide +kernel
theorem dX8_init_107 : decode cX8_init 107 = .ok (.aload_n 0, 1) := by decide +kernel
theorem dX8_init_108 : decode cX8_init 108 = .ok (.bipush 24, 2) := by decide +kernel
theorem dX8_init_110 : decode cX8_init 110 = .ok (.newarray .int, 2) := by decide +kernel
theorem dX8_init_112 : decode cX8_init 112 = .ok (.putfield 51, 3) := by decide +kernel
theorem dX8_init_115 : decode cX8_init 115 = .ok (.aload_n 0, 1) := by decide +kernel
theorem dX8_init_116 : decode cX8_init 116 = .ok (.bipush 24, 2) := by decide +kernel
theorem dX8_init_118 : decode cX8_init 118 = .ok (.newarray .int, 2) := by decide +kernel
theorem dX8_init_120 : decode cX8_init 120 = .ok (.putfield 54, 3) := by decide +kernel
theorem dX8_init_123 : decode cX8_init 123 = .ok (.aload_n 0, 1) := by decide +kernel
theorem dX8_init_124 : decode cX8_init 124 = .ok (.bipush 24, 2) := by decide +kernel
theorem dX8_init_126 : decode cX8_init 126 = .ok (.newarray .int, 2) := by decide +kernel
theorem dX8_init_128 : decode cX8_init 128 = .ok (.putfield 57, 3) := by decide +kernel
theorem dX8_init_131 : decode cX8_init 131 = .ok (.aload_n 0, 1) := by decide +kernel
theorem dX8_init_132 : decode cX8_init 132 = .ok (.bipush 6, 2) := by decide +kernel
theorem dX8_init_134 : decode cX8_init 134 = .ok (.newarray .long, 2) := by decide +kernel
theorem dX8_init_136 : decode cX8_init 136 = .ok (.putfield 60, 3) := by decide +kernel
theorem dX8_init_139 : decode cX8_init 139 = .ok (.aload_n 0, 1) := by decide +kernel
theorem dX8_init_140 : decode cX8_init 140 = .ok (.bipush 6, 2) := by decide +kernel
theorem dX8_init_142 : decode cX8_init 142 = .ok (.newarray .long, 2) := by decide +kernel
theorem dX8_init_144 : decode cX8_init 144 = .ok (.putfield 63, 3) := by decide +kernel
theorem dX8_init_147 : decode cX8_init 147 = .ok (.aload_n 0, 1) := by decide +kernel
theorem dX8_init_148 : decode cX8_init 148 = .ok (.bipush 24, 2) := by decide +kernel
theorem dX8_init_150 : decode cX8_init 150 = .ok (.newarray .boolean, 2) := by decide +kernel
theorem dX8_init_152 : decode cX8_init 152 = .ok (.putfield 66, 3) := by decide +kernel
theorem dX8_init_155 : decode cX8_init 155 = .ok (.aload_n 0, 1) := by decide +kernel
theorem dX8_init_156 : decode cX8_init 156 = .ok (.bipush 6, 2) := by decide +kernel
theorem dX8_init_158 : decode cX8_init 158 = .ok (.newarray .long, 2) := by decide +kernel
theorem dX8_init_160 : decode cX8_init 160 = .ok (.putfield 69, 3) := by decide +kernel
theorem dX8_init_163 : decode cX8_init 163 = .ok (.aload_n 0, 1) := by decide +kernel
theorem dX8_init_164 : decode cX8_init 164 = .ok (.bipush 6, 2) := by decide +kernel
theorem dX8_init_166 : decode cX8_init 166 = .ok (.newarray .long, 2) := by decide +kernel
theorem dX8_init_168 : decode cX8_init 168 = .ok (.putfield 72, 3) := by decide +kernel
theorem dX8_init_171 : decode cX8_init 171 = .ok (.iconst 0, 1) := by decide +kernel
theorem dX8_init_172 : decode cX8_init 172 = .ok (.istore_n 1, 1) := by decide +kernel
theorem dX8_init_173 : decode cX8_init 173 = .ok (.iload_n 1, 1) := by decide +kernel
theorem dX8_init_174 : decode cX8_init 174 = .ok (.bipush 6, 2) := by decide +kernel
theorem dX8_init_176 : decode cX8_init 176 = .ok (.if_icmp .ge 24, 3) := by decide +kernel
theorem dX8_init_179 : decode cX8_init 179 = .ok (.aload_n 0, 1) := by decide +kernel
theorem dX8_init_180 : decode cX8_init 180 = .ok (.getfield 9, 3) := by decide +kernel
theorem dX8_init_183 : decode cX8_init 183 = .ok (.iload_n 1, 1) := by decide +kernel
theorem dX8_init_184 : decode cX8_init 184 = .ok (.bipush 16, 2) := by decide +kernel
theorem dX8_init_186 : decode cX8_init 186 = .ok (.iastore, 1) := by decide +kernel
theorem dX8_init_187 : decode cX8_init 187 = .ok (.aload_n 0, 1) := by decide +kernel
theorem dX8_init_188 : decode cX8_init 188 = .ok (.getfield 13, 3) := by decide +kernel
theorem dX8_init_191 : decode cX8_init 191 = .ok (.iload_n 1, 1) := by decide +kernel
theorem dX8_init_192 : decode cX8_init 192 = .ok (.iconst 1, 1) := by decide +kernel
theorem dX8_init_193 : decode cX8_init 193 = .ok (.bastore, 1) := by decide +kernel
theorem dX8_init_194 : decode cX8_init 194 = .ok (.iinc 1 1, 3) := by decide +kernel
theorem dX8_init_197 : decode cX8_init 197 = .ok (.goto (-24), 3) := by decide +kernel
theorem dX8_init_200 : decode cX8_init 200 = .ok (.return_, 1) := by decide +kernel
theorem dX8_in_0 : decode cX8_in 0 = .ok (.lload_n 0, 1) := by decide +kernel
theorem dX8_in_1 : decode cX8_in 1 = .ok (.lload_n 2, 1) := by decide +kernel
theorem dX8_in_2 : decode cX8_in 2 = .ok (.lcmp, 1) := by decide +kernel
theorem dX8_in_3 : decode cX8_in 3 = .ok (.ifCond .lt 14, 3) := by decide +kernel
theorem dX8_in_6 : decode cX8_in 6 = .ok (.lload_n 0, 1) := by decide +kernel
theorem dX8_in_7 : decode cX8_in 7 = .ok (.lload 4, 2) := by decide +kernel
theorem dX8_in_9 : decode cX8_in 9 = .ok (.lcmp, 1) := by decide +kernel
theorem dX8_in_10 : decode cX8_in 10 = .ok (.ifCond .gt 7, 3) := by decide +kernel
theorem dX8_in_13 : decode cX8_in 13 = .ok (.iconst 1, 1) := by decide +kernel
theorem dX8_in_14 : decode cX8_in 14 = .ok (.goto 4, 3) := by decide +kernel
theorem dX8_in_17 : decode cX8_in 17 = .ok (.iconst 0, 1) := by decide +kernel
theorem dX8_in_18 : decode cX8_in 18 = .ok (.ireturn, 1) := by decide +kernel
set_option maxRecDepth 20000 in
theorem ggX8_isStep_X8_in : GoodIn wsX8_isStep wsX8_in := goodIn_r _ [5] (by decide +kernel) (by decide +kernel)
set_option maxRecDepth 20000 in
theorem gX8_isStep_X8_in : GoodIn wsX8_isStep (va_wsS RX8 79 yX8_in wsX8_in) := goodIn_app (goodIn_of _ (by decide +kernel)) ggX8_isStep_X8_in
theorem dX8_isStep_0 : decode cX8_isStep 0 = .ok (.iload_n 1, 1) := by decide +kernel
theorem dX8_isStep_1 : decode cX8_isStep 1 = .ok (.i2l, 1) := by decide +kernel
theorem dX8_isStep_2 : decode cX8_isStep 2 = .ok (.lconst 0, 1) := by decide +kernel
theorem dX8_isStep_3 : decode cX8_isStep 3 = .ok (.aload_n 0, 1) := by decide +kernel
theorem dX8_isStep_4 : decode cX8_isStep 4 = .ok (.getfield 75, 3) := by decide +kernel
theorem dX8_isStep_7 : decode cX8_isStep 7 = .ok (.iconst 1, 1) := by decide +kernel
theorem dX8_isStep_8 : decode cX8_isStep 8 = .ok (.isub, 1) := by decide +kernel
theorem dX8_isStep_9 : decode cX8_isStep 9 = .ok (.i2l, 1) := by decide +kernel
theorem dX8_isStep_10 : decode cX8_isStep 10 = .ok (.invokestatic 79, 3) := by decide +kernel
theorem dX8_isStep_13 : decode cX8_isStep 13 = .ok (.ireturn, 1) := by decide +kernel
set_option maxRecDepth 20000 in
theorem ggX8_isName_X8_in : GoodIn wsX8_isName wsX8_in := goodIn_r _ [5] (by decide +kernel) (by decide +kernel)
set_option maxRecDepth 20000 in
theorem gX8_isName_X8_in : GoodIn wsX8_isName (va_wsS RX8 79 yX8_in wsX8_in) := goodIn_app (goodIn_of _ (by decide +kernel)) ggX8_isName_X8_in
theorem dX8_isName_0 : decode cX8_isName 0 = .ok (.iload_n 0, 1) := by decide +kernel
theorem dX8_isName_1 : decode cX8_isName 1 = .ok (.i2l, 1) := by decide +kernel
theorem dX8_isName_2 : decode cX8_isName 2 = .ok (.lconst 0, 1) := by decide +kernel
theorem dX8_isName_3 : decode cX8_isName 3 = .ok (.ldc2_w 83, 3) := by decide +kernel
theorem dX8_isName_6 : decode cX8_isName 6 = .ok (.invokestatic 79, 3) := by decide +kernel
theorem dX8_isName_9 : decode cX8_isName 9 = .ok (.ireturn, 1) := by decide +kernel
set_option maxRecDepth 20000 in
theorem ggX8_name_X8_isName : GoodIn wsX8_name wsX8_isName := goodIn_r _ [8, 9, 10, 11, 7, 12] (by decide +kernel) (by decide +kernel)
set_option maxRecDepth 20000 in
theorem gX8_name_X8_isName : GoodIn wsX8_name (va_wsS RX8 85 yX8_isName wsX8_isName) := goodIn_app (goodIn_of _ (by decide +kernel)) ggX8_name_X8_isName
set_option maxRecDepth 20000 in
theorem ggX8_name_X8_in : GoodIn wsX8_name wsX8_in := goodIn_r _ [12] (by decide +kernel) (by decide +kernel)
set_option maxRecDepth 20000 in
theorem gX8_name_X8_in : GoodIn wsX8_name (va_wsS RX8 79 yX8_in wsX8_in) := goodIn_app (goodIn_of _ (by decide +kernel)) ggX8_name_X8_in
theorem dX8_name_0 : decode cX8_name 0 = .ok (.iload_n 1, 1) := by decide +kernel
theorem dX8_name_1 : decode cX8_name 1 = .ok (.invokestatic 85, 3) := by decide +kernel
theorem dX8_name_4 : decode cX8_name 4 = .ok (.ifCond .eq 17, 3) := by decide +kernel
theorem dX8_name_7 : decode cX8_name 7 = .ok (.iload_n 2, 1) := by decide +kernel
theorem dX8_name_8 : decode cX8_name 8 = .ok (.i2l, 1) := by decide +kernel
theorem dX8_name_9 : decode cX8_name 9 = .ok (.ldc2_w 89, 3) := by decide +kernel
theorem dX8_name_12 : decode cX8_name 12 = .ok (.ldc2_w 91, 3) := by decide +kernel
theorem dX8_name_15 : decode cX8_name 15 = .ok (.invokestatic 79, 3) := by decide +kernel
theorem dX8_name_18 : decode cX8_name 18 = .ok (.ifCond .ne 5, 3) := by decide +kernel
theorem dX8_name_21 : decode cX8_name 21 = .ok (.iconst 0, 1) := by decide +kernel
theorem dX8_name_22 : decode cX8_name 22 = .ok (.ireturn, 1) := by decide +kernel
theorem dX8_name_23 : decode cX8_name 23 = .ok (.aload_n 0, 1) := by decide +kernel
theorem dX8_name_24 : decode cX8_name 24 = .ok (.getfield 9, 3) := by decide +kernel
theorem dX8_name_27 : decode cX8_name 27 = .ok (.iload_n 1, 1) := by decide +kernel
theorem dX8_name_28 : decode cX8_name 28 = .ok (.iload_n 2, 1) := by decide +kernel
theorem dX8_name_29 : decode cX8_name 29 = .ok (.iastore, 1) := by decide +kernel
theorem dX8_name_30 : decode cX8_name 30 = .ok (.aload_n 0, 1) := by decide +kernel
theorem dX8_name_31 : decode cX8_name 31 = .ok (.getfield 13, 3) := by decide +kernel
theorem dX8_name_34 : decode cX8_name 34 = .ok (.iload_n 1, 1) := by decide +kernel
theorem dX8_name_35 : decode cX8_name 35 = .ok (.iload_n 3, 1) := by decide +kernel
theorem dX8_name_36 : decode cX8_name 36 = .ok (.bastore, 1) := by decide +kernel
theorem dX8_name_37 : decode cX8_name 37 = .ok (.iconst 1, 1) := by decide +kernel
theorem dX8_name_38 : decode cX8_name 38 = .ok (.ireturn, 1) := by decide +kernel
set_option maxRecDepth 20000 in
theorem ggX8_span_X8_in : GoodIn wsX8_span wsX8_in := goodIn_r _ [8] (by decide +kernel) (by decide +kernel)
set_option maxRecDepth 20000 in
theorem gX8_span_X8_in : GoodIn wsX8_span (va_wsS RX8 79 yX8_in wsX8_in) := goodIn_app (goodIn_of _ (by decide +kernel)) ggX8_span_X8_in
theorem dX8_span_0 : decode cX8_span 0 = .ok (.iload_n 1, 1) := by decide +kernel
theorem dX8_span_1 : decode cX8_span 1 = .ok (.i2l, 1) := by decide +kernel
theorem dX8_span_2 : decode cX8_span 2 = .ok (.lconst 0, 1) := by decide +kernel
theorem dX8_span_3 : decode cX8_span 3 = .ok (.lconst 1, 1) := by decide +kernel
theorem dX8_span_4 : decode cX8_span 4 = .ok (.invokestatic 79, 3) := by decide +kernel
theorem dX8_span_7 : decode cX8_span 7 = .ok (.ifCond .eq 38, 3) := by decide +kernel
theorem dX8_span_10 : decode cX8_span 10 = .ok (.iload_n 2, 1) := by decide +kernel
theorem dX8_span_11 : decode cX8_span 11 = .ok (.i2l, 1) := by decide +kernel
theorem dX8_span_12 : decode cX8_span 12 = .ok (.ldc2_w 93, 3) := by decide +kernel
theorem dX8_span_15 : decode cX8_span 15 = .ok (.ldc2_w 95, 3) := by decide +kernel
theorem dX8_span_18 : decode cX8_span 18 = .ok (.invokestatic 79, 3) := by decide +kernel
theorem dX8_span_21 : decode cX8_span 21 = .ok (.ifCond .eq 24, 3) := by decide +kernel
theorem dX8_span_24 : decode cX8_span 24 = .ok (.iload_n 3, 1) := by decide +kernel
theorem dX8_span_25 : decode cX8_span 25 = .ok (.i2l, 1) := by decide +kernel
theorem dX8_span_26 : decode cX8_span 26 = .ok (.iload_n 2, 1) := by decide +kernel
theorem dX8_span_27 : decode cX8_span 27 = .ok (.i2l, 1) := by decide +kernel
theorem dX8_span_28 : decode cX8_span 28 = .ok (.ldc2_w 95, 3) := by decide +kernel
theorem dX8_span_31 : decode cX8_span 31 = .ok (.invokestatic 79, 3) := by decide +kernel
theorem dX8_span_34 : decode cX8_span 34 = .ok (.ifCond .eq 11, 3) := by decide +kernel
theorem dX8_span_37 : decode cX8_span 37 = .ok (.iload_n 3, 1) := by decide +kernel
theorem dX8_span_38 : decode cX8_span 38 = .ok (.iload_n 2, 1) := by decide +kernel
theorem dX8_span_39 : decode cX8_span 39 = .ok (.isub, 1) := by decide +kernel
theorem dX8_span_40 : decode cX8_span 40 = .ok (.bipush 31, 2) := by decide +kernel
theorem dX8_span_42 : decode cX8_span 42 = .ok (.if_icmp .le 5, 3) := by decide +kernel
theorem dX8_span_45 : decode cX8_span 45 = .ok (.iconst 0, 1) := by decide +kernel
theorem dX8_span_46 : decode cX8_span 46 = .ok (.ireturn, 1) := by decide +kernel
theorem dX8_span_47 : decode cX8_span 47 = .ok (.aload_n 0, 1) := by decide +kernel
theorem dX8_span_48 : decode cX8_span 48 = .ok (.getfield 17, 3) := by decide +kernel
theorem dX8_span_51 : decode cX8_span 51 = .ok (.iload_n 1, 1) := by decide +kernel
theorem dX8_span_52 : decode cX8_span 52 = .ok (.iload_n 2, 1) := by decide +kernel
theorem dX8_span_53 : decode cX8_span 53 = .ok (.iastore, 1) := by decide +kernel
theorem dX8_span_54 : decode cX8_span 54 = .ok (.aload_n 0, 1) := by decide +kernel
theorem dX8_span_55 : decode cX8_span 55 = .ok (.getfield 20, 3) := by decide +kernel
theorem dX8_span_58 : decode cX8_span 58 = .ok (.iload_n 1, 1) := by decide +kernel
theorem dX8_span_59 : decode cX8_span 59 = .ok (.iload_n 3, 1) := by decide +kernel
theorem dX8_span_60 : decode cX8_span 60 = .ok (.iastore, 1) := by decide +kernel
theorem dX8_span_61 : decode cX8_span 61 = .ok (.iconst 1, 1) := by decide +kernel
theorem dX8_span_62 : decode cX8_span 62 = .ok (.ireturn, 1) := by decide +kernel
theorem dX8_isOpen_0 : decode cX8_isOpen 0 = .ok (.iconst 0, 1) := by decide +kernel
theorem dX8_isOpen_1 : decode cX8_isOpen 1 = .ok (.istore_n 1, 1) := by decide +kernel
theorem dX8_isOpen_2 : decode cX8_isOpen 2 = .ok (.iconst 0, 1) := by decide +kernel
theorem dX8_isOpen_3 : decode cX8_isOpen 3 = .ok (.istore_n 2, 1) := by decide +kernel
theorem dX8_isOpen_4 : decode cX8_isOpen 4 = .ok (.iload_n 2, 1) := by decide +kernel
theorem dX8_isOpen_5 : decode cX8_isOpen 5 = .ok (.aload_n 0, 1) := by decide +kernel
theorem dX8_isOpen_6 : decode cX8_isOpen 6 = .ok (.getfield 75, 3) := by decide +kernel
theorem dX8_isOpen_9 : decode cX8_isOpen 9 = .ok (.if_icmp .ge 41, 3) := by decide +kernel
theorem dX8_isOpen_12 : decode cX8_isOpen 12 = .ok (.aload_n 0, 1) := by decide +kernel
theorem dX8_isOpen_13 : decode cX8_isOpen 13 = .ok (.getfield 23, 3) := by decide +kernel
theorem dX8_isOpen_16 : decode cX8_isOpen 16 = .ok (.iload_n 2, 1) := by decide +kernel
theorem dX8_isOpen_17 : decode cX8_isOpen 17 = .ok (.iaload, 1) := by decide +kernel
theorem dX8_isOpen_18 : decode cX8_isOpen 18 = .ok (.bipush 8, 2) := by decide +kernel
theorem dX8_isOpen_20 : decode cX8_isOpen 20 = .ok (.if_icmp .eq 18, 3) := by decide +kernel
theorem dX8_isOpen_23 : decode cX8_isOpen 23 = .ok (.aload_n 0, 1) := by decide +kernel
theorem dX8_isOpen_24 : decode cX8_isOpen 24 = .ok (.getfield 23, 3) := by decide +kernel
theorem dX8_isOpen_27 : decode cX8_isOpen 27 = .ok (.iload_n 2, 1) := by decide +kernel
theorem dX8_isOpen_28 : decode cX8_isOpen 28 = .ok (.iaload, 1) := by decide +kernel
theorem dX8_isOpen_29 : decode cX8_isOpen 29 = .ok (.bipush 9, 2) := by decide +kernel
theorem dX8_isOpen_31 : decode cX8_isOpen 31 = .ok (.if_icmp .eq 11, 3) := by decide +kernel
theorem dX8_isOpen_34 : decode cX8_isOpen 34 = .ok (.iload_n 1, 1) := by decide +kernel
theorem dX8_isOpen_35 : decode cX8_isOpen 35 = .ok (.ifCond .eq 7, 3) := by decide +kernel
theorem dX8_isOpen_38 : decode cX8_isOpen 38 = .ok (.iconst 1, 1) := by decide +kernel
theorem dX8_isOpen_39 : decode cX8_isOpen 39 = .ok (.goto 4, 3) := by decide +kernel
theorem dX8_isOpen_42 : decode cX8_isOpen 42 = .ok (.iconst 0, 1) := by decide +kernel
theorem dX8_isOpen_43 : decode cX8_isOpen 43 = .ok (.istore_n 1, 1) := by decide +kernel
theorem dX8_isOpen_44 : decode cX8_isOpen 44 = .ok (.iinc 2 1, 3) := by decide +kernel
theorem dX8_isOpen_47 : decode cX8_isOpen 47 = .ok (.goto (-43), 3) := by decide +kernel
theorem dX8_isOpen_50 : decode cX8_isOpen 50 = .ok (.iload_n 1, 1) := by decide +kernel
theorem dX8_isOpen_51 : decode cX8_isOpen 51 = .ok (.ireturn, 1) := by decide +kernel
set_option maxRecDepth 20000 in
theorem ggX8_canBe_X8_isName : GoodIn wsX8_canBe wsX8_isName := goodIn_r _ [7, 8, 9, 10, 6, 11] (by decide +kernel) (by decide +kernel)
set_option maxRecDepth 20000 in
theorem gX8_canBe_X8_isName : GoodIn wsX8_canBe (va_wsS RX8 85 yX8_isName wsX8_isName) := goodIn_app (goodIn_of _ (by decide +kernel)) ggX8_canBe_X8_isName
set_option maxRecDepth 20000 in
theorem ggX8_canBe_X8_in : GoodIn wsX8_canBe wsX8_in := goodIn_r _ [11] (by decide +kernel) (by decide +kernel)
set_option maxRecDepth 20000 in
theorem gX8_canBe_X8_in : GoodIn wsX8_canBe (va_wsS RX8 79 yX8_in wsX8_in) := goodIn_app (goodIn_of _ (by decide +kernel)) ggX8_canBe_X8_in
set_option maxRecDepth 20000 in
theorem ggX8_canBe_X8_isOpen : GoodIn wsX8_canBe wsX8_isOpen := goodIn_r _ [15, 16, 17, 18, 19, 20, 21, 22, 23, 24, 25, 26, 27, 28, 29, 30, 31, 32, 33, 34, 35, 36, 37, 38, 39, 40, 41, 42, 43] (by decide +kernel) (by decide +kernel)
set_option maxRecDepth 20000 in
theorem gX8_canBe_X8_isOpen : GoodIn wsX8_canBe (wsV RX8 99 RX8 yX8_isOpen wsX8_isOpen) := goodIn_app (goodIn_of _ (by decide +kernel)) ggX8_canBe_X8_isOpen
theorem dX8_canBe_0 : decode cX8_canBe 0 = .ok (.iload_n 1, 1) := by decide +kernel
theorem dX8_canBe_1 : decode cX8_canBe 1 = .ok (.tableswitch 195 0 9 #[55, 83, 103, 103, 103, 131, 103, 103, 164, 190], 55) := by decide +kernel
theorem dX8_canBe_56 : decode cX8_canBe 56 = .ok (.iload_n 2, 1) := by decide +kernel
theorem dX8_canBe_57 : decode cX8_canBe 57 = .ok (.invokestatic 85, 3) := by decide +kernel
theorem dX8_canBe_60 : decode cX8_canBe 60 = .ok (.ifCond .eq 22, 3) := by decide +kernel
theorem dX8_canBe_63 : decode cX8_canBe 63 = .ok (.iload 4, 2) := by decide +kernel
theorem dX8_canBe_65 : decode cX8_canBe 65 = .ok (.i2l, 1) := by decide +kernel
theorem dX8_canBe_66 : decode cX8_canBe 66 = .ok (.ldc2_w 93, 3) := by decide +kernel
theorem dX8_canBe_69 : decode cX8_canBe 69 = .ok (.ldc2_w 95, 3) := by decide +kernel
theorem dX8_canBe_72 : decode cX8_canBe 72 = .ok (.invokestatic 79, 3) := by decide +kernel
theorem dX8_canBe_75 : decode cX8_canBe 75 = .ok (.ifCond .eq 7, 3) := by decide +kernel
theorem dX8_canBe_78 : decode cX8_canBe 78 = .ok (.iconst 1, 1) := by decide +kernel
theorem dX8_canBe_79 : decode cX8_canBe 79 = .ok (.goto 4, 3) := by decide +kernel
theorem dX8_canBe_82 : decode cX8_canBe 82 = .ok (.iconst 0, 1) := by decide +kernel
theorem dX8_canBe_83 : decode cX8_canBe 83 = .ok (.ireturn, 1) := by decide +kernel
theorem dX8_canBe_84 : decode cX8_canBe 84 = .ok (.iload_n 2, 1) := by decide +kernel
theorem dX8_canBe_85 : decode cX8_canBe 85 = .ok (.invokestatic 85, 3) := by decide +kernel
theorem dX8_canBe_88 : decode cX8_canBe 88 = .ok (.ifCond .eq 14, 3) := by decide +kernel
theorem dX8_canBe_91 : decode cX8_canBe 91 = .ok (.iload_n 3, 1) := by decide +kernel
theorem dX8_canBe_92 : decode cX8_canBe 92 = .ok (.invokestatic 85, 3) := by decide +kernel
theorem dX8_canBe_95 : decode cX8_canBe 95 = .ok (.ifCond .eq 7, 3) := by decide +kernel
theorem dX8_canBe_98 : decode cX8_canBe 98 = .ok (.iconst 1, 1) := by decide +kernel
theorem dX8_canBe_99 : decode cX8_canBe 99 = .ok (.goto 4, 3) := by decide +kernel
theorem dX8_canBe_102 : decode cX8_canBe 102 = .ok (.iconst 0, 1) := by decide +kernel
theorem dX8_canBe_103 : decode cX8_canBe 103 = .ok (.ireturn, 1) := by decide +kernel
theorem dX8_canBe_104 : decode cX8_canBe 104 = .ok (.iload_n 2, 1) := by decide +kernel
theorem dX8_canBe_105 : decode cX8_canBe 105 = .ok (.invokestatic 85, 3) := by decide +kernel
theorem dX8_canBe_108 : decode cX8_canBe 108 = .ok (.ifCond .eq 22, 3) := by decide +kernel
theorem dX8_canBe_111 : decode cX8_canBe 111 = .ok (.iload_n 3, 1) := by decide +kernel
theorem dX8_canBe_112 : decode cX8_canBe 112 = .ok (.invokestatic 85, 3) := by decide +kernel
theorem dX8_canBe_115 : decode cX8_canBe 115 = .ok (.ifCond .eq 15, 3) := by decide +kernel
theorem dX8_canBe_118 : decode cX8_canBe 118 = .ok (.iload 4, 2) := by decide +kernel
theorem dX8_canBe_120 : decode cX8_canBe 120 = .ok (.invokestatic 85, 3) := by decide +kernel
theorem dX8_canBe_123 : decode cX8_canBe 123 = .ok (.ifCond .eq 7, 3) := by decide +kernel
theorem dX8_canBe_126 : decode cX8_canBe 126 = .ok (.iconst 1, 1) := by decide +kernel
theorem dX8_canBe_127 : decode cX8_canBe 127 = .ok (.goto 4, 3) := by decide +kernel
theorem dX8_canBe_130 : decode cX8_canBe 130 = .ok (.iconst 0, 1) := by decide +kernel
theorem dX8_canBe_131 : decode cX8_canBe 131 = .ok (.ireturn, 1) := by decide +kernel
theorem dX8_canBe_132 : decode cX8_canBe 132 = .ok (.iload_n 2, 1) := by decide +kernel
theorem dX8_canBe_133 : decode cX8_canBe 133 = .ok (.invokestatic 85, 3) := by decide +kernel
theorem dX8_canBe_136 : decode cX8_canBe 136 = .ok (.ifCond .eq 27, 3) := by decide +kernel
theorem dX8_canBe_139 : decode cX8_canBe 139 = .ok (.iload_n 3, 1) := by decide +kernel
theorem dX8_canBe_140 : decode cX8_canBe 140 = .ok (.invokestatic 85, 3) := by decide +kernel
theorem dX8_canBe_143 : decode cX8_canBe 143 = .ok (.ifCond .eq 20, 3) := by decide +kernel
theorem dX8_canBe_146 : decode cX8_canBe 146 = .ok (.iload 4, 2) := by decide +kernel
theorem dX8_canBe_148 : decode cX8_canBe 148 = .ok (.i2l, 1) := by decide +kernel
theorem dX8_canBe_149 : decode cX8_canBe 149 = .ok (.lconst 0, 1) := by decide +kernel
theorem dX8_canBe_150 : decode cX8_canBe 150 = .ok (.ldc2_w 97, 3) := by decide +kernel
theorem dX8_canBe_153 : decode cX8_canBe 153 = .ok (.invokestatic 79, 3) := by decide +kernel
theorem dX8_canBe_156 : decode cX8_canBe 156 = .ok (.ifCond .eq 7, 3) := by decide +kernel
theorem dX8_canBe_159 : decode cX8_canBe 159 = .ok (.iconst 1, 1) := by decide +kernel
theorem dX8_canBe_160 : decode cX8_canBe 160 = .ok (.goto 4, 3) := by decide +kernel
theorem dX8_canBe_163 : decode cX8_canBe 163 = .ok (.iconst 0, 1) := by decide +kernel
theorem dX8_canBe_164 : decode cX8_canBe 164 = .ok (.ireturn, 1) := by decide +kernel
theorem dX8_canBe_165 : decode cX8_canBe 165 = .ok (.iload 4, 2) := by decide +kernel
theorem dX8_canBe_167 : decode cX8_canBe 167 = .ok (.i2l, 1) := by decide +kernel
theorem dX8_canBe_168 : decode cX8_canBe 168 = .ok (.lconst 1, 1) := by decide +kernel
theorem dX8_canBe_169 : decode cX8_canBe 169 = .ok (.ldc2_w 97, 3) := by decide +kernel
theorem dX8_canBe_172 : decode cX8_canBe 172 = .ok (.invokestatic 79, 3) := by decide +kernel
theorem dX8_canBe_175 : decode cX8_canBe 175 = .ok (.ifCond .eq 14, 3) := by decide +kernel
theorem dX8_canBe_178 : decode cX8_canBe 178 = .ok (.aload_n 0, 1) := by decide +kernel
theorem dX8_canBe_179 : decode cX8_canBe 179 = .ok (.invokevirtual 99, 3) := by decide +kernel
theorem dX8_canBe_182 : decode cX8_canBe 182 = .ok (.ifCond .ne 7, 3) := by decide +kernel
theorem dX8_canBe_185 : decode cX8_canBe 185 = .ok (.iconst 1, 1) := by decide +kernel
theorem dX8_canBe_186 : decode cX8_canBe 186 = .ok (.goto 4, 3) := by decide +kernel
theorem dX8_canBe_189 : decode cX8_canBe 189 = .ok (.iconst 0, 1) := by decide +kernel
theorem dX8_canBe_190 : decode cX8_canBe 190 = .ok (.ireturn, 1) := by decide +kernel
theorem dX8_canBe_191 : decode cX8_canBe 191 = .ok (.aload_n 0, 1) := by decide +kernel
theorem dX8_canBe_192 : decode cX8_canBe 192 = .ok (.invokevirtual 99, 3) := by decide +kernel
theorem dX8_canBe_195 : decode cX8_canBe 195 = .ok (.ireturn, 1) := by decide +kernel
theorem dX8_canBe_196 : decode cX8_canBe 196 = .ok (.iconst 0, 1) := by decide +kernel
theorem dX8_canBe_197 : decode cX8_canBe 197 = .ok (.ireturn, 1) := by decide +kernel
set_option maxRecDepth 20000 in
theorem ggX8_step_X8_canBe : GoodIn wsX8_step wsX8_canBe := goodIn_r _ [11, 12, 13, 14, 15, 16, 10, 17, 18, 19, 20, 21, 22, 23, 24, 25, 1, 2, 26, 27, 28, 29, 30, 31, 32, 33, 34, 35, 36, 37, 38, 39, 40, 41, 42, 43, 44, 45, 46, 47, 48, 49, 50, 51] (by decide +kernel) (by decide +kernel)
set_option maxRecDepth 20000 in
theorem gX8_step_X8_canBe : GoodIn wsX8_step (wsV RX8 103 RX8 yX8_canBe wsX8_canBe) := goodIn_app (goodIn_of _ (by decide +kernel)) ggX8_step_X8_canBe
theorem dX8_step_0 : decode cX8_step 0 = .ok (.aload_n 0, 1) := by decide +kernel
theorem dX8_step_1 : decode cX8_step 1 = .ok (.iload_n 1, 1) := by decide +kernel
theorem dX8_step_2 : decode cX8_step 2 = .ok (.iload_n 2, 1) := by decide +kernel
theorem dX8_step_3 : decode cX8_step 3 = .ok (.iload_n 3, 1) := by decide +kernel
theorem dX8_step_4 : decode cX8_step 4 = .ok (.iload 4, 2) := by decide +kernel
theorem dX8_step_6 : decode cX8_step 6 = .ok (.invokevirtual 103, 3) := by decide +kernel
theorem dX8_step_9 : decode cX8_step 9 = .ok (.ifCond .eq 12, 3) := by decide +kernel
theorem dX8_step_12 : decode cX8_step 12 = .ok (.aload_n 0, 1) := by decide +kernel
theorem dX8_step_13 : decode cX8_step 13 = .ok (.getfield 75, 3) := by decide +kernel
theorem dX8_step_16 : decode cX8_step 16 = .ok (.bipush 24, 2) := by decide +kernel
theorem dX8_step_18 : decode cX8_step 18 = .ok (.if_icmp .ne 5, 3) := by decide +kernel
theorem dX8_step_21 : decode cX8_step 21 = .ok (.iconst (-1), 1) := by decide +kernel
theorem dX8_step_22 : decode cX8_step 22 = .ok (.ireturn, 1) := by decide +kernel
theorem dX8_step_23 : decode cX8_step 23 = .ok (.aload_n 0, 1) := by decide +kernel
theorem dX8_step_24 : decode cX8_step 24 = .ok (.getfield 23, 3) := by decide +kernel
theorem dX8_step_27 : decode cX8_step 27 = .ok (.aload_n 0, 1) := by decide +kernel
theorem dX8_step_28 : decode cX8_step 28 = .ok (.getfield 75, 3) := by decide +kernel
theorem dX8_step_31 : decode cX8_step 31 = .ok (.iload_n 1, 1) := by decide +kernel
theorem dX8_step_32 : decode cX8_step 32 = .ok (.iastore, 1) := by decide +kernel
theorem dX8_step_33 : decode cX8_step 33 = .ok (.aload_n 0, 1) := by decide +kernel
theorem dX8_step_34 : decode cX8_step 34 = .ok (.getfield 26, 3) := by decide +kernel
theorem dX8_step_37 : decode cX8_step 37 = .ok (.aload_n 0, 1) := by decide +kernel
theorem dX8_step_38 : decode cX8_step 38 = .ok (.getfield 75, 3) := by decide +kernel
theorem dX8_step_41 : decode cX8_step 41 = .ok (.iload_n 2, 1) := by decide +kernel
theorem dX8_step_42 : decode cX8_step 42 = .ok (.iastore, 1) := by decide +kernel
theorem dX8_step_43 : decode cX8_step 43 = .ok (.aload_n 0, 1) := by decide +kernel
theorem dX8_step_44 : decode cX8_step 44 = .ok (.getfield 29, 3) := by decide +kernel
theorem dX8_step_47 : decode cX8_step 47 = .ok (.aload_n 0, 1) := by decide +kernel
theorem dX8_step_48 : decode cX8_step 48 = .ok (.getfield 75, 3) := by decide +kernel
theorem dX8_step_51 : decode cX8_step 51 = .ok (.iload_n 3, 1) := by decide +kernel
theorem dX8_step_52 : decode cX8_step 52 = .ok (.iastore, 1) := by decide +kernel
theorem dX8_step_53 : decode cX8_step 53 = .ok (.aload_n 0, 1) := by decide +kernel
theorem dX8_step_54 : decode cX8_step 54 = .ok (.getfield 32, 3) := by decide +kernel
theorem dX8_step_57 : decode cX8_step 57 = .ok (.aload_n 0, 1) := by decide +kernel
theorem dX8_step_58 : decode cX8_step 58 = .ok (.getfield 75, 3) := by decide +kernel
theorem dX8_step_61 : decode cX8_step 61 = .ok (.iload 4, 2) := by decide +kernel
theorem dX8_step_63 : decode cX8_step 63 = .ok (.iastore, 1) := by decide +kernel
theorem dX8_step_64 : decode cX8_step 64 = .ok (.aload_n 0, 1) := by decide +kernel
theorem dX8_step_65 : decode cX8_step 65 = .ok (.getfield 35, 3) := by decide +kernel
theorem dX8_step_68 : decode cX8_step 68 = .ok (.aload_n 0, 1) := by decide +kernel
theorem dX8_step_69 : decode cX8_step 69 = .ok (.getfield 75, 3) := by decide +kernel
theorem dX8_step_72 : decode cX8_step 72 = .ok (.iconst 0, 1) := by decide +kernel
theorem dX8_step_73 : decode cX8_step 73 = .ok (.bastore, 1) := by decide +kernel
theorem dX8_step_74 : decode cX8_step 74 = .ok (.aload_n 0, 1) := by decide +kernel
theorem dX8_step_75 : decode cX8_step 75 = .ok (.dup, 1) := by decide +kernel
theorem dX8_step_76 : decode cX8_step 76 = .ok (.getfield 75, 3) := by decide +kernel
theorem dX8_step_79 : decode cX8_step 79 = .ok (.iconst 1, 1) := by decide +kernel
theorem dX8_step_80 : decode cX8_step 80 = .ok (.iadd, 1) := by decide +kernel
theorem dX8_step_81 : decode cX8_step 81 = .ok (.putfield 75, 3) := by decide +kernel
theorem dX8_step_84 : decode cX8_step 84 = .ok (.aload_n 0, 1) := by decide +kernel
theorem dX8_step_85 : decode cX8_step 85 = .ok (.getfield 75, 3) := by decide +kernel
theorem dX8_step_88 : decode cX8_step 88 = .ok (.iconst 1, 1) := by decide +kernel
theorem dX8_step_89 : decode cX8_step 89 = .ok (.isub, 1) := by decide +kernel
theorem dX8_step_90 : decode cX8_step 90 = .ok (.ireturn, 1) := by decide +kernel
theorem dX8_back_0 : decode cX8_back 0 = .ok (.aload_n 0, 1) := by decide +kernel
theorem dX8_back_1 : decode cX8_back 1 = .ok (.getfield 75, 3) := by decide +kernel
theorem dX8_back_4 : decode cX8_back 4 = .ok (.ifCond .ne 5, 3) := by decide +kernel
theorem dX8_back_7 : decode cX8_back 7 = .ok (.iconst 0, 1) := by decide +kernel
theorem dX8_back_8 : decode cX8_back 8 = .ok (.ireturn, 1) := by decide +kernel
theorem dX8_back_9 : decode cX8_back 9 = .ok (.aload_n 0, 1) := by decide +kernel
theorem dX8_back_10 : decode cX8_back 10 = .ok (.dup, 1) := by decide +kernel
theorem dX8_back_11 : decode cX8_back 11 = .ok (.getfield 75, 3) := by decide +kernel
theorem dX8_back_14 : decode cX8_back 14 = .ok (.iconst 1, 1) := by decide +kernel
theorem dX8_back_15 : decode cX8_back 15 = .ok (.isub, 1) := by decide +kernel
theorem dX8_back_16 : decode cX8_back 16 = .ok (.putfield 75, 3) := by decide +kernel
theorem dX8_back_19 : decode cX8_back 19 = .ok (.iconst 1, 1) := by decide +kernel
theorem dX8_back_20 : decode cX8_back 20 = .ok (.ireturn, 1) := by decide +kernel
set_option maxRecDepth 20000 in
theorem ggX8_mode_X8_in : GoodIn wsX8_mode wsX8_in := goodIn_r _ [5] (by decide +kernel) (by decide +kernel)
set_option maxRecDepth 20000 in
theorem gX8_mode_X8_in : GoodIn wsX8_mode (va_wsS RX8 79 yX8_in wsX8_in) := goodIn_app (goodIn_of _ (by decide +kernel)) ggX8_mode_X8_in
theorem dX8_mode_0 : decode cX8_mode 0 = .ok (.iload_n 1, 1) := by decide +kernel
theorem dX8_mode_1 : decode cX8_mode 1 = .ok (.i2l, 1) := by decide +kernel
theorem dX8_mode_2 : decode cX8_mode 2 = .ok (.lconst 0, 1) := by decide +kernel
theorem dX8_mode_3 : decode cX8_mode 3 = .ok (.lconst 1, 1) := by decide +kernel
theorem dX8_mode_4 : decode cX8_mode 4 = .ok (.invokestatic 79, 3) := by decide +kernel
theorem dX8_mode_7 : decode cX8_mode 7 = .ok (.ifCond .ne 5, 3) := by decide +kernel
theorem dX8_mode_10 : decode cX8_mode 10 = .ok (.iconst 0, 1) := by decide +kernel
theorem dX8_mode_11 : decode cX8_mode 11 = .ok (.ireturn, 1) := by decide +kernel
theorem dX8_mode_12 : decode cX8_mode 12 = .ok (.aload_n 0, 1) := by decide +kernel
theorem dX8_mode_13 : decode cX8_mode 13 = .ok (.iload_n 1, 1) := by decide +kernel
theorem dX8_mode_14 : decode cX8_mode 14 = .ok (.putfield 107, 3) := by decide +kernel
theorem dX8_mode_17 : decode cX8_mode 17 = .ok (.iconst 1, 1) := by decide +kernel
theorem dX8_mode_18 : decode cX8_mode 18 = .ok (.ireturn, 1) := by decide +kernel
theorem dX8_lays_0 : decode cX8_lays 0 = .ok (.aload_n 0, 1) := by decide +kernel
theorem dX8_lays_1 : decode cX8_lays 1 = .ok (.iconst 0, 1) := by decide +kernel
theorem dX8_lays_2 : decode cX8_lays 2 = .ok (.putfield 110, 3) := by decide +kernel
theorem dX8_lays_5 : decode cX8_lays 5 = .ok (.iconst 0, 1) := by decide +kernel
theorem dX8_lays_6 : decode cX8_lays 6 = .ok (.istore_n 1, 1) := by decide +kernel
theorem dX8_lays_7 : decode cX8_lays 7 = .ok (.iload_n 1, 1) := by decide +kernel
theorem dX8_lays_8 : decode cX8_lays 8 = .ok (.aload_n 0, 1) := by decide +kernel
theorem dX8_lays_9 : decode cX8_lays 9 = .ok (.getfield 75, 3) := by decide +kernel
theorem dX8_lays_12 : decode cX8_lays 12 = .ok (.if_icmp .ge 135, 3) := by decide +kernel
theorem dX8_lays_15 : decode cX8_lays 15 = .ok (.aload_n 0, 1) := by decide +kernel
theorem dX8_lays_16 : decode cX8_lays 16 = .ok (.getfield 23, 3) := by decide +kernel
theorem dX8_lays_19 : decode cX8_lays 19 = .ok (.iload_n 1, 1) := by decide +kernel
theorem dX8_lays_20 : decode cX8_lays 20 = .ok (.iaload, 1) := by decide +kernel
theorem dX8_lays_21 : decode cX8_lays 21 = .ok (.bipush 8, 2) := by decide +kernel
theorem dX8_lays_23 : decode cX8_lays 23 = .ok (.if_icmp .eq 37, 3) := by decide +kernel
theorem dX8_lays_26 : decode cX8_lays 26 = .ok (.aload_n 0, 1) := by decide +kernel
theorem dX8_lays_27 : decode cX8_lays 27 = .ok (.getfield 23, 3) := by decide +kernel
theorem dX8_lays_30 : decode cX8_lays 30 = .ok (.iload_n 1, 1) := by decide +kernel
theorem dX8_lays_31 : decode cX8_lays 31 = .ok (.iaload, 1) := by decide +kernel
theorem dX8_lays_32 : decode cX8_lays 32 = .ok (.bipush 9, 2) := by decide +kernel
theorem dX8_lays_34 : decode cX8_lays 34 = .ok (.if_icmp .eq 20, 3) := by decide +kernel
theorem dX8_lays_37 : decode cX8_lays 37 = .ok (.aload_n 0, 1) := by decide +kernel
theorem dX8_lays_38 : decode cX8_lays 38 = .ok (.getfield 38, 3) := by decide +kernel
theorem dX8_lays_41 : decode cX8_lays 41 = .ok (.aload_n 0, 1) := by decide +kernel
theorem dX8_lays_42 : decode cX8_lays 42 = .ok (.dup, 1) := by decide +kernel
theorem dX8_lays_43 : decode cX8_lays 43 = .ok (.getfield 110, 3) := by decide +kernel
theorem dX8_lays_46 : decode cX8_lays 46 = .ok (.dup_x1, 1) := by decide +kernel
theorem dX8_lays_47 : decode cX8_lays 47 = .ok (.iconst 1, 1) := by decide +kernel
theorem dX8_lays_48 : decode cX8_lays 48 = .ok (.iadd, 1) := by decide +kernel
theorem dX8_lays_49 : decode cX8_lays 49 = .ok (.putfield 110, 3) := by decide +kernel
theorem dX8_lays_52 : decode cX8_lays 52 = .ok (.iload_n 1, 1) := by decide +kernel
theorem dX8_lays_53 : decode cX8_lays 53 = .ok (.iastore, 1) := by decide +kernel
theorem dX8_lays_54 : decode cX8_lays 54 = .ok (.iinc 1 1, 3) := by decide +kernel
theorem dX8_lays_57 : decode cX8_lays 57 = .ok (.goto (-50), 3) := by decide +kernel
theorem dX8_lays_60 : decode cX8_lays 60 = .ok (.iload_n 1, 1) := by decide +kernel
theorem dX8_lays_61 : decode cX8_lays 61 = .ok (.iconst 1, 1) := by decide +kernel
theorem dX8_lays_62 : decode cX8_lays 62 = .ok (.iadd, 1) := by decide +kernel
theorem dX8_lays_63 : decode cX8_lays 63 = .ok (.istore_n 2, 1) := by decide +kernel
theorem dX8_lays_64 : decode cX8_lays 64 = .ok (.iload_n 2, 1) := by decide +kernel
theorem dX8_lays_65 : decode cX8_lays 65 = .ok (.aload_n 0, 1) := by decide +kernel
theorem dX8_lays_66 : decode cX8_lays 66 = .ok (.getfield 75, 3) := by decide +kernel
theorem dX8_lays_69 : decode cX8_lays 69 = .ok (.if_icmp .ge 20, 3) := by decide +kernel
theorem dX8_lays_72 : decode cX8_lays 72 = .ok (.aload_n 0, 1) := by decide +kernel
theorem dX8_lays_73 : decode cX8_lays 73 = .ok (.getfield 23, 3) := by decide +kernel
theorem dX8_lays_76 : decode cX8_lays 76 = .ok (.iload_n 2, 1) := by decide +kernel
theorem dX8_lays_77 : decode cX8_lays 77 = .ok (.iaload, 1) := by decide +kernel
theorem dX8_lays_78 : decode cX8_lays 78 = .ok (.bipush 9, 2) := by decide +kernel
theorem dX8_lays_80 : decode cX8_lays 80 = .ok (.if_icmp .eq 9, 3) := by decide +kernel
theorem dX8_lays_83 : decode cX8_lays 83 = .ok (.iinc 2 1, 3) := by decide +kernel
theorem dX8_lays_86 : decode cX8_lays 86 = .ok (.goto (-22), 3) := by decide +kernel
theorem dX8_lays_89 : decode cX8_lays 89 = .ok (.iconst 0, 1) := by decide +kernel
theorem dX8_lays_90 : decode cX8_lays 90 = .ok (.istore_n 3, 1) := by decide +kernel
theorem dX8_lays_91 : decode cX8_lays 91 = .ok (.iload_n 3, 1) := by decide +kernel
theorem dX8_lays_92 : decode cX8_lays 92 = .ok (.aload_n 0, 1) := by decide +kernel
theorem dX8_lays_93 : decode cX8_lays 93 = .ok (.getfield 32, 3) := by decide +kernel
theorem dX8_lays_96 : decode cX8_lays 96 = .ok (.iload_n 1, 1) := by decide +kernel
theorem dX8_lays_97 : decode cX8_lays 97 = .ok (.iaload, 1) := by decide +kernel
theorem dX8_lays_98 : decode cX8_lays 98 = .ok (.if_icmp .ge 44, 3) := by decide +kernel
theorem dX8_lays_101 : decode cX8_lays 101 = .ok (.iload_n 1, 1) := by decide +kernel
theorem dX8_lays_102 : decode cX8_lays 102 = .ok (.iconst 1, 1) := by decide +kernel
theorem dX8_lays_103 : decode cX8_lays 103 = .ok (.iadd, 1) := by decide +kernel
theorem dX8_lays_104 : decode cX8_lays 104 = .ok (.istore 4, 2) := by decide +kernel
theorem dX8_lays_106 : decode cX8_lays 106 = .ok (.iload 4, 2) := by decide +kernel
theorem dX8_lays_108 : decode cX8_lays 108 = .ok (.iload_n 2, 1) := by decide +kernel
theorem dX8_lays_109 : decode cX8_lays 109 = .ok (.if_icmp .ge 27, 3) := by decide +kernel
theorem dX8_lays_112 : decode cX8_lays 112 = .ok (.aload_n 0, 1) := by decide +kernel
theorem dX8_lays_113 : decode cX8_lays 113 = .ok (.getfield 38, 3) := by decide +kernel
theorem dX8_lays_116 : decode cX8_lays 116 = .ok (.aload_n 0, 1) := by decide +kernel
theorem dX8_lays_117 : decode cX8_lays 117 = .ok (.dup, 1) := by decide +kernel
theorem dX8_lays_118 : decode cX8_lays 118 = .ok (.getfield 110, 3) := by decide +kernel
theorem dX8_lays_121 : decode cX8_lays 121 = .ok (.dup_x1, 1) := by decide +kernel
theorem dX8_lays_122 : decode cX8_lays 122 = .ok (.iconst 1, 1) := by decide +kernel
theorem dX8_lays_123 : decode cX8_lays 123 = .ok (.iadd, 1) := by decide +kernel
theorem dX8_lays_124 : decode cX8_lays 124 = .ok (.putfield 110, 3) := by decide +kernel
theorem dX8_lays_127 : decode cX8_lays 127 = .ok (.iload 4, 2) := by decide +kernel
theorem dX8_lays_129 : decode cX8_lays 129 = .ok (.iastore, 1) := by decide +kernel
theorem dX8_lays_130 : decode cX8_lays 130 = .ok (.iinc 4 1, 3) := by decide +kernel
theorem dX8_lays_133 : decode cX8_lays 133 = .ok (.goto (-27), 3) := by decide +kernel
theorem dX8_lays_136 : decode cX8_lays 136 = .ok (.iinc 3 1, 3) := by decide +kernel
theorem dX8_lays_139 : decode cX8_lays 139 = .ok (.goto (-48), 3) := by decide +kernel
theorem dX8_lays_142 : decode cX8_lays 142 = .ok (.iload_n 2, 1) := by decide +kernel
theorem dX8_lays_143 : decode cX8_lays 143 = .ok (.istore_n 1, 1) := by decide +kernel
theorem dX8_lays_144 : decode cX8_lays 144 = .ok (.goto (-137), 3) := by decide +kernel
theorem dX8_lays_147 : decode cX8_lays 147 = .ok (.return_, 1) := by decide +kernel
theorem dX8_low_0 : decode cX8_low 0 = .ok (.aload_n 0, 1) := by decide +kernel
theorem dX8_low_1 : decode cX8_low 1 = .ok (.getfield 13, 3) := by decide +kernel
theorem dX8_low_4 : decode cX8_low 4 = .ok (.iload_n 1, 1) := by decide +kernel
theorem dX8_low_5 : decode cX8_low 5 = .ok (.baload, 1) := by decide +kernel
theorem dX8_low_6 : decode cX8_low 6 = .ok (.ifCond .eq 17, 3) := by decide +kernel
theorem dX8_low_9 : decode cX8_low 9 = .ok (.lconst 1, 1) := by decide +kernel
theorem dX8_low_10 : decode cX8_low 10 = .ok (.aload_n 0, 1) := by decide +kernel
theorem dX8_low_11 : decode cX8_low 11 = .ok (.getfield 9, 3) := by decide +kernel
theorem dX8_low_14 : decode cX8_low 14 = .ok (.iload_n 1, 1) := by decide +kernel
theorem dX8_low_15 : decode cX8_low 15 = .ok (.iaload, 1) := by decide +kernel
theorem dX8_low_16 : decode cX8_low 16 = .ok (.iconst 1, 1) := by decide +kernel
theorem dX8_low_17 : decode cX8_low 17 = .ok (.isub, 1) := by decide +kernel
theorem dX8_low_18 : decode cX8_low 18 = .ok (.lshl, 1) := by decide +kernel
theorem dX8_low_19 : decode cX8_low 19 = .ok (.lneg, 1) := by decide +kernel
theorem dX8_low_20 : decode cX8_low 20 = .ok (.goto 4, 3) := by decide +kernel
theorem dX8_low_23 : decode cX8_low 23 = .ok (.lconst 0, 1) := by decide +kernel
theorem dX8_low_24 : decode cX8_low 24 = .ok (.lreturn, 1) := by decide +kernel
theorem dX8_high_0 : decode cX8_high 0 = .ok (.lconst 1, 1) := by decide +kernel
theorem dX8_high_1 : decode cX8_high 1 = .ok (.aload_n 0, 1) := by decide +kernel
theorem dX8_high_2 : decode cX8_high 2 = .ok (.getfield 13, 3) := by decide +kernel
theorem dX8_high_5 : decode cX8_high 5 = .ok (.iload_n 1, 1) := by decide +kernel
theorem dX8_high_6 : decode cX8_high 6 = .ok (.baload, 1) := by decide +kernel
theorem dX8_high_7 : decode cX8_high 7 = .ok (.ifCond .eq 14, 3) := by decide +kernel
theorem dX8_high_10 : decode cX8_high 10 = .ok (.aload_n 0, 1) := by decide +kernel
theorem dX8_high_11 : decode cX8_high 11 = .ok (.getfield 9, 3) := by decide +kernel
theorem dX8_high_14 : decode cX8_high 14 = .ok (.iload_n 1, 1) := by decide +kernel
theorem dX8_high_15 : decode cX8_high 15 = .ok (.iaload, 1) := by decide +kernel
theorem dX8_high_16 : decode cX8_high 16 = .ok (.iconst 1, 1) := by decide +kernel
theorem dX8_high_17 : decode cX8_high 17 = .ok (.isub, 1) := by decide +kernel
theorem dX8_high_18 : decode cX8_high 18 = .ok (.goto 9, 3) := by decide +kernel
theorem dX8_high_21 : decode cX8_high 21 = .ok (.aload_n 0, 1) := by decide +kernel
theorem dX8_high_22 : decode cX8_high 22 = .ok (.getfield 9, 3) := by decide +kernel
theorem dX8_high_25 : decode cX8_high 25 = .ok (.iload_n 1, 1) := by decide +kernel
theorem dX8_high_26 : decode cX8_high 26 = .ok (.iaload, 1) := by decide +kernel
theorem dX8_high_27 : decode cX8_high 27 = .ok (.lshl, 1) := by decide +kernel
theorem dX8_high_28 : decode cX8_high 28 = .ok (.lconst 1, 1) := by decide +kernel
theorem dX8_high_29 : decode cX8_high 29 = .ok (.lsub, 1) := by decide +kernel
theorem dX8_high_30 : decode cX8_high 30 = .ok (.lreturn, 1) := by decide +kernel
theorem dX8_rest_0 : decode cX8_rest 0 = .ok (.lload_n 0, 1) := by decide +kernel
theorem dX8_rest_1 : decode cX8_rest 1 = .ok (.lload_n 2, 1) := by decide +kernel
theorem dX8_rest_2 : decode cX8_rest 2 = .ok (.lrem, 1) := by decide +kernel
theorem dX8_rest_3 : decode cX8_rest 3 = .ok (.lstore 4, 2) := by decide +kernel
theorem dX8_rest_5 : decode cX8_rest 5 = .ok (.lload 4, 2) := by decide +kernel
theorem dX8_rest_7 : decode cX8_rest 7 = .ok (.lconst 0, 1) := by decide +kernel
theorem dX8_rest_8 : decode cX8_rest 8 = .ok (.lcmp, 1) := by decide +kernel
theorem dX8_rest_9 : decode cX8_rest 9 = .ok (.ifCond .ge 10, 3) := by decide +kernel
theorem dX8_rest_12 : decode cX8_rest 12 = .ok (.lload 4, 2) := by decide +kernel
theorem dX8_rest_14 : decode cX8_rest 14 = .ok (.lload_n 2, 1) := by decide +kernel
theorem dX8_rest_15 : decode cX8_rest 15 = .ok (.ladd, 1) := by decide +kernel
theorem dX8_rest_16 : decode cX8_rest 16 = .ok (.goto 5, 3) := by decide +kernel
theorem dX8_rest_19 : decode cX8_rest 19 = .ok (.lload 4, 2) := by decide +kernel
theorem dX8_rest_21 : decode cX8_rest 21 = .ok (.lreturn, 1) := by decide +kernel
set_option maxRecDepth 20000 in
theorem ggX8_put_X8_low : GoodIn wsX8_put wsX8_low := goodIn_r _ [7, 8, 2, 19, 20, 21, 22, 23, 24, 25, 26, 27, 28, 29, 30, 31, 32, 33, 34, 35, 36, 37, 38, 39, 40, 41, 42, 43, 44] (by decide +kernel) (by decide +kernel)
set_option maxRecDepth 20000 in
theorem gX8_put_X8_low : GoodIn wsX8_put (wsV RX8 113 RX8 yX8_low wsX8_low) := goodIn_app (goodIn_of _ (by decide +kernel)) ggX8_put_X8_low
set_option maxRecDepth 20000 in
theorem ggX8_put_X8_high : GoodIn wsX8_put wsX8_high := goodIn_r _ [12, 8, 2, 19, 20, 21, 22, 23, 24, 25, 26, 27, 28, 29, 30, 31, 32, 33, 34, 35, 36, 37, 38, 39, 40, 41, 42, 43, 44] (by decide +kernel) (by decide +kernel)
set_option maxRecDepth 20000 in
theorem gX8_put_X8_high : GoodIn wsX8_put (wsV RX8 117 RX8 yX8_high wsX8_high) := goodIn_app (goodIn_of _ (by decide +kernel)) ggX8_put_X8_high
set_option maxRecDepth 20000 in
theorem ggX8_put_X8_in : GoodIn wsX8_put wsX8_in := goodIn_r _ [15] (by decide +kernel) (by decide +kernel)
set_option maxRecDepth 20000 in
theorem gX8_put_X8_in : GoodIn wsX8_put (va_wsS RX8 79 yX8_in wsX8_in) := goodIn_app (goodIn_of _ (by decide +kernel)) ggX8_put_X8_in
set_option maxRecDepth 20000 in
theorem ggX8_put_X8_rest : GoodIn wsX8_put wsX8_rest := goodIn_r _ [18] (by decide +kernel) (by decide +kernel)
set_option maxRecDepth 20000 in
theorem gX8_put_X8_rest : GoodIn wsX8_put (va_wsS RX8 120 yX8_rest wsX8_rest) := goodIn_app (goodIn_of _ (by decide +kernel)) ggX8_put_X8_rest
theorem dX8_put_0 : decode cX8_put 0 = .ok (.lload_n 2, 1) := by decide +kernel
theorem dX8_put_1 : decode cX8_put 1 = .ok (.aload_n 0, 1) := by decide +kernel
theorem dX8_put_2 : decode cX8_put 2 = .ok (.iload_n 1, 1) := by decide +kernel
theorem dX8_put_3 : decode cX8_put 3 = .ok (.invokevirtual 113, 3) := by decide +kernel
theorem dX8_put_6 : decode cX8_put 6 = .ok (.aload_n 0, 1) := by decide +kernel
theorem dX8_put_7 : decode cX8_put 7 = .ok (.iload_n 1, 1) := by decide +kernel
theorem dX8_put_8 : decode cX8_put 8 = .ok (.invokevirtual 117, 3) := by decide +kernel
theorem dX8_put_11 : decode cX8_put 11 = .ok (.invokestatic 79, 3) := by decide +kernel
theorem dX8_put_14 : decode cX8_put 14 = .ok (.ifCond .eq 5, 3) := by decide +kernel
theorem dX8_put_17 : decode cX8_put 17 = .ok (.lload_n 2, 1) := by decide +kernel
theorem dX8_put_18 : decode cX8_put 18 = .ok (.lreturn, 1) := by decide +kernel
theorem dX8_put_19 : decode cX8_put 19 = .ok (.aload_n 0, 1) := by decide +kernel
theorem dX8_put_20 : decode cX8_put 20 = .ok (.getfield 107, 3) := by decide +kernel
theorem dX8_put_23 : decode cX8_put 23 = .ok (.iconst 1, 1) := by decide +kernel
theorem dX8_put_24 : decode cX8_put 24 = .ok (.if_icmp .ne 27, 3) := by decide +kernel
theorem dX8_put_27 : decode cX8_put 27 = .ok (.lload_n 2, 1) := by decide +kernel
theorem dX8_put_28 : decode cX8_put 28 = .ok (.aload_n 0, 1) := by decide +kernel
theorem dX8_put_29 : decode cX8_put 29 = .ok (.iload_n 1, 1) := by decide +kernel
theorem dX8_put_30 : decode cX8_put 30 = .ok (.invokevirtual 113, 3) := by decide +kernel
theorem dX8_put_33 : decode cX8_put 33 = .ok (.lcmp, 1) := by decide +kernel
theorem dX8_put_34 : decode cX8_put 34 = .ok (.ifCond .ge 11, 3) := by decide +kernel
theorem dX8_put_37 : decode cX8_put 37 = .ok (.aload_n 0, 1) := by decide +kernel
theorem dX8_put_38 : decode cX8_put 38 = .ok (.iload_n 1, 1) := by decide +kernel
theorem dX8_put_39 : decode cX8_put 39 = .ok (.invokevirtual 113, 3) := by decide +kernel
theorem dX8_put_42 : decode cX8_put 42 = .ok (.goto 8, 3) := by decide +kernel
theorem dX8_put_45 : decode cX8_put 45 = .ok (.aload_n 0, 1) := by decide +kernel
theorem dX8_put_46 : decode cX8_put 46 = .ok (.iload_n 1, 1) := by decide +kernel
theorem dX8_put_47 : decode cX8_put 47 = .ok (.invokevirtual 117, 3) := by decide +kernel
theorem dX8_put_50 : decode cX8_put 50 = .ok (.lreturn, 1) := by decide +kernel
theorem dX8_put_51 : decode cX8_put 51 = .ok (.aload_n 0, 1) := by decide +kernel
theorem dX8_put_52 : decode cX8_put 52 = .ok (.iload_n 1, 1) := by decide +kernel
theorem dX8_put_53 : decode cX8_put 53 = .ok (.invokevirtual 113, 3) := by decide +kernel
theorem dX8_put_56 : decode cX8_put 56 = .ok (.lload_n 2, 1) := by decide +kernel
theorem dX8_put_57 : decode cX8_put 57 = .ok (.aload_n 0, 1) := by decide +kernel
theorem dX8_put_58 : decode cX8_put 58 = .ok (.iload_n 1, 1) := by decide +kernel
theorem dX8_put_59 : decode cX8_put 59 = .ok (.invokevirtual 113, 3) := by decide +kernel
theorem dX8_put_62 : decode cX8_put 62 = .ok (.lsub, 1) := by decide +kernel
theorem dX8_put_63 : decode cX8_put 63 = .ok (.lconst 1, 1) := by decide +kernel
theorem dX8_put_64 : decode cX8_put 64 = .ok (.aload_n 0, 1) := by decide +kernel
theorem dX8_put_65 : decode cX8_put 65 = .ok (.getfield 9, 3) := by decide +kernel
theorem dX8_put_68 : decode cX8_put 68 = .ok (.iload_n 1, 1) := by decide +kernel
theorem dX8_put_69 : decode cX8_put 69 = .ok (.iaload, 1) := by decide +kernel
theorem dX8_put_70 : decode cX8_put 70 = .ok (.lshl, 1) := by decide +kernel
theorem dX8_put_71 : decode cX8_put 71 = .ok (.invokestatic 120, 3) := by decide +kernel
theorem dX8_put_74 : decode cX8_put 74 = .ok (.ladd, 1) := by decide +kernel
theorem dX8_put_75 : decode cX8_put 75 = .ok (.lreturn, 1) := by decide +kernel
set_option maxRecDepth 20000 in
theorem ggX8_goesOver_X8_low : GoodIn wsX8_goesOver wsX8_low := goodIn_r _ [5, 6, 7, 15, 16, 17, 18, 19, 20, 21, 22, 23, 24, 25, 26, 27, 28, 29, 30, 31, 32, 33, 34, 35, 36, 37, 38, 39, 40] (by decide +kernel) (by decide +kernel)
set_option maxRecDepth 20000 in
theorem gX8_goesOver_X8_low : GoodIn wsX8_goesOver (wsV RX8 113 RX8 yX8_low wsX8_low) := goodIn_app (goodIn_of _ (by decide +kernel)) ggX8_goesOver_X8_low
set_option maxRecDepth 20000 in
theorem ggX8_goesOver_X8_high : GoodIn wsX8_goesOver wsX8_high := goodIn_r _ [11, 6, 7, 15, 16, 17, 18, 19, 20, 21, 22, 23, 24, 25, 26, 27, 28, 29, 30, 31, 32, 33, 34, 35, 36, 37, 38, 39, 40] (by decide +kernel) (by decide +kernel)
set_option maxRecDepth 20000 in
theorem gX8_goesOver_X8_high : GoodIn wsX8_goesOver (wsV RX8 117 RX8 yX8_high wsX8_high) := goodIn_app (goodIn_of _ (by decide +kernel)) ggX8_goesOver_X8_high
set_option maxRecDepth 20000 in
theorem ggX8_goesOver_X8_in : GoodIn wsX8_goesOver wsX8_in := goodIn_r _ [14] (by decide +kernel) (by decide +kernel)
set_option maxRecDepth 20000 in
theorem gX8_goesOver_X8_in : GoodIn wsX8_goesOver (va_wsS RX8 79 yX8_in wsX8_in) := goodIn_app (goodIn_of _ (by decide +kernel)) ggX8_goesOver_X8_in
theorem dX8_goesOver_0 : decode cX8_goesOver 0 = .ok (.lload_n 2, 1) := by decide +kernel
theorem dX8_goesOver_1 : decode cX8_goesOver 1 = .ok (.aload_n 0, 1) := by decide +kernel
theorem dX8_goesOver_2 : decode cX8_goesOver 2 = .ok (.iload_n 1, 1) := by decide +kernel
theorem dX8_goesOver_3 : decode cX8_goesOver 3 = .ok (.invokevirtual 113, 3) := by decide +kernel
theorem dX8_goesOver_6 : decode cX8_goesOver 6 = .ok (.aload_n 0, 1) := by decide +kernel
theorem dX8_goesOver_7 : decode cX8_goesOver 7 = .ok (.iload_n 1, 1) := by decide +kernel
theorem dX8_goesOver_8 : decode cX8_goesOver 8 = .ok (.invokevirtual 117, 3) := by decide +kernel
theorem dX8_goesOver_11 : decode cX8_goesOver 11 = .ok (.invokestatic 79, 3) := by decide +kernel
theorem dX8_goesOver_14 : decode cX8_goesOver 14 = .ok (.ifCond .ne 7, 3) := by decide +kernel
theorem dX8_goesOver_17 : decode cX8_goesOver 17 = .ok (.iconst 1, 1) := by decide +kernel
theorem dX8_goesOver_18 : decode cX8_goesOver 18 = .ok (.goto 4, 3) := by decide +kernel
theorem dX8_goesOver_21 : decode cX8_goesOver 21 = .ok (.iconst 0, 1) := by decide +kernel
theorem dX8_goesOver_22 : decode cX8_goesOver 22 = .ok (.ireturn, 1) := by decide +kernel
set_option maxRecDepth 20000 in
theorem ggX8_belowOf_X8_rest : GoodIn wsX8_belowOf wsX8_rest := goodIn_r _ [13] (by decide +kernel) (by decide +kernel)
set_option maxRecDepth 20000 in
theorem gX8_belowOf_X8_rest : GoodIn wsX8_belowOf (va_wsS RX8 120 yX8_rest wsX8_rest) := goodIn_app (goodIn_of _ (by decide +kernel)) ggX8_belowOf_X8_rest
theorem dX8_belowOf_0 : decode cX8_belowOf 0 = .ok (.aload_n 0, 1) := by decide +kernel
theorem dX8_belowOf_1 : decode cX8_belowOf 1 = .ok (.getfield 41, 3) := by decide +kernel
theorem dX8_belowOf_4 : decode cX8_belowOf 4 = .ok (.aload_n 0, 1) := by decide +kernel
theorem dX8_belowOf_5 : decode cX8_belowOf 5 = .ok (.getfield 29, 3) := by decide +kernel
theorem dX8_belowOf_8 : decode cX8_belowOf 8 = .ok (.iload_n 1, 1) := by decide +kernel
theorem dX8_belowOf_9 : decode cX8_belowOf 9 = .ok (.iaload, 1) := by decide +kernel
theorem dX8_belowOf_10 : decode cX8_belowOf 10 = .ok (.laload, 1) := by decide +kernel
theorem dX8_belowOf_11 : decode cX8_belowOf 11 = .ok (.lstore_n 2, 1) := by decide +kernel
theorem dX8_belowOf_12 : decode cX8_belowOf 12 = .ok (.aload_n 0, 1) := by decide +kernel
theorem dX8_belowOf_13 : decode cX8_belowOf 13 = .ok (.getfield 41, 3) := by decide +kernel
theorem dX8_belowOf_16 : decode cX8_belowOf 16 = .ok (.aload_n 0, 1) := by decide +kernel
theorem dX8_belowOf_17 : decode cX8_belowOf 17 = .ok (.getfield 32, 3) := by decide +kernel
theorem dX8_belowOf_20 : decode cX8_belowOf 20 = .ok (.iload_n 1, 1) := by decide +kernel
theorem dX8_belowOf_21 : decode cX8_belowOf 21 = .ok (.iaload, 1) := by decide +kernel
theorem dX8_belowOf_22 : decode cX8_belowOf 22 = .ok (.laload, 1) := by decide +kernel
theorem dX8_belowOf_23 : decode cX8_belowOf 23 = .ok (.lstore 4, 2) := by decide +kernel
theorem dX8_belowOf_25 : decode cX8_belowOf 25 = .ok (.aload_n 0, 1) := by decide +kernel
theorem dX8_belowOf_26 : decode cX8_belowOf 26 = .ok (.getfield 13, 3) := by decide +kernel
theorem dX8_belowOf_29 : decode cX8_belowOf 29 = .ok (.aload_n 0, 1) := by decide +kernel
theorem dX8_belowOf_30 : decode cX8_belowOf 30 = .ok (.getfield 29, 3) := by decide +kernel
theorem dX8_belowOf_33 : decode cX8_belowOf 33 = .ok (.iload_n 1, 1) := by decide +kernel
theorem dX8_belowOf_34 : decode cX8_belowOf 34 = .ok (.iaload, 1) := by decide +kernel
theorem dX8_belowOf_35 : decode cX8_belowOf 35 = .ok (.baload, 1) := by decide +kernel
theorem dX8_belowOf_36 : decode cX8_belowOf 36 = .ok (.aload_n 0, 1) := by decide +kernel
theorem dX8_belowOf_37 : decode cX8_belowOf 37 = .ok (.getfield 13, 3) := by decide +kernel
theorem dX8_belowOf_40 : decode cX8_belowOf 40 = .ok (.aload_n 0, 1) := by decide +kernel
theorem dX8_belowOf_41 : decode cX8_belowOf 41 = .ok (.getfield 32, 3) := by decide +kernel
theorem dX8_belowOf_44 : decode cX8_belowOf 44 = .ok (.iload_n 1, 1) := by decide +kernel
theorem dX8_belowOf_45 : decode cX8_belowOf 45 = .ok (.iaload, 1) := by decide +kernel
theorem dX8_belowOf_46 : decode cX8_belowOf 46 = .ok (.baload, 1) := by decide +kernel
theorem dX8_belowOf_47 : decode cX8_belowOf 47 = .ok (.if_icmp .ne 16, 3) := by decide +kernel
theorem dX8_belowOf_50 : decode cX8_belowOf 50 = .ok (.lload_n 2, 1) := by decide +kernel
theorem dX8_belowOf_51 : decode cX8_belowOf 51 = .ok (.lload 4, 2) := by decide +kernel
theorem dX8_belowOf_53 : decode cX8_belowOf 53 = .ok (.lcmp, 1) := by decide +kernel
theorem dX8_belowOf_54 : decode cX8_belowOf 54 = .ok (.ifCond .ge 7, 3) := by decide +kernel
theorem dX8_belowOf_57 : decode cX8_belowOf 57 = .ok (.iconst 1, 1) := by decide +kernel
theorem dX8_belowOf_58 : decode cX8_belowOf 58 = .ok (.goto 4, 3) := by decide +kernel
theorem dX8_belowOf_61 : decode cX8_belowOf 61 = .ok (.iconst 0, 1) := by decide +kernel
theorem dX8_belowOf_62 : decode cX8_belowOf 62 = .ok (.ireturn, 1) := by decide +kernel
theorem dX8_belowOf_63 : decode cX8_belowOf 63 = .ok (.lconst 1, 1) := by decide +kernel
theorem dX8_belowOf_64 : decode cX8_belowOf 64 = .ok (.aload_n 0, 1) := by decide +kernel
theorem dX8_belowOf_65 : decode cX8_belowOf 65 = .ok (.getfield 9, 3) := by decide +kernel
theorem dX8_belowOf_68 : decode cX8_belowOf 68 = .ok (.aload_n 0, 1) := by decide +kernel
theorem dX8_belowOf_69 : decode cX8_belowOf 69 = .ok (.getfield 29, 3) := by decide +kernel
theorem dX8_belowOf_72 : decode cX8_belowOf 72 = .ok (.iload_n 1, 1) := by decide +kernel
theorem dX8_belowOf_73 : decode cX8_belowOf 73 = .ok (.iaload, 1) := by decide +kernel
theorem dX8_belowOf_74 : decode cX8_belowOf 74 = .ok (.iaload, 1) := by decide +kernel
theorem dX8_belowOf_75 : decode cX8_belowOf 75 = .ok (.aload_n 0, 1) := by decide +kernel
theorem dX8_belowOf_76 : decode cX8_belowOf 76 = .ok (.getfield 9, 3) := by decide +kernel
theorem dX8_belowOf_79 : decode cX8_belowOf 79 = .ok (.aload_n 0, 1) := by decide +kernel
theorem dX8_belowOf_80 : decode cX8_belowOf 80 = .ok (.getfield 32, 3) := by decide +kernel
theorem dX8_belowOf_83 : decode cX8_belowOf 83 = .ok (.iload_n 1, 1) := by decide +kernel
theorem dX8_belowOf_84 : decode cX8_belowOf 84 = .ok (.iaload, 1) := by decide +kernel
theorem dX8_belowOf_85 : decode cX8_belowOf 85 = .ok (.iaload, 1) := by decide +kernel
theorem dX8_belowOf_86 : decode cX8_belowOf 86 = .ok (.invokestatic 124, 3) := by decide +kernel
theorem dX8_belowOf_89 : decode cX8_belowOf 89 = .ok (.lshl, 1) := by decide +kernel
theorem dX8_belowOf_90 : decode cX8_belowOf 90 = .ok (.lstore 6, 2) := by decide +kernel
theorem dX8_belowOf_92 : decode cX8_belowOf 92 = .ok (.lload_n 2, 1) := by decide +kernel
theorem dX8_belowOf_93 : decode cX8_belowOf 93 = .ok (.lload 6, 2) := by decide +kernel
theorem dX8_belowOf_95 : decode cX8_belowOf 95 = .ok (.invokestatic 120, 3) := by decide +kernel
theorem dX8_belowOf_98 : decode cX8_belowOf 98 = .ok (.lload 4, 2) := by decide +kernel
theorem dX8_belowOf_100 : decode cX8_belowOf 100 = .ok (.lload 6, 2) := by decide +kernel
theorem dX8_belowOf_102 : decode cX8_belowOf 102 = .ok (.invokestatic 120, 3) := by decide +kernel
theorem dX8_belowOf_105 : decode cX8_belowOf 105 = .ok (.lcmp, 1) := by decide +kernel
theorem dX8_belowOf_106 : decode cX8_belowOf 106 = .ok (.ifCond .ge 7, 3) := by decide +kernel
theorem dX8_belowOf_109 : decode cX8_belowOf 109 = .ok (.iconst 1, 1) := by decide +kernel
theorem dX8_belowOf_110 : decode cX8_belowOf 110 = .ok (.goto 4, 3) := by decide +kernel
theorem dX8_belowOf_113 : decode cX8_belowOf 113 = .ok (.iconst 0, 1) := by decide +kernel
theorem dX8_belowOf_114 : decode cX8_belowOf 114 = .ok (.ireturn, 1) := by decide +kernel
set_option maxRecDepth 20000 in
theorem ggX8_valueOf_X8_belowOf : GoodIn wsX8_valueOf wsX8_belowOf := goodIn_r _ [13, 3, 4, 2, 14, 15, 16, 17, 7, 18, 19, 20, 12, 21, 22, 23, 24, 25, 26, 27, 28, 29, 30, 31, 32, 33, 34, 35, 36, 37, 38, 39, 40, 41, 42, 43, 44, 45, 46, 47] (by decide +kernel) (by decide +kernel)
set_option maxRecDepth 20000 in
theorem gX8_valueOf_X8_belowOf : GoodIn wsX8_valueOf (wsV RX8 133 RX8 yX8_belowOf wsX8_belowOf) := goodIn_app (goodIn_of _ (by decide +kernel)) ggX8_valueOf_X8_belowOf
theorem dX8_valueOf_0 : decode cX8_valueOf 0 = .ok (.aload_n 0, 1) := by decide +kernel
theorem dX8_valueOf_1 : decode cX8_valueOf 1 = .ok (.getfield 23, 3) := by decide +kernel
theorem dX8_valueOf_4 : decode cX8_valueOf 4 = .ok (.iload_n 1, 1) := by decide +kernel
theorem dX8_valueOf_5 : decode cX8_valueOf 5 = .ok (.iaload, 1) := by decide +kernel
theorem dX8_valueOf_6 : decode cX8_valueOf 6 = .ok (.tableswitch 181 0 6 #[42, 50, 62, 86, 110, 134, 155], 42) := by decide +kernel
theorem dX8_valueOf_48 : decode cX8_valueOf 48 = .ok (.aload_n 0, 1) := by decide +kernel
theorem dX8_valueOf_49 : decode cX8_valueOf 49 = .ok (.getfield 32, 3) := by decide +kernel
theorem dX8_valueOf_52 : decode cX8_valueOf 52 = .ok (.iload_n 1, 1) := by decide +kernel
theorem dX8_valueOf_53 : decode cX8_valueOf 53 = .ok (.iaload, 1) := by decide +kernel
theorem dX8_valueOf_54 : decode cX8_valueOf 54 = .ok (.i2l, 1) := by decide +kernel
theorem dX8_valueOf_55 : decode cX8_valueOf 55 = .ok (.lreturn, 1) := by decide +kernel
theorem dX8_valueOf_56 : decode cX8_valueOf 56 = .ok (.aload_n 0, 1) := by decide +kernel
theorem dX8_valueOf_57 : decode cX8_valueOf 57 = .ok (.getfield 41, 3) := by decide +kernel
theorem dX8_valueOf_60 : decode cX8_valueOf 60 = .ok (.aload_n 0, 1) := by decide +kernel
theorem dX8_valueOf_61 : decode cX8_valueOf 61 = .ok (.getfield 29, 3) := by decide +kernel
theorem dX8_valueOf_64 : decode cX8_valueOf 64 = .ok (.iload_n 1, 1) := by decide +kernel
theorem dX8_valueOf_65 : decode cX8_valueOf 65 = .ok (.iaload, 1) := by decide +kernel
theorem dX8_valueOf_66 : decode cX8_valueOf 66 = .ok (.laload, 1) := by decide +kernel
theorem dX8_valueOf_67 : decode cX8_valueOf 67 = .ok (.lreturn, 1) := by decide +kernel
theorem dX8_valueOf_68 : decode cX8_valueOf 68 = .ok (.aload_n 0, 1) := by decide +kernel
theorem dX8_valueOf_69 : decode cX8_valueOf 69 = .ok (.getfield 41, 3) := by decide +kernel
theorem dX8_valueOf_72 : decode cX8_valueOf 72 = .ok (.aload_n 0, 1) := by decide +kernel
theorem dX8_valueOf_73 : decode cX8_valueOf 73 = .ok (.getfield 29, 3) := by decide +kernel
theorem dX8_valueOf_76 : decode cX8_valueOf 76 = .ok (.iload_n 1, 1) := by decide +kernel
theorem dX8_valueOf_77 : decode cX8_valueOf 77 = .ok (.iaload, 1) := by decide +kernel
theorem dX8_valueOf_78 : decode cX8_valueOf 78 = .ok (.laload, 1) := by decide +kernel
theorem dX8_valueOf_79 : decode cX8_valueOf 79 = .ok (.aload_n 0, 1) := by decide +kernel
theorem dX8_valueOf_80 : decode cX8_valueOf 80 = .ok (.getfield 41, 3) := by decide +kernel
theorem dX8_valueOf_83 : decode cX8_valueOf 83 = .ok (.aload_n 0, 1) := by decide +kernel
theorem dX8_valueOf_84 : decode cX8_valueOf 84 = .ok (.getfield 32, 3) := by decide +kernel
theorem dX8_valueOf_87 : decode cX8_valueOf 87 = .ok (.iload_n 1, 1) := by decide +kernel
theorem dX8_valueOf_88 : decode cX8_valueOf 88 = .ok (.iaload, 1) := by decide +kernel
theorem dX8_valueOf_89 : decode cX8_valueOf 89 = .ok (.laload, 1) := by decide +kernel
theorem dX8_valueOf_90 : decode cX8_valueOf 90 = .ok (.ladd, 1) := by decide +kernel
theorem dX8_valueOf_91 : decode cX8_valueOf 91 = .ok (.lreturn, 1) := by decide +kernel
theorem dX8_valueOf_92 : decode cX8_valueOf 92 = .ok (.aload_n 0, 1) := by decide +kernel
theorem dX8_valueOf_93 : decode cX8_valueOf 93 = .ok (.getfield 41, 3) := by decide +kernel
theorem dX8_valueOf_96 : decode cX8_valueOf 96 = .ok (.aload_n 0, 1) := by decide +kernel
theorem dX8_valueOf_97 : decode cX8_valueOf 97 = .ok (.getfield 29, 3) := by decide +kernel
theorem dX8_valueOf_100 : decode cX8_valueOf 100 = .ok (.iload_n 1, 1) := by decide +kernel
theorem dX8_valueOf_101 : decode cX8_valueOf 101 = .ok (.iaload, 1) := by decide +kernel
theorem dX8_valueOf_102 : decode cX8_valueOf 102 = .ok (.laload, 1) := by decide +kernel
theorem dX8_valueOf_103 : decode cX8_valueOf 103 = .ok (.aload_n 0, 1) := by decide +kernel
theorem dX8_valueOf_104 : decode cX8_valueOf 104 = .ok (.getfield 41, 3) := by decide +kernel
theorem dX8_valueOf_107 : decode cX8_valueOf 107 = .ok (.aload_n 0, 1) := by decide +kernel
theorem dX8_valueOf_108 : decode cX8_valueOf 108 = .ok (.getfield 32, 3) := by decide +kernel
theorem dX8_valueOf_111 : decode cX8_valueOf 111 = .ok (.iload_n 1, 1) := by decide +kernel
theorem dX8_valueOf_112 : decode cX8_valueOf 112 = .ok (.iaload, 1) := by decide +kernel
theorem dX8_valueOf_113 : decode cX8_valueOf 113 = .ok (.laload, 1) := by decide +kernel
theorem dX8_valueOf_114 : decode cX8_valueOf 114 = .ok (.lsub, 1) := by decide +kernel
theorem dX8_valueOf_115 : decode cX8_valueOf 115 = .ok (.lreturn, 1) := by decide +kernel
theorem dX8_valueOf_116 : decode cX8_valueOf 116 = .ok (.aload_n 0, 1) := by decide +kernel
theorem dX8_valueOf_117 : decode cX8_valueOf 117 = .ok (.getfield 41, 3) := by decide +kernel
theorem dX8_valueOf_120 : decode cX8_valueOf 120 = .ok (.aload_n 0, 1) := by decide +kernel
theorem dX8_valueOf_121 : decode cX8_valueOf 121 = .ok (.getfield 29, 3) := by decide +kernel
theorem dX8_valueOf_124 : decode cX8_valueOf 124 = .ok (.iload_n 1, 1) := by decide +kernel
theorem dX8_valueOf_125 : decode cX8_valueOf 125 = .ok (.iaload, 1) := by decide +kernel
theorem dX8_valueOf_126 : decode cX8_valueOf 126 = .ok (.laload, 1) := by decide +kernel
theorem dX8_valueOf_127 : decode cX8_valueOf 127 = .ok (.aload_n 0, 1) := by decide +kernel
theorem dX8_valueOf_128 : decode cX8_valueOf 128 = .ok (.getfield 41, 3) := by decide +kernel
theorem dX8_valueOf_131 : decode cX8_valueOf 131 = .ok (.aload_n 0, 1) := by decide +kernel
theorem dX8_valueOf_132 : decode cX8_valueOf 132 = .ok (.getfield 32, 3) := by decide +kernel
theorem dX8_valueOf_135 : decode cX8_valueOf 135 = .ok (.iload_n 1, 1) := by decide +kernel
theorem dX8_valueOf_136 : decode cX8_valueOf 136 = .ok (.iaload, 1) := by decide +kernel
theorem dX8_valueOf_137 : decode cX8_valueOf 137 = .ok (.laload, 1) := by decide +kernel
theorem dX8_valueOf_138 : decode cX8_valueOf 138 = .ok (.lmul, 1) := by decide +kernel
theorem dX8_valueOf_139 : decode cX8_valueOf 139 = .ok (.lreturn, 1) := by decide +kernel
theorem dX8_valueOf_140 : decode cX8_valueOf 140 = .ok (.aload_n 0, 1) := by decide +kernel
theorem dX8_valueOf_141 : decode cX8_valueOf 141 = .ok (.getfield 41, 3) := by decide +kernel
theorem dX8_valueOf_144 : decode cX8_valueOf 144 = .ok (.aload_n 0, 1) := by decide +kernel
theorem dX8_valueOf_145 : decode cX8_valueOf 145 = .ok (.getfield 29, 3) := by decide +kernel
theorem dX8_valueOf_148 : decode cX8_valueOf 148 = .ok (.iload_n 1, 1) := by decide +kernel
theorem dX8_valueOf_149 : decode cX8_valueOf 149 = .ok (.iaload, 1) := by decide +kernel
theorem dX8_valueOf_150 : decode cX8_valueOf 150 = .ok (.laload, 1) := by decide +kernel
theorem dX8_valueOf_151 : decode cX8_valueOf 151 = .ok (.lconst 1, 1) := by decide +kernel
theorem dX8_valueOf_152 : decode cX8_valueOf 152 = .ok (.aload_n 0, 1) := by decide +kernel
theorem dX8_valueOf_153 : decode cX8_valueOf 153 = .ok (.getfield 32, 3) := by decide +kernel
theorem dX8_valueOf_156 : decode cX8_valueOf 156 = .ok (.iload_n 1, 1) := by decide +kernel
theorem dX8_valueOf_157 : decode cX8_valueOf 157 = .ok (.iaload, 1) := by decide +kernel
theorem dX8_valueOf_158 : decode cX8_valueOf 158 = .ok (.lshl, 1) := by decide +kernel
theorem dX8_valueOf_159 : decode cX8_valueOf 159 = .ok (.lmul, 1) := by decide +kernel
theorem dX8_valueOf_160 : decode cX8_valueOf 160 = .ok (.lreturn, 1) := by decide +kernel
theorem dX8_valueOf_161 : decode cX8_valueOf 161 = .ok (.aload_n 0, 1) := by decide +kernel
theorem dX8_valueOf_162 : decode cX8_valueOf 162 = .ok (.getfield 41, 3) := by decide +kernel
theorem dX8_valueOf_165 : decode cX8_valueOf 165 = .ok (.aload_n 0, 1) := by decide +kernel
theorem dX8_valueOf_166 : decode cX8_valueOf 166 = .ok (.getfield 29, 3) := by decide +kernel
theorem dX8_valueOf_169 : decode cX8_valueOf 169 = .ok (.iload_n 1, 1) := by decide +kernel
theorem dX8_valueOf_170 : decode cX8_valueOf 170 = .ok (.iaload, 1) := by decide +kernel
theorem dX8_valueOf_171 : decode cX8_valueOf 171 = .ok (.laload, 1) := by decide +kernel
theorem dX8_valueOf_172 : decode cX8_valueOf 172 = .ok (.aload_n 0, 1) := by decide +kernel
theorem dX8_valueOf_173 : decode cX8_valueOf 173 = .ok (.getfield 41, 3) := by decide +kernel
theorem dX8_valueOf_176 : decode cX8_valueOf 176 = .ok (.aload_n 0, 1) := by decide +kernel
theorem dX8_valueOf_177 : decode cX8_valueOf 177 = .ok (.getfield 32, 3) := by decide +kernel
theorem dX8_valueOf_180 : decode cX8_valueOf 180 = .ok (.iload_n 1, 1) := by decide +kernel
theorem dX8_valueOf_181 : decode cX8_valueOf 181 = .ok (.iaload, 1) := by decide +kernel
theorem dX8_valueOf_182 : decode cX8_valueOf 182 = .ok (.laload, 1) := by decide +kernel
theorem dX8_valueOf_183 : decode cX8_valueOf 183 = .ok (.invokestatic 130, 3) := by decide +kernel
theorem dX8_valueOf_186 : decode cX8_valueOf 186 = .ok (.lreturn, 1) := by decide +kernel
theorem dX8_valueOf_187 : decode cX8_valueOf 187 = .ok (.aload_n 0, 1) := by decide +kernel
theorem dX8_valueOf_188 : decode cX8_valueOf 188 = .ok (.iload_n 1, 1) := by decide +kernel
theorem dX8_valueOf_189 : decode cX8_valueOf 189 = .ok (.invokevirtual 133, 3) := by decide +kernel
theorem dX8_valueOf_192 : decode cX8_valueOf 192 = .ok (.ifCond .eq 7, 3) := by decide +kernel
theorem dX8_valueOf_195 : decode cX8_valueOf 195 = .ok (.lconst 1, 1) := by decide +kernel
theorem dX8_valueOf_196 : decode cX8_valueOf 196 = .ok (.goto 4, 3) := by decide +kernel
theorem dX8_valueOf_199 : decode cX8_valueOf 199 = .ok (.lconst 0, 1) := by decide +kernel
theorem dX8_valueOf_200 : decode cX8_valueOf 200 = .ok (.lreturn, 1) := by decide +kernel
set_option maxRecDepth 20000 in
theorem ggX8_runs_X8_put : GoodIn wsX8_runs wsX8_put := goodIn_r _ [16, 17, 18, 19, 20, 21, 15, 22, 23, 24, 25, 26, 27, 28, 29, 30, 31, 32, 33, 53, 54, 55, 56, 57, 58, 59, 60, 61, 62, 63, 64, 65, 66, 67, 68, 69, 70, 71, 72, 73, 74, 75, 76, 77, 78] (by decide +kernel) (by decide +kernel)
