theorem dX8_turned_20 : decode cX8_turned 20 = .ok (.ireturn, 1) := by decide +kernel
theorem dX8_turned_21 : decode cX8_turned 21 = .ok (.aload_n 0, 1) := by decide +kernel
theorem dX8_turned_22 : decode cX8_turned 22 = .ok (.invokevirtual 190, 3) := by decide +kernel
theorem dX8_turned_25 : decode cX8_turned 25 = .ok (.aload_n 0, 1) := by decide +kernel
theorem dX8_turned_26 : decode cX8_turned 26 = .ok (.getfield 54, 3) := by decide +kernel
theorem dX8_turned_29 : decode cX8_turned 29 = .ok (.iload_n 1, 1) := by decide +kernel
theorem dX8_turned_30 : decode cX8_turned 30 = .ok (.iaload, 1) := by decide +kernel
theorem dX8_turned_31 : decode cX8_turned 31 = .ok (.ireturn, 1) := by decide +kernel
set_option maxRecDepth 20000 in
theorem ggX8_isFar_X8_in : GoodIn wsX8_isFar wsX8_in := goodIn_r _ [6] (by decide +kernel) (by decide +kernel)
set_option maxRecDepth 20000 in
theorem gX8_isFar_X8_in : GoodIn wsX8_isFar (va_wsS RX8 79 yX8_in wsX8_in) := goodIn_app (goodIn_of _ (by decide +kernel)) ggX8_isFar_X8_in
theorem dX8_isFar_0 : decode cX8_isFar 0 = .ok (.lload_n 0, 1) := by decide +kernel
theorem dX8_isFar_1 : decode cX8_isFar 1 = .ok (.ldc2_w 197, 3) := by decide +kernel
theorem dX8_isFar_4 : decode cX8_isFar 4 = .ok (.ldc2_w 199, 3) := by decide +kernel
theorem dX8_isFar_7 : decode cX8_isFar 7 = .ok (.invokestatic 79, 3) := by decide +kernel
theorem dX8_isFar_10 : decode cX8_isFar 10 = .ok (.ifCond .ne 7, 3) := by decide +kernel
theorem dX8_isFar_13 : decode cX8_isFar 13 = .ok (.iconst 1, 1) := by decide +kernel
theorem dX8_isFar_14 : decode cX8_isFar 14 = .ok (.goto 4, 3) := by decide +kernel
theorem dX8_isFar_17 : decode cX8_isFar 17 = .ok (.iconst 0, 1) := by decide +kernel
theorem dX8_isFar_18 : decode cX8_isFar 18 = .ok (.ireturn, 1) := by decide +kernel
theorem dX8_isFarProduct_0 : decode cX8_isFarProduct 0 = .ok (.lload_n 0, 1) := by decide +kernel
theorem dX8_isFarProduct_1 : decode cX8_isFarProduct 1 = .ok (.invokestatic 201, 3) := by decide +kernel
theorem dX8_isFarProduct_4 : decode cX8_isFarProduct 4 = .ok (.lstore 4, 2) := by decide +kernel
theorem dX8_isFarProduct_6 : decode cX8_isFarProduct 6 = .ok (.lload_n 2, 1) := by decide +kernel
theorem dX8_isFarProduct_7 : decode cX8_isFarProduct 7 = .ok (.invokestatic 201, 3) := by decide +kernel
theorem dX8_isFarProduct_10 : decode cX8_isFarProduct 10 = .ok (.lstore 6, 2) := by decide +kernel
theorem dX8_isFarProduct_12 : decode cX8_isFarProduct 12 = .ok (.lload 4, 2) := by decide +kernel
theorem dX8_isFarProduct_14 : decode cX8_isFarProduct 14 = .ok (.lconst 0, 1) := by decide +kernel
theorem dX8_isFarProduct_15 : decode cX8_isFarProduct 15 = .ok (.lcmp, 1) := by decide +kernel
theorem dX8_isFarProduct_16 : decode cX8_isFarProduct 16 = .ok (.ifCond .eq 19, 3) := by decide +kernel
theorem dX8_isFarProduct_19 : decode cX8_isFarProduct 19 = .ok (.lload 6, 2) := by decide +kernel
theorem dX8_isFarProduct_21 : decode cX8_isFarProduct 21 = .ok (.ldc2_w 199, 3) := by decide +kernel
theorem dX8_isFarProduct_24 : decode cX8_isFarProduct 24 = .ok (.lload 4, 2) := by decide +kernel
theorem dX8_isFarProduct_26 : decode cX8_isFarProduct 26 = .ok (.ldiv, 1) := by decide +kernel
theorem dX8_isFarProduct_27 : decode cX8_isFarProduct 27 = .ok (.lcmp, 1) := by decide +kernel
theorem dX8_isFarProduct_28 : decode cX8_isFarProduct 28 = .ok (.ifCond .le 7, 3) := by decide +kernel
theorem dX8_isFarProduct_31 : decode cX8_isFarProduct 31 = .ok (.iconst 1, 1) := by decide +kernel
theorem dX8_isFarProduct_32 : decode cX8_isFarProduct 32 = .ok (.goto 4, 3) := by decide +kernel
theorem dX8_isFarProduct_35 : decode cX8_isFarProduct 35 = .ok (.iconst 0, 1) := by decide +kernel
theorem dX8_isFarProduct_36 : decode cX8_isFarProduct 36 = .ok (.ireturn, 1) := by decide +kernel
set_option maxRecDepth 20000 in
theorem ggX8_given_X8_isFar : GoodIn wsX8_given wsX8_isFar := goodIn_r _ [14, 15, 16, 17, 18, 13, 19] (by decide +kernel) (by decide +kernel)
set_option maxRecDepth 20000 in
theorem gX8_given_X8_isFar : GoodIn wsX8_given (va_wsS RX8 205 yX8_isFar wsX8_isFar) := goodIn_app (goodIn_of _ (by decide +kernel)) ggX8_given_X8_isFar
theorem dX8_given_0 : decode cX8_given 0 = .ok (.aload_n 0, 1) := by decide +kernel
theorem dX8_given_1 : decode cX8_given 1 = .ok (.getfield 41, 3) := by decide +kernel
theorem dX8_given_4 : decode cX8_given 4 = .ok (.iload_n 1, 1) := by decide +kernel
theorem dX8_given_5 : decode cX8_given 5 = .ok (.lload_n 2, 1) := by decide +kernel
theorem dX8_given_6 : decode cX8_given 6 = .ok (.lastore, 1) := by decide +kernel
theorem dX8_given_7 : decode cX8_given 7 = .ok (.aload_n 0, 1) := by decide +kernel
theorem dX8_given_8 : decode cX8_given 8 = .ok (.getfield 69, 3) := by decide +kernel
theorem dX8_given_11 : decode cX8_given 11 = .ok (.iload_n 1, 1) := by decide +kernel
theorem dX8_given_12 : decode cX8_given 12 = .ok (.aload_n 0, 1) := by decide +kernel
theorem dX8_given_13 : decode cX8_given 13 = .ok (.getfield 69, 3) := by decide +kernel
theorem dX8_given_16 : decode cX8_given 16 = .ok (.iload_n 1, 1) := by decide +kernel
theorem dX8_given_17 : decode cX8_given 17 = .ok (.laload, 1) := by decide +kernel
theorem dX8_given_18 : decode cX8_given 18 = .ok (.lload_n 2, 1) := by decide +kernel
theorem dX8_given_19 : decode cX8_given 19 = .ok (.invokestatic 130, 3) := by decide +kernel
theorem dX8_given_22 : decode cX8_given 22 = .ok (.lastore, 1) := by decide +kernel
theorem dX8_given_23 : decode cX8_given 23 = .ok (.aload_n 0, 1) := by decide +kernel
theorem dX8_given_24 : decode cX8_given 24 = .ok (.getfield 72, 3) := by decide +kernel
theorem dX8_given_27 : decode cX8_given 27 = .ok (.iload_n 1, 1) := by decide +kernel
theorem dX8_given_28 : decode cX8_given 28 = .ok (.aload_n 0, 1) := by decide +kernel
theorem dX8_given_29 : decode cX8_given 29 = .ok (.getfield 72, 3) := by decide +kernel
theorem dX8_given_32 : decode cX8_given 32 = .ok (.iload_n 1, 1) := by decide +kernel
theorem dX8_given_33 : decode cX8_given 33 = .ok (.laload, 1) := by decide +kernel
theorem dX8_given_34 : decode cX8_given 34 = .ok (.lload_n 2, 1) := by decide +kernel
theorem dX8_given_35 : decode cX8_given 35 = .ok (.invokestatic 165, 3) := by decide +kernel
theorem dX8_given_38 : decode cX8_given 38 = .ok (.lastore, 1) := by decide +kernel
theorem dX8_given_39 : decode cX8_given 39 = .ok (.lload_n 2, 1) := by decide +kernel
theorem dX8_given_40 : decode cX8_given 40 = .ok (.invokestatic 205, 3) := by decide +kernel
theorem dX8_given_43 : decode cX8_given 43 = .ok (.ifCond .ne 7, 3) := by decide +kernel
theorem dX8_given_46 : decode cX8_given 46 = .ok (.iconst 1, 1) := by decide +kernel
theorem dX8_given_47 : decode cX8_given 47 = .ok (.goto 4, 3) := by decide +kernel
theorem dX8_given_50 : decode cX8_given 50 = .ok (.iconst 0, 1) := by decide +kernel
theorem dX8_given_51 : decode cX8_given 51 = .ok (.ireturn, 1) := by decide +kernel
set_option maxRecDepth 20000 in
theorem ggX8_isNear_X8_given : GoodIn wsX8_isNear wsX8_given := goodIn_r _ [12, 1, 13, 14, 15, 16, 17, 18, 19, 20, 21, 22, 23, 11, 24, 25, 26, 27, 28, 29, 52, 53, 54, 55, 56, 57, 58, 59, 60, 61, 62, 63, 64, 65, 66, 67, 68, 69, 70, 71, 72, 73, 74, 75, 76, 77] (by decide +kernel) (by decide +kernel)
set_option maxRecDepth 20000 in
theorem gX8_isNear_X8_given : GoodIn wsX8_isNear (wsV RX8 209 RX8 yX8_given wsX8_given) := goodIn_app (goodIn_of _ (by decide +kernel)) ggX8_isNear_X8_given
set_option maxRecDepth 20000 in
theorem ggX8_isNear_X8_isFarProduct : GoodIn wsX8_isNear wsX8_isFarProduct := goodIn_r _ [32, 33, 34, 16, 35, 26] (by decide +kernel) (by decide +kernel)
set_option maxRecDepth 20000 in
theorem gX8_isNear_X8_isFarProduct : GoodIn wsX8_isNear (va_wsS RX8 212 yX8_isFarProduct wsX8_isFarProduct) := goodIn_app (goodIn_of _ (by decide +kernel)) ggX8_isNear_X8_isFarProduct
set_option maxRecDepth 20000 in
theorem ggX8_isNear_X8_valueOf : GoodIn wsX8_isNear wsX8_valueOf := goodIn_r _ [39, 4, 6, 1, 5, 14, 15, 16, 17, 40, 41, 42, 11, 43, 44, 45, 46, 47, 48, 49, 50, 51, 52, 53, 54, 55, 56, 57, 58, 59, 60, 61, 62, 63, 64, 65, 66, 67, 68, 69, 70, 71, 72, 73, 74, 75, 76, 77] (by decide +kernel) (by decide +kernel)
set_option maxRecDepth 20000 in
theorem gX8_isNear_X8_valueOf : GoodIn wsX8_isNear (wsV RX8 143 RX8 yX8_valueOf wsX8_valueOf) := goodIn_app (goodIn_of _ (by decide +kernel)) ggX8_isNear_X8_valueOf
theorem dX8_isNear_0 : decode cX8_isNear 0 = .ok (.iconst 0, 1) := by decide +kernel
theorem dX8_isNear_1 : decode cX8_isNear 1 = .ok (.istore_n 3, 1) := by decide +kernel
theorem dX8_isNear_2 : decode cX8_isNear 2 = .ok (.iload_n 3, 1) := by decide +kernel
theorem dX8_isNear_3 : decode cX8_isNear 3 = .ok (.bipush 6, 2) := by decide +kernel
theorem dX8_isNear_5 : decode cX8_isNear 5 = .ok (.if_icmp .ge 16, 3) := by decide +kernel
theorem dX8_isNear_8 : decode cX8_isNear 8 = .ok (.aload_n 0, 1) := by decide +kernel
theorem dX8_isNear_9 : decode cX8_isNear 9 = .ok (.getfield 41, 3) := by decide +kernel
theorem dX8_isNear_12 : decode cX8_isNear 12 = .ok (.iload_n 3, 1) := by decide +kernel
theorem dX8_isNear_13 : decode cX8_isNear 13 = .ok (.lconst 0, 1) := by decide +kernel
theorem dX8_isNear_14 : decode cX8_isNear 14 = .ok (.lastore, 1) := by decide +kernel
theorem dX8_isNear_15 : decode cX8_isNear 15 = .ok (.iinc 3 1, 3) := by decide +kernel
theorem dX8_isNear_18 : decode cX8_isNear 18 = .ok (.goto (-16), 3) := by decide +kernel
theorem dX8_isNear_21 : decode cX8_isNear 21 = .ok (.aload_n 0, 1) := by decide +kernel
theorem dX8_isNear_22 : decode cX8_isNear 22 = .ok (.iconst 0, 1) := by decide +kernel
theorem dX8_isNear_23 : decode cX8_isNear 23 = .ok (.iload_n 1, 1) := by decide +kernel
theorem dX8_isNear_24 : decode cX8_isNear 24 = .ok (.i2l, 1) := by decide +kernel
theorem dX8_isNear_25 : decode cX8_isNear 25 = .ok (.invokevirtual 209, 3) := by decide +kernel
theorem dX8_isNear_28 : decode cX8_isNear 28 = .ok (.ifCond .eq 13, 3) := by decide +kernel
theorem dX8_isNear_31 : decode cX8_isNear 31 = .ok (.aload_n 0, 1) := by decide +kernel
theorem dX8_isNear_32 : decode cX8_isNear 32 = .ok (.iconst 1, 1) := by decide +kernel
theorem dX8_isNear_33 : decode cX8_isNear 33 = .ok (.iload_n 2, 1) := by decide +kernel
theorem dX8_isNear_34 : decode cX8_isNear 34 = .ok (.i2l, 1) := by decide +kernel
theorem dX8_isNear_35 : decode cX8_isNear 35 = .ok (.invokevirtual 209, 3) := by decide +kernel
theorem dX8_isNear_38 : decode cX8_isNear 38 = .ok (.ifCond .ne 5, 3) := by decide +kernel
theorem dX8_isNear_41 : decode cX8_isNear 41 = .ok (.iconst 0, 1) := by decide +kernel
theorem dX8_isNear_42 : decode cX8_isNear 42 = .ok (.ireturn, 1) := by decide +kernel
theorem dX8_isNear_43 : decode cX8_isNear 43 = .ok (.iconst 0, 1) := by decide +kernel
theorem dX8_isNear_44 : decode cX8_isNear 44 = .ok (.istore_n 3, 1) := by decide +kernel
theorem dX8_isNear_45 : decode cX8_isNear 45 = .ok (.iload_n 3, 1) := by decide +kernel
theorem dX8_isNear_46 : decode cX8_isNear 46 = .ok (.aload_n 0, 1) := by decide +kernel
theorem dX8_isNear_47 : decode cX8_isNear 47 = .ok (.getfield 110, 3) := by decide +kernel
theorem dX8_isNear_50 : decode cX8_isNear 50 = .ok (.if_icmp .ge 136, 3) := by decide +kernel
theorem dX8_isNear_53 : decode cX8_isNear 53 = .ok (.aload_n 0, 1) := by decide +kernel
theorem dX8_isNear_54 : decode cX8_isNear 54 = .ok (.getfield 38, 3) := by decide +kernel
theorem dX8_isNear_57 : decode cX8_isNear 57 = .ok (.iload_n 3, 1) := by decide +kernel
theorem dX8_isNear_58 : decode cX8_isNear 58 = .ok (.iaload, 1) := by decide +kernel
theorem dX8_isNear_59 : decode cX8_isNear 59 = .ok (.istore 4, 2) := by decide +kernel
theorem dX8_isNear_61 : decode cX8_isNear 61 = .ok (.aload_n 0, 1) := by decide +kernel
theorem dX8_isNear_62 : decode cX8_isNear 62 = .ok (.getfield 23, 3) := by decide +kernel
theorem dX8_isNear_65 : decode cX8_isNear 65 = .ok (.iload 4, 2) := by decide +kernel
theorem dX8_isNear_67 : decode cX8_isNear 67 = .ok (.iaload, 1) := by decide +kernel
theorem dX8_isNear_68 : decode cX8_isNear 68 = .ok (.iconst 4, 1) := by decide +kernel
theorem dX8_isNear_69 : decode cX8_isNear 69 = .ok (.if_icmp .ne 35, 3) := by decide +kernel
theorem dX8_isNear_72 : decode cX8_isNear 72 = .ok (.aload_n 0, 1) := by decide +kernel
theorem dX8_isNear_73 : decode cX8_isNear 73 = .ok (.getfield 41, 3) := by decide +kernel
theorem dX8_isNear_76 : decode cX8_isNear 76 = .ok (.aload_n 0, 1) := by decide +kernel
theorem dX8_isNear_77 : decode cX8_isNear 77 = .ok (.getfield 29, 3) := by decide +kernel
theorem dX8_isNear_80 : decode cX8_isNear 80 = .ok (.iload 4, 2) := by decide +kernel
theorem dX8_isNear_82 : decode cX8_isNear 82 = .ok (.iaload, 1) := by decide +kernel
theorem dX8_isNear_83 : decode cX8_isNear 83 = .ok (.laload, 1) := by decide +kernel
theorem dX8_isNear_84 : decode cX8_isNear 84 = .ok (.aload_n 0, 1) := by decide +kernel
theorem dX8_isNear_85 : decode cX8_isNear 85 = .ok (.getfield 41, 3) := by decide +kernel
theorem dX8_isNear_88 : decode cX8_isNear 88 = .ok (.aload_n 0, 1) := by decide +kernel
theorem dX8_isNear_89 : decode cX8_isNear 89 = .ok (.getfield 32, 3) := by decide +kernel
theorem dX8_isNear_92 : decode cX8_isNear 92 = .ok (.iload 4, 2) := by decide +kernel
theorem dX8_isNear_94 : decode cX8_isNear 94 = .ok (.iaload, 1) := by decide +kernel
theorem dX8_isNear_95 : decode cX8_isNear 95 = .ok (.laload, 1) := by decide +kernel
theorem dX8_isNear_96 : decode cX8_isNear 96 = .ok (.invokestatic 212, 3) := by decide +kernel
theorem dX8_isNear_99 : decode cX8_isNear 99 = .ok (.ifCond .eq 5, 3) := by decide +kernel
theorem dX8_isNear_102 : decode cX8_isNear 102 = .ok (.iconst 0, 1) := by decide +kernel
theorem dX8_isNear_103 : decode cX8_isNear 103 = .ok (.ireturn, 1) := by decide +kernel
theorem dX8_isNear_104 : decode cX8_isNear 104 = .ok (.aload_n 0, 1) := by decide +kernel
theorem dX8_isNear_105 : decode cX8_isNear 105 = .ok (.getfield 23, 3) := by decide +kernel
theorem dX8_isNear_108 : decode cX8_isNear 108 = .ok (.iload 4, 2) := by decide +kernel
theorem dX8_isNear_110 : decode cX8_isNear 110 = .ok (.iaload, 1) := by decide +kernel
theorem dX8_isNear_111 : decode cX8_isNear 111 = .ok (.bipush 7, 2) := by decide +kernel
theorem dX8_isNear_113 : decode cX8_isNear 113 = .ok (.if_icmp .ne 41, 3) := by decide +kernel
theorem dX8_isNear_116 : decode cX8_isNear 116 = .ok (.aload_n 0, 1) := by decide +kernel
theorem dX8_isNear_117 : decode cX8_isNear 117 = .ok (.getfield 41, 3) := by decide +kernel
theorem dX8_isNear_120 : decode cX8_isNear 120 = .ok (.aload_n 0, 1) := by decide +kernel
theorem dX8_isNear_121 : decode cX8_isNear 121 = .ok (.getfield 29, 3) := by decide +kernel
theorem dX8_isNear_124 : decode cX8_isNear 124 = .ok (.iload 4, 2) := by decide +kernel
theorem dX8_isNear_126 : decode cX8_isNear 126 = .ok (.iaload, 1) := by decide +kernel
theorem dX8_isNear_127 : decode cX8_isNear 127 = .ok (.laload, 1) := by decide +kernel
theorem dX8_isNear_128 : decode cX8_isNear 128 = .ok (.aload_n 0, 1) := by decide +kernel
theorem dX8_isNear_129 : decode cX8_isNear 129 = .ok (.getfield 41, 3) := by decide +kernel
theorem dX8_isNear_132 : decode cX8_isNear 132 = .ok (.aload_n 0, 1) := by decide +kernel
theorem dX8_isNear_133 : decode cX8_isNear 133 = .ok (.getfield 32, 3) := by decide +kernel
theorem dX8_isNear_136 : decode cX8_isNear 136 = .ok (.iload 4, 2) := by decide +kernel
theorem dX8_isNear_138 : decode cX8_isNear 138 = .ok (.iaload, 1) := by decide +kernel
theorem dX8_isNear_139 : decode cX8_isNear 139 = .ok (.laload, 1) := by decide +kernel
theorem dX8_isNear_140 : decode cX8_isNear 140 = .ok (.lcmp, 1) := by decide +kernel
theorem dX8_isNear_141 : decode cX8_isNear 141 = .ok (.ifCond .ge 7, 3) := by decide +kernel
theorem dX8_isNear_144 : decode cX8_isNear 144 = .ok (.lconst 1, 1) := by decide +kernel
theorem dX8_isNear_145 : decode cX8_isNear 145 = .ok (.goto 4, 3) := by decide +kernel
theorem dX8_isNear_148 : decode cX8_isNear 148 = .ok (.lconst 0, 1) := by decide +kernel
theorem dX8_isNear_149 : decode cX8_isNear 149 = .ok (.lstore 5, 2) := by decide +kernel
theorem dX8_isNear_151 : decode cX8_isNear 151 = .ok (.goto 11, 3) := by decide +kernel
theorem dX8_isNear_154 : decode cX8_isNear 154 = .ok (.aload_n 0, 1) := by decide +kernel
theorem dX8_isNear_155 : decode cX8_isNear 155 = .ok (.iload 4, 2) := by decide +kernel
theorem dX8_isNear_157 : decode cX8_isNear 157 = .ok (.invokevirtual 143, 3) := by decide +kernel
theorem dX8_isNear_160 : decode cX8_isNear 160 = .ok (.lstore 5, 2) := by decide +kernel
theorem dX8_isNear_162 : decode cX8_isNear 162 = .ok (.aload_n 0, 1) := by decide +kernel
theorem dX8_isNear_163 : decode cX8_isNear 163 = .ok (.aload_n 0, 1) := by decide +kernel
theorem dX8_isNear_164 : decode cX8_isNear 164 = .ok (.getfield 26, 3) := by decide +kernel
theorem dX8_isNear_167 : decode cX8_isNear 167 = .ok (.iload 4, 2) := by decide +kernel
theorem dX8_isNear_169 : decode cX8_isNear 169 = .ok (.iaload, 1) := by decide +kernel
theorem dX8_isNear_170 : decode cX8_isNear 170 = .ok (.lload 5, 2) := by decide +kernel
theorem dX8_isNear_172 : decode cX8_isNear 172 = .ok (.invokevirtual 209, 3) := by decide +kernel
theorem dX8_isNear_175 : decode cX8_isNear 175 = .ok (.ifCond .ne 5, 3) := by decide +kernel
theorem dX8_isNear_178 : decode cX8_isNear 178 = .ok (.iconst 0, 1) := by decide +kernel
theorem dX8_isNear_179 : decode cX8_isNear 179 = .ok (.ireturn, 1) := by decide +kernel
theorem dX8_isNear_180 : decode cX8_isNear 180 = .ok (.iinc 3 1, 3) := by decide +kernel
theorem dX8_isNear_183 : decode cX8_isNear 183 = .ok (.goto (-138), 3) := by decide +kernel
theorem dX8_isNear_186 : decode cX8_isNear 186 = .ok (.iconst 1, 1) := by decide +kernel
theorem dX8_isNear_187 : decode cX8_isNear 187 = .ok (.ireturn, 1) := by decide +kernel
set_option maxRecDepth 20000 in
theorem ggX8_needs_X8_lays : GoodIn wsX8_needs wsX8_lays := goodIn_r _ [9, 10, 11, 12, 13, 14, 63, 64, 65, 66, 67, 68, 69, 70, 71, 72, 73, 74, 75, 76, 77, 78, 79, 80, 81, 82, 83, 84, 85, 86, 87, 88] (by decide +kernel) (by decide +kernel)
set_option maxRecDepth 20000 in
theorem gX8_needs_X8_lays : GoodIn wsX8_needs (wsV RX8 150 RX8 yX8_lays wsX8_lays) := goodIn_app (goodIn_of _ (by decide +kernel)) ggX8_needs_X8_lays
set_option maxRecDepth 20000 in
theorem ggX8_needs_X8_isNear : GoodIn wsX8_needs wsX8_isNear := goodIn_r _ [18, 19, 10, 13, 12, 20, 14, 21, 22, 23, 24, 8, 25, 1, 26, 27, 28, 29, 2, 30, 31, 32, 33, 34, 35, 36, 37, 38, 39, 40, 41, 42, 43, 44, 45, 46, 47, 48, 49, 50, 51, 52, 53, 54, 55, 56, 57, 58, 59, 60, 61, 62, 63, 64, 65, 66, 67, 68, 69, 70, 71, 72, 73, 74, 75, 76, 77, 78, 79, 80, 81, 82, 83, 84, 85, 86, 87, 88] (by decide +kernel) (by decide +kernel)
set_option maxRecDepth 20000 in
theorem gX8_needs_X8_isNear : GoodIn wsX8_needs (wsV RX8 216 RX8 yX8_isNear wsX8_isNear) := goodIn_app (goodIn_of _ (by decide +kernel)) ggX8_needs_X8_isNear
theorem dX8_needs_0 : decode cX8_needs 0 = .ok (.aload_n 0, 1) := by decide +kernel
theorem dX8_needs_1 : decode cX8_needs 1 = .ok (.invokevirtual 150, 3) := by decide +kernel
theorem dX8_needs_4 : decode cX8_needs 4 = .ok (.iconst 0, 1) := by decide +kernel
theorem dX8_needs_5 : decode cX8_needs 5 = .ok (.istore_n 1, 1) := by decide +kernel
theorem dX8_needs_6 : decode cX8_needs 6 = .ok (.iload_n 1, 1) := by decide +kernel
theorem dX8_needs_7 : decode cX8_needs 7 = .ok (.bipush 6, 2) := by decide +kernel
theorem dX8_needs_9 : decode cX8_needs 9 = .ok (.if_icmp .ge 23, 3) := by decide +kernel
theorem dX8_needs_12 : decode cX8_needs 12 = .ok (.aload_n 0, 1) := by decide +kernel
theorem dX8_needs_13 : decode cX8_needs 13 = .ok (.getfield 69, 3) := by decide +kernel
theorem dX8_needs_16 : decode cX8_needs 16 = .ok (.iload_n 1, 1) := by decide +kernel
theorem dX8_needs_17 : decode cX8_needs 17 = .ok (.lconst 0, 1) := by decide +kernel
theorem dX8_needs_18 : decode cX8_needs 18 = .ok (.lastore, 1) := by decide +kernel
theorem dX8_needs_19 : decode cX8_needs 19 = .ok (.aload_n 0, 1) := by decide +kernel
theorem dX8_needs_20 : decode cX8_needs 20 = .ok (.getfield 72, 3) := by decide +kernel
theorem dX8_needs_23 : decode cX8_needs 23 = .ok (.iload_n 1, 1) := by decide +kernel
theorem dX8_needs_24 : decode cX8_needs 24 = .ok (.lconst 0, 1) := by decide +kernel
theorem dX8_needs_25 : decode cX8_needs 25 = .ok (.lastore, 1) := by decide +kernel
theorem dX8_needs_26 : decode cX8_needs 26 = .ok (.iinc 1 1, 3) := by decide +kernel
theorem dX8_needs_29 : decode cX8_needs 29 = .ok (.goto (-23), 3) := by decide +kernel
theorem dX8_needs_32 : decode cX8_needs 32 = .ok (.iconst 1, 1) := by decide +kernel
theorem dX8_needs_33 : decode cX8_needs 33 = .ok (.istore_n 1, 1) := by decide +kernel
theorem dX8_needs_34 : decode cX8_needs 34 = .ok (.aload_n 0, 1) := by decide +kernel
theorem dX8_needs_35 : decode cX8_needs 35 = .ok (.getfield 17, 3) := by decide +kernel
theorem dX8_needs_38 : decode cX8_needs 38 = .ok (.iconst 0, 1) := by decide +kernel
theorem dX8_needs_39 : decode cX8_needs 39 = .ok (.iaload, 1) := by decide +kernel
theorem dX8_needs_40 : decode cX8_needs 40 = .ok (.istore_n 2, 1) := by decide +kernel
theorem dX8_needs_41 : decode cX8_needs 41 = .ok (.iload_n 2, 1) := by decide +kernel
theorem dX8_needs_42 : decode cX8_needs 42 = .ok (.aload_n 0, 1) := by decide +kernel
theorem dX8_needs_43 : decode cX8_needs 43 = .ok (.getfield 20, 3) := by decide +kernel
theorem dX8_needs_46 : decode cX8_needs 46 = .ok (.iconst 0, 1) := by decide +kernel
theorem dX8_needs_47 : decode cX8_needs 47 = .ok (.iaload, 1) := by decide +kernel
theorem dX8_needs_48 : decode cX8_needs 48 = .ok (.if_icmp .gt 47, 3) := by decide +kernel
theorem dX8_needs_51 : decode cX8_needs 51 = .ok (.iload_n 1, 1) := by decide +kernel
theorem dX8_needs_52 : decode cX8_needs 52 = .ok (.ifCond .eq 43, 3) := by decide +kernel
theorem dX8_needs_55 : decode cX8_needs 55 = .ok (.aload_n 0, 1) := by decide +kernel
theorem dX8_needs_56 : decode cX8_needs 56 = .ok (.getfield 17, 3) := by decide +kernel
theorem dX8_needs_59 : decode cX8_needs 59 = .ok (.iconst 1, 1) := by decide +kernel
theorem dX8_needs_60 : decode cX8_needs 60 = .ok (.iaload, 1) := by decide +kernel
theorem dX8_needs_61 : decode cX8_needs 61 = .ok (.istore_n 3, 1) := by decide +kernel
theorem dX8_needs_62 : decode cX8_needs 62 = .ok (.iload_n 3, 1) := by decide +kernel
theorem dX8_needs_63 : decode cX8_needs 63 = .ok (.aload_n 0, 1) := by decide +kernel
theorem dX8_needs_64 : decode cX8_needs 64 = .ok (.getfield 20, 3) := by decide +kernel
theorem dX8_needs_67 : decode cX8_needs 67 = .ok (.iconst 1, 1) := by decide +kernel
theorem dX8_needs_68 : decode cX8_needs 68 = .ok (.iaload, 1) := by decide +kernel
theorem dX8_needs_69 : decode cX8_needs 69 = .ok (.if_icmp .gt 20, 3) := by decide +kernel
theorem dX8_needs_72 : decode cX8_needs 72 = .ok (.iload_n 1, 1) := by decide +kernel
theorem dX8_needs_73 : decode cX8_needs 73 = .ok (.ifCond .eq 16, 3) := by decide +kernel
theorem dX8_needs_76 : decode cX8_needs 76 = .ok (.aload_n 0, 1) := by decide +kernel
theorem dX8_needs_77 : decode cX8_needs 77 = .ok (.iload_n 2, 1) := by decide +kernel
theorem dX8_needs_78 : decode cX8_needs 78 = .ok (.iload_n 3, 1) := by decide +kernel
theorem dX8_needs_79 : decode cX8_needs 79 = .ok (.invokevirtual 216, 3) := by decide +kernel
theorem dX8_needs_82 : decode cX8_needs 82 = .ok (.istore_n 1, 1) := by decide +kernel
theorem dX8_needs_83 : decode cX8_needs 83 = .ok (.iinc 3 1, 3) := by decide +kernel
theorem dX8_needs_86 : decode cX8_needs 86 = .ok (.goto (-24), 3) := by decide +kernel
theorem dX8_needs_89 : decode cX8_needs 89 = .ok (.iinc 2 1, 3) := by decide +kernel
theorem dX8_needs_92 : decode cX8_needs 92 = .ok (.goto (-51), 3) := by decide +kernel
theorem dX8_needs_95 : decode cX8_needs 95 = .ok (.iload_n 1, 1) := by decide +kernel
theorem dX8_needs_96 : decode cX8_needs 96 = .ok (.ireturn, 1) := by decide +kernel
theorem dX8_needOf_0 : decode cX8_needOf 0 = .ok (.iconst 2, 1) := by decide +kernel
theorem dX8_needOf_1 : decode cX8_needOf 1 = .ok (.istore_n 2, 1) := by decide +kernel
theorem dX8_needOf_2 : decode cX8_needOf 2 = .ok (.iload_n 2, 1) := by decide +kernel
theorem dX8_needOf_3 : decode cX8_needOf 3 = .ok (.bipush 31, 2) := by decide +kernel
theorem dX8_needOf_5 : decode cX8_needOf 5 = .ok (.if_icmp .gt 76, 3) := by decide +kernel
theorem dX8_needOf_8 : decode cX8_needOf 8 = .ok (.aload_n 0, 1) := by decide +kernel
theorem dX8_needOf_9 : decode cX8_needOf 9 = .ok (.getfield 13, 3) := by decide +kernel
theorem dX8_needOf_12 : decode cX8_needOf 12 = .ok (.iload_n 1, 1) := by decide +kernel
theorem dX8_needOf_13 : decode cX8_needOf 13 = .ok (.baload, 1) := by decide +kernel
theorem dX8_needOf_14 : decode cX8_needOf 14 = .ok (.ifCond .eq 12, 3) := by decide +kernel
theorem dX8_needOf_17 : decode cX8_needOf 17 = .ok (.lconst 1, 1) := by decide +kernel
theorem dX8_needOf_18 : decode cX8_needOf 18 = .ok (.iload_n 2, 1) := by decide +kernel
theorem dX8_needOf_19 : decode cX8_needOf 19 = .ok (.iconst 1, 1) := by decide +kernel
theorem dX8_needOf_20 : decode cX8_needOf 20 = .ok (.isub, 1) := by decide +kernel
theorem dX8_needOf_21 : decode cX8_needOf 21 = .ok (.lshl, 1) := by decide +kernel
theorem dX8_needOf_22 : decode cX8_needOf 22 = .ok (.lneg, 1) := by decide +kernel
theorem dX8_needOf_23 : decode cX8_needOf 23 = .ok (.goto 4, 3) := by decide +kernel
theorem dX8_needOf_26 : decode cX8_needOf 26 = .ok (.lconst 0, 1) := by decide +kernel
theorem dX8_needOf_27 : decode cX8_needOf 27 = .ok (.lstore_n 3, 1) := by decide +kernel
theorem dX8_needOf_28 : decode cX8_needOf 28 = .ok (.lconst 1, 1) := by decide +kernel
theorem dX8_needOf_29 : decode cX8_needOf 29 = .ok (.aload_n 0, 1) := by decide +kernel
theorem dX8_needOf_30 : decode cX8_needOf 30 = .ok (.getfield 13, 3) := by decide +kernel
theorem dX8_needOf_33 : decode cX8_needOf 33 = .ok (.iload_n 1, 1) := by decide +kernel
theorem dX8_needOf_34 : decode cX8_needOf 34 = .ok (.baload, 1) := by decide +kernel
theorem dX8_needOf_35 : decode cX8_needOf 35 = .ok (.ifCond .eq 9, 3) := by decide +kernel
theorem dX8_needOf_38 : decode cX8_needOf 38 = .ok (.iload_n 2, 1) := by decide +kernel
theorem dX8_needOf_39 : decode cX8_needOf 39 = .ok (.iconst 1, 1) := by decide +kernel
theorem dX8_needOf_40 : decode cX8_needOf 40 = .ok (.isub, 1) := by decide +kernel
theorem dX8_needOf_41 : decode cX8_needOf 41 = .ok (.goto 4, 3) := by decide +kernel
theorem dX8_needOf_44 : decode cX8_needOf 44 = .ok (.iload_n 2, 1) := by decide +kernel
theorem dX8_needOf_45 : decode cX8_needOf 45 = .ok (.lshl, 1) := by decide +kernel
theorem dX8_needOf_46 : decode cX8_needOf 46 = .ok (.lconst 1, 1) := by decide +kernel
theorem dX8_needOf_47 : decode cX8_needOf 47 = .ok (.lsub, 1) := by decide +kernel
theorem dX8_needOf_48 : decode cX8_needOf 48 = .ok (.lstore 5, 2) := by decide +kernel
theorem dX8_needOf_50 : decode cX8_needOf 50 = .ok (.aload_n 0, 1) := by decide +kernel
theorem dX8_needOf_51 : decode cX8_needOf 51 = .ok (.getfield 69, 3) := by decide +kernel
theorem dX8_needOf_54 : decode cX8_needOf 54 = .ok (.iload_n 1, 1) := by decide +kernel
theorem dX8_needOf_55 : decode cX8_needOf 55 = .ok (.laload, 1) := by decide +kernel
theorem dX8_needOf_56 : decode cX8_needOf 56 = .ok (.lload_n 3, 1) := by decide +kernel
theorem dX8_needOf_57 : decode cX8_needOf 57 = .ok (.lcmp, 1) := by decide +kernel
theorem dX8_needOf_58 : decode cX8_needOf 58 = .ok (.ifCond .lt 17, 3) := by decide +kernel
theorem dX8_needOf_61 : decode cX8_needOf 61 = .ok (.aload_n 0, 1) := by decide +kernel
theorem dX8_needOf_62 : decode cX8_needOf 62 = .ok (.getfield 72, 3) := by decide +kernel
theorem dX8_needOf_65 : decode cX8_needOf 65 = .ok (.iload_n 1, 1) := by decide +kernel
theorem dX8_needOf_66 : decode cX8_needOf 66 = .ok (.laload, 1) := by decide +kernel
theorem dX8_needOf_67 : decode cX8_needOf 67 = .ok (.lload 5, 2) := by decide +kernel
theorem dX8_needOf_69 : decode cX8_needOf 69 = .ok (.lcmp, 1) := by decide +kernel
theorem dX8_needOf_70 : decode cX8_needOf 70 = .ok (.ifCond .gt 5, 3) := by decide +kernel
theorem dX8_needOf_73 : decode cX8_needOf 73 = .ok (.iload_n 2, 1) := by decide +kernel
theorem dX8_needOf_74 : decode cX8_needOf 74 = .ok (.ireturn, 1) := by decide +kernel
theorem dX8_needOf_75 : decode cX8_needOf 75 = .ok (.iinc 2 1, 3) := by decide +kernel
theorem dX8_needOf_78 : decode cX8_needOf 78 = .ok (.goto (-76), 3) := by decide +kernel
theorem dX8_needOf_81 : decode cX8_needOf 81 = .ok (.iconst (-1), 1) := by decide +kernel
theorem dX8_needOf_82 : decode cX8_needOf 82 = .ok (.ireturn, 1) := by decide +kernel
set_option maxRecDepth 20000 in
theorem ggX8_need_X8_isName : GoodIn wsX8_need wsX8_isName := goodIn_r _ [4, 5, 6, 7, 3, 8] (by decide +kernel) (by decide +kernel)
set_option maxRecDepth 20000 in
theorem gX8_need_X8_isName : GoodIn wsX8_need (va_wsS RX8 85 yX8_isName wsX8_isName) := goodIn_app (goodIn_of _ (by decide +kernel)) ggX8_need_X8_isName
set_option maxRecDepth 20000 in
theorem ggX8_need_X8_needs : GoodIn wsX8_need wsX8_needs := goodIn_r _ [12, 13, 14, 15, 16, 17, 18, 19, 3, 20, 21, 22, 23, 24, 25, 26, 27, 28, 29, 30, 31, 32, 33, 34, 35, 36, 37, 38, 39, 40, 41, 42, 43, 44, 45, 46, 47, 48, 6, 7, 8, 49, 50, 51, 52, 53, 54, 55, 56, 57, 58, 59, 60, 61, 62, 63, 64, 65, 66, 67, 68, 69, 70, 75, 76, 77, 78, 79, 80, 81, 82, 83, 84, 85, 86, 87, 88, 89, 90, 91, 92, 93, 94, 95, 96, 97, 98, 99, 100] (by decide +kernel) (by decide +kernel)
set_option maxRecDepth 20000 in
theorem gX8_need_X8_needs : GoodIn wsX8_need (wsV RX8 219 RX8 yX8_needs wsX8_needs) := goodIn_app (goodIn_of _ (by decide +kernel)) ggX8_need_X8_needs
set_option maxRecDepth 20000 in
theorem ggX8_need_X8_needOf : GoodIn wsX8_need wsX8_needOf := goodIn_r _ [74, 63, 13, 14, 75, 76, 77, 78, 79, 80, 81, 82, 83, 84, 85, 86, 87, 88, 89, 90, 91, 92, 93, 94, 95, 96, 97, 98, 99, 100] (by decide +kernel) (by decide +kernel)
set_option maxRecDepth 20000 in
theorem gX8_need_X8_needOf : GoodIn wsX8_need (wsV RX8 222 RX8 yX8_needOf wsX8_needOf) := goodIn_app (goodIn_of _ (by decide +kernel)) ggX8_need_X8_needOf
theorem dX8_need_0 : decode cX8_need 0 = .ok (.iload_n 1, 1) := by decide +kernel
theorem dX8_need_1 : decode cX8_need 1 = .ok (.invokestatic 85, 3) := by decide +kernel
theorem dX8_need_4 : decode cX8_need 4 = .ok (.ifCond .eq 18, 3) := by decide +kernel
theorem dX8_need_7 : decode cX8_need 7 = .ok (.aload_n 0, 1) := by decide +kernel
theorem dX8_need_8 : decode cX8_need 8 = .ok (.invokevirtual 219, 3) := by decide +kernel
theorem dX8_need_11 : decode cX8_need 11 = .ok (.ifCond .eq 11, 3) := by decide +kernel
theorem dX8_need_14 : decode cX8_need 14 = .ok (.aload_n 0, 1) := by decide +kernel
theorem dX8_need_15 : decode cX8_need 15 = .ok (.iload_n 1, 1) := by decide +kernel
theorem dX8_need_16 : decode cX8_need 16 = .ok (.invokevirtual 222, 3) := by decide +kernel
theorem dX8_need_19 : decode cX8_need 19 = .ok (.goto 4, 3) := by decide +kernel
theorem dX8_need_22 : decode cX8_need 22 = .ok (.iconst (-1), 1) := by decide +kernel
theorem dX8_need_23 : decode cX8_need 23 = .ok (.ireturn, 1) := by decide +kernel
set_option maxRecDepth 20000 in
theorem ggX8_price_X8_needs : GoodIn wsX8_price wsX8_needs := goodIn_r _ [10, 11, 12, 13, 14, 15, 16, 17, 9, 18, 19, 20, 21, 22, 23, 24, 25, 26, 27, 28, 29, 30, 31, 32, 33, 34, 35, 36, 4, 37, 38, 39, 40, 41, 42, 43, 44, 45, 46, 47, 48, 49, 50, 51, 52, 53, 54, 55, 56, 57, 58, 59, 60, 61, 62, 63, 1, 2, 3, 5, 64, 65, 66, 71, 72, 73, 74, 75, 76, 77, 78, 79, 80, 81, 82, 83, 84, 85, 86, 87, 88, 89, 90, 91, 92, 93, 94, 95, 96] (by decide +kernel) (by decide +kernel)
set_option maxRecDepth 20000 in
theorem gX8_price_X8_needs : GoodIn wsX8_price (wsV RX8 219 RX8 yX8_needs wsX8_needs) := goodIn_app (goodIn_of _ (by decide +kernel)) ggX8_price_X8_needs
set_option maxRecDepth 20000 in
theorem ggX8_price_X8_needOf : GoodIn wsX8_price wsX8_needOf := goodIn_r _ [70, 63, 11, 12, 71, 72, 73, 74, 75, 76, 77, 78, 79, 80, 81, 82, 83, 84, 85, 86, 87, 88, 89, 90, 91, 92, 93, 94, 95, 96] (by decide +kernel) (by decide +kernel)
set_option maxRecDepth 20000 in
theorem gX8_price_X8_needOf : GoodIn wsX8_price (wsV RX8 222 RX8 yX8_needOf wsX8_needOf) := goodIn_app (goodIn_of _ (by decide +kernel)) ggX8_price_X8_needOf
theorem dX8_price_0 : decode cX8_price 0 = .ok (.aload_n 0, 1) := by decide +kernel
theorem dX8_price_1 : decode cX8_price 1 = .ok (.invokevirtual 219, 3) := by decide +kernel
theorem dX8_price_4 : decode cX8_price 4 = .ok (.ifCond .ne 5, 3) := by decide +kernel
theorem dX8_price_7 : decode cX8_price 7 = .ok (.iconst (-1), 1) := by decide +kernel
theorem dX8_price_8 : decode cX8_price 8 = .ok (.ireturn, 1) := by decide +kernel
theorem dX8_price_9 : decode cX8_price 9 = .ok (.iconst 0, 1) := by decide +kernel
theorem dX8_price_10 : decode cX8_price 10 = .ok (.istore_n 1, 1) := by decide +kernel
theorem dX8_price_11 : decode cX8_price 11 = .ok (.iconst 0, 1) := by decide +kernel
theorem dX8_price_12 : decode cX8_price 12 = .ok (.istore_n 2, 1) := by decide +kernel
theorem dX8_price_13 : decode cX8_price 13 = .ok (.iload_n 2, 1) := by decide +kernel
theorem dX8_price_14 : decode cX8_price 14 = .ok (.bipush 6, 2) := by decide +kernel
theorem dX8_price_16 : decode cX8_price 16 = .ok (.if_icmp .ge 37, 3) := by decide +kernel
theorem dX8_price_19 : decode cX8_price 19 = .ok (.aload_n 0, 1) := by decide +kernel
theorem dX8_price_20 : decode cX8_price 20 = .ok (.iload_n 2, 1) := by decide +kernel
theorem dX8_price_21 : decode cX8_price 21 = .ok (.invokevirtual 222, 3) := by decide +kernel
theorem dX8_price_24 : decode cX8_price 24 = .ok (.istore_n 3, 1) := by decide +kernel
theorem dX8_price_25 : decode cX8_price 25 = .ok (.iload_n 3, 1) := by decide +kernel
theorem dX8_price_26 : decode cX8_price 26 = .ok (.iconst (-1), 1) := by decide +kernel
theorem dX8_price_27 : decode cX8_price 27 = .ok (.if_icmp .ne 5, 3) := by decide +kernel
theorem dX8_price_30 : decode cX8_price 30 = .ok (.iconst (-1), 1) := by decide +kernel
theorem dX8_price_31 : decode cX8_price 31 = .ok (.ireturn, 1) := by decide +kernel
theorem dX8_price_32 : decode cX8_price 32 = .ok (.iload_n 1, 1) := by decide +kernel
theorem dX8_price_33 : decode cX8_price 33 = .ok (.iconst 0, 1) := by decide +kernel
theorem dX8_price_34 : decode cX8_price 34 = .ok (.iload_n 3, 1) := by decide +kernel
theorem dX8_price_35 : decode cX8_price 35 = .ok (.aload_n 0, 1) := by decide +kernel
theorem dX8_price_36 : decode cX8_price 36 = .ok (.getfield 9, 3) := by decide +kernel
theorem dX8_price_39 : decode cX8_price 39 = .ok (.iload_n 2, 1) := by decide +kernel
theorem dX8_price_40 : decode cX8_price 40 = .ok (.iaload, 1) := by decide +kernel
theorem dX8_price_41 : decode cX8_price 41 = .ok (.isub, 1) := by decide +kernel
theorem dX8_price_42 : decode cX8_price 42 = .ok (.invokestatic 124, 3) := by decide +kernel
theorem dX8_price_45 : decode cX8_price 45 = .ok (.iadd, 1) := by decide +kernel
theorem dX8_price_46 : decode cX8_price 46 = .ok (.istore_n 1, 1) := by decide +kernel
theorem dX8_price_47 : decode cX8_price 47 = .ok (.iinc 2 1, 3) := by decide +kernel
theorem dX8_price_50 : decode cX8_price 50 = .ok (.goto (-37), 3) := by decide +kernel
theorem dX8_price_53 : decode cX8_price 53 = .ok (.iload_n 1, 1) := by decide +kernel
theorem dX8_price_54 : decode cX8_price 54 = .ok (.ireturn, 1) := by decide +kernel
set_option maxRecDepth 20000 in
theorem ggX8_mend_X8_price : GoodIn wsX8_mend wsX8_price := goodIn_r _ [6, 1, 7, 8, 9, 10, 11, 12, 13, 5, 14, 15, 16, 17, 18, 19, 20, 21, 22, 23, 24, 25, 26, 27, 28, 29, 30, 31, 32, 33, 34, 35, 36, 37, 38, 39, 40, 41, 42, 43, 44, 45, 46, 47, 48, 49, 50, 51, 52, 53, 54, 55, 56, 57, 58, 59, 60, 61, 62, 63, 64, 65, 66, 67, 68, 69, 70, 71, 72, 73, 74, 75, 76, 77, 78, 79, 80, 81, 82, 83, 84, 85, 86, 87, 88, 89, 90, 91, 92, 93, 94, 95, 96, 97, 98, 99, 100] (by decide +kernel) (by decide +kernel)
set_option maxRecDepth 20000 in
theorem gX8_mend_X8_price : GoodIn wsX8_mend (wsV RX8 225 RX8 yX8_price wsX8_price) := goodIn_app (goodIn_of _ (by decide +kernel)) ggX8_mend_X8_price
set_option maxRecDepth 20000 in
theorem ggX8_mend_X8_needOf : GoodIn wsX8_mend wsX8_needOf := goodIn_r _ [74, 67, 15, 16, 75, 76, 77, 78, 79, 80, 81, 82, 83, 84, 85, 86, 87, 88, 89, 90, 91, 92, 93, 94, 95, 96, 97, 98, 99, 100] (by decide +kernel) (by decide +kernel)
set_option maxRecDepth 20000 in
theorem gX8_mend_X8_needOf : GoodIn wsX8_mend (wsV RX8 222 RX8 yX8_needOf wsX8_needOf) := goodIn_app (goodIn_of _ (by decide +kernel)) ggX8_mend_X8_needOf
theorem dX8_mend_0 : decode cX8_mend 0 = .ok (.aload_n 0, 1) := by decide +kernel
theorem dX8_mend_1 : decode cX8_mend 1 = .ok (.invokevirtual 225, 3) := by decide +kernel
theorem dX8_mend_4 : decode cX8_mend 4 = .ok (.iconst (-1), 1) := by decide +kernel
theorem dX8_mend_5 : decode cX8_mend 5 = .ok (.if_icmp .ne 5, 3) := by decide +kernel
theorem dX8_mend_8 : decode cX8_mend 8 = .ok (.iconst (-1), 1) := by decide +kernel
theorem dX8_mend_9 : decode cX8_mend 9 = .ok (.ireturn, 1) := by decide +kernel
theorem dX8_mend_10 : decode cX8_mend 10 = .ok (.iconst 0, 1) := by decide +kernel
theorem dX8_mend_11 : decode cX8_mend 11 = .ok (.istore_n 1, 1) := by decide +kernel
theorem dX8_mend_12 : decode cX8_mend 12 = .ok (.iconst 0, 1) := by decide +kernel
theorem dX8_mend_13 : decode cX8_mend 13 = .ok (.istore_n 2, 1) := by decide +kernel
theorem dX8_mend_14 : decode cX8_mend 14 = .ok (.iload_n 2, 1) := by decide +kernel
theorem dX8_mend_15 : decode cX8_mend 15 = .ok (.bipush 6, 2) := by decide +kernel
theorem dX8_mend_17 : decode cX8_mend 17 = .ok (.if_icmp .ge 38, 3) := by decide +kernel
theorem dX8_mend_20 : decode cX8_mend 20 = .ok (.aload_n 0, 1) := by decide +kernel
theorem dX8_mend_21 : decode cX8_mend 21 = .ok (.iload_n 2, 1) := by decide +kernel
theorem dX8_mend_22 : decode cX8_mend 22 = .ok (.invokevirtual 222, 3) := by decide +kernel
theorem dX8_mend_25 : decode cX8_mend 25 = .ok (.istore_n 3, 1) := by decide +kernel
theorem dX8_mend_26 : decode cX8_mend 26 = .ok (.iload_n 3, 1) := by decide +kernel
theorem dX8_mend_27 : decode cX8_mend 27 = .ok (.aload_n 0, 1) := by decide +kernel
theorem dX8_mend_28 : decode cX8_mend 28 = .ok (.getfield 9, 3) := by decide +kernel
theorem dX8_mend_31 : decode cX8_mend 31 = .ok (.iload_n 2, 1) := by decide +kernel
theorem dX8_mend_32 : decode cX8_mend 32 = .ok (.iaload, 1) := by decide +kernel
theorem dX8_mend_33 : decode cX8_mend 33 = .ok (.if_icmp .gt 6, 3) := by decide +kernel
theorem dX8_mend_36 : decode cX8_mend 36 = .ok (.goto 13, 3) := by decide +kernel
theorem dX8_mend_39 : decode cX8_mend 39 = .ok (.aload_n 0, 1) := by decide +kernel
theorem dX8_mend_40 : decode cX8_mend 40 = .ok (.getfield 9, 3) := by decide +kernel
theorem dX8_mend_43 : decode cX8_mend 43 = .ok (.iload_n 2, 1) := by decide +kernel
theorem dX8_mend_44 : decode cX8_mend 44 = .ok (.iload_n 3, 1) := by decide +kernel
theorem dX8_mend_45 : decode cX8_mend 45 = .ok (.iastore, 1) := by decide +kernel
theorem dX8_mend_46 : decode cX8_mend 46 = .ok (.iinc 1 1, 3) := by decide +kernel
theorem dX8_mend_49 : decode cX8_mend 49 = .ok (.iinc 2 1, 3) := by decide +kernel
theorem dX8_mend_52 : decode cX8_mend 52 = .ok (.goto (-38), 3) := by decide +kernel
theorem dX8_mend_55 : decode cX8_mend 55 = .ok (.iload_n 1, 1) := by decide +kernel
theorem dX8_mend_56 : decode cX8_mend 56 = .ok (.ireturn, 1) := by decide +kernel
set_option maxRecDepth 20000 in
theorem ggX8_mean_X8_isStep : GoodIn wsX8_mean wsX8_isStep := goodIn_r _ [6, 7, 8, 9, 5, 10, 11, 12, 13, 14, 15, 16, 17, 18, 19, 20, 21, 22, 23, 24, 25, 26, 27, 28, 29, 30, 31, 32, 33, 34, 35, 36] (by decide +kernel) (by decide +kernel)
set_option maxRecDepth 20000 in
theorem gX8_mean_X8_isStep : GoodIn wsX8_mean (wsV RX8 187 RX8 yX8_isStep wsX8_isStep) := goodIn_app (goodIn_of _ (by decide +kernel)) ggX8_mean_X8_isStep
theorem dX8_mean_0 : decode cX8_mean 0 = .ok (.aload_n 0, 1) := by decide +kernel
theorem dX8_mean_1 : decode cX8_mean 1 = .ok (.iload_n 1, 1) := by decide +kernel
theorem dX8_mean_2 : decode cX8_mean 2 = .ok (.invokevirtual 187, 3) := by decide +kernel
theorem dX8_mean_5 : decode cX8_mean 5 = .ok (.ifCond .eq 13, 3) := by decide +kernel
theorem dX8_mean_8 : decode cX8_mean 8 = .ok (.aload_n 0, 1) := by decide +kernel
theorem dX8_mean_9 : decode cX8_mean 9 = .ok (.getfield 35, 3) := by decide +kernel
theorem dX8_mean_12 : decode cX8_mean 12 = .ok (.iload_n 1, 1) := by decide +kernel
theorem dX8_mean_13 : decode cX8_mean 13 = .ok (.baload, 1) := by decide +kernel
theorem dX8_mean_14 : decode cX8_mean 14 = .ok (.iload_n 2, 1) := by decide +kernel
theorem dX8_mean_15 : decode cX8_mean 15 = .ok (.if_icmp .ne 5, 3) := by decide +kernel
theorem dX8_mean_18 : decode cX8_mean 18 = .ok (.iconst 0, 1) := by decide +kernel
theorem dX8_mean_19 : decode cX8_mean 19 = .ok (.ireturn, 1) := by decide +kernel
theorem dX8_mean_20 : decode cX8_mean 20 = .ok (.aload_n 0, 1) := by decide +kernel
theorem dX8_mean_21 : decode cX8_mean 21 = .ok (.getfield 35, 3) := by decide +kernel
theorem dX8_mean_24 : decode cX8_mean 24 = .ok (.iload_n 1, 1) := by decide +kernel
theorem dX8_mean_25 : decode cX8_mean 25 = .ok (.iload_n 2, 1) := by decide +kernel
theorem dX8_mean_26 : decode cX8_mean 26 = .ok (.bastore, 1) := by decide +kernel
theorem dX8_mean_27 : decode cX8_mean 27 = .ok (.iconst 1, 1) := by decide +kernel
theorem dX8_mean_28 : decode cX8_mean 28 = .ok (.ireturn, 1) := by decide +kernel
set_option maxRecDepth 20000 in
theorem ggX8_listed_X8_spans : GoodIn wsX8_listed wsX8_spans := goodIn_r _ [8, 9, 10, 1, 11, 12, 13, 14, 15, 16, 17, 18, 7, 19, 20, 21, 22, 23, 24, 25, 26, 27, 28, 29, 30, 31, 32, 33, 34, 35, 36, 37, 38, 39, 40, 41, 42, 43, 44, 45, 46, 47, 48, 49, 50, 51, 52, 53, 54, 55, 56, 57, 58, 59, 60, 61, 62, 63, 64, 65, 66, 67, 68, 69, 70, 71, 106, 107, 108, 109, 110, 111, 112, 113, 114, 115, 116, 117, 118, 119, 120, 121, 122, 123, 124, 125, 126, 127, 128, 129, 130, 131] (by decide +kernel) (by decide +kernel)
set_option maxRecDepth 20000 in
theorem gX8_listed_X8_spans : GoodIn wsX8_listed (wsV RX8 180 RX8 yX8_spans wsX8_spans) := goodIn_app (goodIn_of _ (by decide +kernel)) ggX8_listed_X8_spans
set_option maxRecDepth 20000 in
theorem ggX8_listed_X8_all : GoodIn wsX8_listed wsX8_all := goodIn_r _ [75, 76, 1, 3, 77, 78, 12, 13, 79, 80, 81, 16, 17, 18, 7, 19, 14, 20, 15, 21, 82, 83, 84, 85, 86, 56, 55, 44, 45, 46, 47, 26, 36, 31, 32, 33, 34, 35, 37, 38, 39, 40, 41, 42, 43, 48, 49, 50, 87, 88, 89, 90, 57, 58, 59, 60, 91, 92, 93, 94, 95, 96, 97, 27, 28, 29, 30, 106, 107, 108, 109, 110, 111, 112, 113, 114, 115, 116, 117, 118, 119, 120, 121, 122, 123, 124, 125, 126, 127, 128, 129, 130, 131] (by decide +kernel) (by decide +kernel)
set_option maxRecDepth 20000 in
theorem gX8_listed_X8_all : GoodIn wsX8_listed (wsV RX8 190 RX8 yX8_all wsX8_all) := goodIn_app (goodIn_of _ (by decide +kernel)) ggX8_listed_X8_all
set_option maxRecDepth 20000 in
theorem ggX8_listed_X8_judged : GoodIn wsX8_listed wsX8_judged := goodIn_r _ [101, 11, 3, 102, 103, 104, 7, 105, 13, 12, 106, 107, 108, 109, 110, 111, 112, 113, 114, 115, 116, 117, 118, 119, 120, 121, 122, 123, 124, 125, 126, 127, 128, 129, 130, 131] (by decide +kernel) (by decide +kernel)
set_option maxRecDepth 20000 in
theorem gX8_listed_X8_judged : GoodIn wsX8_listed (wsV RX8 193 RX8 yX8_judged wsX8_judged) := goodIn_app (goodIn_of _ (by decide +kernel)) ggX8_listed_X8_judged
theorem dX8_listed_0 : decode cX8_listed 0 = .ok (.iload_n 1, 1) := by decide +kernel
theorem dX8_listed_1 : decode cX8_listed 1 = .ok (.ifCond .ge 5, 3) := by decide +kernel
theorem dX8_listed_4 : decode cX8_listed 4 = .ok (.iconst (-1), 1) := by decide +kernel
theorem dX8_listed_5 : decode cX8_listed 5 = .ok (.ireturn, 1) := by decide +kernel
theorem dX8_listed_6 : decode cX8_listed 6 = .ok (.aload_n 0, 1) := by decide +kernel
theorem dX8_listed_7 : decode cX8_listed 7 = .ok (.invokevirtual 180, 3) := by decide +kernel
theorem dX8_listed_10 : decode cX8_listed 10 = .ok (.aload_n 0, 1) := by decide +kernel
theorem dX8_listed_11 : decode cX8_listed 11 = .ok (.invokevirtual 190, 3) := by decide +kernel
theorem dX8_listed_14 : decode cX8_listed 14 = .ok (.iconst 0, 1) := by decide +kernel
theorem dX8_listed_15 : decode cX8_listed 15 = .ok (.istore_n 2, 1) := by decide +kernel
theorem dX8_listed_16 : decode cX8_listed 16 = .ok (.iload_n 2, 1) := by decide +kernel
theorem dX8_listed_17 : decode cX8_listed 17 = .ok (.aload_n 0, 1) := by decide +kernel
theorem dX8_listed_18 : decode cX8_listed 18 = .ok (.getfield 75, 3) := by decide +kernel
theorem dX8_listed_21 : decode cX8_listed 21 = .ok (.if_icmp .ge 124, 3) := by decide +kernel
theorem dX8_listed_24 : decode cX8_listed 24 = .ok (.aload_n 0, 1) := by decide +kernel
theorem dX8_listed_25 : decode cX8_listed 25 = .ok (.iload_n 2, 1) := by decide +kernel
theorem dX8_listed_26 : decode cX8_listed 26 = .ok (.invokevirtual 193, 3) := by decide +kernel
theorem dX8_listed_29 : decode cX8_listed 29 = .ok (.iconst 2, 1) := by decide +kernel
theorem dX8_listed_30 : decode cX8_listed 30 = .ok (.if_icmp .lt 109, 3) := by decide +kernel
theorem dX8_listed_33 : decode cX8_listed 33 = .ok (.aload_n 0, 1) := by decide +kernel
theorem dX8_listed_34 : decode cX8_listed 34 = .ok (.getfield 35, 3) := by decide +kernel
theorem dX8_listed_37 : decode cX8_listed 37 = .ok (.iload_n 2, 1) := by decide +kernel
theorem dX8_listed_38 : decode cX8_listed 38 = .ok (.baload, 1) := by decide +kernel
theorem dX8_listed_39 : decode cX8_listed 39 = .ok (.ifCond .eq 6, 3) := by decide +kernel
theorem dX8_listed_42 : decode cX8_listed 42 = .ok (.goto 97, 3) := by decide +kernel
theorem dX8_listed_45 : decode cX8_listed 45 = .ok (.iconst 0, 1) := by decide +kernel
theorem dX8_listed_46 : decode cX8_listed 46 = .ok (.istore_n 3, 1) := by decide +kernel
theorem dX8_listed_47 : decode cX8_listed 47 = .ok (.iconst 0, 1) := by decide +kernel
theorem dX8_listed_48 : decode cX8_listed 48 = .ok (.istore 4, 2) := by decide +kernel
theorem dX8_listed_50 : decode cX8_listed 50 = .ok (.iload 4, 2) := by decide +kernel
theorem dX8_listed_52 : decode cX8_listed 52 = .ok (.aload_n 0, 1) := by decide +kernel
theorem dX8_listed_53 : decode cX8_listed 53 = .ok (.getfield 75, 3) := by decide +kernel
theorem dX8_listed_56 : decode cX8_listed 56 = .ok (.if_icmp .ge 76, 3) := by decide +kernel
theorem dX8_listed_59 : decode cX8_listed 59 = .ok (.iload 4, 2) := by decide +kernel
theorem dX8_listed_61 : decode cX8_listed 61 = .ok (.iload_n 2, 1) := by decide +kernel
theorem dX8_listed_62 : decode cX8_listed 62 = .ok (.if_icmp .eq 64, 3) := by decide +kernel
theorem dX8_listed_65 : decode cX8_listed 65 = .ok (.aload_n 0, 1) := by decide +kernel
theorem dX8_listed_66 : decode cX8_listed 66 = .ok (.iload 4, 2) := by decide +kernel
theorem dX8_listed_68 : decode cX8_listed 68 = .ok (.invokevirtual 193, 3) := by decide +kernel
theorem dX8_listed_71 : decode cX8_listed 71 = .ok (.iconst 1, 1) := by decide +kernel
theorem dX8_listed_72 : decode cX8_listed 72 = .ok (.if_icmp .le 54, 3) := by decide +kernel
theorem dX8_listed_75 : decode cX8_listed 75 = .ok (.aload_n 0, 1) := by decide +kernel
theorem dX8_listed_76 : decode cX8_listed 76 = .ok (.getfield 35, 3) := by decide +kernel
theorem dX8_listed_79 : decode cX8_listed 79 = .ok (.iload 4, 2) := by decide +kernel
theorem dX8_listed_81 : decode cX8_listed 81 = .ok (.baload, 1) := by decide +kernel
theorem dX8_listed_82 : decode cX8_listed 82 = .ok (.ifCond .ne 44, 3) := by decide +kernel
theorem dX8_listed_85 : decode cX8_listed 85 = .ok (.aload_n 0, 1) := by decide +kernel
theorem dX8_listed_86 : decode cX8_listed 86 = .ok (.getfield 51, 3) := by decide +kernel
theorem dX8_listed_89 : decode cX8_listed 89 = .ok (.iload 4, 2) := by decide +kernel
theorem dX8_listed_91 : decode cX8_listed 91 = .ok (.iaload, 1) := by decide +kernel
theorem dX8_listed_92 : decode cX8_listed 92 = .ok (.aload_n 0, 1) := by decide +kernel
theorem dX8_listed_93 : decode cX8_listed 93 = .ok (.getfield 51, 3) := by decide +kernel
theorem dX8_listed_96 : decode cX8_listed 96 = .ok (.iload_n 2, 1) := by decide +kernel
theorem dX8_listed_97 : decode cX8_listed 97 = .ok (.iaload, 1) := by decide +kernel
theorem dX8_listed_98 : decode cX8_listed 98 = .ok (.if_icmp .gt 25, 3) := by decide +kernel
theorem dX8_listed_101 : decode cX8_listed 101 = .ok (.aload_n 0, 1) := by decide +kernel
theorem dX8_listed_102 : decode cX8_listed 102 = .ok (.getfield 51, 3) := by decide +kernel
theorem dX8_listed_105 : decode cX8_listed 105 = .ok (.iload 4, 2) := by decide +kernel
theorem dX8_listed_107 : decode cX8_listed 107 = .ok (.iaload, 1) := by decide +kernel
theorem dX8_listed_108 : decode cX8_listed 108 = .ok (.aload_n 0, 1) := by decide +kernel
theorem dX8_listed_109 : decode cX8_listed 109 = .ok (.getfield 51, 3) := by decide +kernel
theorem dX8_listed_112 : decode cX8_listed 112 = .ok (.iload_n 2, 1) := by decide +kernel
theorem dX8_listed_113 : decode cX8_listed 113 = .ok (.iaload, 1) := by decide +kernel
theorem dX8_listed_114 : decode cX8_listed 114 = .ok (.if_icmp .ne 12, 3) := by decide +kernel
theorem dX8_listed_117 : decode cX8_listed 117 = .ok (.iload 4, 2) := by decide +kernel
theorem dX8_listed_119 : decode cX8_listed 119 = .ok (.iload_n 2, 1) := by decide +kernel
theorem dX8_listed_120 : decode cX8_listed 120 = .ok (.if_icmp .ge 6, 3) := by decide +kernel
theorem dX8_listed_123 : decode cX8_listed 123 = .ok (.iinc 3 1, 3) := by decide +kernel
theorem dX8_listed_126 : decode cX8_listed 126 = .ok (.iinc 4 1, 3) := by decide +kernel
theorem dX8_listed_129 : decode cX8_listed 129 = .ok (.goto (-79), 3) := by decide +kernel
theorem dX8_listed_132 : decode cX8_listed 132 = .ok (.iload_n 3, 1) := by decide +kernel
theorem dX8_listed_133 : decode cX8_listed 133 = .ok (.iload_n 1, 1) := by decide +kernel
theorem dX8_listed_134 : decode cX8_listed 134 = .ok (.if_icmp .ne 5, 3) := by decide +kernel
theorem dX8_listed_137 : decode cX8_listed 137 = .ok (.iload_n 2, 1) := by decide +kernel
theorem dX8_listed_138 : decode cX8_listed 138 = .ok (.ireturn, 1) := by decide +kernel
theorem dX8_listed_139 : decode cX8_listed 139 = .ok (.iinc 2 1, 3) := by decide +kernel
theorem dX8_listed_142 : decode cX8_listed 142 = .ok (.goto (-126), 3) := by decide +kernel
theorem dX8_listed_145 : decode cX8_listed 145 = .ok (.iconst (-1), 1) := by decide +kernel
theorem dX8_listed_146 : decode cX8_listed 146 = .ok (.ireturn, 1) := by decide +kernel
set_option maxRecDepth 20000 in
theorem ggX8_count_X8_in : GoodIn wsX8_count wsX8_in := goodIn_r _ [14] (by decide +kernel) (by decide +kernel)
set_option maxRecDepth 20000 in
theorem gX8_count_X8_in : GoodIn wsX8_count (va_wsS RX8 79 yX8_in wsX8_in) := goodIn_app (goodIn_of _ (by decide +kernel)) ggX8_count_X8_in
set_option maxRecDepth 20000 in
theorem ggX8_count_X8_many : GoodIn wsX8_count wsX8_many := goodIn_r _ [18, 19, 20, 80, 81, 82, 83, 84, 85, 86, 87, 88, 89, 90, 91, 92, 93, 94, 95, 96, 97, 98, 99, 100, 101, 102, 103, 104, 105] (by decide +kernel) (by decide +kernel)
set_option maxRecDepth 20000 in
theorem gX8_count_X8_many : GoodIn wsX8_count (wsV RX8 183 RX8 yX8_many wsX8_many) := goodIn_app (goodIn_of _ (by decide +kernel)) ggX8_count_X8_many
set_option maxRecDepth 20000 in
theorem ggX8_count_X8_all : GoodIn wsX8_count wsX8_all := goodIn_r _ [24, 8, 7, 25, 26, 27, 20, 19, 28, 29, 30, 31, 32, 33, 13, 34, 35, 36, 37, 38, 39, 40, 41, 42, 43, 44, 45, 46, 47, 48, 49, 10, 3, 50, 51, 52, 53, 6, 54, 55, 56, 57, 11, 12, 14, 58, 59, 60, 61, 62, 63, 64, 65, 66, 67, 68, 69, 70, 71, 72, 73, 74, 75, 76, 77, 78, 79, 80, 81, 82, 83, 84, 85, 86, 87, 88, 89, 90, 91, 92, 93, 94, 95, 96, 97, 98, 99, 100, 101, 102, 103, 104, 105] (by decide +kernel) (by decide +kernel)
set_option maxRecDepth 20000 in
theorem gX8_count_X8_all : GoodIn wsX8_count (wsV RX8 190 RX8 yX8_all wsX8_all) := goodIn_app (goodIn_of _ (by decide +kernel)) ggX8_count_X8_all
theorem dX8_count_0 : decode cX8_count 0 = .ok (.iload_n 1, 1) := by decide +kernel
theorem dX8_count_1 : decode cX8_count 1 = .ok (.i2l, 1) := by decide +kernel
theorem dX8_count_2 : decode cX8_count 2 = .ok (.ldc2_w 228, 3) := by decide +kernel
theorem dX8_count_5 : decode cX8_count 5 = .ok (.ldc2_w 230, 3) := by decide +kernel
theorem dX8_count_8 : decode cX8_count 8 = .ok (.invokestatic 79, 3) := by decide +kernel
theorem dX8_count_11 : decode cX8_count 11 = .ok (.ifCond .eq 13, 3) := by decide +kernel
theorem dX8_count_14 : decode cX8_count 14 = .ok (.aload_n 0, 1) := by decide +kernel
theorem dX8_count_15 : decode cX8_count 15 = .ok (.getfield 9, 3) := by decide +kernel
theorem dX8_count_18 : decode cX8_count 18 = .ok (.iload_n 1, 1) := by decide +kernel
theorem dX8_count_19 : decode cX8_count 19 = .ok (.bipush 10, 2) := by decide +kernel
theorem dX8_count_21 : decode cX8_count 21 = .ok (.isub, 1) := by decide +kernel
theorem dX8_count_22 : decode cX8_count 22 = .ok (.iaload, 1) := by decide +kernel
theorem dX8_count_23 : decode cX8_count 23 = .ok (.ireturn, 1) := by decide +kernel
theorem dX8_count_24 : decode cX8_count 24 = .ok (.iload_n 1, 1) := by decide +kernel
theorem dX8_count_25 : decode cX8_count 25 = .ok (.i2l, 1) := by decide +kernel
theorem dX8_count_26 : decode cX8_count 26 = .ok (.ldc2_w 232, 3) := by decide +kernel
theorem dX8_count_29 : decode cX8_count 29 = .ok (.ldc2_w 234, 3) := by decide +kernel
theorem dX8_count_32 : decode cX8_count 32 = .ok (.invokestatic 79, 3) := by decide +kernel
theorem dX8_count_35 : decode cX8_count 35 = .ok (.ifCond .eq 21, 3) := by decide +kernel
theorem dX8_count_38 : decode cX8_count 38 = .ok (.aload_n 0, 1) := by decide +kernel
theorem dX8_count_39 : decode cX8_count 39 = .ok (.getfield 13, 3) := by decide +kernel
theorem dX8_count_42 : decode cX8_count 42 = .ok (.iload_n 1, 1) := by decide +kernel
theorem dX8_count_43 : decode cX8_count 43 = .ok (.bipush 20, 2) := by decide +kernel
theorem dX8_count_45 : decode cX8_count 45 = .ok (.isub, 1) := by decide +kernel
theorem dX8_count_46 : decode cX8_count 46 = .ok (.baload, 1) := by decide +kernel
theorem dX8_count_47 : decode cX8_count 47 = .ok (.ifCond .eq 7, 3) := by decide +kernel
theorem dX8_count_50 : decode cX8_count 50 = .ok (.iconst 1, 1) := by decide +kernel
theorem dX8_count_51 : decode cX8_count 51 = .ok (.goto 4, 3) := by decide +kernel
theorem dX8_count_54 : decode cX8_count 54 = .ok (.iconst 0, 1) := by decide +kernel
theorem dX8_count_55 : decode cX8_count 55 = .ok (.ireturn, 1) := by decide +kernel
theorem dX8_count_56 : decode cX8_count 56 = .ok (.iload_n 1, 1) := by decide +kernel
theorem dX8_count_57 : decode cX8_count 57 = .ok (.tableswitch 96 0 4 #[35, 40, 45, 54, 91], 35) := by decide +kernel
theorem dX8_count_92 : decode cX8_count 92 = .ok (.aload_n 0, 1) := by decide +kernel
theorem dX8_count_93 : decode cX8_count 93 = .ok (.getfield 75, 3) := by decide +kernel
theorem dX8_count_96 : decode cX8_count 96 = .ok (.ireturn, 1) := by decide +kernel
theorem dX8_count_97 : decode cX8_count 97 = .ok (.aload_n 0, 1) := by decide +kernel
theorem dX8_count_98 : decode cX8_count 98 = .ok (.invokevirtual 183, 3) := by decide +kernel
theorem dX8_count_101 : decode cX8_count 101 = .ok (.ireturn, 1) := by decide +kernel
theorem dX8_count_102 : decode cX8_count 102 = .ok (.aload_n 0, 1) := by decide +kernel
theorem dX8_count_103 : decode cX8_count 103 = .ok (.invokevirtual 190, 3) := by decide +kernel
theorem dX8_count_106 : decode cX8_count 106 = .ok (.aload_n 0, 1) := by decide +kernel
theorem dX8_count_107 : decode cX8_count 107 = .ok (.getfield 153, 3) := by decide +kernel
theorem dX8_count_110 : decode cX8_count 110 = .ok (.ireturn, 1) := by decide +kernel
theorem dX8_count_111 : decode cX8_count 111 = .ok (.iconst 0, 1) := by decide +kernel
theorem dX8_count_112 : decode cX8_count 112 = .ok (.istore_n 2, 1) := by decide +kernel
theorem dX8_count_113 : decode cX8_count 113 = .ok (.iconst 0, 1) := by decide +kernel
theorem dX8_count_114 : decode cX8_count 114 = .ok (.istore_n 3, 1) := by decide +kernel
theorem dX8_count_115 : decode cX8_count 115 = .ok (.iload_n 3, 1) := by decide +kernel
theorem dX8_count_116 : decode cX8_count 116 = .ok (.aload_n 0, 1) := by decide +kernel
theorem dX8_count_117 : decode cX8_count 117 = .ok (.getfield 75, 3) := by decide +kernel
theorem dX8_count_120 : decode cX8_count 120 = .ok (.if_icmp .ge 26, 3) := by decide +kernel
theorem dX8_count_123 : decode cX8_count 123 = .ok (.iload_n 2, 1) := by decide +kernel
theorem dX8_count_124 : decode cX8_count 124 = .ok (.aload_n 0, 1) := by decide +kernel
theorem dX8_count_125 : decode cX8_count 125 = .ok (.getfield 35, 3) := by decide +kernel
theorem dX8_count_128 : decode cX8_count 128 = .ok (.iload_n 3, 1) := by decide +kernel
theorem dX8_count_129 : decode cX8_count 129 = .ok (.baload, 1) := by decide +kernel
theorem dX8_count_130 : decode cX8_count 130 = .ok (.ifCond .eq 7, 3) := by decide +kernel
theorem dX8_count_133 : decode cX8_count 133 = .ok (.iconst 1, 1) := by decide +kernel
theorem dX8_count_134 : decode cX8_count 134 = .ok (.goto 4, 3) := by decide +kernel
theorem dX8_count_137 : decode cX8_count 137 = .ok (.iconst 0, 1) := by decide +kernel
theorem dX8_count_138 : decode cX8_count 138 = .ok (.iadd, 1) := by decide +kernel
theorem dX8_count_139 : decode cX8_count 139 = .ok (.istore_n 2, 1) := by decide +kernel
theorem dX8_count_140 : decode cX8_count 140 = .ok (.iinc 3 1, 3) := by decide +kernel
theorem dX8_count_143 : decode cX8_count 143 = .ok (.goto (-28), 3) := by decide +kernel
theorem dX8_count_146 : decode cX8_count 146 = .ok (.iload_n 2, 1) := by decide +kernel
theorem dX8_count_147 : decode cX8_count 147 = .ok (.ireturn, 1) := by decide +kernel
theorem dX8_count_148 : decode cX8_count 148 = .ok (.aload_n 0, 1) := by decide +kernel
theorem dX8_count_149 : decode cX8_count 149 = .ok (.getfield 107, 3) := by decide +kernel
theorem dX8_count_152 : decode cX8_count 152 = .ok (.ireturn, 1) := by decide +kernel
theorem dX8_count_153 : decode cX8_count 153 = .ok (.iconst (-1), 1) := by decide +kernel
theorem dX8_count_154 : decode cX8_count 154 = .ok (.ireturn, 1) := by decide +kernel
theorem dJ9_abs_067f4_0 : decode cJ9_abs_067f4 0 = .ok (.lload_n 0, 1) := by decide +kernel
theorem dJ9_abs_067f4_1 : decode cJ9_abs_067f4 1 = .ok (.lconst 0, 1) := by decide +kernel
theorem dJ9_abs_067f4_2 : decode cJ9_abs_067f4 2 = .ok (.lcmp, 1) := by decide +kernel
theorem dJ9_abs_067f4_3 : decode cJ9_abs_067f4 3 = .ok (.ifCond .ge 8, 3) := by decide +kernel
theorem dJ9_abs_067f4_6 : decode cJ9_abs_067f4 6 = .ok (.lload_n 0, 1) := by decide +kernel
theorem dJ9_abs_067f4_7 : decode cJ9_abs_067f4 7 = .ok (.lneg, 1) := by decide +kernel
theorem dJ9_abs_067f4_8 : decode cJ9_abs_067f4 8 = .ok (.goto 4, 3) := by decide +kernel
theorem dJ9_abs_067f4_11 : decode cJ9_abs_067f4 11 = .ok (.lload_n 0, 1) := by decide +kernel
theorem dJ9_abs_067f4_12 : decode cJ9_abs_067f4 12 = .ok (.lreturn, 1) := by decide +kernel
theorem dJ9_max_7cf53_0 : decode cJ9_max_7cf53 0 = .ok (.iload_n 0, 1) := by decide +kernel
theorem dJ9_max_7cf53_1 : decode cJ9_max_7cf53 1 = .ok (.iload_n 1, 1) := by decide +kernel
theorem dJ9_max_7cf53_2 : decode cJ9_max_7cf53 2 = .ok (.if_icmp .lt 7, 3) := by decide +kernel
theorem dJ9_max_7cf53_5 : decode cJ9_max_7cf53 5 = .ok (.iload_n 0, 1) := by decide +kernel
theorem dJ9_max_7cf53_6 : decode cJ9_max_7cf53 6 = .ok (.goto 4, 3) := by decide +kernel
theorem dJ9_max_7cf53_9 : decode cJ9_max_7cf53 9 = .ok (.iload_n 1, 1) := by decide +kernel
theorem dJ9_max_7cf53_10 : decode cJ9_max_7cf53 10 = .ok (.ireturn, 1) := by decide +kernel
theorem dJ9_max_f86c9_0 : decode cJ9_max_f86c9 0 = .ok (.lload_n 0, 1) := by decide +kernel
theorem dJ9_max_f86c9_1 : decode cJ9_max_f86c9 1 = .ok (.lload_n 2, 1) := by decide +kernel
theorem dJ9_max_f86c9_2 : decode cJ9_max_f86c9 2 = .ok (.lcmp, 1) := by decide +kernel
theorem dJ9_max_f86c9_3 : decode cJ9_max_f86c9 3 = .ok (.ifCond .lt 7, 3) := by decide +kernel
theorem dJ9_max_f86c9_6 : decode cJ9_max_f86c9 6 = .ok (.lload_n 0, 1) := by decide +kernel
theorem dJ9_max_f86c9_7 : decode cJ9_max_f86c9 7 = .ok (.goto 4, 3) := by decide +kernel
theorem dJ9_max_f86c9_10 : decode cJ9_max_f86c9 10 = .ok (.lload_n 2, 1) := by decide +kernel
theorem dJ9_max_f86c9_11 : decode cJ9_max_f86c9 11 = .ok (.lreturn, 1) := by decide +kernel
theorem dJ9_min_f86c9_0 : decode cJ9_min_f86c9 0 = .ok (.lload_n 0, 1) := by decide +kernel
theorem dJ9_min_f86c9_1 : decode cJ9_min_f86c9 1 = .ok (.lload_n 2, 1) := by decide +kernel
theorem dJ9_min_f86c9_2 : decode cJ9_min_f86c9 2 = .ok (.lcmp, 1) := by decide +kernel
theorem dJ9_min_f86c9_3 : decode cJ9_min_f86c9 3 = .ok (.ifCond .gt 7, 3) := by decide +kernel
theorem dJ9_min_f86c9_6 : decode cJ9_min_f86c9 6 = .ok (.lload_n 0, 1) := by decide +kernel
theorem dJ9_min_f86c9_7 : decode cJ9_min_f86c9 7 = .ok (.goto 4, 3) := by decide +kernel
theorem dJ9_min_f86c9_10 : decode cJ9_min_f86c9 10 = .ok (.lload_n 2, 1) := by decide +kernel
theorem dJ9_min_f86c9_11 : decode cJ9_min_f86c9 11 = .ok (.lreturn, 1) := by decide +kernel
theorem dJ7_fill_d0a16_0 : decode cJ7_fill_d0a16 0 = .ok (.iconst 0, 1) := by decide +kernel
theorem dJ7_fill_d0a16_1 : decode cJ7_fill_d0a16 1 = .ok (.istore_n 3, 1) := by decide +kernel
theorem dJ7_fill_d0a16_2 : decode cJ7_fill_d0a16 2 = .ok (.aload_n 0, 1) := by decide +kernel
theorem dJ7_fill_d0a16_3 : decode cJ7_fill_d0a16 3 = .ok (.arraylength, 1) := by decide +kernel
theorem dJ7_fill_d0a16_4 : decode cJ7_fill_d0a16 4 = .ok (.istore 4, 2) := by decide +kernel
theorem dJ7_fill_d0a16_6 : decode cJ7_fill_d0a16 6 = .ok (.iload_n 3, 1) := by decide +kernel
theorem dJ7_fill_d0a16_7 : decode cJ7_fill_d0a16 7 = .ok (.iload 4, 2) := by decide +kernel
theorem dJ7_fill_d0a16_9 : decode cJ7_fill_d0a16 9 = .ok (.if_icmp .ge 13, 3) := by decide +kernel
theorem dJ7_fill_d0a16_12 : decode cJ7_fill_d0a16 12 = .ok (.aload_n 0, 1) := by decide +kernel
theorem dJ7_fill_d0a16_13 : decode cJ7_fill_d0a16 13 = .ok (.iload_n 3, 1) := by decide +kernel
theorem dJ7_fill_d0a16_14 : decode cJ7_fill_d0a16 14 = .ok (.lload_n 1, 1) := by decide +kernel
theorem dJ7_fill_d0a16_15 : decode cJ7_fill_d0a16 15 = .ok (.lastore, 1) := by decide +kernel
theorem dJ7_fill_d0a16_16 : decode cJ7_fill_d0a16 16 = .ok (.iinc 3 1, 3) := by decide +kernel
theorem dJ7_fill_d0a16_19 : decode cJ7_fill_d0a16 19 = .ok (.goto (-13), 3) := by decide +kernel
theorem dJ7_fill_d0a16_22 : decode cJ7_fill_d0a16 22 = .ok (.return_, 1) := by decide +kernel
theorem dJ7_fill_53178_0 : decode cJ7_fill_53178 0 = .ok (.iconst 0, 1) := by decide +kernel
theorem dJ7_fill_53178_1 : decode cJ7_fill_53178 1 = .ok (.istore_n 2, 1) := by decide +kernel
theorem dJ7_fill_53178_2 : decode cJ7_fill_53178 2 = .ok (.aload_n 0, 1) := by decide +kernel
theorem dJ7_fill_53178_3 : decode cJ7_fill_53178 3 = .ok (.arraylength, 1) := by decide +kernel
theorem dJ7_fill_53178_4 : decode cJ7_fill_53178 4 = .ok (.istore_n 3, 1) := by decide +kernel
theorem dJ7_fill_53178_5 : decode cJ7_fill_53178 5 = .ok (.iload_n 2, 1) := by decide +kernel
theorem dJ7_fill_53178_6 : decode cJ7_fill_53178 6 = .ok (.iload_n 3, 1) := by decide +kernel
theorem dJ7_fill_53178_7 : decode cJ7_fill_53178 7 = .ok (.if_icmp .ge 13, 3) := by decide +kernel
theorem dJ7_fill_53178_10 : decode cJ7_fill_53178 10 = .ok (.aload_n 0, 1) := by decide +kernel
theorem dJ7_fill_53178_11 : decode cJ7_fill_53178 11 = .ok (.iload_n 2, 1) := by decide +kernel
theorem dJ7_fill_53178_12 : decode cJ7_fill_53178 12 = .ok (.iload_n 1, 1) := by decide +kernel
theorem dJ7_fill_53178_13 : decode cJ7_fill_53178 13 = .ok (.iastore, 1) := by decide +kernel
theorem dJ7_fill_53178_14 : decode cJ7_fill_53178 14 = .ok (.iinc 2 1, 3) := by decide +kernel
theorem dJ7_fill_53178_17 : decode cJ7_fill_53178 17 = .ok (.goto (-12), 3) := by decide +kernel
theorem dJ7_fill_53178_20 : decode cJ7_fill_53178 20 = .ok (.return_, 1) := by decide +kernel
theorem dL_law_0 : decode cL_law 0 = .ok (.new 7, 3) := by decide +kernel
theorem dL_law_3 : decode cL_law 3 = .ok (.dup, 1) := by decide +kernel
theorem dL_law_4 : decode cL_law 4 = .ok (.invokespecial 9, 3) := by decide +kernel
theorem dL_law_7 : decode cL_law 7 = .ok (.astore_n 1, 1) := by decide +kernel
theorem dL_law_8 : decode cL_law 8 = .ok (.new 10, 3) := by decide +kernel
theorem dL_law_11 : decode cL_law 11 = .ok (.dup, 1) := by decide +kernel
theorem dL_law_12 : decode cL_law 12 = .ok (.invokespecial 12, 3) := by decide +kernel
theorem dL_law_15 : decode cL_law 15 = .ok (.astore_n 2, 1) := by decide +kernel
theorem dL_law_16 : decode cL_law 16 = .ok (.iconst 0, 1) := by decide +kernel
theorem dL_law_17 : decode cL_law 17 = .ok (.istore_n 3, 1) := by decide +kernel
theorem dL_law_18 : decode cL_law 18 = .ok (.iload_n 3, 1) := by decide +kernel
theorem dL_law_19 : decode cL_law 19 = .ok (.aload_n 0, 1) := by decide +kernel
theorem dL_law_20 : decode cL_law 20 = .ok (.arraylength, 1) := by decide +kernel
theorem dL_law_21 : decode cL_law 21 = .ok (.iconst 5, 1) := by decide +kernel
theorem dL_law_22 : decode cL_law 22 = .ok (.isub, 1) := by decide +kernel
theorem dL_law_23 : decode cL_law 23 = .ok (.if_icmp .gt 639, 3) := by decide +kernel
theorem dL_law_26 : decode cL_law 26 = .ok (.aload_n 0, 1) := by decide +kernel
theorem dL_law_27 : decode cL_law 27 = .ok (.iload_n 3, 1) := by decide +kernel
theorem dL_law_28 : decode cL_law 28 = .ok (.iaload, 1) := by decide +kernel
theorem dL_law_29 : decode cL_law 29 = .ok (.bipush 31, 2) := by decide +kernel
theorem dL_law_31 : decode cL_law 31 = .ok (.iand, 1) := by decide +kernel
theorem dL_law_32 : decode cL_law 32 = .ok (.tableswitch 624 0 17 #[88, 147, 190, 243, 256, 279, 322, 355, 378, 401, 424, 447, 480, 503, 516, 529, 578, 601], 88) := by decide +kernel
theorem dL_law_120 : decode cL_law 120 = .ok (.aload_n 1, 1) := by decide +kernel
theorem dL_law_121 : decode cL_law 121 = .ok (.aload_n 0, 1) := by decide +kernel
theorem dL_law_122 : decode cL_law 122 = .ok (.iload_n 3, 1) := by decide +kernel
theorem dL_law_123 : decode cL_law 123 = .ok (.iconst 1, 1) := by decide +kernel
theorem dL_law_124 : decode cL_law 124 = .ok (.iadd, 1) := by decide +kernel
theorem dL_law_125 : decode cL_law 125 = .ok (.iaload, 1) := by decide +kernel
theorem dL_law_126 : decode cL_law 126 = .ok (.aload_n 0, 1) := by decide +kernel
theorem dL_law_127 : decode cL_law 127 = .ok (.iload_n 3, 1) := by decide +kernel
theorem dL_law_128 : decode cL_law 128 = .ok (.iconst 2, 1) := by decide +kernel
theorem dL_law_129 : decode cL_law 129 = .ok (.iadd, 1) := by decide +kernel
theorem dL_law_130 : decode cL_law 130 = .ok (.iaload, 1) := by decide +kernel
theorem dL_law_131 : decode cL_law 131 = .ok (.aload_n 0, 1) := by decide +kernel
theorem dL_law_132 : decode cL_law 132 = .ok (.iload_n 3, 1) := by decide +kernel
theorem dL_law_133 : decode cL_law 133 = .ok (.iconst 3, 1) := by decide +kernel
theorem dL_law_134 : decode cL_law 134 = .ok (.iadd, 1) := by decide +kernel
theorem dL_law_135 : decode cL_law 135 = .ok (.iaload, 1) := by decide +kernel
theorem dL_law_136 : decode cL_law 136 = .ok (.ifCond .eq 7, 3) := by decide +kernel
theorem dL_law_139 : decode cL_law 139 = .ok (.iconst 1, 1) := by decide +kernel
theorem dL_law_140 : decode cL_law 140 = .ok (.goto 4, 3) := by decide +kernel
theorem dL_law_143 : decode cL_law 143 = .ok (.iconst 0, 1) := by decide +kernel
theorem dL_law_144 : decode cL_law 144 = .ok (.invokevirtual 13, 3) := by decide +kernel
theorem dL_law_147 : decode cL_law 147 = .ok (.aload_n 2, 1) := by decide +kernel
theorem dL_law_148 : decode cL_law 148 = .ok (.aload_n 0, 1) := by decide +kernel
theorem dL_law_149 : decode cL_law 149 = .ok (.iload_n 3, 1) := by decide +kernel
theorem dL_law_150 : decode cL_law 150 = .ok (.iconst 1, 1) := by decide +kernel
theorem dL_law_151 : decode cL_law 151 = .ok (.iadd, 1) := by decide +kernel
theorem dL_law_152 : decode cL_law 152 = .ok (.iaload, 1) := by decide +kernel
theorem dL_law_153 : decode cL_law 153 = .ok (.aload_n 0, 1) := by decide +kernel
theorem dL_law_154 : decode cL_law 154 = .ok (.iload_n 3, 1) := by decide +kernel
theorem dL_law_155 : decode cL_law 155 = .ok (.iconst 2, 1) := by decide +kernel
theorem dL_law_156 : decode cL_law 156 = .ok (.iadd, 1) := by decide +kernel
theorem dL_law_157 : decode cL_law 157 = .ok (.iaload, 1) := by decide +kernel
theorem dL_law_158 : decode cL_law 158 = .ok (.aload_n 0, 1) := by decide +kernel
theorem dL_law_159 : decode cL_law 159 = .ok (.iload_n 3, 1) := by decide +kernel
theorem dL_law_160 : decode cL_law 160 = .ok (.iconst 3, 1) := by decide +kernel
theorem dL_law_161 : decode cL_law 161 = .ok (.iadd, 1) := by decide +kernel
theorem dL_law_162 : decode cL_law 162 = .ok (.iaload, 1) := by decide +kernel
theorem dL_law_163 : decode cL_law 163 = .ok (.ifCond .eq 7, 3) := by decide +kernel
theorem dL_law_166 : decode cL_law 166 = .ok (.iconst 1, 1) := by decide +kernel
theorem dL_law_167 : decode cL_law 167 = .ok (.goto 4, 3) := by decide +kernel
theorem dL_law_170 : decode cL_law 170 = .ok (.iconst 0, 1) := by decide +kernel
theorem dL_law_171 : decode cL_law 171 = .ok (.invokevirtual 17, 3) := by decide +kernel
theorem dL_law_174 : decode cL_law 174 = .ok (.if_icmp .eq 482, 3) := by decide +kernel
theorem dL_law_177 : decode cL_law 177 = .ok (.iconst 0, 1) := by decide +kernel
theorem dL_law_178 : decode cL_law 178 = .ok (.ireturn, 1) := by decide +kernel
theorem dL_law_179 : decode cL_law 179 = .ok (.aload_n 1, 1) := by decide +kernel
theorem dL_law_180 : decode cL_law 180 = .ok (.aload_n 0, 1) := by decide +kernel
theorem dL_law_181 : decode cL_law 181 = .ok (.iload_n 3, 1) := by decide +kernel
theorem dL_law_182 : decode cL_law 182 = .ok (.iconst 1, 1) := by decide +kernel
theorem dL_law_183 : decode cL_law 183 = .ok (.iadd, 1) := by decide +kernel
theorem dL_law_184 : decode cL_law 184 = .ok (.iaload, 1) := by decide +kernel
theorem dL_law_185 : decode cL_law 185 = .ok (.aload_n 0, 1) := by decide +kernel
theorem dL_law_186 : decode cL_law 186 = .ok (.iload_n 3, 1) := by decide +kernel
theorem dL_law_187 : decode cL_law 187 = .ok (.iconst 2, 1) := by decide +kernel
theorem dL_law_188 : decode cL_law 188 = .ok (.iadd, 1) := by decide +kernel
theorem dL_law_189 : decode cL_law 189 = .ok (.iaload, 1) := by decide +kernel
theorem dL_law_190 : decode cL_law 190 = .ok (.aload_n 0, 1) := by decide +kernel
theorem dL_law_191 : decode cL_law 191 = .ok (.iload_n 3, 1) := by decide +kernel
theorem dL_law_192 : decode cL_law 192 = .ok (.iconst 3, 1) := by decide +kernel
theorem dL_law_193 : decode cL_law 193 = .ok (.iadd, 1) := by decide +kernel
theorem dL_law_194 : decode cL_law 194 = .ok (.iaload, 1) := by decide +kernel
theorem dL_law_195 : decode cL_law 195 = .ok (.invokevirtual 18, 3) := by decide +kernel
theorem dL_law_198 : decode cL_law 198 = .ok (.aload_n 2, 1) := by decide +kernel
theorem dL_law_199 : decode cL_law 199 = .ok (.aload_n 0, 1) := by decide +kernel
theorem dL_law_200 : decode cL_law 200 = .ok (.iload_n 3, 1) := by decide +kernel
theorem dL_law_201 : decode cL_law 201 = .ok (.iconst 1, 1) := by decide +kernel
theorem dL_law_202 : decode cL_law 202 = .ok (.iadd, 1) := by decide +kernel
theorem dL_law_203 : decode cL_law 203 = .ok (.iaload, 1) := by decide +kernel
theorem dL_law_204 : decode cL_law 204 = .ok (.aload_n 0, 1) := by decide +kernel
theorem dL_law_205 : decode cL_law 205 = .ok (.iload_n 3, 1) := by decide +kernel
theorem dL_law_206 : decode cL_law 206 = .ok (.iconst 2, 1) := by decide +kernel
theorem dL_law_207 : decode cL_law 207 = .ok (.iadd, 1) := by decide +kernel
theorem dL_law_208 : decode cL_law 208 = .ok (.iaload, 1) := by decide +kernel
theorem dL_law_209 : decode cL_law 209 = .ok (.aload_n 0, 1) := by decide +kernel
theorem dL_law_210 : decode cL_law 210 = .ok (.iload_n 3, 1) := by decide +kernel
theorem dL_law_211 : decode cL_law 211 = .ok (.iconst 3, 1) := by decide +kernel
theorem dL_law_212 : decode cL_law 212 = .ok (.iadd, 1) := by decide +kernel
theorem dL_law_213 : decode cL_law 213 = .ok (.iaload, 1) := by decide +kernel
theorem dL_law_214 : decode cL_law 214 = .ok (.invokevirtual 22, 3) := by decide +kernel
theorem dL_law_217 : decode cL_law 217 = .ok (.if_icmp .eq 439, 3) := by decide +kernel
theorem dL_law_220 : decode cL_law 220 = .ok (.iconst 0, 1) := by decide +kernel
theorem dL_law_221 : decode cL_law 221 = .ok (.ireturn, 1) := by decide +kernel
theorem dL_law_222 : decode cL_law 222 = .ok (.aload_n 1, 1) := by decide +kernel
theorem dL_law_223 : decode cL_law 223 = .ok (.aload_n 0, 1) := by decide +kernel
theorem dL_law_224 : decode cL_law 224 = .ok (.iload_n 3, 1) := by decide +kernel
theorem dL_law_225 : decode cL_law 225 = .ok (.iconst 1, 1) := by decide +kernel
theorem dL_law_226 : decode cL_law 226 = .ok (.iadd, 1) := by decide +kernel
theorem dL_law_227 : decode cL_law 227 = .ok (.iaload, 1) := by decide +kernel
theorem dL_law_228 : decode cL_law 228 = .ok (.aload_n 0, 1) := by decide +kernel
theorem dL_law_229 : decode cL_law 229 = .ok (.iload_n 3, 1) := by decide +kernel
theorem dL_law_230 : decode cL_law 230 = .ok (.iconst 2, 1) := by decide +kernel
theorem dL_law_231 : decode cL_law 231 = .ok (.iadd, 1) := by decide +kernel
theorem dL_law_232 : decode cL_law 232 = .ok (.iaload, 1) := by decide +kernel
theorem dL_law_233 : decode cL_law 233 = .ok (.aload_n 0, 1) := by decide +kernel
theorem dL_law_234 : decode cL_law 234 = .ok (.iload_n 3, 1) := by decide +kernel
theorem dL_law_235 : decode cL_law 235 = .ok (.iconst 3, 1) := by decide +kernel
theorem dL_law_236 : decode cL_law 236 = .ok (.iadd, 1) := by decide +kernel
theorem dL_law_237 : decode cL_law 237 = .ok (.iaload, 1) := by decide +kernel
theorem dL_law_238 : decode cL_law 238 = .ok (.aload_n 0, 1) := by decide +kernel
theorem dL_law_239 : decode cL_law 239 = .ok (.iload_n 3, 1) := by decide +kernel
theorem dL_law_240 : decode cL_law 240 = .ok (.iconst 4, 1) := by decide +kernel
theorem dL_law_241 : decode cL_law 241 = .ok (.iadd, 1) := by decide +kernel
theorem dL_law_242 : decode cL_law 242 = .ok (.iaload, 1) := by decide +kernel
theorem dL_law_243 : decode cL_law 243 = .ok (.invokevirtual 23, 3) := by decide +kernel
theorem dL_law_246 : decode cL_law 246 = .ok (.aload_n 2, 1) := by decide +kernel
theorem dL_law_247 : decode cL_law 247 = .ok (.aload_n 0, 1) := by decide +kernel
theorem dL_law_248 : decode cL_law 248 = .ok (.iload_n 3, 1) := by decide +kernel
theorem dL_law_249 : decode cL_law 249 = .ok (.iconst 1, 1) := by decide +kernel
theorem dL_law_250 : decode cL_law 250 = .ok (.iadd, 1) := by decide +kernel
theorem dL_law_251 : decode cL_law 251 = .ok (.iaload, 1) := by decide +kernel
theorem dL_law_252 : decode cL_law 252 = .ok (.aload_n 0, 1) := by decide +kernel
theorem dL_law_253 : decode cL_law 253 = .ok (.iload_n 3, 1) := by decide +kernel
theorem dL_law_254 : decode cL_law 254 = .ok (.iconst 2, 1) := by decide +kernel
theorem dL_law_255 : decode cL_law 255 = .ok (.iadd, 1) := by decide +kernel
theorem dL_law_256 : decode cL_law 256 = .ok (.iaload, 1) := by decide +kernel
theorem dL_law_257 : decode cL_law 257 = .ok (.aload_n 0, 1) := by decide +kernel
theorem dL_law_258 : decode cL_law 258 = .ok (.iload_n 3, 1) := by decide +kernel
theorem dL_law_259 : decode cL_law 259 = .ok (.iconst 3, 1) := by decide +kernel
theorem dL_law_260 : decode cL_law 260 = .ok (.iadd, 1) := by decide +kernel
theorem dL_law_261 : decode cL_law 261 = .ok (.iaload, 1) := by decide +kernel
theorem dL_law_262 : decode cL_law 262 = .ok (.aload_n 0, 1) := by decide +kernel
theorem dL_law_263 : decode cL_law 263 = .ok (.iload_n 3, 1) := by decide +kernel
theorem dL_law_264 : decode cL_law 264 = .ok (.iconst 4, 1) := by decide +kernel
theorem dL_law_265 : decode cL_law 265 = .ok (.iadd, 1) := by decide +kernel
theorem dL_law_266 : decode cL_law 266 = .ok (.iaload, 1) := by decide +kernel
theorem dL_law_267 : decode cL_law 267 = .ok (.invokevirtual 27, 3) := by decide +kernel
theorem dL_law_270 : decode cL_law 270 = .ok (.if_icmp .eq 386, 3) := by decide +kernel
theorem dL_law_273 : decode cL_law 273 = .ok (.iconst 0, 1) := by decide +kernel
theorem dL_law_274 : decode cL_law 274 = .ok (.ireturn, 1) := by decide +kernel
theorem dL_law_275 : decode cL_law 275 = .ok (.aload_n 1, 1) := by decide +kernel
theorem dL_law_276 : decode cL_law 276 = .ok (.invokevirtual 28, 3) := by decide +kernel
theorem dL_law_279 : decode cL_law 279 = .ok (.aload_n 2, 1) := by decide +kernel
theorem dL_law_280 : decode cL_law 280 = .ok (.invokevirtual 32, 3) := by decide +kernel
theorem dL_law_283 : decode cL_law 283 = .ok (.if_icmp .eq 373, 3) := by decide +kernel
theorem dL_law_286 : decode cL_law 286 = .ok (.iconst 0, 1) := by decide +kernel
theorem dL_law_287 : decode cL_law 287 = .ok (.ireturn, 1) := by decide +kernel
theorem dL_law_288 : decode cL_law 288 = .ok (.aload_n 1, 1) := by decide +kernel
theorem dL_law_289 : decode cL_law 289 = .ok (.aload_n 0, 1) := by decide +kernel
theorem dL_law_290 : decode cL_law 290 = .ok (.iload_n 3, 1) := by decide +kernel
theorem dL_law_291 : decode cL_law 291 = .ok (.iconst 1, 1) := by decide +kernel
theorem dL_law_292 : decode cL_law 292 = .ok (.iadd, 1) := by decide +kernel
theorem dL_law_293 : decode cL_law 293 = .ok (.iaload, 1) := by decide +kernel
theorem dL_law_294 : decode cL_law 294 = .ok (.invokevirtual 33, 3) := by decide +kernel
theorem dL_law_297 : decode cL_law 297 = .ok (.aload_n 2, 1) := by decide +kernel
theorem dL_law_298 : decode cL_law 298 = .ok (.aload_n 0, 1) := by decide +kernel
theorem dL_law_299 : decode cL_law 299 = .ok (.iload_n 3, 1) := by decide +kernel
theorem dL_law_300 : decode cL_law 300 = .ok (.iconst 1, 1) := by decide +kernel
theorem dL_law_301 : decode cL_law 301 = .ok (.iadd, 1) := by decide +kernel
theorem dL_law_302 : decode cL_law 302 = .ok (.iaload, 1) := by decide +kernel
theorem dL_law_303 : decode cL_law 303 = .ok (.invokevirtual 37, 3) := by decide +kernel
theorem dL_law_306 : decode cL_law 306 = .ok (.if_icmp .eq 350, 3) := by decide +kernel
theorem dL_law_309 : decode cL_law 309 = .ok (.iconst 0, 1) := by decide +kernel
theorem dL_law_310 : decode cL_law 310 = .ok (.ireturn, 1) := by decide +kernel
theorem dL_law_311 : decode cL_law 311 = .ok (.aload_n 1, 1) := by decide +kernel
theorem dL_law_312 : decode cL_law 312 = .ok (.aload_n 0, 1) := by decide +kernel
theorem dL_law_313 : decode cL_law 313 = .ok (.iload_n 3, 1) := by decide +kernel
theorem dL_law_314 : decode cL_law 314 = .ok (.iconst 1, 1) := by decide +kernel
theorem dL_law_315 : decode cL_law 315 = .ok (.iadd, 1) := by decide +kernel
theorem dL_law_316 : decode cL_law 316 = .ok (.iaload, 1) := by decide +kernel
theorem dL_law_317 : decode cL_law 317 = .ok (.aload_n 0, 1) := by decide +kernel
theorem dL_law_318 : decode cL_law 318 = .ok (.iload_n 3, 1) := by decide +kernel
theorem dL_law_319 : decode cL_law 319 = .ok (.iconst 2, 1) := by decide +kernel
theorem dL_law_320 : decode cL_law 320 = .ok (.iadd, 1) := by decide +kernel
theorem dL_law_321 : decode cL_law 321 = .ok (.iaload, 1) := by decide +kernel
theorem dL_law_322 : decode cL_law 322 = .ok (.aload_n 0, 1) := by decide +kernel
theorem dL_law_323 : decode cL_law 323 = .ok (.iload_n 3, 1) := by decide +kernel
theorem dL_law_324 : decode cL_law 324 = .ok (.iconst 3, 1) := by decide +kernel
theorem dL_law_325 : decode cL_law 325 = .ok (.iadd, 1) := by decide +kernel
theorem dL_law_326 : decode cL_law 326 = .ok (.iaload, 1) := by decide +kernel
theorem dL_law_327 : decode cL_law 327 = .ok (.invokevirtual 38, 3) := by decide +kernel
theorem dL_law_330 : decode cL_law 330 = .ok (.aload_n 2, 1) := by decide +kernel
theorem dL_law_331 : decode cL_law 331 = .ok (.aload_n 0, 1) := by decide +kernel
theorem dL_law_332 : decode cL_law 332 = .ok (.iload_n 3, 1) := by decide +kernel
theorem dL_law_333 : decode cL_law 333 = .ok (.iconst 1, 1) := by decide +kernel
theorem dL_law_334 : decode cL_law 334 = .ok (.iadd, 1) := by decide +kernel
theorem dL_law_335 : decode cL_law 335 = .ok (.iaload, 1) := by decide +kernel
theorem dL_law_336 : decode cL_law 336 = .ok (.aload_n 0, 1) := by decide +kernel
theorem dL_law_337 : decode cL_law 337 = .ok (.iload_n 3, 1) := by decide +kernel
theorem dL_law_338 : decode cL_law 338 = .ok (.iconst 2, 1) := by decide +kernel
theorem dL_law_339 : decode cL_law 339 = .ok (.iadd, 1) := by decide +kernel
theorem dL_law_340 : decode cL_law 340 = .ok (.iaload, 1) := by decide +kernel
theorem dL_law_341 : decode cL_law 341 = .ok (.aload_n 0, 1) := by decide +kernel
theorem dL_law_342 : decode cL_law 342 = .ok (.iload_n 3, 1) := by decide +kernel
theorem dL_law_343 : decode cL_law 343 = .ok (.iconst 3, 1) := by decide +kernel
theorem dL_law_344 : decode cL_law 344 = .ok (.iadd, 1) := by decide +kernel
theorem dL_law_345 : decode cL_law 345 = .ok (.iaload, 1) := by decide +kernel
theorem dL_law_346 : decode cL_law 346 = .ok (.invokevirtual 42, 3) := by decide +kernel
theorem dL_law_349 : decode cL_law 349 = .ok (.if_icmp .eq 307, 3) := by decide +kernel
theorem dL_law_352 : decode cL_law 352 = .ok (.iconst 0, 1) := by decide +kernel
theorem dL_law_353 : decode cL_law 353 = .ok (.ireturn, 1) := by decide +kernel
theorem dL_law_354 : decode cL_law 354 = .ok (.aload_n 1, 1) := by decide +kernel
theorem dL_law_355 : decode cL_law 355 = .ok (.aload_n 0, 1) := by decide +kernel
theorem dL_law_356 : decode cL_law 356 = .ok (.iload_n 3, 1) := by decide +kernel
theorem dL_law_357 : decode cL_law 357 = .ok (.iconst 1, 1) := by decide +kernel
theorem dL_law_358 : decode cL_law 358 = .ok (.iadd, 1) := by decide +kernel
theorem dL_law_359 : decode cL_law 359 = .ok (.iaload, 1) := by decide +kernel
theorem dL_law_360 : decode cL_law 360 = .ok (.aload_n 0, 1) := by decide +kernel
theorem dL_law_361 : decode cL_law 361 = .ok (.iload_n 3, 1) := by decide +kernel
theorem dL_law_362 : decode cL_law 362 = .ok (.iconst 2, 1) := by decide +kernel
theorem dL_law_363 : decode cL_law 363 = .ok (.iadd, 1) := by decide +kernel
theorem dL_law_364 : decode cL_law 364 = .ok (.iaload, 1) := by decide +kernel
theorem dL_law_365 : decode cL_law 365 = .ok (.invokevirtual 43, 3) := by decide +kernel
theorem dL_law_368 : decode cL_law 368 = .ok (.aload_n 2, 1) := by decide +kernel
theorem dL_law_369 : decode cL_law 369 = .ok (.aload_n 0, 1) := by decide +kernel
theorem dL_law_370 : decode cL_law 370 = .ok (.iload_n 3, 1) := by decide +kernel
theorem dL_law_371 : decode cL_law 371 = .ok (.iconst 1, 1) := by decide +kernel
theorem dL_law_372 : decode cL_law 372 = .ok (.iadd, 1) := by decide +kernel
theorem dL_law_373 : decode cL_law 373 = .ok (.iaload, 1) := by decide +kernel
theorem dL_law_374 : decode cL_law 374 = .ok (.aload_n 0, 1) := by decide +kernel
theorem dL_law_375 : decode cL_law 375 = .ok (.iload_n 3, 1) := by decide +kernel
theorem dL_law_376 : decode cL_law 376 = .ok (.iconst 2, 1) := by decide +kernel
theorem dL_law_377 : decode cL_law 377 = .ok (.iadd, 1) := by decide +kernel
theorem dL_law_378 : decode cL_law 378 = .ok (.iaload, 1) := by decide +kernel
theorem dL_law_379 : decode cL_law 379 = .ok (.invokevirtual 47, 3) := by decide +kernel
theorem dL_law_382 : decode cL_law 382 = .ok (.if_icmp .eq 274, 3) := by decide +kernel
theorem dL_law_385 : decode cL_law 385 = .ok (.iconst 0, 1) := by decide +kernel
theorem dL_law_386 : decode cL_law 386 = .ok (.ireturn, 1) := by decide +kernel
theorem dL_law_387 : decode cL_law 387 = .ok (.aload_n 1, 1) := by decide +kernel
theorem dL_law_388 : decode cL_law 388 = .ok (.aload_n 0, 1) := by decide +kernel
theorem dL_law_389 : decode cL_law 389 = .ok (.iload_n 3, 1) := by decide +kernel
theorem dL_law_390 : decode cL_law 390 = .ok (.iconst 1, 1) := by decide +kernel
theorem dL_law_391 : decode cL_law 391 = .ok (.iadd, 1) := by decide +kernel
theorem dL_law_392 : decode cL_law 392 = .ok (.iaload, 1) := by decide +kernel
theorem dL_law_393 : decode cL_law 393 = .ok (.invokevirtual 48, 3) := by decide +kernel
theorem dL_law_396 : decode cL_law 396 = .ok (.aload_n 2, 1) := by decide +kernel
theorem dL_law_397 : decode cL_law 397 = .ok (.aload_n 0, 1) := by decide +kernel
theorem dL_law_398 : decode cL_law 398 = .ok (.iload_n 3, 1) := by decide +kernel
theorem dL_law_399 : decode cL_law 399 = .ok (.iconst 1, 1) := by decide +kernel
theorem dL_law_400 : decode cL_law 400 = .ok (.iadd, 1) := by decide +kernel
theorem dL_law_401 : decode cL_law 401 = .ok (.iaload, 1) := by decide +kernel
theorem dL_law_402 : decode cL_law 402 = .ok (.invokevirtual 52, 3) := by decide +kernel
theorem dL_law_405 : decode cL_law 405 = .ok (.if_icmp .eq 251, 3) := by decide +kernel
theorem dL_law_408 : decode cL_law 408 = .ok (.iconst 0, 1) := by decide +kernel
theorem dL_law_409 : decode cL_law 409 = .ok (.ireturn, 1) := by decide +kernel
theorem dL_law_410 : decode cL_law 410 = .ok (.aload_n 1, 1) := by decide +kernel
theorem dL_law_411 : decode cL_law 411 = .ok (.aload_n 0, 1) := by decide +kernel
theorem dL_law_412 : decode cL_law 412 = .ok (.iload_n 3, 1) := by decide +kernel
theorem dL_law_413 : decode cL_law 413 = .ok (.iconst 1, 1) := by decide +kernel
theorem dL_law_414 : decode cL_law 414 = .ok (.iadd, 1) := by decide +kernel
theorem dL_law_415 : decode cL_law 415 = .ok (.iaload, 1) := by decide +kernel
theorem dL_law_416 : decode cL_law 416 = .ok (.invokevirtual 53, 3) := by decide +kernel
theorem dL_law_419 : decode cL_law 419 = .ok (.aload_n 2, 1) := by decide +kernel
theorem dL_law_420 : decode cL_law 420 = .ok (.aload_n 0, 1) := by decide +kernel
theorem dL_law_421 : decode cL_law 421 = .ok (.iload_n 3, 1) := by decide +kernel
theorem dL_law_422 : decode cL_law 422 = .ok (.iconst 1, 1) := by decide +kernel
theorem dL_law_423 : decode cL_law 423 = .ok (.iadd, 1) := by decide +kernel
theorem dL_law_424 : decode cL_law 424 = .ok (.iaload, 1) := by decide +kernel
theorem dL_law_425 : decode cL_law 425 = .ok (.invokevirtual 56, 3) := by decide +kernel
theorem dL_law_428 : decode cL_law 428 = .ok (.if_icmp .eq 228, 3) := by decide +kernel
theorem dL_law_431 : decode cL_law 431 = .ok (.iconst 0, 1) := by decide +kernel
theorem dL_law_432 : decode cL_law 432 = .ok (.ireturn, 1) := by decide +kernel
theorem dL_law_433 : decode cL_law 433 = .ok (.aload_n 1, 1) := by decide +kernel
theorem dL_law_434 : decode cL_law 434 = .ok (.aload_n 0, 1) := by decide +kernel
theorem dL_law_435 : decode cL_law 435 = .ok (.iload_n 3, 1) := by decide +kernel
theorem dL_law_436 : decode cL_law 436 = .ok (.iconst 1, 1) := by decide +kernel
theorem dL_law_437 : decode cL_law 437 = .ok (.iadd, 1) := by decide +kernel
theorem dL_law_438 : decode cL_law 438 = .ok (.iaload, 1) := by decide +kernel
theorem dL_law_439 : decode cL_law 439 = .ok (.invokevirtual 57, 3) := by decide +kernel
theorem dL_law_442 : decode cL_law 442 = .ok (.aload_n 2, 1) := by decide +kernel
theorem dL_law_443 : decode cL_law 443 = .ok (.aload_n 0, 1) := by decide +kernel
theorem dL_law_444 : decode cL_law 444 = .ok (.iload_n 3, 1) := by decide +kernel
theorem dL_law_445 : decode cL_law 445 = .ok (.iconst 1, 1) := by decide +kernel
theorem dL_law_446 : decode cL_law 446 = .ok (.iadd, 1) := by decide +kernel
theorem dL_law_447 : decode cL_law 447 = .ok (.iaload, 1) := by decide +kernel
theorem dL_law_448 : decode cL_law 448 = .ok (.invokevirtual 60, 3) := by decide +kernel
theorem dL_law_451 : decode cL_law 451 = .ok (.if_icmp .eq 205, 3) := by decide +kernel
theorem dL_law_454 : decode cL_law 454 = .ok (.iconst 0, 1) := by decide +kernel
theorem dL_law_455 : decode cL_law 455 = .ok (.ireturn, 1) := by decide +kernel
theorem dL_law_456 : decode cL_law 456 = .ok (.aload_n 1, 1) := by decide +kernel
theorem dL_law_457 : decode cL_law 457 = .ok (.aload_n 0, 1) := by decide +kernel
theorem dL_law_458 : decode cL_law 458 = .ok (.iload_n 3, 1) := by decide +kernel
theorem dL_law_459 : decode cL_law 459 = .ok (.iconst 1, 1) := by decide +kernel
theorem dL_law_460 : decode cL_law 460 = .ok (.iadd, 1) := by decide +kernel
theorem dL_law_461 : decode cL_law 461 = .ok (.iaload, 1) := by decide +kernel
theorem dL_law_462 : decode cL_law 462 = .ok (.invokevirtual 61, 3) := by decide +kernel
theorem dL_law_465 : decode cL_law 465 = .ok (.aload_n 2, 1) := by decide +kernel
theorem dL_law_466 : decode cL_law 466 = .ok (.aload_n 0, 1) := by decide +kernel
theorem dL_law_467 : decode cL_law 467 = .ok (.iload_n 3, 1) := by decide +kernel
theorem dL_law_468 : decode cL_law 468 = .ok (.iconst 1, 1) := by decide +kernel
theorem dL_law_469 : decode cL_law 469 = .ok (.iadd, 1) := by decide +kernel
theorem dL_law_470 : decode cL_law 470 = .ok (.iaload, 1) := by decide +kernel
theorem dL_law_471 : decode cL_law 471 = .ok (.invokevirtual 64, 3) := by decide +kernel
theorem dL_law_474 : decode cL_law 474 = .ok (.if_icmp .eq 182, 3) := by decide +kernel
theorem dL_law_477 : decode cL_law 477 = .ok (.iconst 0, 1) := by decide +kernel
theorem dL_law_478 : decode cL_law 478 = .ok (.ireturn, 1) := by decide +kernel
theorem dL_law_479 : decode cL_law 479 = .ok (.aload_n 1, 1) := by decide +kernel
theorem dL_law_480 : decode cL_law 480 = .ok (.aload_n 0, 1) := by decide +kernel
theorem dL_law_481 : decode cL_law 481 = .ok (.iload_n 3, 1) := by decide +kernel
theorem dL_law_482 : decode cL_law 482 = .ok (.iconst 1, 1) := by decide +kernel
theorem dL_law_483 : decode cL_law 483 = .ok (.iadd, 1) := by decide +kernel
theorem dL_law_484 : decode cL_law 484 = .ok (.iaload, 1) := by decide +kernel
theorem dL_law_485 : decode cL_law 485 = .ok (.aload_n 0, 1) := by decide +kernel
theorem dL_law_486 : decode cL_law 486 = .ok (.iload_n 3, 1) := by decide +kernel
theorem dL_law_487 : decode cL_law 487 = .ok (.iconst 2, 1) := by decide +kernel
theorem dL_law_488 : decode cL_law 488 = .ok (.iadd, 1) := by decide +kernel
theorem dL_law_489 : decode cL_law 489 = .ok (.iaload, 1) := by decide +kernel
theorem dL_law_490 : decode cL_law 490 = .ok (.invokevirtual 65, 3) := by decide +kernel
theorem dL_law_493 : decode cL_law 493 = .ok (.aload_n 2, 1) := by decide +kernel
theorem dL_law_494 : decode cL_law 494 = .ok (.aload_n 0, 1) := by decide +kernel
theorem dL_law_495 : decode cL_law 495 = .ok (.iload_n 3, 1) := by decide +kernel
theorem dL_law_496 : decode cL_law 496 = .ok (.iconst 1, 1) := by decide +kernel
theorem dL_law_497 : decode cL_law 497 = .ok (.iadd, 1) := by decide +kernel
theorem dL_law_498 : decode cL_law 498 = .ok (.iaload, 1) := by decide +kernel
theorem dL_law_499 : decode cL_law 499 = .ok (.aload_n 0, 1) := by decide +kernel
theorem dL_law_500 : decode cL_law 500 = .ok (.iload_n 3, 1) := by decide +kernel
theorem dL_law_501 : decode cL_law 501 = .ok (.iconst 2, 1) := by decide +kernel
theorem dL_law_502 : decode cL_law 502 = .ok (.iadd, 1) := by decide +kernel
theorem dL_law_503 : decode cL_law 503 = .ok (.iaload, 1) := by decide +kernel
theorem dL_law_504 : decode cL_law 504 = .ok (.invokevirtual 68, 3) := by decide +kernel
theorem dL_law_507 : decode cL_law 507 = .ok (.if_icmp .eq 149, 3) := by decide +kernel
theorem dL_law_510 : decode cL_law 510 = .ok (.iconst 0, 1) := by decide +kernel
theorem dL_law_511 : decode cL_law 511 = .ok (.ireturn, 1) := by decide +kernel
theorem dL_law_512 : decode cL_law 512 = .ok (.aload_n 1, 1) := by decide +kernel
theorem dL_law_513 : decode cL_law 513 = .ok (.aload_n 0, 1) := by decide +kernel
theorem dL_law_514 : decode cL_law 514 = .ok (.iload_n 3, 1) := by decide +kernel
theorem dL_law_515 : decode cL_law 515 = .ok (.iconst 1, 1) := by decide +kernel
theorem dL_law_516 : decode cL_law 516 = .ok (.iadd, 1) := by decide +kernel
theorem dL_law_517 : decode cL_law 517 = .ok (.iaload, 1) := by decide +kernel
theorem dL_law_518 : decode cL_law 518 = .ok (.invokevirtual 69, 3) := by decide +kernel
theorem dL_law_521 : decode cL_law 521 = .ok (.aload_n 2, 1) := by decide +kernel
theorem dL_law_522 : decode cL_law 522 = .ok (.aload_n 0, 1) := by decide +kernel
theorem dL_law_523 : decode cL_law 523 = .ok (.iload_n 3, 1) := by decide +kernel
theorem dL_law_524 : decode cL_law 524 = .ok (.iconst 1, 1) := by decide +kernel
theorem dL_law_525 : decode cL_law 525 = .ok (.iadd, 1) := by decide +kernel
theorem dL_law_526 : decode cL_law 526 = .ok (.iaload, 1) := by decide +kernel
theorem dL_law_527 : decode cL_law 527 = .ok (.invokevirtual 72, 3) := by decide +kernel
theorem dL_law_530 : decode cL_law 530 = .ok (.if_icmp .eq 126, 3) := by decide +kernel
theorem dL_law_533 : decode cL_law 533 = .ok (.iconst 0, 1) := by decide +kernel
theorem dL_law_534 : decode cL_law 534 = .ok (.ireturn, 1) := by decide +kernel
theorem dL_law_535 : decode cL_law 535 = .ok (.aload_n 1, 1) := by decide +kernel
theorem dL_law_536 : decode cL_law 536 = .ok (.invokevirtual 73, 3) := by decide +kernel
theorem dL_law_539 : decode cL_law 539 = .ok (.aload_n 2, 1) := by decide +kernel
theorem dL_law_540 : decode cL_law 540 = .ok (.invokevirtual 77, 3) := by decide +kernel
theorem dL_law_543 : decode cL_law 543 = .ok (.if_icmp .eq 113, 3) := by decide +kernel
theorem dL_law_546 : decode cL_law 546 = .ok (.iconst 0, 1) := by decide +kernel
theorem dL_law_547 : decode cL_law 547 = .ok (.ireturn, 1) := by decide +kernel
theorem dL_law_548 : decode cL_law 548 = .ok (.aload_n 1, 1) := by decide +kernel
theorem dL_law_549 : decode cL_law 549 = .ok (.invokevirtual 78, 3) := by decide +kernel
theorem dL_law_552 : decode cL_law 552 = .ok (.aload_n 2, 1) := by decide +kernel
theorem dL_law_553 : decode cL_law 553 = .ok (.invokevirtual 81, 3) := by decide +kernel
theorem dL_law_556 : decode cL_law 556 = .ok (.if_icmp .eq 100, 3) := by decide +kernel
theorem dL_law_559 : decode cL_law 559 = .ok (.iconst 0, 1) := by decide +kernel
theorem dL_law_560 : decode cL_law 560 = .ok (.ireturn, 1) := by decide +kernel
theorem dL_law_561 : decode cL_law 561 = .ok (.aload_n 1, 1) := by decide +kernel
theorem dL_law_562 : decode cL_law 562 = .ok (.aload_n 0, 1) := by decide +kernel
theorem dL_law_563 : decode cL_law 563 = .ok (.iload_n 3, 1) := by decide +kernel
theorem dL_law_564 : decode cL_law 564 = .ok (.iconst 1, 1) := by decide +kernel
theorem dL_law_565 : decode cL_law 565 = .ok (.iadd, 1) := by decide +kernel
theorem dL_law_566 : decode cL_law 566 = .ok (.iaload, 1) := by decide +kernel
theorem dL_law_567 : decode cL_law 567 = .ok (.aload_n 0, 1) := by decide +kernel
theorem dL_law_568 : decode cL_law 568 = .ok (.iload_n 3, 1) := by decide +kernel
theorem dL_law_569 : decode cL_law 569 = .ok (.iconst 2, 1) := by decide +kernel
theorem dL_law_570 : decode cL_law 570 = .ok (.iadd, 1) := by decide +kernel
theorem dL_law_571 : decode cL_law 571 = .ok (.iaload, 1) := by decide +kernel
theorem dL_law_572 : decode cL_law 572 = .ok (.ifCond .eq 7, 3) := by decide +kernel
theorem dL_law_575 : decode cL_law 575 = .ok (.iconst 1, 1) := by decide +kernel
theorem dL_law_576 : decode cL_law 576 = .ok (.goto 4, 3) := by decide +kernel
theorem dL_law_579 : decode cL_law 579 = .ok (.iconst 0, 1) := by decide +kernel
theorem dL_law_580 : decode cL_law 580 = .ok (.invokevirtual 82, 3) := by decide +kernel
theorem dL_law_583 : decode cL_law 583 = .ok (.aload_n 2, 1) := by decide +kernel
theorem dL_law_584 : decode cL_law 584 = .ok (.aload_n 0, 1) := by decide +kernel
theorem dL_law_585 : decode cL_law 585 = .ok (.iload_n 3, 1) := by decide +kernel
theorem dL_law_586 : decode cL_law 586 = .ok (.iconst 1, 1) := by decide +kernel
theorem dL_law_587 : decode cL_law 587 = .ok (.iadd, 1) := by decide +kernel
theorem dL_law_588 : decode cL_law 588 = .ok (.iaload, 1) := by decide +kernel
theorem dL_law_589 : decode cL_law 589 = .ok (.aload_n 0, 1) := by decide +kernel
theorem dL_law_590 : decode cL_law 590 = .ok (.iload_n 3, 1) := by decide +kernel
theorem dL_law_591 : decode cL_law 591 = .ok (.iconst 2, 1) := by decide +kernel
theorem dL_law_592 : decode cL_law 592 = .ok (.iadd, 1) := by decide +kernel
theorem dL_law_593 : decode cL_law 593 = .ok (.iaload, 1) := by decide +kernel
theorem dL_law_594 : decode cL_law 594 = .ok (.ifCond .eq 7, 3) := by decide +kernel
theorem dL_law_597 : decode cL_law 597 = .ok (.iconst 1, 1) := by decide +kernel
theorem dL_law_598 : decode cL_law 598 = .ok (.goto 4, 3) := by decide +kernel
theorem dL_law_601 : decode cL_law 601 = .ok (.iconst 0, 1) := by decide +kernel
theorem dL_law_602 : decode cL_law 602 = .ok (.invokevirtual 86, 3) := by decide +kernel
theorem dL_law_605 : decode cL_law 605 = .ok (.if_icmp .eq 51, 3) := by decide +kernel
theorem dL_law_608 : decode cL_law 608 = .ok (.iconst 0, 1) := by decide +kernel
theorem dL_law_609 : decode cL_law 609 = .ok (.ireturn, 1) := by decide +kernel
theorem dL_law_610 : decode cL_law 610 = .ok (.aload_n 1, 1) := by decide +kernel
theorem dL_law_611 : decode cL_law 611 = .ok (.aload_n 0, 1) := by decide +kernel
theorem dL_law_612 : decode cL_law 612 = .ok (.iload_n 3, 1) := by decide +kernel
theorem dL_law_613 : decode cL_law 613 = .ok (.iconst 1, 1) := by decide +kernel
theorem dL_law_614 : decode cL_law 614 = .ok (.iadd, 1) := by decide +kernel
theorem dL_law_615 : decode cL_law 615 = .ok (.iaload, 1) := by decide +kernel
theorem dL_law_616 : decode cL_law 616 = .ok (.invokevirtual 87, 3) := by decide +kernel
theorem dL_law_619 : decode cL_law 619 = .ok (.aload_n 2, 1) := by decide +kernel
theorem dL_law_620 : decode cL_law 620 = .ok (.aload_n 0, 1) := by decide +kernel
theorem dL_law_621 : decode cL_law 621 = .ok (.iload_n 3, 1) := by decide +kernel
theorem dL_law_622 : decode cL_law 622 = .ok (.iconst 1, 1) := by decide +kernel
theorem dL_law_623 : decode cL_law 623 = .ok (.iadd, 1) := by decide +kernel
theorem dL_law_624 : decode cL_law 624 = .ok (.iaload, 1) := by decide +kernel
theorem dL_law_625 : decode cL_law 625 = .ok (.invokevirtual 90, 3) := by decide +kernel
theorem dL_law_628 : decode cL_law 628 = .ok (.if_icmp .eq 28, 3) := by decide +kernel
theorem dL_law_631 : decode cL_law 631 = .ok (.iconst 0, 1) := by decide +kernel
theorem dL_law_632 : decode cL_law 632 = .ok (.ireturn, 1) := by decide +kernel
theorem dL_law_633 : decode cL_law 633 = .ok (.aload_n 1, 1) := by decide +kernel
theorem dL_law_634 : decode cL_law 634 = .ok (.aload_n 0, 1) := by decide +kernel
theorem dL_law_635 : decode cL_law 635 = .ok (.iload_n 3, 1) := by decide +kernel
theorem dL_law_636 : decode cL_law 636 = .ok (.iconst 1, 1) := by decide +kernel
theorem dL_law_637 : decode cL_law 637 = .ok (.iadd, 1) := by decide +kernel
theorem dL_law_638 : decode cL_law 638 = .ok (.iaload, 1) := by decide +kernel
theorem dL_law_639 : decode cL_law 639 = .ok (.invokevirtual 91, 3) := by decide +kernel
theorem dL_law_642 : decode cL_law 642 = .ok (.aload_n 2, 1) := by decide +kernel
theorem dL_law_643 : decode cL_law 643 = .ok (.aload_n 0, 1) := by decide +kernel
theorem dL_law_644 : decode cL_law 644 = .ok (.iload_n 3, 1) := by decide +kernel
theorem dL_law_645 : decode cL_law 645 = .ok (.iconst 1, 1) := by decide +kernel
theorem dL_law_646 : decode cL_law 646 = .ok (.iadd, 1) := by decide +kernel
theorem dL_law_647 : decode cL_law 647 = .ok (.iaload, 1) := by decide +kernel
theorem dL_law_648 : decode cL_law 648 = .ok (.invokevirtual 94, 3) := by decide +kernel
theorem dL_law_651 : decode cL_law 651 = .ok (.if_icmp .eq 5, 3) := by decide +kernel
theorem dL_law_654 : decode cL_law 654 = .ok (.iconst 0, 1) := by decide +kernel
theorem dL_law_655 : decode cL_law 655 = .ok (.ireturn, 1) := by decide +kernel
theorem dL_law_656 : decode cL_law 656 = .ok (.iinc 3 5, 3) := by decide +kernel
theorem dL_law_659 : decode cL_law 659 = .ok (.goto (-641), 3) := by decide +kernel
theorem dL_law_662 : decode cL_law 662 = .ok (.iconst 1, 1) := by decide +kernel
theorem dL_law_663 : decode cL_law 663 = .ok (.ireturn, 1) := by decide +kernel
abbrev vwCl : List vw_C := [(RX0, TX0, 2), (RX1, TX1, 5), (RX2, TX2, 9), (RX3, TX3, 6), (RX4, TX4, 9), (RX5, TX5, 7), (RX6, TX6, 7), (RX7, TX7, 7), (RX8, TX8, 26)]
