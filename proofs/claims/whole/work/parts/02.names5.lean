set_option maxRecDepth 20000 in
theorem gX8_runs_X8_put : GoodIn wsX8_runs (wsV RX8 139 RX8 yX8_put wsX8_put) := goodIn_app (goodIn_of _ (by decide +kernel)) ggX8_runs_X8_put
set_option maxRecDepth 20000 in
theorem ggX8_runs_X8_valueOf : GoodIn wsX8_runs wsX8_valueOf := goodIn_r _ [37, 8, 10, 1, 9, 38, 39, 40, 41, 42, 43, 44, 15, 45, 23, 18, 46, 47, 48, 31, 32, 33, 53, 54, 55, 56, 57, 58, 59, 60, 61, 62, 63, 64, 65, 66, 67, 68, 69, 70, 71, 72, 73, 74, 75, 76, 77, 78] (by decide +kernel) (by decide +kernel)
set_option maxRecDepth 20000 in
theorem gX8_runs_X8_valueOf : GoodIn wsX8_runs (wsV RX8 143 RX8 yX8_valueOf wsX8_valueOf) := goodIn_app (goodIn_of _ (by decide +kernel)) ggX8_runs_X8_valueOf
set_option maxRecDepth 20000 in
theorem ggX8_runs_X8_goesOver : GoodIn wsX8_runs wsX8_goesOver := goodIn_r _ [52, 19, 20, 21, 15, 22, 23, 18, 24, 25, 26, 27, 28, 29, 30, 53, 54, 55, 56, 57, 58, 59, 60, 61, 62, 63, 64, 65, 66, 67, 68, 69, 70, 71, 72, 73, 74, 75, 76, 77, 78] (by decide +kernel) (by decide +kernel)
set_option maxRecDepth 20000 in
theorem gX8_runs_X8_goesOver : GoodIn wsX8_runs (wsV RX8 146 RX8 yX8_goesOver wsX8_goesOver) := goodIn_app (goodIn_of _ (by decide +kernel)) ggX8_runs_X8_goesOver
theorem dX8_runs_0 : decode cX8_runs 0 = .ok (.iconst 0, 1) := by decide +kernel
theorem dX8_runs_1 : decode cX8_runs 1 = .ok (.istore_n 3, 1) := by decide +kernel
theorem dX8_runs_2 : decode cX8_runs 2 = .ok (.iload_n 3, 1) := by decide +kernel
theorem dX8_runs_3 : decode cX8_runs 3 = .ok (.bipush 6, 2) := by decide +kernel
theorem dX8_runs_5 : decode cX8_runs 5 = .ok (.if_icmp .ge 16, 3) := by decide +kernel
theorem dX8_runs_8 : decode cX8_runs 8 = .ok (.aload_n 0, 1) := by decide +kernel
theorem dX8_runs_9 : decode cX8_runs 9 = .ok (.getfield 41, 3) := by decide +kernel
theorem dX8_runs_12 : decode cX8_runs 12 = .ok (.iload_n 3, 1) := by decide +kernel
theorem dX8_runs_13 : decode cX8_runs 13 = .ok (.lconst 0, 1) := by decide +kernel
theorem dX8_runs_14 : decode cX8_runs 14 = .ok (.lastore, 1) := by decide +kernel
theorem dX8_runs_15 : decode cX8_runs 15 = .ok (.iinc 3 1, 3) := by decide +kernel
theorem dX8_runs_18 : decode cX8_runs 18 = .ok (.goto (-16), 3) := by decide +kernel
theorem dX8_runs_21 : decode cX8_runs 21 = .ok (.iconst 0, 1) := by decide +kernel
theorem dX8_runs_22 : decode cX8_runs 22 = .ok (.istore_n 3, 1) := by decide +kernel
theorem dX8_runs_23 : decode cX8_runs 23 = .ok (.iload_n 3, 1) := by decide +kernel
theorem dX8_runs_24 : decode cX8_runs 24 = .ok (.aload_n 0, 1) := by decide +kernel
theorem dX8_runs_25 : decode cX8_runs 25 = .ok (.getfield 75, 3) := by decide +kernel
theorem dX8_runs_28 : decode cX8_runs 28 = .ok (.if_icmp .ge 23, 3) := by decide +kernel
theorem dX8_runs_31 : decode cX8_runs 31 = .ok (.aload_n 0, 1) := by decide +kernel
theorem dX8_runs_32 : decode cX8_runs 32 = .ok (.getfield 45, 3) := by decide +kernel
theorem dX8_runs_35 : decode cX8_runs 35 = .ok (.iload_n 3, 1) := by decide +kernel
theorem dX8_runs_36 : decode cX8_runs 36 = .ok (.iconst 0, 1) := by decide +kernel
theorem dX8_runs_37 : decode cX8_runs 37 = .ok (.bastore, 1) := by decide +kernel
theorem dX8_runs_38 : decode cX8_runs 38 = .ok (.aload_n 0, 1) := by decide +kernel
theorem dX8_runs_39 : decode cX8_runs 39 = .ok (.getfield 48, 3) := by decide +kernel
theorem dX8_runs_42 : decode cX8_runs 42 = .ok (.iload_n 3, 1) := by decide +kernel
theorem dX8_runs_43 : decode cX8_runs 43 = .ok (.iconst 0, 1) := by decide +kernel
theorem dX8_runs_44 : decode cX8_runs 44 = .ok (.bastore, 1) := by decide +kernel
theorem dX8_runs_45 : decode cX8_runs 45 = .ok (.iinc 3 1, 3) := by decide +kernel
theorem dX8_runs_48 : decode cX8_runs 48 = .ok (.goto (-25), 3) := by decide +kernel
theorem dX8_runs_51 : decode cX8_runs 51 = .ok (.aload_n 0, 1) := by decide +kernel
theorem dX8_runs_52 : decode cX8_runs 52 = .ok (.iconst (-1), 1) := by decide +kernel
theorem dX8_runs_53 : decode cX8_runs 53 = .ok (.putfield 136, 3) := by decide +kernel
theorem dX8_runs_56 : decode cX8_runs 56 = .ok (.aload_n 0, 1) := by decide +kernel
theorem dX8_runs_57 : decode cX8_runs 57 = .ok (.getfield 41, 3) := by decide +kernel
theorem dX8_runs_60 : decode cX8_runs 60 = .ok (.iconst 0, 1) := by decide +kernel
theorem dX8_runs_61 : decode cX8_runs 61 = .ok (.aload_n 0, 1) := by decide +kernel
theorem dX8_runs_62 : decode cX8_runs 62 = .ok (.iconst 0, 1) := by decide +kernel
theorem dX8_runs_63 : decode cX8_runs 63 = .ok (.iload_n 1, 1) := by decide +kernel
theorem dX8_runs_64 : decode cX8_runs 64 = .ok (.i2l, 1) := by decide +kernel
theorem dX8_runs_65 : decode cX8_runs 65 = .ok (.invokevirtual 139, 3) := by decide +kernel
theorem dX8_runs_68 : decode cX8_runs 68 = .ok (.lastore, 1) := by decide +kernel
theorem dX8_runs_69 : decode cX8_runs 69 = .ok (.aload_n 0, 1) := by decide +kernel
theorem dX8_runs_70 : decode cX8_runs 70 = .ok (.getfield 41, 3) := by decide +kernel
theorem dX8_runs_73 : decode cX8_runs 73 = .ok (.iconst 1, 1) := by decide +kernel
theorem dX8_runs_74 : decode cX8_runs 74 = .ok (.aload_n 0, 1) := by decide +kernel
theorem dX8_runs_75 : decode cX8_runs 75 = .ok (.iconst 1, 1) := by decide +kernel
theorem dX8_runs_76 : decode cX8_runs 76 = .ok (.iload_n 2, 1) := by decide +kernel
theorem dX8_runs_77 : decode cX8_runs 77 = .ok (.i2l, 1) := by decide +kernel
theorem dX8_runs_78 : decode cX8_runs 78 = .ok (.invokevirtual 139, 3) := by decide +kernel
theorem dX8_runs_81 : decode cX8_runs 81 = .ok (.lastore, 1) := by decide +kernel
theorem dX8_runs_82 : decode cX8_runs 82 = .ok (.iconst 0, 1) := by decide +kernel
theorem dX8_runs_83 : decode cX8_runs 83 = .ok (.istore_n 3, 1) := by decide +kernel
theorem dX8_runs_84 : decode cX8_runs 84 = .ok (.iload_n 3, 1) := by decide +kernel
theorem dX8_runs_85 : decode cX8_runs 85 = .ok (.aload_n 0, 1) := by decide +kernel
theorem dX8_runs_86 : decode cX8_runs 86 = .ok (.getfield 110, 3) := by decide +kernel
theorem dX8_runs_89 : decode cX8_runs 89 = .ok (.if_icmp .ge 156, 3) := by decide +kernel
theorem dX8_runs_92 : decode cX8_runs 92 = .ok (.aload_n 0, 1) := by decide +kernel
theorem dX8_runs_93 : decode cX8_runs 93 = .ok (.getfield 38, 3) := by decide +kernel
theorem dX8_runs_96 : decode cX8_runs 96 = .ok (.iload_n 3, 1) := by decide +kernel
theorem dX8_runs_97 : decode cX8_runs 97 = .ok (.iaload, 1) := by decide +kernel
theorem dX8_runs_98 : decode cX8_runs 98 = .ok (.istore 4, 2) := by decide +kernel
theorem dX8_runs_100 : decode cX8_runs 100 = .ok (.aload_n 0, 1) := by decide +kernel
theorem dX8_runs_101 : decode cX8_runs 101 = .ok (.iload 4, 2) := by decide +kernel
theorem dX8_runs_103 : decode cX8_runs 103 = .ok (.invokevirtual 143, 3) := by decide +kernel
theorem dX8_runs_106 : decode cX8_runs 106 = .ok (.lstore 5, 2) := by decide +kernel
theorem dX8_runs_108 : decode cX8_runs 108 = .ok (.aload_n 0, 1) := by decide +kernel
theorem dX8_runs_109 : decode cX8_runs 109 = .ok (.getfield 23, 3) := by decide +kernel
theorem dX8_runs_112 : decode cX8_runs 112 = .ok (.iload 4, 2) := by decide +kernel
theorem dX8_runs_114 : decode cX8_runs 114 = .ok (.iaload, 1) := by decide +kernel
theorem dX8_runs_115 : decode cX8_runs 115 = .ok (.bipush 7, 2) := by decide +kernel
theorem dX8_runs_117 : decode cX8_runs 117 = .ok (.if_icmp .ne 59, 3) := by decide +kernel
theorem dX8_runs_120 : decode cX8_runs 120 = .ok (.lload 5, 2) := by decide +kernel
theorem dX8_runs_122 : decode cX8_runs 122 = .ok (.lconst 1, 1) := by decide +kernel
theorem dX8_runs_123 : decode cX8_runs 123 = .ok (.lcmp, 1) := by decide +kernel
theorem dX8_runs_124 : decode cX8_runs 124 = .ok (.ifCond .ne 7, 3) := by decide +kernel
theorem dX8_runs_127 : decode cX8_runs 127 = .ok (.iconst 1, 1) := by decide +kernel
theorem dX8_runs_128 : decode cX8_runs 128 = .ok (.goto 4, 3) := by decide +kernel
theorem dX8_runs_131 : decode cX8_runs 131 = .ok (.iconst 0, 1) := by decide +kernel
theorem dX8_runs_132 : decode cX8_runs 132 = .ok (.aload_n 0, 1) := by decide +kernel
theorem dX8_runs_133 : decode cX8_runs 133 = .ok (.getfield 41, 3) := by decide +kernel
theorem dX8_runs_136 : decode cX8_runs 136 = .ok (.aload_n 0, 1) := by decide +kernel
theorem dX8_runs_137 : decode cX8_runs 137 = .ok (.getfield 29, 3) := by decide +kernel
theorem dX8_runs_140 : decode cX8_runs 140 = .ok (.iload 4, 2) := by decide +kernel
theorem dX8_runs_142 : decode cX8_runs 142 = .ok (.iaload, 1) := by decide +kernel
theorem dX8_runs_143 : decode cX8_runs 143 = .ok (.laload, 1) := by decide +kernel
theorem dX8_runs_144 : decode cX8_runs 144 = .ok (.aload_n 0, 1) := by decide +kernel
theorem dX8_runs_145 : decode cX8_runs 145 = .ok (.getfield 41, 3) := by decide +kernel
theorem dX8_runs_148 : decode cX8_runs 148 = .ok (.aload_n 0, 1) := by decide +kernel
theorem dX8_runs_149 : decode cX8_runs 149 = .ok (.getfield 32, 3) := by decide +kernel
theorem dX8_runs_152 : decode cX8_runs 152 = .ok (.iload 4, 2) := by decide +kernel
theorem dX8_runs_154 : decode cX8_runs 154 = .ok (.iaload, 1) := by decide +kernel
theorem dX8_runs_155 : decode cX8_runs 155 = .ok (.laload, 1) := by decide +kernel
theorem dX8_runs_156 : decode cX8_runs 156 = .ok (.lcmp, 1) := by decide +kernel
theorem dX8_runs_157 : decode cX8_runs 157 = .ok (.ifCond .ge 7, 3) := by decide +kernel
theorem dX8_runs_160 : decode cX8_runs 160 = .ok (.iconst 1, 1) := by decide +kernel
theorem dX8_runs_161 : decode cX8_runs 161 = .ok (.goto 4, 3) := by decide +kernel
theorem dX8_runs_164 : decode cX8_runs 164 = .ok (.iconst 0, 1) := by decide +kernel
theorem dX8_runs_165 : decode cX8_runs 165 = .ok (.if_icmp .eq 11, 3) := by decide +kernel
theorem dX8_runs_168 : decode cX8_runs 168 = .ok (.aload_n 0, 1) := by decide +kernel
theorem dX8_runs_169 : decode cX8_runs 169 = .ok (.getfield 48, 3) := by decide +kernel
theorem dX8_runs_172 : decode cX8_runs 172 = .ok (.iload 4, 2) := by decide +kernel
theorem dX8_runs_174 : decode cX8_runs 174 = .ok (.iconst 1, 1) := by decide +kernel
theorem dX8_runs_175 : decode cX8_runs 175 = .ok (.bastore, 1) := by decide +kernel
theorem dX8_runs_176 : decode cX8_runs 176 = .ok (.aload_n 0, 1) := by decide +kernel
theorem dX8_runs_177 : decode cX8_runs 177 = .ok (.aload_n 0, 1) := by decide +kernel
theorem dX8_runs_178 : decode cX8_runs 178 = .ok (.getfield 26, 3) := by decide +kernel
theorem dX8_runs_181 : decode cX8_runs 181 = .ok (.iload 4, 2) := by decide +kernel
theorem dX8_runs_183 : decode cX8_runs 183 = .ok (.iaload, 1) := by decide +kernel
theorem dX8_runs_184 : decode cX8_runs 184 = .ok (.lload 5, 2) := by decide +kernel
theorem dX8_runs_186 : decode cX8_runs 186 = .ok (.invokevirtual 146, 3) := by decide +kernel
theorem dX8_runs_189 : decode cX8_runs 189 = .ok (.ifCond .eq 25, 3) := by decide +kernel
theorem dX8_runs_192 : decode cX8_runs 192 = .ok (.aload_n 0, 1) := by decide +kernel
theorem dX8_runs_193 : decode cX8_runs 193 = .ok (.getfield 45, 3) := by decide +kernel
theorem dX8_runs_196 : decode cX8_runs 196 = .ok (.iload 4, 2) := by decide +kernel
theorem dX8_runs_198 : decode cX8_runs 198 = .ok (.iconst 1, 1) := by decide +kernel
theorem dX8_runs_199 : decode cX8_runs 199 = .ok (.bastore, 1) := by decide +kernel
theorem dX8_runs_200 : decode cX8_runs 200 = .ok (.aload_n 0, 1) := by decide +kernel
theorem dX8_runs_201 : decode cX8_runs 201 = .ok (.getfield 136, 3) := by decide +kernel
theorem dX8_runs_204 : decode cX8_runs 204 = .ok (.iconst (-1), 1) := by decide +kernel
theorem dX8_runs_205 : decode cX8_runs 205 = .ok (.if_icmp .ne 9, 3) := by decide +kernel
theorem dX8_runs_208 : decode cX8_runs 208 = .ok (.aload_n 0, 1) := by decide +kernel
theorem dX8_runs_209 : decode cX8_runs 209 = .ok (.iload 4, 2) := by decide +kernel
theorem dX8_runs_211 : decode cX8_runs 211 = .ok (.putfield 136, 3) := by decide +kernel
theorem dX8_runs_214 : decode cX8_runs 214 = .ok (.aload_n 0, 1) := by decide +kernel
theorem dX8_runs_215 : decode cX8_runs 215 = .ok (.getfield 41, 3) := by decide +kernel
theorem dX8_runs_218 : decode cX8_runs 218 = .ok (.aload_n 0, 1) := by decide +kernel
theorem dX8_runs_219 : decode cX8_runs 219 = .ok (.getfield 26, 3) := by decide +kernel
theorem dX8_runs_222 : decode cX8_runs 222 = .ok (.iload 4, 2) := by decide +kernel
theorem dX8_runs_224 : decode cX8_runs 224 = .ok (.iaload, 1) := by decide +kernel
theorem dX8_runs_225 : decode cX8_runs 225 = .ok (.aload_n 0, 1) := by decide +kernel
theorem dX8_runs_226 : decode cX8_runs 226 = .ok (.aload_n 0, 1) := by decide +kernel
theorem dX8_runs_227 : decode cX8_runs 227 = .ok (.getfield 26, 3) := by decide +kernel
theorem dX8_runs_230 : decode cX8_runs 230 = .ok (.iload 4, 2) := by decide +kernel
theorem dX8_runs_232 : decode cX8_runs 232 = .ok (.iaload, 1) := by decide +kernel
theorem dX8_runs_233 : decode cX8_runs 233 = .ok (.lload 5, 2) := by decide +kernel
theorem dX8_runs_235 : decode cX8_runs 235 = .ok (.invokevirtual 139, 3) := by decide +kernel
theorem dX8_runs_238 : decode cX8_runs 238 = .ok (.lastore, 1) := by decide +kernel
theorem dX8_runs_239 : decode cX8_runs 239 = .ok (.iinc 3 1, 3) := by decide +kernel
theorem dX8_runs_242 : decode cX8_runs 242 = .ok (.goto (-158), 3) := by decide +kernel
theorem dX8_runs_245 : decode cX8_runs 245 = .ok (.return_, 1) := by decide +kernel
theorem dX8_many_0 : decode cX8_many 0 = .ok (.aload_n 0, 1) := by decide +kernel
theorem dX8_many_1 : decode cX8_many 1 = .ok (.getfield 20, 3) := by decide +kernel
theorem dX8_many_4 : decode cX8_many 4 = .ok (.iconst 0, 1) := by decide +kernel
theorem dX8_many_5 : decode cX8_many 5 = .ok (.iaload, 1) := by decide +kernel
theorem dX8_many_6 : decode cX8_many 6 = .ok (.aload_n 0, 1) := by decide +kernel
theorem dX8_many_7 : decode cX8_many 7 = .ok (.getfield 17, 3) := by decide +kernel
theorem dX8_many_10 : decode cX8_many 10 = .ok (.iconst 0, 1) := by decide +kernel
theorem dX8_many_11 : decode cX8_many 11 = .ok (.iaload, 1) := by decide +kernel
theorem dX8_many_12 : decode cX8_many 12 = .ok (.isub, 1) := by decide +kernel
theorem dX8_many_13 : decode cX8_many 13 = .ok (.iconst 1, 1) := by decide +kernel
theorem dX8_many_14 : decode cX8_many 14 = .ok (.iadd, 1) := by decide +kernel
theorem dX8_many_15 : decode cX8_many 15 = .ok (.aload_n 0, 1) := by decide +kernel
theorem dX8_many_16 : decode cX8_many 16 = .ok (.getfield 20, 3) := by decide +kernel
theorem dX8_many_19 : decode cX8_many 19 = .ok (.iconst 1, 1) := by decide +kernel
theorem dX8_many_20 : decode cX8_many 20 = .ok (.iaload, 1) := by decide +kernel
theorem dX8_many_21 : decode cX8_many 21 = .ok (.aload_n 0, 1) := by decide +kernel
theorem dX8_many_22 : decode cX8_many 22 = .ok (.getfield 17, 3) := by decide +kernel
theorem dX8_many_25 : decode cX8_many 25 = .ok (.iconst 1, 1) := by decide +kernel
theorem dX8_many_26 : decode cX8_many 26 = .ok (.iaload, 1) := by decide +kernel
theorem dX8_many_27 : decode cX8_many 27 = .ok (.isub, 1) := by decide +kernel
theorem dX8_many_28 : decode cX8_many 28 = .ok (.iconst 1, 1) := by decide +kernel
theorem dX8_many_29 : decode cX8_many 29 = .ok (.iadd, 1) := by decide +kernel
theorem dX8_many_30 : decode cX8_many 30 = .ok (.imul, 1) := by decide +kernel
theorem dX8_many_31 : decode cX8_many 31 = .ok (.ireturn, 1) := by decide +kernel
set_option maxRecDepth 20000 in
theorem ggX8_all_X8_lays : GoodIn wsX8_all wsX8_lays := goodIn_r _ [15, 16, 2, 17, 18, 19, 67, 68, 69, 70, 71, 72, 73, 74, 75, 76, 77, 78, 79, 80, 81, 82, 83, 84, 85, 86, 87, 88, 89, 90, 91, 92] (by decide +kernel) (by decide +kernel)
set_option maxRecDepth 20000 in
theorem gX8_all_X8_lays : GoodIn wsX8_all (wsV RX8 150 RX8 yX8_lays wsX8_lays) := goodIn_app (goodIn_of _ (by decide +kernel)) ggX8_all_X8_lays
set_option maxRecDepth 20000 in
theorem ggX8_all_X8_runs : GoodIn wsX8_all wsX8_runs := goodIn_r _ [23, 24, 2, 10, 9, 8, 16, 18, 17, 25, 19, 26, 27, 28, 29, 14, 30, 31, 32, 33, 34, 35, 36, 37, 38, 39, 40, 41, 42, 43, 44, 45, 46, 47, 48, 49, 50, 51, 52, 53, 54, 55, 56, 57, 58, 59, 60, 61, 62, 63, 64, 65, 66, 67, 68, 69, 70, 71, 72, 73, 74, 75, 76, 77, 78, 79, 80, 81, 82, 83, 84, 85, 86, 87, 88, 89, 90, 91, 92] (by decide +kernel) (by decide +kernel)
set_option maxRecDepth 20000 in
theorem gX8_all_X8_runs : GoodIn wsX8_all (wsV RX8 156 RX8 yX8_runs wsX8_runs) := goodIn_app (goodIn_of _ (by decide +kernel)) ggX8_all_X8_runs
theorem dX8_all_0 : decode cX8_all 0 = .ok (.aload_n 0, 1) := by decide +kernel
theorem dX8_all_1 : decode cX8_all 1 = .ok (.invokevirtual 150, 3) := by decide +kernel
theorem dX8_all_4 : decode cX8_all 4 = .ok (.aload_n 0, 1) := by decide +kernel
theorem dX8_all_5 : decode cX8_all 5 = .ok (.iconst 0, 1) := by decide +kernel
theorem dX8_all_6 : decode cX8_all 6 = .ok (.putfield 153, 3) := by decide +kernel
theorem dX8_all_9 : decode cX8_all 9 = .ok (.iconst 0, 1) := by decide +kernel
theorem dX8_all_10 : decode cX8_all 10 = .ok (.istore_n 1, 1) := by decide +kernel
theorem dX8_all_11 : decode cX8_all 11 = .ok (.iload_n 1, 1) := by decide +kernel
theorem dX8_all_12 : decode cX8_all 12 = .ok (.aload_n 0, 1) := by decide +kernel
theorem dX8_all_13 : decode cX8_all 13 = .ok (.getfield 75, 3) := by decide +kernel
theorem dX8_all_16 : decode cX8_all 16 = .ok (.if_icmp .ge 30, 3) := by decide +kernel
theorem dX8_all_19 : decode cX8_all 19 = .ok (.aload_n 0, 1) := by decide +kernel
theorem dX8_all_20 : decode cX8_all 20 = .ok (.getfield 51, 3) := by decide +kernel
theorem dX8_all_23 : decode cX8_all 23 = .ok (.iload_n 1, 1) := by decide +kernel
theorem dX8_all_24 : decode cX8_all 24 = .ok (.iconst 0, 1) := by decide +kernel
theorem dX8_all_25 : decode cX8_all 25 = .ok (.iastore, 1) := by decide +kernel
theorem dX8_all_26 : decode cX8_all 26 = .ok (.aload_n 0, 1) := by decide +kernel
theorem dX8_all_27 : decode cX8_all 27 = .ok (.getfield 54, 3) := by decide +kernel
theorem dX8_all_30 : decode cX8_all 30 = .ok (.iload_n 1, 1) := by decide +kernel
theorem dX8_all_31 : decode cX8_all 31 = .ok (.iconst 0, 1) := by decide +kernel
theorem dX8_all_32 : decode cX8_all 32 = .ok (.iastore, 1) := by decide +kernel
theorem dX8_all_33 : decode cX8_all 33 = .ok (.aload_n 0, 1) := by decide +kernel
theorem dX8_all_34 : decode cX8_all 34 = .ok (.getfield 57, 3) := by decide +kernel
theorem dX8_all_37 : decode cX8_all 37 = .ok (.iload_n 1, 1) := by decide +kernel
theorem dX8_all_38 : decode cX8_all 38 = .ok (.iconst (-1), 1) := by decide +kernel
theorem dX8_all_39 : decode cX8_all 39 = .ok (.iastore, 1) := by decide +kernel
theorem dX8_all_40 : decode cX8_all 40 = .ok (.iinc 1 1, 3) := by decide +kernel
theorem dX8_all_43 : decode cX8_all 43 = .ok (.goto (-32), 3) := by decide +kernel
theorem dX8_all_46 : decode cX8_all 46 = .ok (.aload_n 0, 1) := by decide +kernel
theorem dX8_all_47 : decode cX8_all 47 = .ok (.getfield 17, 3) := by decide +kernel
theorem dX8_all_50 : decode cX8_all 50 = .ok (.iconst 0, 1) := by decide +kernel
theorem dX8_all_51 : decode cX8_all 51 = .ok (.iaload, 1) := by decide +kernel
theorem dX8_all_52 : decode cX8_all 52 = .ok (.istore_n 1, 1) := by decide +kernel
theorem dX8_all_53 : decode cX8_all 53 = .ok (.iload_n 1, 1) := by decide +kernel
theorem dX8_all_54 : decode cX8_all 54 = .ok (.aload_n 0, 1) := by decide +kernel
theorem dX8_all_55 : decode cX8_all 55 = .ok (.getfield 20, 3) := by decide +kernel
theorem dX8_all_58 : decode cX8_all 58 = .ok (.iconst 0, 1) := by decide +kernel
theorem dX8_all_59 : decode cX8_all 59 = .ok (.iaload, 1) := by decide +kernel
theorem dX8_all_60 : decode cX8_all 60 = .ok (.if_icmp .gt 149, 3) := by decide +kernel
theorem dX8_all_63 : decode cX8_all 63 = .ok (.aload_n 0, 1) := by decide +kernel
theorem dX8_all_64 : decode cX8_all 64 = .ok (.getfield 17, 3) := by decide +kernel
theorem dX8_all_67 : decode cX8_all 67 = .ok (.iconst 1, 1) := by decide +kernel
theorem dX8_all_68 : decode cX8_all 68 = .ok (.iaload, 1) := by decide +kernel
theorem dX8_all_69 : decode cX8_all 69 = .ok (.istore_n 2, 1) := by decide +kernel
theorem dX8_all_70 : decode cX8_all 70 = .ok (.iload_n 2, 1) := by decide +kernel
theorem dX8_all_71 : decode cX8_all 71 = .ok (.aload_n 0, 1) := by decide +kernel
theorem dX8_all_72 : decode cX8_all 72 = .ok (.getfield 20, 3) := by decide +kernel
theorem dX8_all_75 : decode cX8_all 75 = .ok (.iconst 1, 1) := by decide +kernel
theorem dX8_all_76 : decode cX8_all 76 = .ok (.iaload, 1) := by decide +kernel
theorem dX8_all_77 : decode cX8_all 77 = .ok (.if_icmp .gt 126, 3) := by decide +kernel
theorem dX8_all_80 : decode cX8_all 80 = .ok (.aload_n 0, 1) := by decide +kernel
theorem dX8_all_81 : decode cX8_all 81 = .ok (.iload_n 1, 1) := by decide +kernel
theorem dX8_all_82 : decode cX8_all 82 = .ok (.iload_n 2, 1) := by decide +kernel
theorem dX8_all_83 : decode cX8_all 83 = .ok (.invokevirtual 156, 3) := by decide +kernel
theorem dX8_all_86 : decode cX8_all 86 = .ok (.aload_n 0, 1) := by decide +kernel
theorem dX8_all_87 : decode cX8_all 87 = .ok (.getfield 136, 3) := by decide +kernel
theorem dX8_all_90 : decode cX8_all 90 = .ok (.iconst (-1), 1) := by decide +kernel
theorem dX8_all_91 : decode cX8_all 91 = .ok (.if_icmp .eq 13, 3) := by decide +kernel
theorem dX8_all_94 : decode cX8_all 94 = .ok (.aload_n 0, 1) := by decide +kernel
theorem dX8_all_95 : decode cX8_all 95 = .ok (.dup, 1) := by decide +kernel
theorem dX8_all_96 : decode cX8_all 96 = .ok (.getfield 153, 3) := by decide +kernel
theorem dX8_all_99 : decode cX8_all 99 = .ok (.iconst 1, 1) := by decide +kernel
theorem dX8_all_100 : decode cX8_all 100 = .ok (.iadd, 1) := by decide +kernel
theorem dX8_all_101 : decode cX8_all 101 = .ok (.putfield 153, 3) := by decide +kernel
theorem dX8_all_104 : decode cX8_all 104 = .ok (.iconst 0, 1) := by decide +kernel
theorem dX8_all_105 : decode cX8_all 105 = .ok (.istore_n 3, 1) := by decide +kernel
theorem dX8_all_106 : decode cX8_all 106 = .ok (.iload_n 3, 1) := by decide +kernel
theorem dX8_all_107 : decode cX8_all 107 = .ok (.aload_n 0, 1) := by decide +kernel
theorem dX8_all_108 : decode cX8_all 108 = .ok (.getfield 75, 3) := by decide +kernel
theorem dX8_all_111 : decode cX8_all 111 = .ok (.if_icmp .ge 86, 3) := by decide +kernel
theorem dX8_all_114 : decode cX8_all 114 = .ok (.aload_n 0, 1) := by decide +kernel
theorem dX8_all_115 : decode cX8_all 115 = .ok (.getfield 48, 3) := by decide +kernel
theorem dX8_all_118 : decode cX8_all 118 = .ok (.iload_n 3, 1) := by decide +kernel
theorem dX8_all_119 : decode cX8_all 119 = .ok (.baload, 1) := by decide +kernel
theorem dX8_all_120 : decode cX8_all 120 = .ok (.ifCond .eq 13, 3) := by decide +kernel
theorem dX8_all_123 : decode cX8_all 123 = .ok (.aload_n 0, 1) := by decide +kernel
theorem dX8_all_124 : decode cX8_all 124 = .ok (.getfield 54, 3) := by decide +kernel
theorem dX8_all_127 : decode cX8_all 127 = .ok (.iload_n 3, 1) := by decide +kernel
theorem dX8_all_128 : decode cX8_all 128 = .ok (.dup2, 1) := by decide +kernel
theorem dX8_all_129 : decode cX8_all 129 = .ok (.iaload, 1) := by decide +kernel
theorem dX8_all_130 : decode cX8_all 130 = .ok (.iconst 1, 1) := by decide +kernel
theorem dX8_all_131 : decode cX8_all 131 = .ok (.iadd, 1) := by decide +kernel
theorem dX8_all_132 : decode cX8_all 132 = .ok (.iastore, 1) := by decide +kernel
theorem dX8_all_133 : decode cX8_all 133 = .ok (.aload_n 0, 1) := by decide +kernel
theorem dX8_all_134 : decode cX8_all 134 = .ok (.getfield 45, 3) := by decide +kernel
theorem dX8_all_137 : decode cX8_all 137 = .ok (.iload_n 3, 1) := by decide +kernel
theorem dX8_all_138 : decode cX8_all 138 = .ok (.baload, 1) := by decide +kernel
theorem dX8_all_139 : decode cX8_all 139 = .ok (.ifCond .ne 6, 3) := by decide +kernel
theorem dX8_all_142 : decode cX8_all 142 = .ok (.goto 49, 3) := by decide +kernel
theorem dX8_all_145 : decode cX8_all 145 = .ok (.aload_n 0, 1) := by decide +kernel
theorem dX8_all_146 : decode cX8_all 146 = .ok (.getfield 51, 3) := by decide +kernel
theorem dX8_all_149 : decode cX8_all 149 = .ok (.iload_n 3, 1) := by decide +kernel
theorem dX8_all_150 : decode cX8_all 150 = .ok (.dup2, 1) := by decide +kernel
theorem dX8_all_151 : decode cX8_all 151 = .ok (.iaload, 1) := by decide +kernel
theorem dX8_all_152 : decode cX8_all 152 = .ok (.iconst 1, 1) := by decide +kernel
theorem dX8_all_153 : decode cX8_all 153 = .ok (.iadd, 1) := by decide +kernel
theorem dX8_all_154 : decode cX8_all 154 = .ok (.iastore, 1) := by decide +kernel
theorem dX8_all_155 : decode cX8_all 155 = .ok (.aload_n 0, 1) := by decide +kernel
theorem dX8_all_156 : decode cX8_all 156 = .ok (.getfield 57, 3) := by decide +kernel
theorem dX8_all_159 : decode cX8_all 159 = .ok (.iload_n 3, 1) := by decide +kernel
theorem dX8_all_160 : decode cX8_all 160 = .ok (.iaload, 1) := by decide +kernel
theorem dX8_all_161 : decode cX8_all 161 = .ok (.iconst (-1), 1) := by decide +kernel
theorem dX8_all_162 : decode cX8_all 162 = .ok (.if_icmp .ne 29, 3) := by decide +kernel
theorem dX8_all_165 : decode cX8_all 165 = .ok (.aload_n 0, 1) := by decide +kernel
theorem dX8_all_166 : decode cX8_all 166 = .ok (.getfield 57, 3) := by decide +kernel
theorem dX8_all_169 : decode cX8_all 169 = .ok (.iload_n 3, 1) := by decide +kernel
theorem dX8_all_170 : decode cX8_all 170 = .ok (.bipush 32, 2) := by decide +kernel
theorem dX8_all_172 : decode cX8_all 172 = .ok (.iload_n 1, 1) := by decide +kernel
theorem dX8_all_173 : decode cX8_all 173 = .ok (.aload_n 0, 1) := by decide +kernel
theorem dX8_all_174 : decode cX8_all 174 = .ok (.getfield 17, 3) := by decide +kernel
theorem dX8_all_177 : decode cX8_all 177 = .ok (.iconst 0, 1) := by decide +kernel
theorem dX8_all_178 : decode cX8_all 178 = .ok (.iaload, 1) := by decide +kernel
theorem dX8_all_179 : decode cX8_all 179 = .ok (.isub, 1) := by decide +kernel
theorem dX8_all_180 : decode cX8_all 180 = .ok (.imul, 1) := by decide +kernel
theorem dX8_all_181 : decode cX8_all 181 = .ok (.iload_n 2, 1) := by decide +kernel
theorem dX8_all_182 : decode cX8_all 182 = .ok (.iadd, 1) := by decide +kernel
theorem dX8_all_183 : decode cX8_all 183 = .ok (.aload_n 0, 1) := by decide +kernel
theorem dX8_all_184 : decode cX8_all 184 = .ok (.getfield 17, 3) := by decide +kernel
theorem dX8_all_187 : decode cX8_all 187 = .ok (.iconst 1, 1) := by decide +kernel
theorem dX8_all_188 : decode cX8_all 188 = .ok (.iaload, 1) := by decide +kernel
theorem dX8_all_189 : decode cX8_all 189 = .ok (.isub, 1) := by decide +kernel
theorem dX8_all_190 : decode cX8_all 190 = .ok (.iastore, 1) := by decide +kernel
theorem dX8_all_191 : decode cX8_all 191 = .ok (.iinc 3 1, 3) := by decide +kernel
theorem dX8_all_194 : decode cX8_all 194 = .ok (.goto (-88), 3) := by decide +kernel
theorem dX8_all_197 : decode cX8_all 197 = .ok (.iinc 2 1, 3) := by decide +kernel
theorem dX8_all_200 : decode cX8_all 200 = .ok (.goto (-130), 3) := by decide +kernel
theorem dX8_all_203 : decode cX8_all 203 = .ok (.iinc 1 1, 3) := by decide +kernel
theorem dX8_all_206 : decode cX8_all 206 = .ok (.goto (-153), 3) := by decide +kernel
theorem dX8_all_209 : decode cX8_all 209 = .ok (.return_, 1) := by decide +kernel
set_option maxRecDepth 20000 in
theorem ggX8_isRun_X8_in : GoodIn wsX8_isRun wsX8_in := goodIn_r _ [6] (by decide +kernel) (by decide +kernel)
set_option maxRecDepth 20000 in
theorem gX8_isRun_X8_in : GoodIn wsX8_isRun (va_wsS RX8 79 yX8_in wsX8_in) := goodIn_app (goodIn_of _ (by decide +kernel)) ggX8_isRun_X8_in
theorem dX8_isRun_0 : decode cX8_isRun 0 = .ok (.iload_n 1, 1) := by decide +kernel
theorem dX8_isRun_1 : decode cX8_isRun 1 = .ok (.i2l, 1) := by decide +kernel
theorem dX8_isRun_2 : decode cX8_isRun 2 = .ok (.aload_n 0, 1) := by decide +kernel
theorem dX8_isRun_3 : decode cX8_isRun 3 = .ok (.getfield 17, 3) := by decide +kernel
theorem dX8_isRun_6 : decode cX8_isRun 6 = .ok (.iconst 0, 1) := by decide +kernel
theorem dX8_isRun_7 : decode cX8_isRun 7 = .ok (.iaload, 1) := by decide +kernel
theorem dX8_isRun_8 : decode cX8_isRun 8 = .ok (.i2l, 1) := by decide +kernel
theorem dX8_isRun_9 : decode cX8_isRun 9 = .ok (.aload_n 0, 1) := by decide +kernel
theorem dX8_isRun_10 : decode cX8_isRun 10 = .ok (.getfield 20, 3) := by decide +kernel
theorem dX8_isRun_13 : decode cX8_isRun 13 = .ok (.iconst 0, 1) := by decide +kernel
theorem dX8_isRun_14 : decode cX8_isRun 14 = .ok (.iaload, 1) := by decide +kernel
theorem dX8_isRun_15 : decode cX8_isRun 15 = .ok (.i2l, 1) := by decide +kernel
theorem dX8_isRun_16 : decode cX8_isRun 16 = .ok (.invokestatic 79, 3) := by decide +kernel
theorem dX8_isRun_19 : decode cX8_isRun 19 = .ok (.ifCond .eq 29, 3) := by decide +kernel
theorem dX8_isRun_22 : decode cX8_isRun 22 = .ok (.iload_n 2, 1) := by decide +kernel
theorem dX8_isRun_23 : decode cX8_isRun 23 = .ok (.i2l, 1) := by decide +kernel
theorem dX8_isRun_24 : decode cX8_isRun 24 = .ok (.aload_n 0, 1) := by decide +kernel
theorem dX8_isRun_25 : decode cX8_isRun 25 = .ok (.getfield 17, 3) := by decide +kernel
theorem dX8_isRun_28 : decode cX8_isRun 28 = .ok (.iconst 1, 1) := by decide +kernel
theorem dX8_isRun_29 : decode cX8_isRun 29 = .ok (.iaload, 1) := by decide +kernel
theorem dX8_isRun_30 : decode cX8_isRun 30 = .ok (.i2l, 1) := by decide +kernel
theorem dX8_isRun_31 : decode cX8_isRun 31 = .ok (.aload_n 0, 1) := by decide +kernel
theorem dX8_isRun_32 : decode cX8_isRun 32 = .ok (.getfield 20, 3) := by decide +kernel
theorem dX8_isRun_35 : decode cX8_isRun 35 = .ok (.iconst 1, 1) := by decide +kernel
theorem dX8_isRun_36 : decode cX8_isRun 36 = .ok (.iaload, 1) := by decide +kernel
theorem dX8_isRun_37 : decode cX8_isRun 37 = .ok (.i2l, 1) := by decide +kernel
theorem dX8_isRun_38 : decode cX8_isRun 38 = .ok (.invokestatic 79, 3) := by decide +kernel
theorem dX8_isRun_41 : decode cX8_isRun 41 = .ok (.ifCond .eq 7, 3) := by decide +kernel
theorem dX8_isRun_44 : decode cX8_isRun 44 = .ok (.iconst 1, 1) := by decide +kernel
theorem dX8_isRun_45 : decode cX8_isRun 45 = .ok (.goto 4, 3) := by decide +kernel
theorem dX8_isRun_48 : decode cX8_isRun 48 = .ok (.iconst 0, 1) := by decide +kernel
theorem dX8_isRun_49 : decode cX8_isRun 49 = .ok (.ireturn, 1) := by decide +kernel
set_option maxRecDepth 20000 in
theorem ggX8_run_X8_isRun : GoodIn wsX8_run wsX8_isRun := goodIn_r _ [7, 8, 9, 10, 11, 6, 12, 72, 73, 74, 75, 76, 77, 78, 79, 80, 81, 82, 83, 84, 85, 86, 87, 88, 89, 90, 91, 92, 93, 94, 95, 96, 97] (by decide +kernel) (by decide +kernel)
set_option maxRecDepth 20000 in
theorem gX8_run_X8_isRun : GoodIn wsX8_run (wsV RX8 160 RX8 yX8_isRun wsX8_isRun) := goodIn_app (goodIn_of _ (by decide +kernel)) ggX8_run_X8_isRun
set_option maxRecDepth 20000 in
theorem ggX8_run_X8_isName : GoodIn wsX8_run wsX8_isName := goodIn_r _ [15, 16, 10, 11, 6, 12] (by decide +kernel) (by decide +kernel)
set_option maxRecDepth 20000 in
theorem gX8_run_X8_isName : GoodIn wsX8_run (va_wsS RX8 85 yX8_isName wsX8_isName) := goodIn_app (goodIn_of _ (by decide +kernel)) ggX8_run_X8_isName
set_option maxRecDepth 20000 in
theorem ggX8_run_X8_lays : GoodIn wsX8_run wsX8_lays := goodIn_r _ [20, 21, 22, 23, 24, 25, 72, 73, 74, 75, 76, 77, 78, 79, 80, 81, 82, 83, 84, 85, 86, 87, 88, 89, 90, 91, 92, 93, 94, 95, 96, 97] (by decide +kernel) (by decide +kernel)
set_option maxRecDepth 20000 in
theorem gX8_run_X8_lays : GoodIn wsX8_run (wsV RX8 150 RX8 yX8_lays wsX8_lays) := goodIn_app (goodIn_of _ (by decide +kernel)) ggX8_run_X8_lays
set_option maxRecDepth 20000 in
theorem ggX8_run_X8_runs : GoodIn wsX8_run wsX8_runs := goodIn_r _ [29, 2, 22, 30, 31, 32, 21, 24, 23, 33, 25, 34, 35, 36, 37, 6, 38, 39, 40, 41, 42, 43, 44, 45, 46, 47, 48, 49, 10, 11, 12, 50, 51, 52, 53, 54, 55, 56, 57, 58, 59, 60, 61, 62, 63, 64, 65, 66, 67, 68, 69, 70, 71, 72, 73, 74, 75, 76, 77, 78, 79, 80, 81, 82, 83, 84, 85, 86, 87, 88, 89, 90, 91, 92, 93, 94, 95, 96, 97] (by decide +kernel) (by decide +kernel)
set_option maxRecDepth 20000 in
theorem gX8_run_X8_runs : GoodIn wsX8_run (wsV RX8 156 RX8 yX8_runs wsX8_runs) := goodIn_app (goodIn_of _ (by decide +kernel)) ggX8_run_X8_runs
theorem dX8_run_0 : decode cX8_run 0 = .ok (.aload_n 0, 1) := by decide +kernel
theorem dX8_run_1 : decode cX8_run 1 = .ok (.iload_n 1, 1) := by decide +kernel
theorem dX8_run_2 : decode cX8_run 2 = .ok (.iload_n 2, 1) := by decide +kernel
theorem dX8_run_3 : decode cX8_run 3 = .ok (.invokevirtual 160, 3) := by decide +kernel
theorem dX8_run_6 : decode cX8_run 6 = .ok (.ifCond .eq 10, 3) := by decide +kernel
theorem dX8_run_9 : decode cX8_run 9 = .ok (.iload_n 3, 1) := by decide +kernel
theorem dX8_run_10 : decode cX8_run 10 = .ok (.invokestatic 85, 3) := by decide +kernel
theorem dX8_run_13 : decode cX8_run 13 = .ok (.ifCond .ne 6, 3) := by decide +kernel
theorem dX8_run_16 : decode cX8_run 16 = .ok (.ldc 164, 2) := by decide +kernel
theorem dX8_run_18 : decode cX8_run 18 = .ok (.ireturn, 1) := by decide +kernel
theorem dX8_run_19 : decode cX8_run 19 = .ok (.aload_n 0, 1) := by decide +kernel
theorem dX8_run_20 : decode cX8_run 20 = .ok (.invokevirtual 150, 3) := by decide +kernel
theorem dX8_run_23 : decode cX8_run 23 = .ok (.aload_n 0, 1) := by decide +kernel
theorem dX8_run_24 : decode cX8_run 24 = .ok (.iload_n 1, 1) := by decide +kernel
theorem dX8_run_25 : decode cX8_run 25 = .ok (.iload_n 2, 1) := by decide +kernel
theorem dX8_run_26 : decode cX8_run 26 = .ok (.invokevirtual 156, 3) := by decide +kernel
theorem dX8_run_29 : decode cX8_run 29 = .ok (.aload_n 0, 1) := by decide +kernel
theorem dX8_run_30 : decode cX8_run 30 = .ok (.getfield 41, 3) := by decide +kernel
theorem dX8_run_33 : decode cX8_run 33 = .ok (.iload_n 3, 1) := by decide +kernel
theorem dX8_run_34 : decode cX8_run 34 = .ok (.laload, 1) := by decide +kernel
theorem dX8_run_35 : decode cX8_run 35 = .ok (.l2i, 1) := by decide +kernel
theorem dX8_run_36 : decode cX8_run 36 = .ok (.ireturn, 1) := by decide +kernel
set_option maxRecDepth 20000 in
theorem ggX8_first_X8_isRun : GoodIn wsX8_first wsX8_isRun := goodIn_r _ [6, 7, 8, 9, 10, 5, 11, 67, 68, 69, 70, 71, 72, 73, 74, 75, 76, 77, 78, 79, 80, 81, 82, 83, 84, 85, 86, 87, 88, 89, 90, 91, 92] (by decide +kernel) (by decide +kernel)
set_option maxRecDepth 20000 in
theorem gX8_first_X8_isRun : GoodIn wsX8_first (wsV RX8 160 RX8 yX8_isRun wsX8_isRun) := goodIn_app (goodIn_of _ (by decide +kernel)) ggX8_first_X8_isRun
set_option maxRecDepth 20000 in
theorem ggX8_first_X8_lays : GoodIn wsX8_first wsX8_lays := goodIn_r _ [15, 16, 17, 18, 19, 20, 67, 68, 69, 70, 71, 72, 73, 74, 75, 76, 77, 78, 79, 80, 81, 82, 83, 84, 85, 86, 87, 88, 89, 90, 91, 92] (by decide +kernel) (by decide +kernel)
set_option maxRecDepth 20000 in
theorem gX8_first_X8_lays : GoodIn wsX8_first (wsV RX8 150 RX8 yX8_lays wsX8_lays) := goodIn_app (goodIn_of _ (by decide +kernel)) ggX8_first_X8_lays
set_option maxRecDepth 20000 in
theorem ggX8_first_X8_runs : GoodIn wsX8_first wsX8_runs := goodIn_r _ [24, 25, 17, 26, 27, 1, 16, 19, 18, 28, 20, 29, 30, 31, 32, 5, 33, 34, 35, 36, 37, 38, 39, 40, 41, 42, 43, 44, 9, 10, 11, 45, 46, 47, 48, 49, 50, 51, 52, 53, 54, 55, 56, 57, 58, 59, 60, 61, 62, 63, 64, 65, 66, 67, 68, 69, 70, 71, 72, 73, 74, 75, 76, 77, 78, 79, 80, 81, 82, 83, 84, 85, 86, 87, 88, 89, 90, 91, 92] (by decide +kernel) (by decide +kernel)
set_option maxRecDepth 20000 in
theorem gX8_first_X8_runs : GoodIn wsX8_first (wsV RX8 156 RX8 yX8_runs wsX8_runs) := goodIn_app (goodIn_of _ (by decide +kernel)) ggX8_first_X8_runs
theorem dX8_first_0 : decode cX8_first 0 = .ok (.aload_n 0, 1) := by decide +kernel
theorem dX8_first_1 : decode cX8_first 1 = .ok (.iload_n 1, 1) := by decide +kernel
theorem dX8_first_2 : decode cX8_first 2 = .ok (.iload_n 2, 1) := by decide +kernel
theorem dX8_first_3 : decode cX8_first 3 = .ok (.invokevirtual 160, 3) := by decide +kernel
theorem dX8_first_6 : decode cX8_first 6 = .ok (.ifCond .ne 5, 3) := by decide +kernel
theorem dX8_first_9 : decode cX8_first 9 = .ok (.iconst (-1), 1) := by decide +kernel
theorem dX8_first_10 : decode cX8_first 10 = .ok (.ireturn, 1) := by decide +kernel
theorem dX8_first_11 : decode cX8_first 11 = .ok (.aload_n 0, 1) := by decide +kernel
theorem dX8_first_12 : decode cX8_first 12 = .ok (.invokevirtual 150, 3) := by decide +kernel
theorem dX8_first_15 : decode cX8_first 15 = .ok (.aload_n 0, 1) := by decide +kernel
theorem dX8_first_16 : decode cX8_first 16 = .ok (.iload_n 1, 1) := by decide +kernel
theorem dX8_first_17 : decode cX8_first 17 = .ok (.iload_n 2, 1) := by decide +kernel
theorem dX8_first_18 : decode cX8_first 18 = .ok (.invokevirtual 156, 3) := by decide +kernel
theorem dX8_first_21 : decode cX8_first 21 = .ok (.aload_n 0, 1) := by decide +kernel
theorem dX8_first_22 : decode cX8_first 22 = .ok (.getfield 136, 3) := by decide +kernel
theorem dX8_first_25 : decode cX8_first 25 = .ok (.ireturn, 1) := by decide +kernel
set_option maxRecDepth 20000 in
theorem ggX8_ends_X8_goesOver : GoodIn wsX8_ends wsX8_goesOver := goodIn_r _ [8, 9, 10, 11, 7, 12, 13, 14, 15, 16, 17, 18, 19, 20, 21, 29, 30, 31, 32, 33, 34, 35, 36, 37, 38, 39, 40, 41, 42, 43, 44, 45, 46, 47, 48, 49, 50, 51, 52, 53, 54] (by decide +kernel) (by decide +kernel)
set_option maxRecDepth 20000 in
theorem gX8_ends_X8_goesOver : GoodIn wsX8_ends (wsV RX8 146 RX8 yX8_goesOver wsX8_goesOver) := goodIn_app (goodIn_of _ (by decide +kernel)) ggX8_ends_X8_goesOver
set_option maxRecDepth 20000 in
theorem ggX8_ends_X8_low : GoodIn wsX8_ends wsX8_low := goodIn_r _ [12, 13, 14, 29, 30, 31, 32, 33, 34, 35, 36, 37, 38, 39, 40, 41, 42, 43, 44, 45, 46, 47, 48, 49, 50, 51, 52, 53, 54] (by decide +kernel) (by decide +kernel)
set_option maxRecDepth 20000 in
theorem gX8_ends_X8_low : GoodIn wsX8_ends (wsV RX8 113 RX8 yX8_low wsX8_low) := goodIn_app (goodIn_of _ (by decide +kernel)) ggX8_ends_X8_low
set_option maxRecDepth 20000 in
theorem ggX8_ends_X8_high : GoodIn wsX8_ends wsX8_high := goodIn_r _ [18, 13, 14, 29, 30, 31, 32, 33, 34, 35, 36, 37, 38, 39, 40, 41, 42, 43, 44, 45, 46, 47, 48, 49, 50, 51, 52, 53, 54] (by decide +kernel) (by decide +kernel)
set_option maxRecDepth 20000 in
theorem gX8_ends_X8_high : GoodIn wsX8_ends (wsV RX8 117 RX8 yX8_high wsX8_high) := goodIn_app (goodIn_of _ (by decide +kernel)) ggX8_ends_X8_high
set_option maxRecDepth 20000 in
theorem ggX8_ends_X8_put : GoodIn wsX8_ends wsX8_put := goodIn_r _ [25, 3, 14, 9, 10, 11, 7, 12, 13, 15, 16, 17, 18, 19, 20, 21, 26, 27, 28, 29, 30, 31, 32, 33, 34, 35, 36, 37, 38, 39, 40, 41, 42, 43, 44, 45, 46, 47, 48, 49, 50, 51, 52, 53, 54] (by decide +kernel) (by decide +kernel)
set_option maxRecDepth 20000 in
theorem gX8_ends_X8_put : GoodIn wsX8_ends (wsV RX8 139 RX8 yX8_put wsX8_put) := goodIn_app (goodIn_of _ (by decide +kernel)) ggX8_ends_X8_put
theorem dX8_ends_0 : decode cX8_ends 0 = .ok (.aload_n 0, 1) := by decide +kernel
theorem dX8_ends_1 : decode cX8_ends 1 = .ok (.iload_n 1, 1) := by decide +kernel
theorem dX8_ends_2 : decode cX8_ends 2 = .ok (.lload_n 2, 1) := by decide +kernel
theorem dX8_ends_3 : decode cX8_ends 3 = .ok (.invokevirtual 146, 3) := by decide +kernel
theorem dX8_ends_6 : decode cX8_ends 6 = .ok (.ifCond .ne 13, 3) := by decide +kernel
theorem dX8_ends_9 : decode cX8_ends 9 = .ok (.aload_n 0, 1) := by decide +kernel
theorem dX8_ends_10 : decode cX8_ends 10 = .ok (.iload_n 1, 1) := by decide +kernel
theorem dX8_ends_11 : decode cX8_ends 11 = .ok (.lload 4, 2) := by decide +kernel
theorem dX8_ends_13 : decode cX8_ends 13 = .ok (.invokevirtual 146, 3) := by decide +kernel
theorem dX8_ends_16 : decode cX8_ends 16 = .ok (.ifCond .eq 7, 3) := by decide +kernel
theorem dX8_ends_19 : decode cX8_ends 19 = .ok (.iconst 1, 1) := by decide +kernel
theorem dX8_ends_20 : decode cX8_ends 20 = .ok (.goto 4, 3) := by decide +kernel
theorem dX8_ends_23 : decode cX8_ends 23 = .ok (.iconst 0, 1) := by decide +kernel
theorem dX8_ends_24 : decode cX8_ends 24 = .ok (.istore 6, 2) := by decide +kernel
theorem dX8_ends_26 : decode cX8_ends 26 = .ok (.iload 6, 2) := by decide +kernel
theorem dX8_ends_28 : decode cX8_ends 28 = .ok (.ifCond .ne 21, 3) := by decide +kernel
theorem dX8_ends_31 : decode cX8_ends 31 = .ok (.aload_n 0, 1) := by decide +kernel
theorem dX8_ends_32 : decode cX8_ends 32 = .ok (.getfield 60, 3) := by decide +kernel
theorem dX8_ends_35 : decode cX8_ends 35 = .ok (.iload_n 1, 1) := by decide +kernel
theorem dX8_ends_36 : decode cX8_ends 36 = .ok (.lload_n 2, 1) := by decide +kernel
theorem dX8_ends_37 : decode cX8_ends 37 = .ok (.lastore, 1) := by decide +kernel
theorem dX8_ends_38 : decode cX8_ends 38 = .ok (.aload_n 0, 1) := by decide +kernel
theorem dX8_ends_39 : decode cX8_ends 39 = .ok (.getfield 63, 3) := by decide +kernel
theorem dX8_ends_42 : decode cX8_ends 42 = .ok (.iload_n 1, 1) := by decide +kernel
theorem dX8_ends_43 : decode cX8_ends 43 = .ok (.lload 4, 2) := by decide +kernel
theorem dX8_ends_45 : decode cX8_ends 45 = .ok (.lastore, 1) := by decide +kernel
theorem dX8_ends_46 : decode cX8_ends 46 = .ok (.goto 60, 3) := by decide +kernel
theorem dX8_ends_49 : decode cX8_ends 49 = .ok (.aload_n 0, 1) := by decide +kernel
theorem dX8_ends_50 : decode cX8_ends 50 = .ok (.getfield 107, 3) := by decide +kernel
theorem dX8_ends_53 : decode cX8_ends 53 = .ok (.ifCond .ne 28, 3) := by decide +kernel
theorem dX8_ends_56 : decode cX8_ends 56 = .ok (.aload_n 0, 1) := by decide +kernel
theorem dX8_ends_57 : decode cX8_ends 57 = .ok (.getfield 60, 3) := by decide +kernel
theorem dX8_ends_60 : decode cX8_ends 60 = .ok (.iload_n 1, 1) := by decide +kernel
theorem dX8_ends_61 : decode cX8_ends 61 = .ok (.aload_n 0, 1) := by decide +kernel
theorem dX8_ends_62 : decode cX8_ends 62 = .ok (.iload_n 1, 1) := by decide +kernel
theorem dX8_ends_63 : decode cX8_ends 63 = .ok (.invokevirtual 113, 3) := by decide +kernel
theorem dX8_ends_66 : decode cX8_ends 66 = .ok (.lastore, 1) := by decide +kernel
theorem dX8_ends_67 : decode cX8_ends 67 = .ok (.aload_n 0, 1) := by decide +kernel
theorem dX8_ends_68 : decode cX8_ends 68 = .ok (.getfield 63, 3) := by decide +kernel
theorem dX8_ends_71 : decode cX8_ends 71 = .ok (.iload_n 1, 1) := by decide +kernel
theorem dX8_ends_72 : decode cX8_ends 72 = .ok (.aload_n 0, 1) := by decide +kernel
theorem dX8_ends_73 : decode cX8_ends 73 = .ok (.iload_n 1, 1) := by decide +kernel
theorem dX8_ends_74 : decode cX8_ends 74 = .ok (.invokevirtual 117, 3) := by decide +kernel
theorem dX8_ends_77 : decode cX8_ends 77 = .ok (.lastore, 1) := by decide +kernel
theorem dX8_ends_78 : decode cX8_ends 78 = .ok (.goto 28, 3) := by decide +kernel
theorem dX8_ends_81 : decode cX8_ends 81 = .ok (.aload_n 0, 1) := by decide +kernel
theorem dX8_ends_82 : decode cX8_ends 82 = .ok (.getfield 60, 3) := by decide +kernel
theorem dX8_ends_85 : decode cX8_ends 85 = .ok (.iload_n 1, 1) := by decide +kernel
theorem dX8_ends_86 : decode cX8_ends 86 = .ok (.aload_n 0, 1) := by decide +kernel
theorem dX8_ends_87 : decode cX8_ends 87 = .ok (.iload_n 1, 1) := by decide +kernel
theorem dX8_ends_88 : decode cX8_ends 88 = .ok (.lload_n 2, 1) := by decide +kernel
theorem dX8_ends_89 : decode cX8_ends 89 = .ok (.invokevirtual 139, 3) := by decide +kernel
theorem dX8_ends_92 : decode cX8_ends 92 = .ok (.lastore, 1) := by decide +kernel
theorem dX8_ends_93 : decode cX8_ends 93 = .ok (.aload_n 0, 1) := by decide +kernel
theorem dX8_ends_94 : decode cX8_ends 94 = .ok (.getfield 63, 3) := by decide +kernel
theorem dX8_ends_97 : decode cX8_ends 97 = .ok (.iload_n 1, 1) := by decide +kernel
theorem dX8_ends_98 : decode cX8_ends 98 = .ok (.aload_n 0, 1) := by decide +kernel
theorem dX8_ends_99 : decode cX8_ends 99 = .ok (.iload_n 1, 1) := by decide +kernel
theorem dX8_ends_100 : decode cX8_ends 100 = .ok (.lload 4, 2) := by decide +kernel
theorem dX8_ends_102 : decode cX8_ends 102 = .ok (.invokevirtual 139, 3) := by decide +kernel
theorem dX8_ends_105 : decode cX8_ends 105 = .ok (.lastore, 1) := by decide +kernel
theorem dX8_ends_106 : decode cX8_ends 106 = .ok (.iload 6, 2) := by decide +kernel
theorem dX8_ends_108 : decode cX8_ends 108 = .ok (.ireturn, 1) := by decide +kernel
set_option maxRecDepth 20000 in
theorem ggX8_products_X8_ends : GoodIn wsX8_products wsX8_ends := goodIn_r _ [17, 1, 4, 18, 19, 20, 21, 16, 22, 23, 24, 25, 26, 27, 28, 29, 30, 31, 32, 33, 34, 35, 36, 37, 38, 39, 40, 41, 42, 43, 44, 45, 46, 47, 48, 49, 50, 51, 52, 53, 54, 55, 56, 57, 58, 59, 60, 61, 62, 63, 64, 65, 66, 67, 68] (by decide +kernel) (by decide +kernel)
set_option maxRecDepth 20000 in
theorem gX8_products_X8_ends : GoodIn wsX8_products (wsV RX8 167 RX8 yX8_ends wsX8_ends) := goodIn_app (goodIn_of _ (by decide +kernel)) ggX8_products_X8_ends
theorem dX8_products_0 : decode cX8_products 0 = .ok (.aload_n 0, 1) := by decide +kernel
theorem dX8_products_1 : decode cX8_products 1 = .ok (.getfield 60, 3) := by decide +kernel
theorem dX8_products_4 : decode cX8_products 4 = .ok (.aload_n 0, 1) := by decide +kernel
theorem dX8_products_5 : decode cX8_products 5 = .ok (.getfield 29, 3) := by decide +kernel
theorem dX8_products_8 : decode cX8_products 8 = .ok (.iload_n 1, 1) := by decide +kernel
theorem dX8_products_9 : decode cX8_products 9 = .ok (.iaload, 1) := by decide +kernel
theorem dX8_products_10 : decode cX8_products 10 = .ok (.laload, 1) := by decide +kernel
theorem dX8_products_11 : decode cX8_products 11 = .ok (.aload_n 0, 1) := by decide +kernel
theorem dX8_products_12 : decode cX8_products 12 = .ok (.getfield 60, 3) := by decide +kernel
theorem dX8_products_15 : decode cX8_products 15 = .ok (.aload_n 0, 1) := by decide +kernel
theorem dX8_products_16 : decode cX8_products 16 = .ok (.getfield 32, 3) := by decide +kernel
theorem dX8_products_19 : decode cX8_products 19 = .ok (.iload_n 1, 1) := by decide +kernel
theorem dX8_products_20 : decode cX8_products 20 = .ok (.iaload, 1) := by decide +kernel
theorem dX8_products_21 : decode cX8_products 21 = .ok (.laload, 1) := by decide +kernel
theorem dX8_products_22 : decode cX8_products 22 = .ok (.lmul, 1) := by decide +kernel
theorem dX8_products_23 : decode cX8_products 23 = .ok (.lstore_n 2, 1) := by decide +kernel
theorem dX8_products_24 : decode cX8_products 24 = .ok (.aload_n 0, 1) := by decide +kernel
theorem dX8_products_25 : decode cX8_products 25 = .ok (.getfield 60, 3) := by decide +kernel
theorem dX8_products_28 : decode cX8_products 28 = .ok (.aload_n 0, 1) := by decide +kernel
theorem dX8_products_29 : decode cX8_products 29 = .ok (.getfield 29, 3) := by decide +kernel
theorem dX8_products_32 : decode cX8_products 32 = .ok (.iload_n 1, 1) := by decide +kernel
theorem dX8_products_33 : decode cX8_products 33 = .ok (.iaload, 1) := by decide +kernel
theorem dX8_products_34 : decode cX8_products 34 = .ok (.laload, 1) := by decide +kernel
theorem dX8_products_35 : decode cX8_products 35 = .ok (.aload_n 0, 1) := by decide +kernel
theorem dX8_products_36 : decode cX8_products 36 = .ok (.getfield 63, 3) := by decide +kernel
theorem dX8_products_39 : decode cX8_products 39 = .ok (.aload_n 0, 1) := by decide +kernel
theorem dX8_products_40 : decode cX8_products 40 = .ok (.getfield 32, 3) := by decide +kernel
theorem dX8_products_43 : decode cX8_products 43 = .ok (.iload_n 1, 1) := by decide +kernel
theorem dX8_products_44 : decode cX8_products 44 = .ok (.iaload, 1) := by decide +kernel
theorem dX8_products_45 : decode cX8_products 45 = .ok (.laload, 1) := by decide +kernel
theorem dX8_products_46 : decode cX8_products 46 = .ok (.lmul, 1) := by decide +kernel
theorem dX8_products_47 : decode cX8_products 47 = .ok (.lstore 4, 2) := by decide +kernel
theorem dX8_products_49 : decode cX8_products 49 = .ok (.aload_n 0, 1) := by decide +kernel
theorem dX8_products_50 : decode cX8_products 50 = .ok (.getfield 63, 3) := by decide +kernel
theorem dX8_products_53 : decode cX8_products 53 = .ok (.aload_n 0, 1) := by decide +kernel
theorem dX8_products_54 : decode cX8_products 54 = .ok (.getfield 29, 3) := by decide +kernel
theorem dX8_products_57 : decode cX8_products 57 = .ok (.iload_n 1, 1) := by decide +kernel
theorem dX8_products_58 : decode cX8_products 58 = .ok (.iaload, 1) := by decide +kernel
theorem dX8_products_59 : decode cX8_products 59 = .ok (.laload, 1) := by decide +kernel
theorem dX8_products_60 : decode cX8_products 60 = .ok (.aload_n 0, 1) := by decide +kernel
theorem dX8_products_61 : decode cX8_products 61 = .ok (.getfield 60, 3) := by decide +kernel
theorem dX8_products_64 : decode cX8_products 64 = .ok (.aload_n 0, 1) := by decide +kernel
theorem dX8_products_65 : decode cX8_products 65 = .ok (.getfield 32, 3) := by decide +kernel
theorem dX8_products_68 : decode cX8_products 68 = .ok (.iload_n 1, 1) := by decide +kernel
theorem dX8_products_69 : decode cX8_products 69 = .ok (.iaload, 1) := by decide +kernel
theorem dX8_products_70 : decode cX8_products 70 = .ok (.laload, 1) := by decide +kernel
theorem dX8_products_71 : decode cX8_products 71 = .ok (.lmul, 1) := by decide +kernel
theorem dX8_products_72 : decode cX8_products 72 = .ok (.lstore 6, 2) := by decide +kernel
theorem dX8_products_74 : decode cX8_products 74 = .ok (.aload_n 0, 1) := by decide +kernel
theorem dX8_products_75 : decode cX8_products 75 = .ok (.getfield 63, 3) := by decide +kernel
theorem dX8_products_78 : decode cX8_products 78 = .ok (.aload_n 0, 1) := by decide +kernel
theorem dX8_products_79 : decode cX8_products 79 = .ok (.getfield 29, 3) := by decide +kernel
theorem dX8_products_82 : decode cX8_products 82 = .ok (.iload_n 1, 1) := by decide +kernel
theorem dX8_products_83 : decode cX8_products 83 = .ok (.iaload, 1) := by decide +kernel
theorem dX8_products_84 : decode cX8_products 84 = .ok (.laload, 1) := by decide +kernel
theorem dX8_products_85 : decode cX8_products 85 = .ok (.aload_n 0, 1) := by decide +kernel
theorem dX8_products_86 : decode cX8_products 86 = .ok (.getfield 63, 3) := by decide +kernel
theorem dX8_products_89 : decode cX8_products 89 = .ok (.aload_n 0, 1) := by decide +kernel
theorem dX8_products_90 : decode cX8_products 90 = .ok (.getfield 32, 3) := by decide +kernel
theorem dX8_products_93 : decode cX8_products 93 = .ok (.iload_n 1, 1) := by decide +kernel
theorem dX8_products_94 : decode cX8_products 94 = .ok (.iaload, 1) := by decide +kernel
theorem dX8_products_95 : decode cX8_products 95 = .ok (.laload, 1) := by decide +kernel
theorem dX8_products_96 : decode cX8_products 96 = .ok (.lmul, 1) := by decide +kernel
theorem dX8_products_97 : decode cX8_products 97 = .ok (.lstore 8, 2) := by decide +kernel
theorem dX8_products_99 : decode cX8_products 99 = .ok (.aload_n 0, 1) := by decide +kernel
theorem dX8_products_100 : decode cX8_products 100 = .ok (.aload_n 0, 1) := by decide +kernel
theorem dX8_products_101 : decode cX8_products 101 = .ok (.getfield 26, 3) := by decide +kernel
theorem dX8_products_104 : decode cX8_products 104 = .ok (.iload_n 1, 1) := by decide +kernel
theorem dX8_products_105 : decode cX8_products 105 = .ok (.iaload, 1) := by decide +kernel
theorem dX8_products_106 : decode cX8_products 106 = .ok (.lload_n 2, 1) := by decide +kernel
theorem dX8_products_107 : decode cX8_products 107 = .ok (.lload 4, 2) := by decide +kernel
theorem dX8_products_109 : decode cX8_products 109 = .ok (.invokestatic 130, 3) := by decide +kernel
theorem dX8_products_112 : decode cX8_products 112 = .ok (.lload 6, 2) := by decide +kernel
theorem dX8_products_114 : decode cX8_products 114 = .ok (.lload 8, 2) := by decide +kernel
theorem dX8_products_116 : decode cX8_products 116 = .ok (.invokestatic 130, 3) := by decide +kernel
theorem dX8_products_119 : decode cX8_products 119 = .ok (.invokestatic 130, 3) := by decide +kernel
theorem dX8_products_122 : decode cX8_products 122 = .ok (.lload_n 2, 1) := by decide +kernel
theorem dX8_products_123 : decode cX8_products 123 = .ok (.lload 4, 2) := by decide +kernel
theorem dX8_products_125 : decode cX8_products 125 = .ok (.invokestatic 165, 3) := by decide +kernel
theorem dX8_products_128 : decode cX8_products 128 = .ok (.lload 6, 2) := by decide +kernel
theorem dX8_products_130 : decode cX8_products 130 = .ok (.lload 8, 2) := by decide +kernel
theorem dX8_products_132 : decode cX8_products 132 = .ok (.invokestatic 165, 3) := by decide +kernel
theorem dX8_products_135 : decode cX8_products 135 = .ok (.invokestatic 165, 3) := by decide +kernel
theorem dX8_products_138 : decode cX8_products 138 = .ok (.invokevirtual 167, 3) := by decide +kernel
theorem dX8_products_141 : decode cX8_products 141 = .ok (.ireturn, 1) := by decide +kernel
set_option maxRecDepth 20000 in
theorem ggX8_belows_X8_ends : GoodIn wsX8_belows wsX8_ends := goodIn_r _ [11, 5, 4, 12, 13, 14, 15, 10, 16, 17, 18, 19, 20, 1, 21, 22, 23, 24, 25, 26, 27, 28, 29, 30, 31, 32, 33, 34, 35, 36, 37, 38, 39, 40, 41, 42, 43, 44, 45, 46, 47, 48, 49, 50, 51, 52, 53, 54, 55, 56, 57, 58, 59, 60, 61] (by decide +kernel) (by decide +kernel)
set_option maxRecDepth 20000 in
theorem gX8_belows_X8_ends : GoodIn wsX8_belows (wsV RX8 167 RX8 yX8_ends wsX8_ends) := goodIn_app (goodIn_of _ (by decide +kernel)) ggX8_belows_X8_ends
theorem dX8_belows_0 : decode cX8_belows 0 = .ok (.aload_n 0, 1) := by decide +kernel
theorem dX8_belows_1 : decode cX8_belows 1 = .ok (.getfield 13, 3) := by decide +kernel
theorem dX8_belows_4 : decode cX8_belows 4 = .ok (.aload_n 0, 1) := by decide +kernel
theorem dX8_belows_5 : decode cX8_belows 5 = .ok (.getfield 29, 3) := by decide +kernel
theorem dX8_belows_8 : decode cX8_belows 8 = .ok (.iload_n 1, 1) := by decide +kernel
theorem dX8_belows_9 : decode cX8_belows 9 = .ok (.iaload, 1) := by decide +kernel
theorem dX8_belows_10 : decode cX8_belows 10 = .ok (.baload, 1) := by decide +kernel
theorem dX8_belows_11 : decode cX8_belows 11 = .ok (.aload_n 0, 1) := by decide +kernel
theorem dX8_belows_12 : decode cX8_belows 12 = .ok (.getfield 13, 3) := by decide +kernel
theorem dX8_belows_15 : decode cX8_belows 15 = .ok (.aload_n 0, 1) := by decide +kernel
theorem dX8_belows_16 : decode cX8_belows 16 = .ok (.getfield 32, 3) := by decide +kernel
theorem dX8_belows_19 : decode cX8_belows 19 = .ok (.iload_n 1, 1) := by decide +kernel
theorem dX8_belows_20 : decode cX8_belows 20 = .ok (.iaload, 1) := by decide +kernel
theorem dX8_belows_21 : decode cX8_belows 21 = .ok (.baload, 1) := by decide +kernel
theorem dX8_belows_22 : decode cX8_belows 22 = .ok (.if_icmp .ne 7, 3) := by decide +kernel
theorem dX8_belows_25 : decode cX8_belows 25 = .ok (.iconst 1, 1) := by decide +kernel
theorem dX8_belows_26 : decode cX8_belows 26 = .ok (.goto 4, 3) := by decide +kernel
theorem dX8_belows_29 : decode cX8_belows 29 = .ok (.iconst 0, 1) := by decide +kernel
theorem dX8_belows_30 : decode cX8_belows 30 = .ok (.istore_n 2, 1) := by decide +kernel
theorem dX8_belows_31 : decode cX8_belows 31 = .ok (.iload_n 2, 1) := by decide +kernel
theorem dX8_belows_32 : decode cX8_belows 32 = .ok (.ifCond .eq 42, 3) := by decide +kernel
theorem dX8_belows_35 : decode cX8_belows 35 = .ok (.aload_n 0, 1) := by decide +kernel
theorem dX8_belows_36 : decode cX8_belows 36 = .ok (.getfield 63, 3) := by decide +kernel
theorem dX8_belows_39 : decode cX8_belows 39 = .ok (.aload_n 0, 1) := by decide +kernel
theorem dX8_belows_40 : decode cX8_belows 40 = .ok (.getfield 29, 3) := by decide +kernel
theorem dX8_belows_43 : decode cX8_belows 43 = .ok (.iload_n 1, 1) := by decide +kernel
theorem dX8_belows_44 : decode cX8_belows 44 = .ok (.iaload, 1) := by decide +kernel
theorem dX8_belows_45 : decode cX8_belows 45 = .ok (.laload, 1) := by decide +kernel
theorem dX8_belows_46 : decode cX8_belows 46 = .ok (.aload_n 0, 1) := by decide +kernel
theorem dX8_belows_47 : decode cX8_belows 47 = .ok (.getfield 60, 3) := by decide +kernel
theorem dX8_belows_50 : decode cX8_belows 50 = .ok (.aload_n 0, 1) := by decide +kernel
theorem dX8_belows_51 : decode cX8_belows 51 = .ok (.getfield 32, 3) := by decide +kernel
theorem dX8_belows_54 : decode cX8_belows 54 = .ok (.iload_n 1, 1) := by decide +kernel
theorem dX8_belows_55 : decode cX8_belows 55 = .ok (.iaload, 1) := by decide +kernel
theorem dX8_belows_56 : decode cX8_belows 56 = .ok (.laload, 1) := by decide +kernel
theorem dX8_belows_57 : decode cX8_belows 57 = .ok (.lcmp, 1) := by decide +kernel
theorem dX8_belows_58 : decode cX8_belows 58 = .ok (.ifCond .ge 16, 3) := by decide +kernel
theorem dX8_belows_61 : decode cX8_belows 61 = .ok (.aload_n 0, 1) := by decide +kernel
theorem dX8_belows_62 : decode cX8_belows 62 = .ok (.aload_n 0, 1) := by decide +kernel
theorem dX8_belows_63 : decode cX8_belows 63 = .ok (.getfield 26, 3) := by decide +kernel
theorem dX8_belows_66 : decode cX8_belows 66 = .ok (.iload_n 1, 1) := by decide +kernel
theorem dX8_belows_67 : decode cX8_belows 67 = .ok (.iaload, 1) := by decide +kernel
theorem dX8_belows_68 : decode cX8_belows 68 = .ok (.lconst 1, 1) := by decide +kernel
theorem dX8_belows_69 : decode cX8_belows 69 = .ok (.lconst 1, 1) := by decide +kernel
theorem dX8_belows_70 : decode cX8_belows 70 = .ok (.invokevirtual 167, 3) := by decide +kernel
theorem dX8_belows_73 : decode cX8_belows 73 = .ok (.ireturn, 1) := by decide +kernel
theorem dX8_belows_74 : decode cX8_belows 74 = .ok (.iload_n 2, 1) := by decide +kernel
theorem dX8_belows_75 : decode cX8_belows 75 = .ok (.ifCond .eq 44, 3) := by decide +kernel
theorem dX8_belows_78 : decode cX8_belows 78 = .ok (.aload_n 0, 1) := by decide +kernel
theorem dX8_belows_79 : decode cX8_belows 79 = .ok (.getfield 60, 3) := by decide +kernel
theorem dX8_belows_82 : decode cX8_belows 82 = .ok (.aload_n 0, 1) := by decide +kernel
theorem dX8_belows_83 : decode cX8_belows 83 = .ok (.getfield 29, 3) := by decide +kernel
theorem dX8_belows_86 : decode cX8_belows 86 = .ok (.iload_n 1, 1) := by decide +kernel
theorem dX8_belows_87 : decode cX8_belows 87 = .ok (.iaload, 1) := by decide +kernel
theorem dX8_belows_88 : decode cX8_belows 88 = .ok (.laload, 1) := by decide +kernel
theorem dX8_belows_89 : decode cX8_belows 89 = .ok (.aload_n 0, 1) := by decide +kernel
theorem dX8_belows_90 : decode cX8_belows 90 = .ok (.getfield 63, 3) := by decide +kernel
theorem dX8_belows_93 : decode cX8_belows 93 = .ok (.aload_n 0, 1) := by decide +kernel
theorem dX8_belows_94 : decode cX8_belows 94 = .ok (.getfield 32, 3) := by decide +kernel
theorem dX8_belows_97 : decode cX8_belows 97 = .ok (.iload_n 1, 1) := by decide +kernel
theorem dX8_belows_98 : decode cX8_belows 98 = .ok (.iaload, 1) := by decide +kernel
theorem dX8_belows_99 : decode cX8_belows 99 = .ok (.laload, 1) := by decide +kernel
theorem dX8_belows_100 : decode cX8_belows 100 = .ok (.lcmp, 1) := by decide +kernel
theorem dX8_belows_101 : decode cX8_belows 101 = .ok (.ifCond .lt 18, 3) := by decide +kernel
theorem dX8_belows_104 : decode cX8_belows 104 = .ok (.aload_n 0, 1) := by decide +kernel
theorem dX8_belows_105 : decode cX8_belows 105 = .ok (.aload_n 0, 1) := by decide +kernel
theorem dX8_belows_106 : decode cX8_belows 106 = .ok (.getfield 26, 3) := by decide +kernel
theorem dX8_belows_109 : decode cX8_belows 109 = .ok (.iload_n 1, 1) := by decide +kernel
theorem dX8_belows_110 : decode cX8_belows 110 = .ok (.iaload, 1) := by decide +kernel
theorem dX8_belows_111 : decode cX8_belows 111 = .ok (.lconst 0, 1) := by decide +kernel
theorem dX8_belows_112 : decode cX8_belows 112 = .ok (.lconst 0, 1) := by decide +kernel
theorem dX8_belows_113 : decode cX8_belows 113 = .ok (.invokevirtual 167, 3) := by decide +kernel
theorem dX8_belows_116 : decode cX8_belows 116 = .ok (.goto 15, 3) := by decide +kernel
theorem dX8_belows_119 : decode cX8_belows 119 = .ok (.aload_n 0, 1) := by decide +kernel
theorem dX8_belows_120 : decode cX8_belows 120 = .ok (.aload_n 0, 1) := by decide +kernel
theorem dX8_belows_121 : decode cX8_belows 121 = .ok (.getfield 26, 3) := by decide +kernel
theorem dX8_belows_124 : decode cX8_belows 124 = .ok (.iload_n 1, 1) := by decide +kernel
theorem dX8_belows_125 : decode cX8_belows 125 = .ok (.iaload, 1) := by decide +kernel
theorem dX8_belows_126 : decode cX8_belows 126 = .ok (.lconst 0, 1) := by decide +kernel
theorem dX8_belows_127 : decode cX8_belows 127 = .ok (.lconst 1, 1) := by decide +kernel
theorem dX8_belows_128 : decode cX8_belows 128 = .ok (.invokevirtual 167, 3) := by decide +kernel
theorem dX8_belows_131 : decode cX8_belows 131 = .ok (.ireturn, 1) := by decide +kernel
set_option maxRecDepth 20000 in
theorem ggX8_goes_X8_ends : GoodIn wsX8_goes wsX8_ends := goodIn_r _ [15, 4, 6, 16, 17, 18, 19, 14, 20, 21, 22, 23, 24, 25, 26, 27, 28, 29, 30, 31, 32, 33, 34, 35, 36, 37, 38, 39, 40, 52, 53, 54, 55, 56, 57, 58, 59, 60, 61, 62, 63, 64, 65, 66, 67, 68, 69, 70, 71, 72, 73, 74, 75, 76, 77] (by decide +kernel) (by decide +kernel)
set_option maxRecDepth 20000 in
theorem gX8_goes_X8_ends : GoodIn wsX8_goes (wsV RX8 167 RX8 yX8_ends wsX8_ends) := goodIn_app (goodIn_of _ (by decide +kernel)) ggX8_goes_X8_ends
set_option maxRecDepth 20000 in
theorem ggX8_goes_X8_products : GoodIn wsX8_goes wsX8_products := goodIn_r _ [44, 4, 5, 3, 6, 1, 7, 8, 9, 10, 45, 46, 47, 11, 12, 13, 14, 15, 16, 17, 18, 19, 20, 21, 22, 23, 24, 25, 26, 27, 28, 29, 30, 31, 32, 33, 34, 35, 36, 37, 38, 39, 40, 52, 53, 54, 55, 56, 57, 58, 59, 60, 61, 62, 63, 64, 65, 66, 67, 68, 69, 70, 71, 72, 73, 74, 75, 76, 77] (by decide +kernel) (by decide +kernel)
set_option maxRecDepth 20000 in
theorem gX8_goes_X8_products : GoodIn wsX8_goes (wsV RX8 171 RX8 yX8_products wsX8_products) := goodIn_app (goodIn_of _ (by decide +kernel)) ggX8_goes_X8_products
set_option maxRecDepth 20000 in
theorem ggX8_goes_X8_belows : GoodIn wsX8_goes wsX8_belows := goodIn_r _ [51, 25, 5, 3, 6, 4, 1, 11, 12, 13, 14, 15, 16, 17, 18, 19, 20, 21, 22, 23, 24, 26, 27, 28, 29, 30, 31, 32, 33, 34, 35, 36, 37, 38, 39, 40, 52, 53, 54, 55, 56, 57, 58, 59, 60, 61, 62, 63, 64, 65, 66, 67, 68, 69, 70, 71, 72, 73, 74, 75, 76, 77] (by decide +kernel) (by decide +kernel)
set_option maxRecDepth 20000 in
theorem gX8_goes_X8_belows : GoodIn wsX8_goes (wsV RX8 174 RX8 yX8_belows wsX8_belows) := goodIn_app (goodIn_of _ (by decide +kernel)) ggX8_goes_X8_belows
theorem dX8_goes_0 : decode cX8_goes 0 = .ok (.aload_n 0, 1) := by decide +kernel
theorem dX8_goes_1 : decode cX8_goes 1 = .ok (.getfield 26, 3) := by decide +kernel
theorem dX8_goes_4 : decode cX8_goes 4 = .ok (.iload_n 1, 1) := by decide +kernel
theorem dX8_goes_5 : decode cX8_goes 5 = .ok (.iaload, 1) := by decide +kernel
theorem dX8_goes_6 : decode cX8_goes 6 = .ok (.istore_n 2, 1) := by decide +kernel
theorem dX8_goes_7 : decode cX8_goes 7 = .ok (.aload_n 0, 1) := by decide +kernel
theorem dX8_goes_8 : decode cX8_goes 8 = .ok (.getfield 23, 3) := by decide +kernel
theorem dX8_goes_11 : decode cX8_goes 11 = .ok (.iload_n 1, 1) := by decide +kernel
theorem dX8_goes_12 : decode cX8_goes 12 = .ok (.iaload, 1) := by decide +kernel
theorem dX8_goes_13 : decode cX8_goes 13 = .ok (.tableswitch 303 0 6 #[43, 63, 91, 143, 195, 201, 247], 43) := by decide +kernel
theorem dX8_goes_56 : decode cX8_goes 56 = .ok (.aload_n 0, 1) := by decide +kernel
theorem dX8_goes_57 : decode cX8_goes 57 = .ok (.iload_n 2, 1) := by decide +kernel
theorem dX8_goes_58 : decode cX8_goes 58 = .ok (.aload_n 0, 1) := by decide +kernel
theorem dX8_goes_59 : decode cX8_goes 59 = .ok (.getfield 32, 3) := by decide +kernel
theorem dX8_goes_62 : decode cX8_goes 62 = .ok (.iload_n 1, 1) := by decide +kernel
theorem dX8_goes_63 : decode cX8_goes 63 = .ok (.iaload, 1) := by decide +kernel
theorem dX8_goes_64 : decode cX8_goes 64 = .ok (.i2l, 1) := by decide +kernel
theorem dX8_goes_65 : decode cX8_goes 65 = .ok (.aload_n 0, 1) := by decide +kernel
theorem dX8_goes_66 : decode cX8_goes 66 = .ok (.getfield 32, 3) := by decide +kernel
theorem dX8_goes_69 : decode cX8_goes 69 = .ok (.iload_n 1, 1) := by decide +kernel
theorem dX8_goes_70 : decode cX8_goes 70 = .ok (.iaload, 1) := by decide +kernel
theorem dX8_goes_71 : decode cX8_goes 71 = .ok (.i2l, 1) := by decide +kernel
theorem dX8_goes_72 : decode cX8_goes 72 = .ok (.invokevirtual 167, 3) := by decide +kernel
theorem dX8_goes_75 : decode cX8_goes 75 = .ok (.ireturn, 1) := by decide +kernel
theorem dX8_goes_76 : decode cX8_goes 76 = .ok (.aload_n 0, 1) := by decide +kernel
theorem dX8_goes_77 : decode cX8_goes 77 = .ok (.iload_n 2, 1) := by decide +kernel
theorem dX8_goes_78 : decode cX8_goes 78 = .ok (.aload_n 0, 1) := by decide +kernel
theorem dX8_goes_79 : decode cX8_goes 79 = .ok (.getfield 60, 3) := by decide +kernel
theorem dX8_goes_82 : decode cX8_goes 82 = .ok (.aload_n 0, 1) := by decide +kernel
theorem dX8_goes_83 : decode cX8_goes 83 = .ok (.getfield 29, 3) := by decide +kernel
theorem dX8_goes_86 : decode cX8_goes 86 = .ok (.iload_n 1, 1) := by decide +kernel
theorem dX8_goes_87 : decode cX8_goes 87 = .ok (.iaload, 1) := by decide +kernel
theorem dX8_goes_88 : decode cX8_goes 88 = .ok (.laload, 1) := by decide +kernel
theorem dX8_goes_89 : decode cX8_goes 89 = .ok (.aload_n 0, 1) := by decide +kernel
theorem dX8_goes_90 : decode cX8_goes 90 = .ok (.getfield 63, 3) := by decide +kernel
theorem dX8_goes_93 : decode cX8_goes 93 = .ok (.aload_n 0, 1) := by decide +kernel
theorem dX8_goes_94 : decode cX8_goes 94 = .ok (.getfield 29, 3) := by decide +kernel
theorem dX8_goes_97 : decode cX8_goes 97 = .ok (.iload_n 1, 1) := by decide +kernel
theorem dX8_goes_98 : decode cX8_goes 98 = .ok (.iaload, 1) := by decide +kernel
theorem dX8_goes_99 : decode cX8_goes 99 = .ok (.laload, 1) := by decide +kernel
theorem dX8_goes_100 : decode cX8_goes 100 = .ok (.invokevirtual 167, 3) := by decide +kernel
theorem dX8_goes_103 : decode cX8_goes 103 = .ok (.ireturn, 1) := by decide +kernel
theorem dX8_goes_104 : decode cX8_goes 104 = .ok (.aload_n 0, 1) := by decide +kernel
theorem dX8_goes_105 : decode cX8_goes 105 = .ok (.iload_n 2, 1) := by decide +kernel
theorem dX8_goes_106 : decode cX8_goes 106 = .ok (.aload_n 0, 1) := by decide +kernel
theorem dX8_goes_107 : decode cX8_goes 107 = .ok (.getfield 60, 3) := by decide +kernel
theorem dX8_goes_110 : decode cX8_goes 110 = .ok (.aload_n 0, 1) := by decide +kernel
theorem dX8_goes_111 : decode cX8_goes 111 = .ok (.getfield 29, 3) := by decide +kernel
theorem dX8_goes_114 : decode cX8_goes 114 = .ok (.iload_n 1, 1) := by decide +kernel
theorem dX8_goes_115 : decode cX8_goes 115 = .ok (.iaload, 1) := by decide +kernel
theorem dX8_goes_116 : decode cX8_goes 116 = .ok (.laload, 1) := by decide +kernel
theorem dX8_goes_117 : decode cX8_goes 117 = .ok (.aload_n 0, 1) := by decide +kernel
theorem dX8_goes_118 : decode cX8_goes 118 = .ok (.getfield 60, 3) := by decide +kernel
theorem dX8_goes_121 : decode cX8_goes 121 = .ok (.aload_n 0, 1) := by decide +kernel
theorem dX8_goes_122 : decode cX8_goes 122 = .ok (.getfield 32, 3) := by decide +kernel
theorem dX8_goes_125 : decode cX8_goes 125 = .ok (.iload_n 1, 1) := by decide +kernel
theorem dX8_goes_126 : decode cX8_goes 126 = .ok (.iaload, 1) := by decide +kernel
theorem dX8_goes_127 : decode cX8_goes 127 = .ok (.laload, 1) := by decide +kernel
theorem dX8_goes_128 : decode cX8_goes 128 = .ok (.ladd, 1) := by decide +kernel
theorem dX8_goes_129 : decode cX8_goes 129 = .ok (.aload_n 0, 1) := by decide +kernel
theorem dX8_goes_130 : decode cX8_goes 130 = .ok (.getfield 63, 3) := by decide +kernel
theorem dX8_goes_133 : decode cX8_goes 133 = .ok (.aload_n 0, 1) := by decide +kernel
theorem dX8_goes_134 : decode cX8_goes 134 = .ok (.getfield 29, 3) := by decide +kernel
theorem dX8_goes_137 : decode cX8_goes 137 = .ok (.iload_n 1, 1) := by decide +kernel
theorem dX8_goes_138 : decode cX8_goes 138 = .ok (.iaload, 1) := by decide +kernel
theorem dX8_goes_139 : decode cX8_goes 139 = .ok (.laload, 1) := by decide +kernel
theorem dX8_goes_140 : decode cX8_goes 140 = .ok (.aload_n 0, 1) := by decide +kernel
theorem dX8_goes_141 : decode cX8_goes 141 = .ok (.getfield 63, 3) := by decide +kernel
theorem dX8_goes_144 : decode cX8_goes 144 = .ok (.aload_n 0, 1) := by decide +kernel
theorem dX8_goes_145 : decode cX8_goes 145 = .ok (.getfield 32, 3) := by decide +kernel
theorem dX8_goes_148 : decode cX8_goes 148 = .ok (.iload_n 1, 1) := by decide +kernel
theorem dX8_goes_149 : decode cX8_goes 149 = .ok (.iaload, 1) := by decide +kernel
theorem dX8_goes_150 : decode cX8_goes 150 = .ok (.laload, 1) := by decide +kernel
theorem dX8_goes_151 : decode cX8_goes 151 = .ok (.ladd, 1) := by decide +kernel
theorem dX8_goes_152 : decode cX8_goes 152 = .ok (.invokevirtual 167, 3) := by decide +kernel
theorem dX8_goes_155 : decode cX8_goes 155 = .ok (.ireturn, 1) := by decide +kernel
theorem dX8_goes_156 : decode cX8_goes 156 = .ok (.aload_n 0, 1) := by decide +kernel
theorem dX8_goes_157 : decode cX8_goes 157 = .ok (.iload_n 2, 1) := by decide +kernel
theorem dX8_goes_158 : decode cX8_goes 158 = .ok (.aload_n 0, 1) := by decide +kernel
theorem dX8_goes_159 : decode cX8_goes 159 = .ok (.getfield 60, 3) := by decide +kernel
theorem dX8_goes_162 : decode cX8_goes 162 = .ok (.aload_n 0, 1) := by decide +kernel
theorem dX8_goes_163 : decode cX8_goes 163 = .ok (.getfield 29, 3) := by decide +kernel
theorem dX8_goes_166 : decode cX8_goes 166 = .ok (.iload_n 1, 1) := by decide +kernel
theorem dX8_goes_167 : decode cX8_goes 167 = .ok (.iaload, 1) := by decide +kernel
theorem dX8_goes_168 : decode cX8_goes 168 = .ok (.laload, 1) := by decide +kernel
theorem dX8_goes_169 : decode cX8_goes 169 = .ok (.aload_n 0, 1) := by decide +kernel
theorem dX8_goes_170 : decode cX8_goes 170 = .ok (.getfield 63, 3) := by decide +kernel
theorem dX8_goes_173 : decode cX8_goes 173 = .ok (.aload_n 0, 1) := by decide +kernel
theorem dX8_goes_174 : decode cX8_goes 174 = .ok (.getfield 32, 3) := by decide +kernel
theorem dX8_goes_177 : decode cX8_goes 177 = .ok (.iload_n 1, 1) := by decide +kernel
theorem dX8_goes_178 : decode cX8_goes 178 = .ok (.iaload, 1) := by decide +kernel
theorem dX8_goes_179 : decode cX8_goes 179 = .ok (.laload, 1) := by decide +kernel
theorem dX8_goes_180 : decode cX8_goes 180 = .ok (.lsub, 1) := by decide +kernel
theorem dX8_goes_181 : decode cX8_goes 181 = .ok (.aload_n 0, 1) := by decide +kernel
theorem dX8_goes_182 : decode cX8_goes 182 = .ok (.getfield 63, 3) := by decide +kernel
theorem dX8_goes_185 : decode cX8_goes 185 = .ok (.aload_n 0, 1) := by decide +kernel
theorem dX8_goes_186 : decode cX8_goes 186 = .ok (.getfield 29, 3) := by decide +kernel
theorem dX8_goes_189 : decode cX8_goes 189 = .ok (.iload_n 1, 1) := by decide +kernel
theorem dX8_goes_190 : decode cX8_goes 190 = .ok (.iaload, 1) := by decide +kernel
theorem dX8_goes_191 : decode cX8_goes 191 = .ok (.laload, 1) := by decide +kernel
theorem dX8_goes_192 : decode cX8_goes 192 = .ok (.aload_n 0, 1) := by decide +kernel
theorem dX8_goes_193 : decode cX8_goes 193 = .ok (.getfield 60, 3) := by decide +kernel
theorem dX8_goes_196 : decode cX8_goes 196 = .ok (.aload_n 0, 1) := by decide +kernel
theorem dX8_goes_197 : decode cX8_goes 197 = .ok (.getfield 32, 3) := by decide +kernel
theorem dX8_goes_200 : decode cX8_goes 200 = .ok (.iload_n 1, 1) := by decide +kernel
theorem dX8_goes_201 : decode cX8_goes 201 = .ok (.iaload, 1) := by decide +kernel
theorem dX8_goes_202 : decode cX8_goes 202 = .ok (.laload, 1) := by decide +kernel
theorem dX8_goes_203 : decode cX8_goes 203 = .ok (.lsub, 1) := by decide +kernel
theorem dX8_goes_204 : decode cX8_goes 204 = .ok (.invokevirtual 167, 3) := by decide +kernel
theorem dX8_goes_207 : decode cX8_goes 207 = .ok (.ireturn, 1) := by decide +kernel
theorem dX8_goes_208 : decode cX8_goes 208 = .ok (.aload_n 0, 1) := by decide +kernel
theorem dX8_goes_209 : decode cX8_goes 209 = .ok (.iload_n 1, 1) := by decide +kernel
theorem dX8_goes_210 : decode cX8_goes 210 = .ok (.invokevirtual 171, 3) := by decide +kernel
theorem dX8_goes_213 : decode cX8_goes 213 = .ok (.ireturn, 1) := by decide +kernel
theorem dX8_goes_214 : decode cX8_goes 214 = .ok (.aload_n 0, 1) := by decide +kernel
theorem dX8_goes_215 : decode cX8_goes 215 = .ok (.iload_n 2, 1) := by decide +kernel
theorem dX8_goes_216 : decode cX8_goes 216 = .ok (.aload_n 0, 1) := by decide +kernel
theorem dX8_goes_217 : decode cX8_goes 217 = .ok (.getfield 60, 3) := by decide +kernel
theorem dX8_goes_220 : decode cX8_goes 220 = .ok (.aload_n 0, 1) := by decide +kernel
theorem dX8_goes_221 : decode cX8_goes 221 = .ok (.getfield 29, 3) := by decide +kernel
theorem dX8_goes_224 : decode cX8_goes 224 = .ok (.iload_n 1, 1) := by decide +kernel
theorem dX8_goes_225 : decode cX8_goes 225 = .ok (.iaload, 1) := by decide +kernel
theorem dX8_goes_226 : decode cX8_goes 226 = .ok (.laload, 1) := by decide +kernel
theorem dX8_goes_227 : decode cX8_goes 227 = .ok (.lconst 1, 1) := by decide +kernel
theorem dX8_goes_228 : decode cX8_goes 228 = .ok (.aload_n 0, 1) := by decide +kernel
theorem dX8_goes_229 : decode cX8_goes 229 = .ok (.getfield 32, 3) := by decide +kernel
theorem dX8_goes_232 : decode cX8_goes 232 = .ok (.iload_n 1, 1) := by decide +kernel
theorem dX8_goes_233 : decode cX8_goes 233 = .ok (.iaload, 1) := by decide +kernel
theorem dX8_goes_234 : decode cX8_goes 234 = .ok (.lshl, 1) := by decide +kernel
theorem dX8_goes_235 : decode cX8_goes 235 = .ok (.lmul, 1) := by decide +kernel
theorem dX8_goes_236 : decode cX8_goes 236 = .ok (.aload_n 0, 1) := by decide +kernel
theorem dX8_goes_237 : decode cX8_goes 237 = .ok (.getfield 63, 3) := by decide +kernel
theorem dX8_goes_240 : decode cX8_goes 240 = .ok (.aload_n 0, 1) := by decide +kernel
theorem dX8_goes_241 : decode cX8_goes 241 = .ok (.getfield 29, 3) := by decide +kernel
theorem dX8_goes_244 : decode cX8_goes 244 = .ok (.iload_n 1, 1) := by decide +kernel
theorem dX8_goes_245 : decode cX8_goes 245 = .ok (.iaload, 1) := by decide +kernel
theorem dX8_goes_246 : decode cX8_goes 246 = .ok (.laload, 1) := by decide +kernel
theorem dX8_goes_247 : decode cX8_goes 247 = .ok (.lconst 1, 1) := by decide +kernel
theorem dX8_goes_248 : decode cX8_goes 248 = .ok (.aload_n 0, 1) := by decide +kernel
theorem dX8_goes_249 : decode cX8_goes 249 = .ok (.getfield 32, 3) := by decide +kernel
theorem dX8_goes_252 : decode cX8_goes 252 = .ok (.iload_n 1, 1) := by decide +kernel
theorem dX8_goes_253 : decode cX8_goes 253 = .ok (.iaload, 1) := by decide +kernel
theorem dX8_goes_254 : decode cX8_goes 254 = .ok (.lshl, 1) := by decide +kernel
theorem dX8_goes_255 : decode cX8_goes 255 = .ok (.lmul, 1) := by decide +kernel
theorem dX8_goes_256 : decode cX8_goes 256 = .ok (.invokevirtual 167, 3) := by decide +kernel
theorem dX8_goes_259 : decode cX8_goes 259 = .ok (.ireturn, 1) := by decide +kernel
theorem dX8_goes_260 : decode cX8_goes 260 = .ok (.aload_n 0, 1) := by decide +kernel
theorem dX8_goes_261 : decode cX8_goes 261 = .ok (.iload_n 2, 1) := by decide +kernel
theorem dX8_goes_262 : decode cX8_goes 262 = .ok (.aload_n 0, 1) := by decide +kernel
theorem dX8_goes_263 : decode cX8_goes 263 = .ok (.getfield 60, 3) := by decide +kernel
theorem dX8_goes_266 : decode cX8_goes 266 = .ok (.aload_n 0, 1) := by decide +kernel
theorem dX8_goes_267 : decode cX8_goes 267 = .ok (.getfield 29, 3) := by decide +kernel
theorem dX8_goes_270 : decode cX8_goes 270 = .ok (.iload_n 1, 1) := by decide +kernel
theorem dX8_goes_271 : decode cX8_goes 271 = .ok (.iaload, 1) := by decide +kernel
theorem dX8_goes_272 : decode cX8_goes 272 = .ok (.laload, 1) := by decide +kernel
theorem dX8_goes_273 : decode cX8_goes 273 = .ok (.aload_n 0, 1) := by decide +kernel
theorem dX8_goes_274 : decode cX8_goes 274 = .ok (.getfield 60, 3) := by decide +kernel
theorem dX8_goes_277 : decode cX8_goes 277 = .ok (.aload_n 0, 1) := by decide +kernel
theorem dX8_goes_278 : decode cX8_goes 278 = .ok (.getfield 32, 3) := by decide +kernel
theorem dX8_goes_281 : decode cX8_goes 281 = .ok (.iload_n 1, 1) := by decide +kernel
theorem dX8_goes_282 : decode cX8_goes 282 = .ok (.iaload, 1) := by decide +kernel
theorem dX8_goes_283 : decode cX8_goes 283 = .ok (.laload, 1) := by decide +kernel
theorem dX8_goes_284 : decode cX8_goes 284 = .ok (.invokestatic 130, 3) := by decide +kernel
theorem dX8_goes_287 : decode cX8_goes 287 = .ok (.aload_n 0, 1) := by decide +kernel
theorem dX8_goes_288 : decode cX8_goes 288 = .ok (.getfield 63, 3) := by decide +kernel
theorem dX8_goes_291 : decode cX8_goes 291 = .ok (.aload_n 0, 1) := by decide +kernel
theorem dX8_goes_292 : decode cX8_goes 292 = .ok (.getfield 29, 3) := by decide +kernel
theorem dX8_goes_295 : decode cX8_goes 295 = .ok (.iload_n 1, 1) := by decide +kernel
theorem dX8_goes_296 : decode cX8_goes 296 = .ok (.iaload, 1) := by decide +kernel
theorem dX8_goes_297 : decode cX8_goes 297 = .ok (.laload, 1) := by decide +kernel
theorem dX8_goes_298 : decode cX8_goes 298 = .ok (.aload_n 0, 1) := by decide +kernel
theorem dX8_goes_299 : decode cX8_goes 299 = .ok (.getfield 63, 3) := by decide +kernel
theorem dX8_goes_302 : decode cX8_goes 302 = .ok (.aload_n 0, 1) := by decide +kernel
theorem dX8_goes_303 : decode cX8_goes 303 = .ok (.getfield 32, 3) := by decide +kernel
theorem dX8_goes_306 : decode cX8_goes 306 = .ok (.iload_n 1, 1) := by decide +kernel
theorem dX8_goes_307 : decode cX8_goes 307 = .ok (.iaload, 1) := by decide +kernel
theorem dX8_goes_308 : decode cX8_goes 308 = .ok (.laload, 1) := by decide +kernel
theorem dX8_goes_309 : decode cX8_goes 309 = .ok (.invokestatic 130, 3) := by decide +kernel
theorem dX8_goes_312 : decode cX8_goes 312 = .ok (.invokevirtual 167, 3) := by decide +kernel
theorem dX8_goes_315 : decode cX8_goes 315 = .ok (.ireturn, 1) := by decide +kernel
theorem dX8_goes_316 : decode cX8_goes 316 = .ok (.aload_n 0, 1) := by decide +kernel
theorem dX8_goes_317 : decode cX8_goes 317 = .ok (.iload_n 1, 1) := by decide +kernel
theorem dX8_goes_318 : decode cX8_goes 318 = .ok (.invokevirtual 174, 3) := by decide +kernel
theorem dX8_goes_321 : decode cX8_goes 321 = .ok (.ireturn, 1) := by decide +kernel
set_option maxRecDepth 20000 in
theorem ggX8_spans_X8_lays : GoodIn wsX8_spans wsX8_lays := goodIn_r _ [13, 7, 3, 14, 8, 15, 66, 67, 68, 69, 70, 71, 72, 73, 74, 75, 76, 77, 78, 79, 80, 81, 82, 83, 84, 85, 86, 87, 88, 89, 90, 91] (by decide +kernel) (by decide +kernel)
set_option maxRecDepth 20000 in
theorem gX8_spans_X8_lays : GoodIn wsX8_spans (wsV RX8 150 RX8 yX8_lays wsX8_lays) := goodIn_app (goodIn_of _ (by decide +kernel)) ggX8_spans_X8_lays
set_option maxRecDepth 20000 in
theorem ggX8_spans_X8_ends : GoodIn wsX8_spans wsX8_ends := goodIn_r _ [19, 1, 2, 20, 21, 22, 23, 12, 24, 25, 26, 27, 28, 29, 30, 31, 32, 33, 34, 35, 36, 37, 38, 39, 40, 41, 42, 43, 44, 66, 67, 68, 69, 70, 71, 72, 73, 74, 75, 76, 77, 78, 79, 80, 81, 82, 83, 84, 85, 86, 87, 88, 89, 90, 91] (by decide +kernel) (by decide +kernel)
set_option maxRecDepth 20000 in
theorem gX8_spans_X8_ends : GoodIn wsX8_spans (wsV RX8 167 RX8 yX8_ends wsX8_ends) := goodIn_app (goodIn_of _ (by decide +kernel)) ggX8_spans_X8_ends
set_option maxRecDepth 20000 in
theorem ggX8_spans_X8_goes : GoodIn wsX8_spans wsX8_goes := goodIn_r _ [48, 49, 14, 15, 1, 50, 2, 51, 52, 53, 54, 16, 17, 18, 12, 19, 20, 21, 22, 23, 24, 25, 26, 27, 28, 29, 30, 31, 32, 33, 34, 35, 36, 37, 38, 39, 40, 41, 42, 43, 44, 55, 56, 57, 58, 59, 60, 61, 62, 63, 64, 65, 66, 67, 68, 69, 70, 71, 72, 73, 74, 75, 76, 77, 78, 79, 80, 81, 82, 83, 84, 85, 86, 87, 88, 89, 90, 91] (by decide +kernel) (by decide +kernel)
set_option maxRecDepth 20000 in
theorem gX8_spans_X8_goes : GoodIn wsX8_spans (wsV RX8 177 RX8 yX8_goes wsX8_goes) := goodIn_app (goodIn_of _ (by decide +kernel)) ggX8_spans_X8_goes
theorem dX8_spans_0 : decode cX8_spans 0 = .ok (.aload_n 0, 1) := by decide +kernel
theorem dX8_spans_1 : decode cX8_spans 1 = .ok (.invokevirtual 150, 3) := by decide +kernel
theorem dX8_spans_4 : decode cX8_spans 4 = .ok (.iconst 0, 1) := by decide +kernel
theorem dX8_spans_5 : decode cX8_spans 5 = .ok (.istore_n 1, 1) := by decide +kernel
theorem dX8_spans_6 : decode cX8_spans 6 = .ok (.iload_n 1, 1) := by decide +kernel
theorem dX8_spans_7 : decode cX8_spans 7 = .ok (.bipush 6, 2) := by decide +kernel
theorem dX8_spans_9 : decode cX8_spans 9 = .ok (.if_icmp .ge 23, 3) := by decide +kernel
theorem dX8_spans_12 : decode cX8_spans 12 = .ok (.aload_n 0, 1) := by decide +kernel
theorem dX8_spans_13 : decode cX8_spans 13 = .ok (.getfield 60, 3) := by decide +kernel
theorem dX8_spans_16 : decode cX8_spans 16 = .ok (.iload_n 1, 1) := by decide +kernel
theorem dX8_spans_17 : decode cX8_spans 17 = .ok (.lconst 0, 1) := by decide +kernel
theorem dX8_spans_18 : decode cX8_spans 18 = .ok (.lastore, 1) := by decide +kernel
theorem dX8_spans_19 : decode cX8_spans 19 = .ok (.aload_n 0, 1) := by decide +kernel
theorem dX8_spans_20 : decode cX8_spans 20 = .ok (.getfield 63, 3) := by decide +kernel
theorem dX8_spans_23 : decode cX8_spans 23 = .ok (.iload_n 1, 1) := by decide +kernel
theorem dX8_spans_24 : decode cX8_spans 24 = .ok (.lconst 0, 1) := by decide +kernel
theorem dX8_spans_25 : decode cX8_spans 25 = .ok (.lastore, 1) := by decide +kernel
theorem dX8_spans_26 : decode cX8_spans 26 = .ok (.iinc 1 1, 3) := by decide +kernel
theorem dX8_spans_29 : decode cX8_spans 29 = .ok (.goto (-23), 3) := by decide +kernel
theorem dX8_spans_32 : decode cX8_spans 32 = .ok (.iconst 0, 1) := by decide +kernel
theorem dX8_spans_33 : decode cX8_spans 33 = .ok (.istore_n 1, 1) := by decide +kernel
theorem dX8_spans_34 : decode cX8_spans 34 = .ok (.iload_n 1, 1) := by decide +kernel
theorem dX8_spans_35 : decode cX8_spans 35 = .ok (.aload_n 0, 1) := by decide +kernel
theorem dX8_spans_36 : decode cX8_spans 36 = .ok (.getfield 75, 3) := by decide +kernel
theorem dX8_spans_39 : decode cX8_spans 39 = .ok (.if_icmp .ge 16, 3) := by decide +kernel
theorem dX8_spans_42 : decode cX8_spans 42 = .ok (.aload_n 0, 1) := by decide +kernel
theorem dX8_spans_43 : decode cX8_spans 43 = .ok (.getfield 66, 3) := by decide +kernel
theorem dX8_spans_46 : decode cX8_spans 46 = .ok (.iload_n 1, 1) := by decide +kernel
theorem dX8_spans_47 : decode cX8_spans 47 = .ok (.iconst 0, 1) := by decide +kernel
theorem dX8_spans_48 : decode cX8_spans 48 = .ok (.bastore, 1) := by decide +kernel
theorem dX8_spans_49 : decode cX8_spans 49 = .ok (.iinc 1 1, 3) := by decide +kernel
theorem dX8_spans_52 : decode cX8_spans 52 = .ok (.goto (-18), 3) := by decide +kernel
theorem dX8_spans_55 : decode cX8_spans 55 = .ok (.iconst 0, 1) := by decide +kernel
theorem dX8_spans_56 : decode cX8_spans 56 = .ok (.istore_n 1, 1) := by decide +kernel
theorem dX8_spans_57 : decode cX8_spans 57 = .ok (.iload_n 1, 1) := by decide +kernel
theorem dX8_spans_58 : decode cX8_spans 58 = .ok (.iconst 2, 1) := by decide +kernel
theorem dX8_spans_59 : decode cX8_spans 59 = .ok (.if_icmp .ge 29, 3) := by decide +kernel
theorem dX8_spans_62 : decode cX8_spans 62 = .ok (.aload_n 0, 1) := by decide +kernel
theorem dX8_spans_63 : decode cX8_spans 63 = .ok (.iload_n 1, 1) := by decide +kernel
theorem dX8_spans_64 : decode cX8_spans 64 = .ok (.aload_n 0, 1) := by decide +kernel
theorem dX8_spans_65 : decode cX8_spans 65 = .ok (.getfield 17, 3) := by decide +kernel
theorem dX8_spans_68 : decode cX8_spans 68 = .ok (.iload_n 1, 1) := by decide +kernel
theorem dX8_spans_69 : decode cX8_spans 69 = .ok (.iaload, 1) := by decide +kernel
theorem dX8_spans_70 : decode cX8_spans 70 = .ok (.i2l, 1) := by decide +kernel
theorem dX8_spans_71 : decode cX8_spans 71 = .ok (.aload_n 0, 1) := by decide +kernel
theorem dX8_spans_72 : decode cX8_spans 72 = .ok (.getfield 20, 3) := by decide +kernel
theorem dX8_spans_75 : decode cX8_spans 75 = .ok (.iload_n 1, 1) := by decide +kernel
theorem dX8_spans_76 : decode cX8_spans 76 = .ok (.iaload, 1) := by decide +kernel
theorem dX8_spans_77 : decode cX8_spans 77 = .ok (.i2l, 1) := by decide +kernel
theorem dX8_spans_78 : decode cX8_spans 78 = .ok (.invokevirtual 167, 3) := by decide +kernel
theorem dX8_spans_81 : decode cX8_spans 81 = .ok (.istore_n 2, 1) := by decide +kernel
theorem dX8_spans_82 : decode cX8_spans 82 = .ok (.iinc 1 1, 3) := by decide +kernel
theorem dX8_spans_85 : decode cX8_spans 85 = .ok (.goto (-28), 3) := by decide +kernel
theorem dX8_spans_88 : decode cX8_spans 88 = .ok (.iconst 0, 1) := by decide +kernel
theorem dX8_spans_89 : decode cX8_spans 89 = .ok (.istore_n 1, 1) := by decide +kernel
theorem dX8_spans_90 : decode cX8_spans 90 = .ok (.iload_n 1, 1) := by decide +kernel
theorem dX8_spans_91 : decode cX8_spans 91 = .ok (.aload_n 0, 1) := by decide +kernel
theorem dX8_spans_92 : decode cX8_spans 92 = .ok (.getfield 110, 3) := by decide +kernel
theorem dX8_spans_95 : decode cX8_spans 95 = .ok (.if_icmp .ge 52, 3) := by decide +kernel
theorem dX8_spans_98 : decode cX8_spans 98 = .ok (.aload_n 0, 1) := by decide +kernel
theorem dX8_spans_99 : decode cX8_spans 99 = .ok (.getfield 66, 3) := by decide +kernel
theorem dX8_spans_102 : decode cX8_spans 102 = .ok (.aload_n 0, 1) := by decide +kernel
theorem dX8_spans_103 : decode cX8_spans 103 = .ok (.getfield 38, 3) := by decide +kernel
theorem dX8_spans_106 : decode cX8_spans 106 = .ok (.iload_n 1, 1) := by decide +kernel
theorem dX8_spans_107 : decode cX8_spans 107 = .ok (.iaload, 1) := by decide +kernel
theorem dX8_spans_108 : decode cX8_spans 108 = .ok (.aload_n 0, 1) := by decide +kernel
theorem dX8_spans_109 : decode cX8_spans 109 = .ok (.aload_n 0, 1) := by decide +kernel
theorem dX8_spans_110 : decode cX8_spans 110 = .ok (.getfield 38, 3) := by decide +kernel
theorem dX8_spans_113 : decode cX8_spans 113 = .ok (.iload_n 1, 1) := by decide +kernel
theorem dX8_spans_114 : decode cX8_spans 114 = .ok (.iaload, 1) := by decide +kernel
theorem dX8_spans_115 : decode cX8_spans 115 = .ok (.invokevirtual 177, 3) := by decide +kernel
theorem dX8_spans_118 : decode cX8_spans 118 = .ok (.ifCond .ne 17, 3) := by decide +kernel
theorem dX8_spans_121 : decode cX8_spans 121 = .ok (.aload_n 0, 1) := by decide +kernel
theorem dX8_spans_122 : decode cX8_spans 122 = .ok (.getfield 66, 3) := by decide +kernel
theorem dX8_spans_125 : decode cX8_spans 125 = .ok (.aload_n 0, 1) := by decide +kernel
theorem dX8_spans_126 : decode cX8_spans 126 = .ok (.getfield 38, 3) := by decide +kernel
theorem dX8_spans_129 : decode cX8_spans 129 = .ok (.iload_n 1, 1) := by decide +kernel
theorem dX8_spans_130 : decode cX8_spans 130 = .ok (.iaload, 1) := by decide +kernel
theorem dX8_spans_131 : decode cX8_spans 131 = .ok (.baload, 1) := by decide +kernel
theorem dX8_spans_132 : decode cX8_spans 132 = .ok (.ifCond .eq 7, 3) := by decide +kernel
theorem dX8_spans_135 : decode cX8_spans 135 = .ok (.iconst 1, 1) := by decide +kernel
theorem dX8_spans_136 : decode cX8_spans 136 = .ok (.goto 4, 3) := by decide +kernel
theorem dX8_spans_139 : decode cX8_spans 139 = .ok (.iconst 0, 1) := by decide +kernel
theorem dX8_spans_140 : decode cX8_spans 140 = .ok (.bastore, 1) := by decide +kernel
theorem dX8_spans_141 : decode cX8_spans 141 = .ok (.iinc 1 1, 3) := by decide +kernel
theorem dX8_spans_144 : decode cX8_spans 144 = .ok (.goto (-54), 3) := by decide +kernel
theorem dX8_spans_147 : decode cX8_spans 147 = .ok (.return_, 1) := by decide +kernel
set_option maxRecDepth 20000 in
theorem ggX8_ends__X8_isName : GoodIn wsX8_ends_ wsX8_isName := goodIn_r _ [7, 8, 9, 10, 6, 11] (by decide +kernel) (by decide +kernel)
set_option maxRecDepth 20000 in
theorem gX8_ends__X8_isName : GoodIn wsX8_ends_ (va_wsS RX8 85 yX8_isName wsX8_isName) := goodIn_app (goodIn_of _ (by decide +kernel)) ggX8_ends__X8_isName
set_option maxRecDepth 20000 in
theorem ggX8_ends__X8_in : GoodIn wsX8_ends_ wsX8_in := goodIn_r _ [11] (by decide +kernel) (by decide +kernel)
set_option maxRecDepth 20000 in
theorem gX8_ends__X8_in : GoodIn wsX8_ends_ (va_wsS RX8 79 yX8_in wsX8_in) := goodIn_app (goodIn_of _ (by decide +kernel)) ggX8_ends__X8_in
set_option maxRecDepth 20000 in
theorem ggX8_ends__X8_spans : GoodIn wsX8_ends_ wsX8_spans := goodIn_r _ [15, 2, 3, 16, 17, 18, 19, 20, 21, 22, 23, 24, 6, 25, 26, 27, 28, 29, 30, 31, 32, 33, 34, 35, 36, 37, 38, 39, 40, 41, 42, 43, 44, 45, 46, 9, 10, 11, 47, 48, 49, 50, 51, 52, 53, 54, 55, 56, 57, 58, 59, 60, 61, 62, 63, 64, 65, 66, 67, 68, 69, 70, 71, 72, 73, 74, 75, 76, 77, 78, 79, 80, 81, 82, 83, 84, 85, 86, 87, 88, 89, 90, 91, 92, 93, 94, 95, 96, 97, 98, 99, 100] (by decide +kernel) (by decide +kernel)
set_option maxRecDepth 20000 in
theorem gX8_ends__X8_spans : GoodIn wsX8_ends_ (wsV RX8 180 RX8 yX8_spans wsX8_spans) := goodIn_app (goodIn_of _ (by decide +kernel)) ggX8_ends__X8_spans
theorem dX8_ends__0 : decode cX8_ends_ 0 = .ok (.iload_n 1, 1) := by decide +kernel
theorem dX8_ends__1 : decode cX8_ends_ 1 = .ok (.invokestatic 85, 3) := by decide +kernel
theorem dX8_ends__4 : decode cX8_ends_ 4 = .ok (.ifCond .eq 13, 3) := by decide +kernel
theorem dX8_ends__7 : decode cX8_ends_ 7 = .ok (.iload_n 2, 1) := by decide +kernel
theorem dX8_ends__8 : decode cX8_ends_ 8 = .ok (.i2l, 1) := by decide +kernel
theorem dX8_ends__9 : decode cX8_ends_ 9 = .ok (.lconst 0, 1) := by decide +kernel
theorem dX8_ends__10 : decode cX8_ends_ 10 = .ok (.lconst 1, 1) := by decide +kernel
theorem dX8_ends__11 : decode cX8_ends_ 11 = .ok (.invokestatic 79, 3) := by decide +kernel
theorem dX8_ends__14 : decode cX8_ends_ 14 = .ok (.ifCond .ne 6, 3) := by decide +kernel
theorem dX8_ends__17 : decode cX8_ends_ 17 = .ok (.ldc 164, 2) := by decide +kernel
theorem dX8_ends__19 : decode cX8_ends_ 19 = .ok (.ireturn, 1) := by decide +kernel
theorem dX8_ends__20 : decode cX8_ends_ 20 = .ok (.aload_n 0, 1) := by decide +kernel
theorem dX8_ends__21 : decode cX8_ends_ 21 = .ok (.invokevirtual 180, 3) := by decide +kernel
theorem dX8_ends__24 : decode cX8_ends_ 24 = .ok (.iload_n 2, 1) := by decide +kernel
theorem dX8_ends__25 : decode cX8_ends_ 25 = .ok (.ifCond .ne 12, 3) := by decide +kernel
theorem dX8_ends__28 : decode cX8_ends_ 28 = .ok (.aload_n 0, 1) := by decide +kernel
theorem dX8_ends__29 : decode cX8_ends_ 29 = .ok (.getfield 60, 3) := by decide +kernel
theorem dX8_ends__32 : decode cX8_ends_ 32 = .ok (.iload_n 1, 1) := by decide +kernel
theorem dX8_ends__33 : decode cX8_ends_ 33 = .ok (.laload, 1) := by decide +kernel
theorem dX8_ends__34 : decode cX8_ends_ 34 = .ok (.goto 9, 3) := by decide +kernel
theorem dX8_ends__37 : decode cX8_ends_ 37 = .ok (.aload_n 0, 1) := by decide +kernel
theorem dX8_ends__38 : decode cX8_ends_ 38 = .ok (.getfield 63, 3) := by decide +kernel
theorem dX8_ends__41 : decode cX8_ends_ 41 = .ok (.iload_n 1, 1) := by decide +kernel
theorem dX8_ends__42 : decode cX8_ends_ 42 = .ok (.laload, 1) := by decide +kernel
theorem dX8_ends__43 : decode cX8_ends_ 43 = .ok (.l2i, 1) := by decide +kernel
theorem dX8_ends__44 : decode cX8_ends_ 44 = .ok (.ireturn, 1) := by decide +kernel
set_option maxRecDepth 20000 in
theorem ggX8_judged_X8_many : GoodIn wsX8_judged wsX8_many := goodIn_r _ [7, 8, 9, 10, 11, 12, 13, 14, 15, 16, 17, 18, 19, 20, 21, 22, 23, 24, 25, 26, 27, 28, 29, 30, 31, 32, 33, 34, 35] (by decide +kernel) (by decide +kernel)
set_option maxRecDepth 20000 in
theorem gX8_judged_X8_many : GoodIn wsX8_judged (wsV RX8 183 RX8 yX8_many wsX8_many) := goodIn_app (goodIn_of _ (by decide +kernel)) ggX8_judged_X8_many
theorem dX8_judged_0 : decode cX8_judged 0 = .ok (.aload_n 0, 1) := by decide +kernel
theorem dX8_judged_1 : decode cX8_judged 1 = .ok (.getfield 66, 3) := by decide +kernel
theorem dX8_judged_4 : decode cX8_judged 4 = .ok (.iload_n 1, 1) := by decide +kernel
theorem dX8_judged_5 : decode cX8_judged 5 = .ok (.baload, 1) := by decide +kernel
theorem dX8_judged_6 : decode cX8_judged 6 = .ok (.ifCond .ne 5, 3) := by decide +kernel
theorem dX8_judged_9 : decode cX8_judged 9 = .ok (.iconst 0, 1) := by decide +kernel
theorem dX8_judged_10 : decode cX8_judged 10 = .ok (.ireturn, 1) := by decide +kernel
theorem dX8_judged_11 : decode cX8_judged 11 = .ok (.aload_n 0, 1) := by decide +kernel
theorem dX8_judged_12 : decode cX8_judged 12 = .ok (.getfield 51, 3) := by decide +kernel
theorem dX8_judged_15 : decode cX8_judged 15 = .ok (.iload_n 1, 1) := by decide +kernel
theorem dX8_judged_16 : decode cX8_judged 16 = .ok (.iaload, 1) := by decide +kernel
theorem dX8_judged_17 : decode cX8_judged 17 = .ok (.ifCond .ne 7, 3) := by decide +kernel
theorem dX8_judged_20 : decode cX8_judged 20 = .ok (.iconst 1, 1) := by decide +kernel
theorem dX8_judged_21 : decode cX8_judged 21 = .ok (.goto 21, 3) := by decide +kernel
theorem dX8_judged_24 : decode cX8_judged 24 = .ok (.aload_n 0, 1) := by decide +kernel
theorem dX8_judged_25 : decode cX8_judged 25 = .ok (.getfield 51, 3) := by decide +kernel
theorem dX8_judged_28 : decode cX8_judged 28 = .ok (.iload_n 1, 1) := by decide +kernel
theorem dX8_judged_29 : decode cX8_judged 29 = .ok (.iaload, 1) := by decide +kernel
theorem dX8_judged_30 : decode cX8_judged 30 = .ok (.aload_n 0, 1) := by decide +kernel
theorem dX8_judged_31 : decode cX8_judged 31 = .ok (.invokevirtual 183, 3) := by decide +kernel
theorem dX8_judged_34 : decode cX8_judged 34 = .ok (.if_icmp .ne 7, 3) := by decide +kernel
theorem dX8_judged_37 : decode cX8_judged 37 = .ok (.iconst 3, 1) := by decide +kernel
theorem dX8_judged_38 : decode cX8_judged 38 = .ok (.goto 4, 3) := by decide +kernel
theorem dX8_judged_41 : decode cX8_judged 41 = .ok (.iconst 2, 1) := by decide +kernel
theorem dX8_judged_42 : decode cX8_judged 42 = .ok (.ireturn, 1) := by decide +kernel
set_option maxRecDepth 20000 in
theorem ggX8_judge_X8_isStep : GoodIn wsX8_judge wsX8_isStep := goodIn_r _ [5, 6, 7, 8, 4, 9, 109, 110, 111, 112, 113, 114, 115, 116, 117, 118, 119, 120, 121, 122, 123, 124, 125, 126, 127, 128, 129, 130, 131, 132, 133, 134] (by decide +kernel) (by decide +kernel)
set_option maxRecDepth 20000 in
theorem gX8_judge_X8_isStep : GoodIn wsX8_judge (wsV RX8 187 RX8 yX8_isStep wsX8_isStep) := goodIn_app (goodIn_of _ (by decide +kernel)) ggX8_judge_X8_isStep
set_option maxRecDepth 20000 in
theorem ggX8_judge_X8_spans : GoodIn wsX8_judge wsX8_spans := goodIn_r _ [13, 14, 15, 6, 16, 17, 18, 19, 20, 21, 22, 23, 4, 24, 25, 26, 27, 28, 29, 30, 31, 32, 33, 34, 35, 36, 37, 38, 39, 40, 41, 42, 43, 44, 45, 7, 8, 9, 46, 47, 48, 49, 50, 51, 52, 53, 54, 55, 56, 57, 58, 59, 60, 61, 62, 63, 64, 65, 66, 67, 68, 69, 70, 71, 72, 73, 109, 110, 111, 112, 113, 114, 115, 116, 117, 118, 119, 120, 121, 122, 123, 124, 125, 126, 127, 128, 129, 130, 131, 132, 133, 134] (by decide +kernel) (by decide +kernel)
set_option maxRecDepth 20000 in
theorem gX8_judge_X8_spans : GoodIn wsX8_judge (wsV RX8 180 RX8 yX8_spans wsX8_spans) := goodIn_app (goodIn_of _ (by decide +kernel)) ggX8_judge_X8_spans
set_option maxRecDepth 20000 in
theorem ggX8_judge_X8_all : GoodIn wsX8_judge wsX8_all := goodIn_r _ [77, 78, 6, 79, 80, 81, 17, 18, 82, 83, 84, 21, 22, 23, 4, 24, 19, 25, 20, 26, 85, 86, 87, 88, 89, 58, 57, 46, 47, 48, 49, 31, 41, 36, 37, 38, 39, 40, 42, 43, 44, 45, 7, 8, 9, 50, 51, 52, 90, 91, 92, 93, 59, 60, 61, 62, 94, 95, 96, 97, 98, 99, 100, 32, 33, 34, 35, 109, 110, 111, 112, 113, 114, 115, 116, 117, 118, 119, 120, 121, 122, 123, 124, 125, 126, 127, 128, 129, 130, 131, 132, 133, 134] (by decide +kernel) (by decide +kernel)
set_option maxRecDepth 20000 in
theorem gX8_judge_X8_all : GoodIn wsX8_judge (wsV RX8 190 RX8 yX8_all wsX8_all) := goodIn_app (goodIn_of _ (by decide +kernel)) ggX8_judge_X8_all
set_option maxRecDepth 20000 in
theorem ggX8_judge_X8_judged : GoodIn wsX8_judge wsX8_judged := goodIn_r _ [104, 16, 79, 105, 106, 107, 4, 108, 18, 17, 109, 110, 111, 112, 113, 114, 115, 116, 117, 118, 119, 120, 121, 122, 123, 124, 125, 126, 127, 128, 129, 130, 131, 132, 133, 134] (by decide +kernel) (by decide +kernel)
set_option maxRecDepth 20000 in
theorem gX8_judge_X8_judged : GoodIn wsX8_judge (wsV RX8 193 RX8 yX8_judged wsX8_judged) := goodIn_app (goodIn_of _ (by decide +kernel)) ggX8_judge_X8_judged
theorem dX8_judge_0 : decode cX8_judge 0 = .ok (.aload_n 0, 1) := by decide +kernel
theorem dX8_judge_1 : decode cX8_judge 1 = .ok (.iload_n 1, 1) := by decide +kernel
theorem dX8_judge_2 : decode cX8_judge 2 = .ok (.invokevirtual 187, 3) := by decide +kernel
theorem dX8_judge_5 : decode cX8_judge 5 = .ok (.ifCond .ne 5, 3) := by decide +kernel
theorem dX8_judge_8 : decode cX8_judge 8 = .ok (.iconst (-1), 1) := by decide +kernel
theorem dX8_judge_9 : decode cX8_judge 9 = .ok (.ireturn, 1) := by decide +kernel
theorem dX8_judge_10 : decode cX8_judge 10 = .ok (.aload_n 0, 1) := by decide +kernel
theorem dX8_judge_11 : decode cX8_judge 11 = .ok (.invokevirtual 180, 3) := by decide +kernel
theorem dX8_judge_14 : decode cX8_judge 14 = .ok (.aload_n 0, 1) := by decide +kernel
theorem dX8_judge_15 : decode cX8_judge 15 = .ok (.invokevirtual 190, 3) := by decide +kernel
theorem dX8_judge_18 : decode cX8_judge 18 = .ok (.aload_n 0, 1) := by decide +kernel
theorem dX8_judge_19 : decode cX8_judge 19 = .ok (.iload_n 1, 1) := by decide +kernel
theorem dX8_judge_20 : decode cX8_judge 20 = .ok (.invokevirtual 193, 3) := by decide +kernel
theorem dX8_judge_23 : decode cX8_judge 23 = .ok (.ireturn, 1) := by decide +kernel
set_option maxRecDepth 20000 in
theorem ggX8_over_X8_isStep : GoodIn wsX8_over wsX8_isStep := goodIn_r _ [6, 7, 8, 9, 5, 10, 75, 76, 77, 78, 79, 80, 81, 82, 83, 84, 85, 86, 87, 88, 89, 90, 91, 92, 93, 94, 95, 96, 97, 98, 99, 100] (by decide +kernel) (by decide +kernel)
set_option maxRecDepth 20000 in
theorem gX8_over_X8_isStep : GoodIn wsX8_over (wsV RX8 187 RX8 yX8_isStep wsX8_isStep) := goodIn_app (goodIn_of _ (by decide +kernel)) ggX8_over_X8_isStep
set_option maxRecDepth 20000 in
theorem ggX8_over_X8_all : GoodIn wsX8_over wsX8_all := goodIn_r _ [14, 15, 7, 1, 16, 17, 18, 19, 20, 21, 22, 23, 24, 25, 5, 26, 27, 28, 29, 30, 31, 32, 33, 34, 35, 36, 37, 38, 39, 40, 41, 42, 43, 44, 45, 46, 47, 48, 49, 50, 51, 52, 8, 9, 10, 53, 54, 55, 56, 57, 58, 59, 60, 61, 62, 63, 64, 65, 66, 67, 68, 69, 70, 71, 72, 73, 74, 75, 76, 77, 78, 79, 80, 81, 82, 83, 84, 85, 86, 87, 88, 89, 90, 91, 92, 93, 94, 95, 96, 97, 98, 99, 100] (by decide +kernel) (by decide +kernel)
set_option maxRecDepth 20000 in
theorem gX8_over_X8_all : GoodIn wsX8_over (wsV RX8 190 RX8 yX8_all wsX8_all) := goodIn_app (goodIn_of _ (by decide +kernel)) ggX8_over_X8_all
theorem dX8_over_0 : decode cX8_over 0 = .ok (.aload_n 0, 1) := by decide +kernel
theorem dX8_over_1 : decode cX8_over 1 = .ok (.iload_n 1, 1) := by decide +kernel
theorem dX8_over_2 : decode cX8_over 2 = .ok (.invokevirtual 187, 3) := by decide +kernel
theorem dX8_over_5 : decode cX8_over 5 = .ok (.ifCond .ne 5, 3) := by decide +kernel
theorem dX8_over_8 : decode cX8_over 8 = .ok (.iconst (-1), 1) := by decide +kernel
theorem dX8_over_9 : decode cX8_over 9 = .ok (.ireturn, 1) := by decide +kernel
theorem dX8_over_10 : decode cX8_over 10 = .ok (.aload_n 0, 1) := by decide +kernel
theorem dX8_over_11 : decode cX8_over 11 = .ok (.invokevirtual 190, 3) := by decide +kernel
theorem dX8_over_14 : decode cX8_over 14 = .ok (.aload_n 0, 1) := by decide +kernel
theorem dX8_over_15 : decode cX8_over 15 = .ok (.getfield 51, 3) := by decide +kernel
theorem dX8_over_18 : decode cX8_over 18 = .ok (.iload_n 1, 1) := by decide +kernel
theorem dX8_over_19 : decode cX8_over 19 = .ok (.iaload, 1) := by decide +kernel
theorem dX8_over_20 : decode cX8_over 20 = .ok (.ireturn, 1) := by decide +kernel
set_option maxRecDepth 20000 in
theorem ggX8_shown_X8_isStep : GoodIn wsX8_shown wsX8_isStep := goodIn_r _ [6, 7, 8, 9, 5, 10, 75, 76, 77, 78, 79, 80, 81, 82, 83, 84, 85, 86, 87, 88, 89, 90, 91, 92, 93, 94, 95, 96, 97, 98, 99, 100] (by decide +kernel) (by decide +kernel)
set_option maxRecDepth 20000 in
theorem gX8_shown_X8_isStep : GoodIn wsX8_shown (wsV RX8 187 RX8 yX8_isStep wsX8_isStep) := goodIn_app (goodIn_of _ (by decide +kernel)) ggX8_shown_X8_isStep
set_option maxRecDepth 20000 in
theorem ggX8_shown_X8_all : GoodIn wsX8_shown wsX8_all := goodIn_r _ [14, 15, 7, 16, 17, 1, 18, 19, 20, 21, 22, 23, 24, 25, 5, 26, 27, 28, 29, 30, 31, 32, 33, 34, 35, 36, 37, 38, 39, 40, 41, 42, 43, 44, 45, 46, 47, 48, 49, 50, 51, 52, 8, 9, 10, 53, 54, 55, 56, 57, 58, 59, 60, 61, 62, 63, 64, 65, 66, 67, 68, 69, 70, 71, 72, 73, 74, 75, 76, 77, 78, 79, 80, 81, 82, 83, 84, 85, 86, 87, 88, 89, 90, 91, 92, 93, 94, 95, 96, 97, 98, 99, 100] (by decide +kernel) (by decide +kernel)
set_option maxRecDepth 20000 in
theorem gX8_shown_X8_all : GoodIn wsX8_shown (wsV RX8 190 RX8 yX8_all wsX8_all) := goodIn_app (goodIn_of _ (by decide +kernel)) ggX8_shown_X8_all
theorem dX8_shown_0 : decode cX8_shown 0 = .ok (.aload_n 0, 1) := by decide +kernel
theorem dX8_shown_1 : decode cX8_shown 1 = .ok (.iload_n 1, 1) := by decide +kernel
theorem dX8_shown_2 : decode cX8_shown 2 = .ok (.invokevirtual 187, 3) := by decide +kernel
theorem dX8_shown_5 : decode cX8_shown 5 = .ok (.ifCond .ne 5, 3) := by decide +kernel
theorem dX8_shown_8 : decode cX8_shown 8 = .ok (.iconst (-1), 1) := by decide +kernel
theorem dX8_shown_9 : decode cX8_shown 9 = .ok (.ireturn, 1) := by decide +kernel
theorem dX8_shown_10 : decode cX8_shown 10 = .ok (.aload_n 0, 1) := by decide +kernel
theorem dX8_shown_11 : decode cX8_shown 11 = .ok (.invokevirtual 190, 3) := by decide +kernel
theorem dX8_shown_14 : decode cX8_shown 14 = .ok (.aload_n 0, 1) := by decide +kernel
theorem dX8_shown_15 : decode cX8_shown 15 = .ok (.getfield 57, 3) := by decide +kernel
theorem dX8_shown_18 : decode cX8_shown 18 = .ok (.iload_n 1, 1) := by decide +kernel
theorem dX8_shown_19 : decode cX8_shown 19 = .ok (.iaload, 1) := by decide +kernel
theorem dX8_shown_20 : decode cX8_shown 20 = .ok (.ireturn, 1) := by decide +kernel
set_option maxRecDepth 20000 in
theorem ggX8_turned_X8_isStep : GoodIn wsX8_turned wsX8_isStep := goodIn_r _ [7, 8, 9, 10, 6, 11, 75, 76, 77, 78, 79, 80, 81, 82, 83, 84, 85, 86, 87, 88, 89, 90, 91, 92, 93, 94, 95, 96, 97, 98, 99, 100] (by decide +kernel) (by decide +kernel)
set_option maxRecDepth 20000 in
theorem gX8_turned_X8_isStep : GoodIn wsX8_turned (wsV RX8 187 RX8 yX8_isStep wsX8_isStep) := goodIn_app (goodIn_of _ (by decide +kernel)) ggX8_turned_X8_isStep
set_option maxRecDepth 20000 in
theorem ggX8_turned_X8_all : GoodIn wsX8_turned wsX8_all := goodIn_r _ [15, 16, 8, 17, 2, 18, 19, 20, 21, 22, 23, 24, 25, 26, 6, 27, 28, 1, 29, 30, 31, 32, 33, 34, 35, 36, 37, 38, 39, 40, 41, 42, 43, 44, 45, 46, 47, 48, 49, 50, 51, 52, 9, 10, 11, 53, 54, 55, 56, 57, 58, 59, 60, 61, 62, 63, 64, 65, 66, 67, 68, 69, 70, 71, 72, 73, 74, 75, 76, 77, 78, 79, 80, 81, 82, 83, 84, 85, 86, 87, 88, 89, 90, 91, 92, 93, 94, 95, 96, 97, 98, 99, 100] (by decide +kernel) (by decide +kernel)
set_option maxRecDepth 20000 in
theorem gX8_turned_X8_all : GoodIn wsX8_turned (wsV RX8 190 RX8 yX8_all wsX8_all) := goodIn_app (goodIn_of _ (by decide +kernel)) ggX8_turned_X8_all
theorem dX8_turned_0 : decode cX8_turned 0 = .ok (.aload_n 0, 1) := by decide +kernel
theorem dX8_turned_1 : decode cX8_turned 1 = .ok (.iload_n 1, 1) := by decide +kernel
theorem dX8_turned_2 : decode cX8_turned 2 = .ok (.invokevirtual 187, 3) := by decide +kernel
theorem dX8_turned_5 : decode cX8_turned 5 = .ok (.ifCond .eq 14, 3) := by decide +kernel
theorem dX8_turned_8 : decode cX8_turned 8 = .ok (.aload_n 0, 1) := by decide +kernel
theorem dX8_turned_9 : decode cX8_turned 9 = .ok (.getfield 23, 3) := by decide +kernel
theorem dX8_turned_12 : decode cX8_turned 12 = .ok (.iload_n 1, 1) := by decide +kernel
theorem dX8_turned_13 : decode cX8_turned 13 = .ok (.iaload, 1) := by decide +kernel
theorem dX8_turned_14 : decode cX8_turned 14 = .ok (.bipush 7, 2) := by decide +kernel
theorem dX8_turned_16 : decode cX8_turned 16 = .ok (.if_icmp .eq 5, 3) := by decide +kernel
theorem dX8_turned_19 : decode cX8_turned 19 = .ok (.iconst (-1), 1) := by decide +kernel
