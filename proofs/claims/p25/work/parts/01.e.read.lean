theorem dL_cell_0 : decode cL_cell 0 = .ok (.iload_n 1, 1) := by decide +kernel
theorem dL_cell_1 : decode cL_cell 1 = .ok (.aload_n 0, 1) := by decide +kernel
theorem dL_cell_2 : decode cL_cell 2 = .ok (.arraylength, 1) := by decide +kernel
theorem dL_cell_3 : decode cL_cell 3 = .ok (.if_icmp .ge 9, 3) := by decide +kernel
theorem dL_cell_6 : decode cL_cell 6 = .ok (.aload_n 0, 1) := by decide +kernel
theorem dL_cell_7 : decode cL_cell 7 = .ok (.iload_n 1, 1) := by decide +kernel
theorem dL_cell_8 : decode cL_cell 8 = .ok (.iaload, 1) := by decide +kernel
theorem dL_cell_9 : decode cL_cell 9 = .ok (.goto 11, 3) := by decide +kernel
theorem dL_cell_12 : decode cL_cell 12 = .ok (.ldc 7, 2) := by decide +kernel
theorem dL_cell_14 : decode cL_cell 14 = .ok (.iload_n 1, 1) := by decide +kernel
theorem dL_cell_15 : decode cL_cell 15 = .ok (.sipush 1453, 3) := by decide +kernel
theorem dL_cell_18 : decode cL_cell 18 = .ok (.iadd, 1) := by decide +kernel
theorem dL_cell_19 : decode cL_cell 19 = .ok (.imul, 1) := by decide +kernel
theorem dL_cell_20 : decode cL_cell 20 = .ok (.ireturn, 1) := by decide +kernel
theorem dL_up_0 : decode cL_up 0 = .ok (.iload_n 0, 1) := by decide +kernel
theorem dL_up_1 : decode cL_up 1 = .ok (.ldc 8, 2) := by decide +kernel
theorem dL_up_3 : decode cL_up 3 = .ok (.iand, 1) := by decide +kernel
theorem dL_up_4 : decode cL_up 4 = .ok (.iload_n 1, 1) := by decide +kernel
theorem dL_up_5 : decode cL_up 5 = .ok (.irem, 1) := by decide +kernel
theorem dL_up_6 : decode cL_up 6 = .ok (.ireturn, 1) := by decide +kernel
theorem dL_turned_0 : decode cL_turned 0 = .ok (.iconst 0, 1) := by decide +kernel
theorem dL_turned_1 : decode cL_turned 1 = .ok (.istore_n 1, 1) := by decide +kernel
theorem dL_turned_2 : decode cL_turned 2 = .ok (.iconst 0, 1) := by decide +kernel
theorem dL_turned_3 : decode cL_turned 3 = .ok (.istore_n 2, 1) := by decide +kernel
theorem dL_turned_4 : decode cL_turned 4 = .ok (.iload_n 2, 1) := by decide +kernel
theorem dL_turned_5 : decode cL_turned 5 = .ok (.bipush 6, 2) := by decide +kernel
theorem dL_turned_7 : decode cL_turned 7 = .ok (.if_icmp .ge 21, 3) := by decide +kernel
theorem dL_turned_10 : decode cL_turned 10 = .ok (.iload_n 1, 1) := by decide +kernel
theorem dL_turned_11 : decode cL_turned 11 = .ok (.iload_n 0, 1) := by decide +kernel
theorem dL_turned_12 : decode cL_turned 12 = .ok (.iload_n 2, 1) := by decide +kernel
theorem dL_turned_13 : decode cL_turned 13 = .ok (.ishr, 1) := by decide +kernel
theorem dL_turned_14 : decode cL_turned 14 = .ok (.iconst 1, 1) := by decide +kernel
theorem dL_turned_15 : decode cL_turned 15 = .ok (.iand, 1) := by decide +kernel
theorem dL_turned_16 : decode cL_turned 16 = .ok (.iconst 5, 1) := by decide +kernel
theorem dL_turned_17 : decode cL_turned 17 = .ok (.iload_n 2, 1) := by decide +kernel
theorem dL_turned_18 : decode cL_turned 18 = .ok (.isub, 1) := by decide +kernel
theorem dL_turned_19 : decode cL_turned 19 = .ok (.ishl, 1) := by decide +kernel
theorem dL_turned_20 : decode cL_turned 20 = .ok (.ior, 1) := by decide +kernel
theorem dL_turned_21 : decode cL_turned 21 = .ok (.istore_n 1, 1) := by decide +kernel
theorem dL_turned_22 : decode cL_turned 22 = .ok (.iinc 2 1, 3) := by decide +kernel
theorem dL_turned_25 : decode cL_turned 25 = .ok (.goto (-21), 3) := by decide +kernel
theorem dL_turned_28 : decode cL_turned 28 = .ok (.iload_n 1, 1) := by decide +kernel
theorem dL_turned_29 : decode cL_turned 29 = .ok (.ireturn, 1) := by decide +kernel
set_option maxRecDepth 20000 in
theorem ggL_isRead_X5_wipe : GoodIn wsL_isRead wsX5_wipe := goodIn_r _ [8, 9, 10, 11, 12, 13, 14, 15, 16, 166, 167, 168, 169, 170, 171, 172, 173] (by decide +kernel) (by decide +kernel)
set_option maxRecDepth 20000 in
theorem gL_isRead_X5_wipe : GoodIn wsL_isRead (wsV RL 9 RX5 yX5_wipe wsX5_wipe) := goodIn_app (goodIn_of _ (by decide +kernel)) ggL_isRead_X5_wipe
set_option maxRecDepth 20000 in
theorem ggL_isRead_L_up : GoodIn wsL_isRead wsL_up := goodIn_r _ [20, 21] (by decide +kernel) (by decide +kernel)
set_option maxRecDepth 20000 in
theorem gL_isRead_L_up : GoodIn wsL_isRead (va_wsS RL 15 yL_up wsL_up) := goodIn_app (goodIn_of _ (by decide +kernel)) ggL_isRead_L_up
set_option maxRecDepth 20000 in
theorem ggL_isRead_X5_put : GoodIn wsL_isRead wsX5_put := goodIn_r _ [25, 9, 10, 26, 27, 14, 28, 29, 30, 31, 32, 33, 34, 16, 166, 167, 168, 169, 170, 171, 172, 173] (by decide +kernel) (by decide +kernel)
set_option maxRecDepth 20000 in
theorem gL_isRead_X5_put : GoodIn wsL_isRead (wsV RL 23 RX5 yX5_put wsX5_put) := goodIn_app (goodIn_of _ (by decide +kernel)) ggL_isRead_X5_put
set_option maxRecDepth 20000 in
theorem ggL_isRead_L_turned : GoodIn wsL_isRead wsL_turned := goodIn_r _ [37] (by decide +kernel) (by decide +kernel)
set_option maxRecDepth 20000 in
theorem gL_isRead_L_turned : GoodIn wsL_isRead (va_wsS RL 31 yL_turned wsL_turned) := goodIn_app (goodIn_of _ (by decide +kernel)) ggL_isRead_L_turned
set_option maxRecDepth 20000 in
theorem ggL_isRead_X5_read : GoodIn wsL_isRead wsX5_read := goodIn_r _ [41, 9, 42, 43, 44, 45, 46, 47, 14, 48, 16, 34, 49, 50, 51, 52, 53, 54, 55, 7, 56, 57, 58, 59, 60, 61, 62, 63, 64, 65, 66, 67, 68, 69, 70, 71, 72, 73, 74, 75, 76, 77, 78, 79, 80, 81, 82, 83, 84, 85, 86, 87, 88, 89, 90, 91, 92, 93, 94, 95, 96, 97, 98, 99, 100, 101, 102, 103, 104, 105, 106, 107, 108, 109, 110, 111, 112, 113, 114, 115, 116, 117, 118, 119, 120, 121, 122, 123, 124, 11, 12, 13, 15, 125, 126, 127, 128, 129, 130, 131, 132, 133, 134, 135, 136, 137, 138, 139, 166, 167, 168, 169, 170, 171, 174, 175, 176, 177, 178, 179, 180, 181, 182, 183, 184, 185, 186, 172, 173, 187, 188, 189, 190, 191, 192, 193, 194, 195, 196, 197] (by decide +kernel) (by decide +kernel)
set_option maxRecDepth 20000 in
theorem gL_isRead_X5_read : GoodIn wsL_isRead (wsV RL 35 RX5 yX5_read wsX5_read) := goodIn_app (goodIn_of _ (by decide +kernel)) ggL_isRead_X5_read
set_option maxRecDepth 20000 in
theorem ggL_isRead_X5_count : GoodIn wsL_isRead wsX5_count := goodIn_r _ [143, 43, 144, 44, 145, 146, 147, 148, 149, 150, 151, 152, 153, 154, 155, 156, 157, 9, 10, 42, 158, 159, 160, 7, 161, 125, 126, 127, 94, 128, 129, 130, 131, 132, 96, 133, 134, 135, 136, 137, 138, 139, 162, 163, 164, 104, 165, 108, 166, 167, 168, 169, 170, 171, 174, 175, 176, 177, 178, 179, 180, 181, 182, 183, 184, 185, 186, 190, 191, 192, 193, 172, 173, 187, 188, 189, 194, 195, 196, 197] (by decide +kernel) (by decide +kernel)
set_option maxRecDepth 20000 in
theorem gL_isRead_X5_count : GoodIn wsL_isRead (wsV RL 38 RX5 yX5_count wsX5_count) := goodIn_app (goodIn_of _ (by decide +kernel)) ggL_isRead_X5_count
theorem dL_isRead_0 : decode cL_isRead 0 = .ok (.aload_n 0, 1) := by decide +kernel
theorem dL_isRead_1 : decode cL_isRead 1 = .ok (.invokevirtual 9, 3) := by decide +kernel
theorem dL_isRead_4 : decode cL_isRead 4 = .ok (.ifCond .lt 14, 3) := by decide +kernel
theorem dL_isRead_7 : decode cL_isRead 7 = .ok (.aload_n 1, 1) := by decide +kernel
theorem dL_isRead_8 : decode cL_isRead 8 = .ok (.invokevirtual 9, 3) := by decide +kernel
theorem dL_isRead_11 : decode cL_isRead 11 = .ok (.ifCond .lt 7, 3) := by decide +kernel
theorem dL_isRead_14 : decode cL_isRead 14 = .ok (.iconst 1, 1) := by decide +kernel
theorem dL_isRead_15 : decode cL_isRead 15 = .ok (.goto 4, 3) := by decide +kernel
theorem dL_isRead_18 : decode cL_isRead 18 = .ok (.iconst 0, 1) := by decide +kernel
theorem dL_isRead_19 : decode cL_isRead 19 = .ok (.istore 4, 2) := by decide +kernel
theorem dL_isRead_21 : decode cL_isRead 21 = .ok (.iconst 1, 1) := by decide +kernel
theorem dL_isRead_22 : decode cL_isRead 22 = .ok (.iload_n 2, 1) := by decide +kernel
theorem dL_isRead_23 : decode cL_isRead 23 = .ok (.iconst 5, 1) := by decide +kernel
theorem dL_isRead_24 : decode cL_isRead 24 = .ok (.invokestatic 15, 3) := by decide +kernel
theorem dL_isRead_27 : decode cL_isRead 27 = .ok (.iadd, 1) := by decide +kernel
theorem dL_isRead_28 : decode cL_isRead 28 = .ok (.istore 5, 2) := by decide +kernel
theorem dL_isRead_30 : decode cL_isRead 30 = .ok (.iconst 0, 1) := by decide +kernel
theorem dL_isRead_31 : decode cL_isRead 31 = .ok (.istore 6, 2) := by decide +kernel
theorem dL_isRead_33 : decode cL_isRead 33 = .ok (.iload 6, 2) := by decide +kernel
theorem dL_isRead_35 : decode cL_isRead 35 = .ok (.iload 5, 2) := by decide +kernel
theorem dL_isRead_37 : decode cL_isRead 37 = .ok (.if_icmp .ge 251, 3) := by decide +kernel
theorem dL_isRead_40 : decode cL_isRead 40 = .ok (.iload_n 2, 1) := by decide +kernel
theorem dL_isRead_41 : decode cL_isRead 41 = .ok (.iconst 2, 1) := by decide +kernel
theorem dL_isRead_42 : decode cL_isRead 42 = .ok (.iload 6, 2) := by decide +kernel
theorem dL_isRead_44 : decode cL_isRead 44 = .ok (.imul, 1) := by decide +kernel
theorem dL_isRead_45 : decode cL_isRead 45 = .ok (.ishr, 1) := by decide +kernel
theorem dL_isRead_46 : decode cL_isRead 46 = .ok (.iload_n 3, 1) := by decide +kernel
theorem dL_isRead_47 : decode cL_isRead 47 = .ok (.iload 6, 2) := by decide +kernel
theorem dL_isRead_49 : decode cL_isRead 49 = .ok (.ishr, 1) := by decide +kernel
theorem dL_isRead_50 : decode cL_isRead 50 = .ok (.ixor, 1) := by decide +kernel
theorem dL_isRead_51 : decode cL_isRead 51 = .ok (.istore 7, 2) := by decide +kernel
theorem dL_isRead_53 : decode cL_isRead 53 = .ok (.iload 7, 2) := by decide +kernel
theorem dL_isRead_55 : decode cL_isRead 55 = .ok (.bipush 16, 2) := by decide +kernel
theorem dL_isRead_57 : decode cL_isRead 57 = .ok (.invokestatic 15, 3) := by decide +kernel
theorem dL_isRead_60 : decode cL_isRead 60 = .ok (.istore 8, 2) := by decide +kernel
theorem dL_isRead_62 : decode cL_isRead 62 = .ok (.iload 7, 2) := by decide +kernel
theorem dL_isRead_64 : decode cL_isRead 64 = .ok (.iconst 4, 1) := by decide +kernel
theorem dL_isRead_65 : decode cL_isRead 65 = .ok (.ishr, 1) := by decide +kernel
theorem dL_isRead_66 : decode cL_isRead 66 = .ok (.iload 7, 2) := by decide +kernel
theorem dL_isRead_68 : decode cL_isRead 68 = .ok (.bipush 10, 2) := by decide +kernel
theorem dL_isRead_70 : decode cL_isRead 70 = .ok (.ishr, 1) := by decide +kernel
theorem dL_isRead_71 : decode cL_isRead 71 = .ok (.iconst 3, 1) := by decide +kernel
theorem dL_isRead_72 : decode cL_isRead 72 = .ok (.invokestatic 15, 3) := by decide +kernel
theorem dL_isRead_75 : decode cL_isRead 75 = .ok (.ifCond .ne 8, 3) := by decide +kernel
theorem dL_isRead_78 : decode cL_isRead 78 = .ok (.bipush 64, 2) := by decide +kernel
theorem dL_isRead_80 : decode cL_isRead 80 = .ok (.goto 4, 3) := by decide +kernel
theorem dL_isRead_83 : decode cL_isRead 83 = .ok (.iconst 5, 1) := by decide +kernel
theorem dL_isRead_84 : decode cL_isRead 84 = .ok (.invokestatic 15, 3) := by decide +kernel
theorem dL_isRead_87 : decode cL_isRead 87 = .ok (.istore 9, 2) := by decide +kernel
theorem dL_isRead_89 : decode cL_isRead 89 = .ok (.iload 4, 2) := by decide +kernel
theorem dL_isRead_91 : decode cL_isRead 91 = .ok (.ifCond .eq 111, 3) := by decide +kernel
theorem dL_isRead_94 : decode cL_isRead 94 = .ok (.iload 6, 2) := by decide +kernel
theorem dL_isRead_96 : decode cL_isRead 96 = .ok (.ifCond .eq 23, 3) := by decide +kernel
theorem dL_isRead_99 : decode cL_isRead 99 = .ok (.aload_n 0, 1) := by decide +kernel
theorem dL_isRead_100 : decode cL_isRead 100 = .ok (.ldc2_w 21, 3) := by decide +kernel
theorem dL_isRead_103 : decode cL_isRead 103 = .ok (.invokevirtual 23, 3) := by decide +kernel
theorem dL_isRead_106 : decode cL_isRead 106 = .ok (.ifCond .le 96, 3) := by decide +kernel
theorem dL_isRead_109 : decode cL_isRead 109 = .ok (.aload_n 1, 1) := by decide +kernel
theorem dL_isRead_110 : decode cL_isRead 110 = .ok (.ldc2_w 21, 3) := by decide +kernel
theorem dL_isRead_113 : decode cL_isRead 113 = .ok (.invokevirtual 23, 3) := by decide +kernel
theorem dL_isRead_116 : decode cL_isRead 116 = .ok (.ifCond .le 86, 3) := by decide +kernel
theorem dL_isRead_119 : decode cL_isRead 119 = .ok (.iload 8, 2) := by decide +kernel
theorem dL_isRead_121 : decode cL_isRead 121 = .ok (.bipush 10, 2) := by decide +kernel
theorem dL_isRead_123 : decode cL_isRead 123 = .ok (.if_icmp .lt 23, 3) := by decide +kernel
theorem dL_isRead_126 : decode cL_isRead 126 = .ok (.aload_n 0, 1) := by decide +kernel
theorem dL_isRead_127 : decode cL_isRead 127 = .ok (.ldc2_w 27, 3) := by decide +kernel
theorem dL_isRead_130 : decode cL_isRead 130 = .ok (.invokevirtual 23, 3) := by decide +kernel
theorem dL_isRead_133 : decode cL_isRead 133 = .ok (.ifCond .le 69, 3) := by decide +kernel
theorem dL_isRead_136 : decode cL_isRead 136 = .ok (.aload_n 1, 1) := by decide +kernel
theorem dL_isRead_137 : decode cL_isRead 137 = .ok (.ldc2_w 27, 3) := by decide +kernel
theorem dL_isRead_140 : decode cL_isRead 140 = .ok (.invokevirtual 23, 3) := by decide +kernel
theorem dL_isRead_143 : decode cL_isRead 143 = .ok (.ifCond .le 59, 3) := by decide +kernel
theorem dL_isRead_146 : decode cL_isRead 146 = .ok (.aload_n 0, 1) := by decide +kernel
theorem dL_isRead_147 : decode cL_isRead 147 = .ok (.bipush 48, 2) := by decide +kernel
theorem dL_isRead_149 : decode cL_isRead 149 = .ok (.iload 8, 2) := by decide +kernel
theorem dL_isRead_151 : decode cL_isRead 151 = .ok (.bipush 10, 2) := by decide +kernel
theorem dL_isRead_153 : decode cL_isRead 153 = .ok (.irem, 1) := by decide +kernel
theorem dL_isRead_154 : decode cL_isRead 154 = .ok (.iadd, 1) := by decide +kernel
theorem dL_isRead_155 : decode cL_isRead 155 = .ok (.i2l, 1) := by decide +kernel
theorem dL_isRead_156 : decode cL_isRead 156 = .ok (.invokevirtual 23, 3) := by decide +kernel
theorem dL_isRead_159 : decode cL_isRead 159 = .ok (.ifCond .le 43, 3) := by decide +kernel
theorem dL_isRead_162 : decode cL_isRead 162 = .ok (.aload_n 1, 1) := by decide +kernel
theorem dL_isRead_163 : decode cL_isRead 163 = .ok (.bipush 48, 2) := by decide +kernel
theorem dL_isRead_165 : decode cL_isRead 165 = .ok (.iload 8, 2) := by decide +kernel
theorem dL_isRead_167 : decode cL_isRead 167 = .ok (.bipush 10, 2) := by decide +kernel
theorem dL_isRead_169 : decode cL_isRead 169 = .ok (.irem, 1) := by decide +kernel
theorem dL_isRead_170 : decode cL_isRead 170 = .ok (.iadd, 1) := by decide +kernel
theorem dL_isRead_171 : decode cL_isRead 171 = .ok (.i2l, 1) := by decide +kernel
theorem dL_isRead_172 : decode cL_isRead 172 = .ok (.invokevirtual 23, 3) := by decide +kernel
theorem dL_isRead_175 : decode cL_isRead 175 = .ok (.ifCond .le 27, 3) := by decide +kernel
theorem dL_isRead_178 : decode cL_isRead 178 = .ok (.aload_n 0, 1) := by decide +kernel
theorem dL_isRead_179 : decode cL_isRead 179 = .ok (.ldc2_w 29, 3) := by decide +kernel
theorem dL_isRead_182 : decode cL_isRead 182 = .ok (.invokevirtual 23, 3) := by decide +kernel
theorem dL_isRead_185 : decode cL_isRead 185 = .ok (.ifCond .le 17, 3) := by decide +kernel
theorem dL_isRead_188 : decode cL_isRead 188 = .ok (.aload_n 1, 1) := by decide +kernel
theorem dL_isRead_189 : decode cL_isRead 189 = .ok (.ldc2_w 29, 3) := by decide +kernel
theorem dL_isRead_192 : decode cL_isRead 192 = .ok (.invokevirtual 23, 3) := by decide +kernel
theorem dL_isRead_195 : decode cL_isRead 195 = .ok (.ifCond .le 7, 3) := by decide +kernel
theorem dL_isRead_198 : decode cL_isRead 198 = .ok (.iconst 1, 1) := by decide +kernel
theorem dL_isRead_199 : decode cL_isRead 199 = .ok (.goto 4, 3) := by decide +kernel
theorem dL_isRead_202 : decode cL_isRead 202 = .ok (.iconst 0, 1) := by decide +kernel
theorem dL_isRead_203 : decode cL_isRead 203 = .ok (.istore 4, 2) := by decide +kernel
theorem dL_isRead_205 : decode cL_isRead 205 = .ok (.iconst 0, 1) := by decide +kernel
theorem dL_isRead_206 : decode cL_isRead 206 = .ok (.istore 10, 2) := by decide +kernel
theorem dL_isRead_208 : decode cL_isRead 208 = .ok (.iload 10, 2) := by decide +kernel
theorem dL_isRead_210 : decode cL_isRead 210 = .ok (.bipush 6, 2) := by decide +kernel
theorem dL_isRead_212 : decode cL_isRead 212 = .ok (.if_icmp .ge 70, 3) := by decide +kernel
theorem dL_isRead_215 : decode cL_isRead 215 = .ok (.iload 4, 2) := by decide +kernel
theorem dL_isRead_217 : decode cL_isRead 217 = .ok (.ifCond .eq 56, 3) := by decide +kernel
theorem dL_isRead_220 : decode cL_isRead 220 = .ok (.iload 9, 2) := by decide +kernel
theorem dL_isRead_222 : decode cL_isRead 222 = .ok (.iload 10, 2) := by decide +kernel
theorem dL_isRead_224 : decode cL_isRead 224 = .ok (.ishr, 1) := by decide +kernel
theorem dL_isRead_225 : decode cL_isRead 225 = .ok (.iconst 1, 1) := by decide +kernel
theorem dL_isRead_226 : decode cL_isRead 226 = .ok (.iand, 1) := by decide +kernel
theorem dL_isRead_227 : decode cL_isRead 227 = .ok (.ifCond .eq 16, 3) := by decide +kernel
theorem dL_isRead_230 : decode cL_isRead 230 = .ok (.aload_n 0, 1) := by decide +kernel
theorem dL_isRead_231 : decode cL_isRead 231 = .ok (.bipush 48, 2) := by decide +kernel
theorem dL_isRead_233 : decode cL_isRead 233 = .ok (.iload 10, 2) := by decide +kernel
theorem dL_isRead_235 : decode cL_isRead 235 = .ok (.iadd, 1) := by decide +kernel
theorem dL_isRead_236 : decode cL_isRead 236 = .ok (.i2l, 1) := by decide +kernel
theorem dL_isRead_237 : decode cL_isRead 237 = .ok (.invokevirtual 23, 3) := by decide +kernel
theorem dL_isRead_240 : decode cL_isRead 240 = .ok (.ifCond .le 33, 3) := by decide +kernel
theorem dL_isRead_243 : decode cL_isRead 243 = .ok (.iload 9, 2) := by decide +kernel
theorem dL_isRead_245 : decode cL_isRead 245 = .ok (.invokestatic 31, 3) := by decide +kernel
theorem dL_isRead_248 : decode cL_isRead 248 = .ok (.iload 10, 2) := by decide +kernel
theorem dL_isRead_250 : decode cL_isRead 250 = .ok (.ishr, 1) := by decide +kernel
theorem dL_isRead_251 : decode cL_isRead 251 = .ok (.iconst 1, 1) := by decide +kernel
theorem dL_isRead_252 : decode cL_isRead 252 = .ok (.iand, 1) := by decide +kernel
theorem dL_isRead_253 : decode cL_isRead 253 = .ok (.ifCond .eq 16, 3) := by decide +kernel
theorem dL_isRead_256 : decode cL_isRead 256 = .ok (.aload_n 1, 1) := by decide +kernel
theorem dL_isRead_257 : decode cL_isRead 257 = .ok (.bipush 48, 2) := by decide +kernel
theorem dL_isRead_259 : decode cL_isRead 259 = .ok (.iload 10, 2) := by decide +kernel
theorem dL_isRead_261 : decode cL_isRead 261 = .ok (.iadd, 1) := by decide +kernel
theorem dL_isRead_262 : decode cL_isRead 262 = .ok (.i2l, 1) := by decide +kernel
theorem dL_isRead_263 : decode cL_isRead 263 = .ok (.invokevirtual 23, 3) := by decide +kernel
theorem dL_isRead_266 : decode cL_isRead 266 = .ok (.ifCond .le 7, 3) := by decide +kernel
theorem dL_isRead_269 : decode cL_isRead 269 = .ok (.iconst 1, 1) := by decide +kernel
theorem dL_isRead_270 : decode cL_isRead 270 = .ok (.goto 4, 3) := by decide +kernel
theorem dL_isRead_273 : decode cL_isRead 273 = .ok (.iconst 0, 1) := by decide +kernel
theorem dL_isRead_274 : decode cL_isRead 274 = .ok (.istore 4, 2) := by decide +kernel
theorem dL_isRead_276 : decode cL_isRead 276 = .ok (.iinc 10 1, 3) := by decide +kernel
theorem dL_isRead_279 : decode cL_isRead 279 = .ok (.goto (-71), 3) := by decide +kernel
theorem dL_isRead_282 : decode cL_isRead 282 = .ok (.iinc 6 1, 3) := by decide +kernel
theorem dL_isRead_285 : decode cL_isRead 285 = .ok (.goto (-252), 3) := by decide +kernel
theorem dL_isRead_288 : decode cL_isRead 288 = .ok (.aload_n 0, 1) := by decide +kernel
theorem dL_isRead_289 : decode cL_isRead 289 = .ok (.invokevirtual 35, 3) := by decide +kernel
theorem dL_isRead_292 : decode cL_isRead 292 = .ok (.istore 6, 2) := by decide +kernel
theorem dL_isRead_294 : decode cL_isRead 294 = .ok (.iload 4, 2) := by decide +kernel
theorem dL_isRead_296 : decode cL_isRead 296 = .ok (.ifCond .eq 36, 3) := by decide +kernel
theorem dL_isRead_299 : decode cL_isRead 299 = .ok (.iload 6, 2) := by decide +kernel
theorem dL_isRead_301 : decode cL_isRead 301 = .ok (.aload_n 1, 1) := by decide +kernel
theorem dL_isRead_302 : decode cL_isRead 302 = .ok (.invokevirtual 35, 3) := by decide +kernel
theorem dL_isRead_305 : decode cL_isRead 305 = .ok (.if_icmp .ne 27, 3) := by decide +kernel
theorem dL_isRead_308 : decode cL_isRead 308 = .ok (.iload 6, 2) := by decide +kernel
theorem dL_isRead_310 : decode cL_isRead 310 = .ok (.aload_n 0, 1) := by decide +kernel
theorem dL_isRead_311 : decode cL_isRead 311 = .ok (.bipush 15, 2) := by decide +kernel
theorem dL_isRead_313 : decode cL_isRead 313 = .ok (.invokevirtual 38, 3) := by decide +kernel
theorem dL_isRead_316 : decode cL_isRead 316 = .ok (.if_icmp .ne 16, 3) := by decide +kernel
theorem dL_isRead_319 : decode cL_isRead 319 = .ok (.aload_n 0, 1) := by decide +kernel
theorem dL_isRead_320 : decode cL_isRead 320 = .ok (.bipush 18, 2) := by decide +kernel
theorem dL_isRead_322 : decode cL_isRead 322 = .ok (.invokevirtual 38, 3) := by decide +kernel
theorem dL_isRead_325 : decode cL_isRead 325 = .ok (.ifCond .ne 7, 3) := by decide +kernel
theorem dL_isRead_328 : decode cL_isRead 328 = .ok (.iconst 1, 1) := by decide +kernel
theorem dL_isRead_329 : decode cL_isRead 329 = .ok (.goto 4, 3) := by decide +kernel
theorem dL_isRead_332 : decode cL_isRead 332 = .ok (.iconst 0, 1) := by decide +kernel
theorem dL_isRead_333 : decode cL_isRead 333 = .ok (.ireturn, 1) := by decide +kernel
