set_option maxRecDepth 20000 in
theorem ggL_isWell_X5_count : GoodIn wsL_isWell wsX5_count := goodIn_r _ [5, 6, 7, 8, 9, 10, 11, 12, 13, 14, 15, 16, 17, 18, 19, 20, 21, 22, 23, 24, 25, 26, 27, 4, 28, 29, 30, 31, 32, 33, 34, 35, 36, 37, 38, 39, 40, 41, 42, 43, 44, 45, 46, 47, 48, 49, 50, 51, 194, 195, 196, 197, 198, 199, 200, 201, 202, 203, 204, 205, 206, 207, 208, 209, 210, 211, 212, 213, 214, 215, 216, 217, 218, 219, 220, 221, 222, 223, 224, 225] (by decide +kernel) (by decide +kernel)
set_option maxRecDepth 20000 in
theorem gL_isWell_X5_count : GoodIn wsL_isWell (wsV RL 38 RX5 yX5_count wsX5_count) := goodIn_app (goodIn_of _ (by decide +kernel)) ggL_isWell_X5_count
set_option maxRecDepth 20000 in
theorem ggL_isWell_X5_nextStamps : GoodIn wsL_isWell wsX5_nextStamps := goodIn_r _ [55, 56, 57, 58, 4, 59, 6, 8, 9, 7, 60, 61, 62, 32, 63, 38, 64, 65, 66, 67, 68, 69, 70, 71, 72, 73, 74, 75, 194, 195, 196, 197, 198, 199, 200, 201, 202, 203, 204, 205, 206, 207, 208, 209, 210, 211, 212, 213, 214, 215, 216] (by decide +kernel) (by decide +kernel)
set_option maxRecDepth 20000 in
theorem gL_isWell_X5_nextStamps : GoodIn wsL_isWell (wsV RL 84 RX5 yX5_nextStamps wsX5_nextStamps) := goodIn_app (goodIn_of _ (by decide +kernel)) ggL_isWell_X5_nextStamps
set_option maxRecDepth 20000 in
theorem ggL_isWell_X5_stamped : GoodIn wsL_isWell wsX5_stamped := goodIn_r _ [79, 6, 8, 80, 81, 82, 4, 83, 84, 85, 86, 60, 61, 62, 32, 63, 38, 194, 195, 196, 197, 198, 199, 200, 201, 202, 203, 204, 205, 206, 207, 208, 209, 210, 211, 212, 213, 214, 215, 216] (by decide +kernel) (by decide +kernel)
set_option maxRecDepth 20000 in
theorem gL_isWell_X5_stamped : GoodIn wsL_isWell (wsV RL 72 RX5 yX5_stamped wsX5_stamped) := goodIn_app (goodIn_of _ (by decide +kernel)) ggL_isWell_X5_stamped
set_option maxRecDepth 20000 in
theorem ggL_isWell_X5_row : GoodIn wsL_isWell wsX5_row := goodIn_r _ [90, 6, 8, 71, 9, 81, 82, 4, 83, 91, 35, 36, 32, 37, 38, 39, 40, 41, 42, 43, 44, 45, 92, 93, 94, 95, 96, 97, 98, 99, 26, 27, 28, 72, 73, 74, 75, 194, 195, 196, 197, 198, 199, 200, 201, 202, 203, 204, 205, 206, 207, 208, 209, 210, 211, 212, 213, 214, 215, 216] (by decide +kernel) (by decide +kernel)
set_option maxRecDepth 20000 in
theorem gL_isWell_X5_row : GoodIn wsL_isWell (wsV RL 75 RX5 yX5_row wsX5_row) := goodIn_app (goodIn_of _ (by decide +kernel)) ggL_isWell_X5_row
set_option maxRecDepth 20000 in
theorem ggL_isWell_X5_stamp : GoodIn wsL_isWell wsX5_stamp := goodIn_r _ [103, 6, 21, 104, 105, 106, 8, 107, 84, 85, 4, 86, 108, 109, 110, 32, 111, 112, 61, 62, 63, 38, 194, 195, 196, 197, 198, 199, 200, 201, 202, 203, 204, 205, 206, 207, 208, 209, 210, 211, 212, 222, 223, 224, 225, 213, 214, 215, 216] (by decide +kernel) (by decide +kernel)
set_option maxRecDepth 20000 in
theorem gL_isWell_X5_stamp : GoodIn wsL_isWell (wsV RL 47 RX5 yX5_stamp wsX5_stamp) := goodIn_app (goodIn_of _ (by decide +kernel)) ggL_isWell_X5_stamp
set_option maxRecDepth 20000 in
theorem ggL_isWell_X5_untilJam : GoodIn wsL_isWell wsX5_untilJam := goodIn_r _ [116, 117, 6, 10, 118, 119, 120, 95, 121, 98, 122, 123, 124, 125, 97, 126, 127, 128, 129, 130, 131, 132, 133, 134, 135, 136, 137, 138, 139, 32, 140, 38, 141, 142, 143, 144, 145, 146, 147, 49, 148, 149, 150, 51, 151, 152, 153, 154, 155, 156, 157, 158, 159, 160, 161, 162, 163, 93, 94, 96, 99, 35, 36, 37, 39, 40, 41, 42, 43, 44, 45, 164, 165, 166, 167, 168, 169, 170, 171, 172, 173, 174, 175, 176, 177, 178, 179, 180, 181, 182, 183, 184, 185, 65, 66, 186, 187, 188, 189, 190, 191, 192, 193, 194, 195, 196, 197, 198, 199, 200, 201, 202, 203, 204, 205, 206, 207, 208, 209, 210, 211, 212, 213, 214, 215, 216, 222, 223, 224, 225] (by decide +kernel) (by decide +kernel)
set_option maxRecDepth 20000 in
theorem gL_isWell_X5_untilJam : GoodIn wsL_isWell (wsV RL 81 RX5 yX5_untilJam wsX5_untilJam) := goodIn_app (goodIn_of _ (by decide +kernel)) ggL_isWell_X5_untilJam
theorem dL_isWell_0 : decode cL_isWell 0 = .ok (.iconst 0, 1) := by decide +kernel
theorem dL_isWell_1 : decode cL_isWell 1 = .ok (.istore_n 1, 1) := by decide +kernel
theorem dL_isWell_2 : decode cL_isWell 2 = .ok (.iconst 0, 1) := by decide +kernel
theorem dL_isWell_3 : decode cL_isWell 3 = .ok (.istore_n 2, 1) := by decide +kernel
theorem dL_isWell_4 : decode cL_isWell 4 = .ok (.iconst 0, 1) := by decide +kernel
theorem dL_isWell_5 : decode cL_isWell 5 = .ok (.istore_n 3, 1) := by decide +kernel
theorem dL_isWell_6 : decode cL_isWell 6 = .ok (.aload_n 0, 1) := by decide +kernel
theorem dL_isWell_7 : decode cL_isWell 7 = .ok (.bipush 9, 2) := by decide +kernel
theorem dL_isWell_9 : decode cL_isWell 9 = .ok (.invokevirtual 38, 3) := by decide +kernel
theorem dL_isWell_12 : decode cL_isWell 12 = .ok (.bipush 8, 2) := by decide +kernel
theorem dL_isWell_14 : decode cL_isWell 14 = .ok (.if_icmp .ge 38, 3) := by decide +kernel
theorem dL_isWell_17 : decode cL_isWell 17 = .ok (.aload_n 0, 1) := by decide +kernel
theorem dL_isWell_18 : decode cL_isWell 18 = .ok (.bipush 8, 2) := by decide +kernel
theorem dL_isWell_20 : decode cL_isWell 20 = .ok (.invokevirtual 38, 3) := by decide +kernel
theorem dL_isWell_23 : decode cL_isWell 23 = .ok (.ifCond .eq 12, 3) := by decide +kernel
theorem dL_isWell_26 : decode cL_isWell 26 = .ok (.aload_n 0, 1) := by decide +kernel
theorem dL_isWell_27 : decode cL_isWell 27 = .ok (.bipush 7, 2) := by decide +kernel
theorem dL_isWell_29 : decode cL_isWell 29 = .ok (.invokevirtual 38, 3) := by decide +kernel
theorem dL_isWell_32 : decode cL_isWell 32 = .ok (.ifCond .eq 20, 3) := by decide +kernel
theorem dL_isWell_35 : decode cL_isWell 35 = .ok (.aload_n 0, 1) := by decide +kernel
theorem dL_isWell_36 : decode cL_isWell 36 = .ok (.iconst 0, 1) := by decide +kernel
theorem dL_isWell_37 : decode cL_isWell 37 = .ok (.invokevirtual 84, 3) := by decide +kernel
theorem dL_isWell_40 : decode cL_isWell 40 = .ok (.aload_n 0, 1) := by decide +kernel
theorem dL_isWell_41 : decode cL_isWell 41 = .ok (.iconst 1, 1) := by decide +kernel
theorem dL_isWell_42 : decode cL_isWell 42 = .ok (.invokevirtual 84, 3) := by decide +kernel
theorem dL_isWell_45 : decode cL_isWell 45 = .ok (.if_icmp .ne 7, 3) := by decide +kernel
theorem dL_isWell_48 : decode cL_isWell 48 = .ok (.iconst 1, 1) := by decide +kernel
theorem dL_isWell_49 : decode cL_isWell 49 = .ok (.goto 4, 3) := by decide +kernel
theorem dL_isWell_52 : decode cL_isWell 52 = .ok (.iconst 0, 1) := by decide +kernel
theorem dL_isWell_53 : decode cL_isWell 53 = .ok (.istore 4, 2) := by decide +kernel
theorem dL_isWell_55 : decode cL_isWell 55 = .ok (.iconst 0, 1) := by decide +kernel
theorem dL_isWell_56 : decode cL_isWell 56 = .ok (.istore 5, 2) := by decide +kernel
theorem dL_isWell_58 : decode cL_isWell 58 = .ok (.iload 5, 2) := by decide +kernel
theorem dL_isWell_60 : decode cL_isWell 60 = .ok (.bipush 16, 2) := by decide +kernel
theorem dL_isWell_62 : decode cL_isWell 62 = .ok (.if_icmp .ge 188, 3) := by decide +kernel
theorem dL_isWell_65 : decode cL_isWell 65 = .ok (.iconst 0, 1) := by decide +kernel
theorem dL_isWell_66 : decode cL_isWell 66 = .ok (.istore 6, 2) := by decide +kernel
theorem dL_isWell_68 : decode cL_isWell 68 = .ok (.iconst 0, 1) := by decide +kernel
theorem dL_isWell_69 : decode cL_isWell 69 = .ok (.istore 7, 2) := by decide +kernel
theorem dL_isWell_71 : decode cL_isWell 71 = .ok (.iload 7, 2) := by decide +kernel
theorem dL_isWell_73 : decode cL_isWell 73 = .ok (.bipush 6, 2) := by decide +kernel
theorem dL_isWell_75 : decode cL_isWell 75 = .ok (.if_icmp .ge 91, 3) := by decide +kernel
theorem dL_isWell_78 : decode cL_isWell 78 = .ok (.aload_n 0, 1) := by decide +kernel
theorem dL_isWell_79 : decode cL_isWell 79 = .ok (.iload 5, 2) := by decide +kernel
theorem dL_isWell_81 : decode cL_isWell 81 = .ok (.iload 7, 2) := by decide +kernel
theorem dL_isWell_83 : decode cL_isWell 83 = .ok (.invokevirtual 72, 3) := by decide +kernel
theorem dL_isWell_86 : decode cL_isWell 86 = .ok (.istore 8, 2) := by decide +kernel
theorem dL_isWell_88 : decode cL_isWell 88 = .ok (.iload 6, 2) := by decide +kernel
theorem dL_isWell_90 : decode cL_isWell 90 = .ok (.iload 8, 2) := by decide +kernel
theorem dL_isWell_92 : decode cL_isWell 92 = .ok (.ifCond .lt 7, 3) := by decide +kernel
theorem dL_isWell_95 : decode cL_isWell 95 = .ok (.iconst 1, 1) := by decide +kernel
theorem dL_isWell_96 : decode cL_isWell 96 = .ok (.goto 4, 3) := by decide +kernel
theorem dL_isWell_99 : decode cL_isWell 99 = .ok (.iconst 0, 1) := by decide +kernel
theorem dL_isWell_100 : decode cL_isWell 100 = .ok (.iadd, 1) := by decide +kernel
theorem dL_isWell_101 : decode cL_isWell 101 = .ok (.istore 6, 2) := by decide +kernel
theorem dL_isWell_103 : decode cL_isWell 103 = .ok (.iload 4, 2) := by decide +kernel
theorem dL_isWell_105 : decode cL_isWell 105 = .ok (.ifCond .eq 52, 3) := by decide +kernel
theorem dL_isWell_108 : decode cL_isWell 108 = .ok (.iload 8, 2) := by decide +kernel
theorem dL_isWell_110 : decode cL_isWell 110 = .ok (.ifCond .lt 7, 3) := by decide +kernel
theorem dL_isWell_113 : decode cL_isWell 113 = .ok (.iconst 1, 1) := by decide +kernel
theorem dL_isWell_114 : decode cL_isWell 114 = .ok (.goto 4, 3) := by decide +kernel
theorem dL_isWell_117 : decode cL_isWell 117 = .ok (.iconst 0, 1) := by decide +kernel
theorem dL_isWell_118 : decode cL_isWell 118 = .ok (.aload_n 0, 1) := by decide +kernel
theorem dL_isWell_119 : decode cL_isWell 119 = .ok (.iload 5, 2) := by decide +kernel
theorem dL_isWell_121 : decode cL_isWell 121 = .ok (.iconst 0, 1) := by decide +kernel
theorem dL_isWell_122 : decode cL_isWell 122 = .ok (.invokevirtual 75, 3) := by decide +kernel
theorem dL_isWell_125 : decode cL_isWell 125 = .ok (.iload 7, 2) := by decide +kernel
theorem dL_isWell_127 : decode cL_isWell 127 = .ok (.ishr, 1) := by decide +kernel
theorem dL_isWell_128 : decode cL_isWell 128 = .ok (.iconst 1, 1) := by decide +kernel
theorem dL_isWell_129 : decode cL_isWell 129 = .ok (.iand, 1) := by decide +kernel
theorem dL_isWell_130 : decode cL_isWell 130 = .ok (.iconst 1, 1) := by decide +kernel
theorem dL_isWell_131 : decode cL_isWell 131 = .ok (.if_icmp .ne 7, 3) := by decide +kernel
theorem dL_isWell_134 : decode cL_isWell 134 = .ok (.iconst 1, 1) := by decide +kernel
theorem dL_isWell_135 : decode cL_isWell 135 = .ok (.goto 4, 3) := by decide +kernel
theorem dL_isWell_138 : decode cL_isWell 138 = .ok (.iconst 0, 1) := by decide +kernel
theorem dL_isWell_139 : decode cL_isWell 139 = .ok (.if_icmp .ne 18, 3) := by decide +kernel
theorem dL_isWell_142 : decode cL_isWell 142 = .ok (.iload 8, 2) := by decide +kernel
theorem dL_isWell_144 : decode cL_isWell 144 = .ok (.aload_n 0, 1) := by decide +kernel
theorem dL_isWell_145 : decode cL_isWell 145 = .ok (.bipush 10, 2) := by decide +kernel
theorem dL_isWell_147 : decode cL_isWell 147 = .ok (.invokevirtual 38, 3) := by decide +kernel
theorem dL_isWell_150 : decode cL_isWell 150 = .ok (.if_icmp .gt 7, 3) := by decide +kernel
theorem dL_isWell_153 : decode cL_isWell 153 = .ok (.iconst 1, 1) := by decide +kernel
theorem dL_isWell_154 : decode cL_isWell 154 = .ok (.goto 4, 3) := by decide +kernel
theorem dL_isWell_157 : decode cL_isWell 157 = .ok (.iconst 0, 1) := by decide +kernel
theorem dL_isWell_158 : decode cL_isWell 158 = .ok (.istore 4, 2) := by decide +kernel
theorem dL_isWell_160 : decode cL_isWell 160 = .ok (.iinc 7 1, 3) := by decide +kernel
theorem dL_isWell_163 : decode cL_isWell 163 = .ok (.goto (-92), 3) := by decide +kernel
theorem dL_isWell_166 : decode cL_isWell 166 = .ok (.iload_n 1, 1) := by decide +kernel
theorem dL_isWell_167 : decode cL_isWell 167 = .ok (.iload 6, 2) := by decide +kernel
theorem dL_isWell_169 : decode cL_isWell 169 = .ok (.iadd, 1) := by decide +kernel
theorem dL_isWell_170 : decode cL_isWell 170 = .ok (.istore_n 1, 1) := by decide +kernel
theorem dL_isWell_171 : decode cL_isWell 171 = .ok (.iload 4, 2) := by decide +kernel
theorem dL_isWell_173 : decode cL_isWell 173 = .ok (.ifCond .eq 68, 3) := by decide +kernel
theorem dL_isWell_176 : decode cL_isWell 176 = .ok (.iload 6, 2) := by decide +kernel
theorem dL_isWell_178 : decode cL_isWell 178 = .ok (.aload_n 0, 1) := by decide +kernel
theorem dL_isWell_179 : decode cL_isWell 179 = .ok (.iload 5, 2) := by decide +kernel
theorem dL_isWell_181 : decode cL_isWell 181 = .ok (.iconst 1, 1) := by decide +kernel
theorem dL_isWell_182 : decode cL_isWell 182 = .ok (.invokevirtual 75, 3) := by decide +kernel
theorem dL_isWell_185 : decode cL_isWell 185 = .ok (.if_icmp .ne 56, 3) := by decide +kernel
theorem dL_isWell_188 : decode cL_isWell 188 = .ok (.aload_n 0, 1) := by decide +kernel
theorem dL_isWell_189 : decode cL_isWell 189 = .ok (.iload 5, 2) := by decide +kernel
theorem dL_isWell_191 : decode cL_isWell 191 = .ok (.iconst 2, 1) := by decide +kernel
theorem dL_isWell_192 : decode cL_isWell 192 = .ok (.invokevirtual 75, 3) := by decide +kernel
theorem dL_isWell_195 : decode cL_isWell 195 = .ok (.iload 6, 2) := by decide +kernel
theorem dL_isWell_197 : decode cL_isWell 197 = .ok (.aload_n 0, 1) := by decide +kernel
theorem dL_isWell_198 : decode cL_isWell 198 = .ok (.iconst 3, 1) := by decide +kernel
theorem dL_isWell_199 : decode cL_isWell 199 = .ok (.invokevirtual 38, 3) := by decide +kernel
theorem dL_isWell_202 : decode cL_isWell 202 = .ok (.if_icmp .le 7, 3) := by decide +kernel
theorem dL_isWell_205 : decode cL_isWell 205 = .ok (.iconst 1, 1) := by decide +kernel
theorem dL_isWell_206 : decode cL_isWell 206 = .ok (.goto 4, 3) := by decide +kernel
theorem dL_isWell_209 : decode cL_isWell 209 = .ok (.iconst 0, 1) := by decide +kernel
theorem dL_isWell_210 : decode cL_isWell 210 = .ok (.if_icmp .ne 31, 3) := by decide +kernel
theorem dL_isWell_213 : decode cL_isWell 213 = .ok (.aload_n 0, 1) := by decide +kernel
theorem dL_isWell_214 : decode cL_isWell 214 = .ok (.iload 5, 2) := by decide +kernel
theorem dL_isWell_216 : decode cL_isWell 216 = .ok (.iconst 3, 1) := by decide +kernel
theorem dL_isWell_217 : decode cL_isWell 217 = .ok (.invokevirtual 75, 3) := by decide +kernel
theorem dL_isWell_220 : decode cL_isWell 220 = .ok (.iload 5, 2) := by decide +kernel
theorem dL_isWell_222 : decode cL_isWell 222 = .ok (.aload_n 0, 1) := by decide +kernel
theorem dL_isWell_223 : decode cL_isWell 223 = .ok (.iconst 4, 1) := by decide +kernel
theorem dL_isWell_224 : decode cL_isWell 224 = .ok (.invokevirtual 38, 3) := by decide +kernel
theorem dL_isWell_227 : decode cL_isWell 227 = .ok (.isub, 1) := by decide +kernel
theorem dL_isWell_228 : decode cL_isWell 228 = .ok (.bipush 16, 2) := by decide +kernel
theorem dL_isWell_230 : decode cL_isWell 230 = .ok (.iadd, 1) := by decide +kernel
theorem dL_isWell_231 : decode cL_isWell 231 = .ok (.bipush 16, 2) := by decide +kernel
theorem dL_isWell_233 : decode cL_isWell 233 = .ok (.irem, 1) := by decide +kernel
theorem dL_isWell_234 : decode cL_isWell 234 = .ok (.if_icmp .ne 7, 3) := by decide +kernel
theorem dL_isWell_237 : decode cL_isWell 237 = .ok (.iconst 1, 1) := by decide +kernel
theorem dL_isWell_238 : decode cL_isWell 238 = .ok (.goto 4, 3) := by decide +kernel
theorem dL_isWell_241 : decode cL_isWell 241 = .ok (.iconst 0, 1) := by decide +kernel
theorem dL_isWell_242 : decode cL_isWell 242 = .ok (.istore 4, 2) := by decide +kernel
theorem dL_isWell_244 : decode cL_isWell 244 = .ok (.iinc 5 1, 3) := by decide +kernel
theorem dL_isWell_247 : decode cL_isWell 247 = .ok (.goto (-189), 3) := by decide +kernel
theorem dL_isWell_250 : decode cL_isWell 250 = .ok (.iconst 0, 1) := by decide +kernel
theorem dL_isWell_251 : decode cL_isWell 251 = .ok (.istore 5, 2) := by decide +kernel
theorem dL_isWell_253 : decode cL_isWell 253 = .ok (.iload 5, 2) := by decide +kernel
theorem dL_isWell_255 : decode cL_isWell 255 = .ok (.bipush 6, 2) := by decide +kernel
theorem dL_isWell_257 : decode cL_isWell 257 = .ok (.if_icmp .ge 87, 3) := by decide +kernel
theorem dL_isWell_260 : decode cL_isWell 260 = .ok (.iload_n 2, 1) := by decide +kernel
theorem dL_isWell_261 : decode cL_isWell 261 = .ok (.aload_n 0, 1) := by decide +kernel
theorem dL_isWell_262 : decode cL_isWell 262 = .ok (.iload 5, 2) := by decide +kernel
theorem dL_isWell_264 : decode cL_isWell 264 = .ok (.iconst 1, 1) := by decide +kernel
theorem dL_isWell_265 : decode cL_isWell 265 = .ok (.invokevirtual 47, 3) := by decide +kernel
theorem dL_isWell_268 : decode cL_isWell 268 = .ok (.iadd, 1) := by decide +kernel
theorem dL_isWell_269 : decode cL_isWell 269 = .ok (.istore_n 2, 1) := by decide +kernel
theorem dL_isWell_270 : decode cL_isWell 270 = .ok (.iload_n 3, 1) := by decide +kernel
theorem dL_isWell_271 : decode cL_isWell 271 = .ok (.aload_n 0, 1) := by decide +kernel
theorem dL_isWell_272 : decode cL_isWell 272 = .ok (.iload 5, 2) := by decide +kernel
theorem dL_isWell_274 : decode cL_isWell 274 = .ok (.iconst 3, 1) := by decide +kernel
theorem dL_isWell_275 : decode cL_isWell 275 = .ok (.invokevirtual 47, 3) := by decide +kernel
theorem dL_isWell_278 : decode cL_isWell 278 = .ok (.iadd, 1) := by decide +kernel
theorem dL_isWell_279 : decode cL_isWell 279 = .ok (.istore_n 3, 1) := by decide +kernel
theorem dL_isWell_280 : decode cL_isWell 280 = .ok (.iload 4, 2) := by decide +kernel
theorem dL_isWell_282 : decode cL_isWell 282 = .ok (.ifCond .eq 53, 3) := by decide +kernel
theorem dL_isWell_285 : decode cL_isWell 285 = .ok (.aload_n 0, 1) := by decide +kernel
theorem dL_isWell_286 : decode cL_isWell 286 = .ok (.iload 5, 2) := by decide +kernel
theorem dL_isWell_288 : decode cL_isWell 288 = .ok (.iconst 0, 1) := by decide +kernel
theorem dL_isWell_289 : decode cL_isWell 289 = .ok (.invokevirtual 47, 3) := by decide +kernel
theorem dL_isWell_292 : decode cL_isWell 292 = .ok (.ifCond .lt 43, 3) := by decide +kernel
theorem dL_isWell_295 : decode cL_isWell 295 = .ok (.aload_n 0, 1) := by decide +kernel
theorem dL_isWell_296 : decode cL_isWell 296 = .ok (.iload 5, 2) := by decide +kernel
theorem dL_isWell_298 : decode cL_isWell 298 = .ok (.iconst 0, 1) := by decide +kernel
theorem dL_isWell_299 : decode cL_isWell 299 = .ok (.invokevirtual 47, 3) := by decide +kernel
theorem dL_isWell_302 : decode cL_isWell 302 = .ok (.bipush 99, 2) := by decide +kernel
theorem dL_isWell_304 : decode cL_isWell 304 = .ok (.if_icmp .gt 31, 3) := by decide +kernel
theorem dL_isWell_307 : decode cL_isWell 307 = .ok (.aload_n 0, 1) := by decide +kernel
theorem dL_isWell_308 : decode cL_isWell 308 = .ok (.bipush 7, 2) := by decide +kernel
theorem dL_isWell_310 : decode cL_isWell 310 = .ok (.invokevirtual 38, 3) := by decide +kernel
theorem dL_isWell_313 : decode cL_isWell 313 = .ok (.iload 5, 2) := by decide +kernel
theorem dL_isWell_315 : decode cL_isWell 315 = .ok (.ishr, 1) := by decide +kernel
theorem dL_isWell_316 : decode cL_isWell 316 = .ok (.iconst 1, 1) := by decide +kernel
theorem dL_isWell_317 : decode cL_isWell 317 = .ok (.iand, 1) := by decide +kernel
theorem dL_isWell_318 : decode cL_isWell 318 = .ok (.ifCond .eq 13, 3) := by decide +kernel
theorem dL_isWell_321 : decode cL_isWell 321 = .ok (.aload_n 0, 1) := by decide +kernel
theorem dL_isWell_322 : decode cL_isWell 322 = .ok (.iload 5, 2) := by decide +kernel
theorem dL_isWell_324 : decode cL_isWell 324 = .ok (.iconst 1, 1) := by decide +kernel
theorem dL_isWell_325 : decode cL_isWell 325 = .ok (.invokevirtual 47, 3) := by decide +kernel
theorem dL_isWell_328 : decode cL_isWell 328 = .ok (.ifCond .le 7, 3) := by decide +kernel
theorem dL_isWell_331 : decode cL_isWell 331 = .ok (.iconst 1, 1) := by decide +kernel
theorem dL_isWell_332 : decode cL_isWell 332 = .ok (.goto 4, 3) := by decide +kernel
theorem dL_isWell_335 : decode cL_isWell 335 = .ok (.iconst 0, 1) := by decide +kernel
theorem dL_isWell_336 : decode cL_isWell 336 = .ok (.istore 4, 2) := by decide +kernel
theorem dL_isWell_338 : decode cL_isWell 338 = .ok (.iinc 5 1, 3) := by decide +kernel
theorem dL_isWell_341 : decode cL_isWell 341 = .ok (.goto (-88), 3) := by decide +kernel
theorem dL_isWell_344 : decode cL_isWell 344 = .ok (.aload_n 0, 1) := by decide +kernel
theorem dL_isWell_345 : decode cL_isWell 345 = .ok (.invokevirtual 81, 3) := by decide +kernel
theorem dL_isWell_348 : decode cL_isWell 348 = .ok (.istore 5, 2) := by decide +kernel
theorem dL_isWell_350 : decode cL_isWell 350 = .ok (.iload 4, 2) := by decide +kernel
theorem dL_isWell_352 : decode cL_isWell 352 = .ok (.ifCond .eq 119, 3) := by decide +kernel
theorem dL_isWell_355 : decode cL_isWell 355 = .ok (.iload_n 1, 1) := by decide +kernel
theorem dL_isWell_356 : decode cL_isWell 356 = .ok (.aload_n 0, 1) := by decide +kernel
theorem dL_isWell_357 : decode cL_isWell 357 = .ok (.bipush 15, 2) := by decide +kernel
theorem dL_isWell_359 : decode cL_isWell 359 = .ok (.invokevirtual 38, 3) := by decide +kernel
theorem dL_isWell_362 : decode cL_isWell 362 = .ok (.if_icmp .ne 109, 3) := by decide +kernel
theorem dL_isWell_365 : decode cL_isWell 365 = .ok (.iload_n 3, 1) := by decide +kernel
theorem dL_isWell_366 : decode cL_isWell 366 = .ok (.iload_n 1, 1) := by decide +kernel
theorem dL_isWell_367 : decode cL_isWell 367 = .ok (.if_icmp .ne 104, 3) := by decide +kernel
theorem dL_isWell_370 : decode cL_isWell 370 = .ok (.iload_n 2, 1) := by decide +kernel
theorem dL_isWell_371 : decode cL_isWell 371 = .ok (.aload_n 0, 1) := by decide +kernel
theorem dL_isWell_372 : decode cL_isWell 372 = .ok (.bipush 17, 2) := by decide +kernel
theorem dL_isWell_374 : decode cL_isWell 374 = .ok (.invokevirtual 38, 3) := by decide +kernel
theorem dL_isWell_377 : decode cL_isWell 377 = .ok (.if_icmp .ne 94, 3) := by decide +kernel
theorem dL_isWell_380 : decode cL_isWell 380 = .ok (.iload 5, 2) := by decide +kernel
theorem dL_isWell_382 : decode cL_isWell 382 = .ok (.ifCond .ne 7, 3) := by decide +kernel
theorem dL_isWell_385 : decode cL_isWell 385 = .ok (.iconst 1, 1) := by decide +kernel
theorem dL_isWell_386 : decode cL_isWell 386 = .ok (.goto 4, 3) := by decide +kernel
theorem dL_isWell_389 : decode cL_isWell 389 = .ok (.iconst 0, 1) := by decide +kernel
theorem dL_isWell_390 : decode cL_isWell 390 = .ok (.aload_n 0, 1) := by decide +kernel
theorem dL_isWell_391 : decode cL_isWell 391 = .ok (.iconst 5, 1) := by decide +kernel
theorem dL_isWell_392 : decode cL_isWell 392 = .ok (.invokevirtual 38, 3) := by decide +kernel
theorem dL_isWell_395 : decode cL_isWell 395 = .ok (.iconst 1, 1) := by decide +kernel
theorem dL_isWell_396 : decode cL_isWell 396 = .ok (.if_icmp .eq 17, 3) := by decide +kernel
theorem dL_isWell_399 : decode cL_isWell 399 = .ok (.aload_n 0, 1) := by decide +kernel
theorem dL_isWell_400 : decode cL_isWell 400 = .ok (.aload_n 0, 1) := by decide +kernel
theorem dL_isWell_401 : decode cL_isWell 401 = .ok (.iconst 4, 1) := by decide +kernel
theorem dL_isWell_402 : decode cL_isWell 402 = .ok (.invokevirtual 38, 3) := by decide +kernel
theorem dL_isWell_405 : decode cL_isWell 405 = .ok (.iconst 2, 1) := by decide +kernel
theorem dL_isWell_406 : decode cL_isWell 406 = .ok (.invokevirtual 75, 3) := by decide +kernel
theorem dL_isWell_409 : decode cL_isWell 409 = .ok (.iconst 1, 1) := by decide +kernel
theorem dL_isWell_410 : decode cL_isWell 410 = .ok (.if_icmp .ne 7, 3) := by decide +kernel
theorem dL_isWell_413 : decode cL_isWell 413 = .ok (.iconst 1, 1) := by decide +kernel
theorem dL_isWell_414 : decode cL_isWell 414 = .ok (.goto 4, 3) := by decide +kernel
theorem dL_isWell_417 : decode cL_isWell 417 = .ok (.iconst 0, 1) := by decide +kernel
theorem dL_isWell_418 : decode cL_isWell 418 = .ok (.if_icmp .ne 53, 3) := by decide +kernel
theorem dL_isWell_421 : decode cL_isWell 421 = .ok (.aload_n 0, 1) := by decide +kernel
theorem dL_isWell_422 : decode cL_isWell 422 = .ok (.bipush 11, 2) := by decide +kernel
theorem dL_isWell_424 : decode cL_isWell 424 = .ok (.invokevirtual 38, 3) := by decide +kernel
theorem dL_isWell_427 : decode cL_isWell 427 = .ok (.aload_n 0, 1) := by decide +kernel
theorem dL_isWell_428 : decode cL_isWell 428 = .ok (.bipush 12, 2) := by decide +kernel
theorem dL_isWell_430 : decode cL_isWell 430 = .ok (.invokevirtual 38, 3) := by decide +kernel
theorem dL_isWell_433 : decode cL_isWell 433 = .ok (.iadd, 1) := by decide +kernel
theorem dL_isWell_434 : decode cL_isWell 434 = .ok (.aload_n 0, 1) := by decide +kernel
theorem dL_isWell_435 : decode cL_isWell 435 = .ok (.bipush 13, 2) := by decide +kernel
theorem dL_isWell_437 : decode cL_isWell 437 = .ok (.invokevirtual 38, 3) := by decide +kernel
theorem dL_isWell_440 : decode cL_isWell 440 = .ok (.iadd, 1) := by decide +kernel
theorem dL_isWell_441 : decode cL_isWell 441 = .ok (.aload_n 0, 1) := by decide +kernel
theorem dL_isWell_442 : decode cL_isWell 442 = .ok (.bipush 10, 2) := by decide +kernel
theorem dL_isWell_444 : decode cL_isWell 444 = .ok (.invokevirtual 38, 3) := by decide +kernel
theorem dL_isWell_447 : decode cL_isWell 447 = .ok (.if_icmp .gt 24, 3) := by decide +kernel
theorem dL_isWell_450 : decode cL_isWell 450 = .ok (.aload_n 0, 1) := by decide +kernel
theorem dL_isWell_451 : decode cL_isWell 451 = .ok (.iconst 5, 1) := by decide +kernel
theorem dL_isWell_452 : decode cL_isWell 452 = .ok (.invokevirtual 38, 3) := by decide +kernel
theorem dL_isWell_455 : decode cL_isWell 455 = .ok (.ifCond .eq 12, 3) := by decide +kernel
theorem dL_isWell_458 : decode cL_isWell 458 = .ok (.aload_n 0, 1) := by decide +kernel
theorem dL_isWell_459 : decode cL_isWell 459 = .ok (.bipush 14, 2) := by decide +kernel
theorem dL_isWell_461 : decode cL_isWell 461 = .ok (.invokevirtual 38, 3) := by decide +kernel
theorem dL_isWell_464 : decode cL_isWell 464 = .ok (.ifCond .le 7, 3) := by decide +kernel
theorem dL_isWell_467 : decode cL_isWell 467 = .ok (.iconst 1, 1) := by decide +kernel
theorem dL_isWell_468 : decode cL_isWell 468 = .ok (.goto 4, 3) := by decide +kernel
theorem dL_isWell_471 : decode cL_isWell 471 = .ok (.iconst 0, 1) := by decide +kernel
theorem dL_isWell_472 : decode cL_isWell 472 = .ok (.ireturn, 1) := by decide +kernel
set_option maxRecDepth 20000 in
theorem ggL_law_X5_init : GoodIn wsL_law wsX5_init := goodIn_r _ [5, 6, 7, 8, 9, 10, 11, 12, 13, 14, 15, 16, 17, 18, 19, 20, 21, 22, 23, 24, 25, 26, 27, 28, 29, 30, 31, 32, 33, 34, 35, 36, 37, 38, 39, 40, 41, 42, 43, 44, 45, 46, 47, 48, 49, 50, 51, 52, 53, 54, 55, 56, 57, 58, 59, 378, 379, 380, 381, 382, 383, 384, 385, 386, 387, 388, 389, 390, 372, 373, 374, 375, 376, 377, 391, 392, 393, 394, 395, 396, 397, 398, 399, 400, 401, 402, 403] (by decide +kernel) (by decide +kernel)
set_option maxRecDepth 20000 in
theorem gL_law_X5_init : GoodIn wsL_law (wsX5_init) := ggL_law_X5_init
set_option maxRecDepth 20000 in
theorem ggL_law_L_cell : GoodIn wsL_law wsL_cell := goodIn_r _ [63, 64] (by decide +kernel) (by decide +kernel)
set_option maxRecDepth 20000 in
theorem gL_law_L_cell : GoodIn wsL_law (va_wsS RL 94 yL_cell wsL_cell) := goodIn_app (goodIn_of _ (by decide +kernel)) ggL_law_L_cell
set_option maxRecDepth 20000 in
theorem ggL_law_L_isStep : GoodIn wsL_law wsL_isStep := goodIn_r _ [67, 68, 69, 62, 70, 71, 72, 73, 74, 2, 75, 12, 76, 77, 78, 79, 80, 81, 82, 83, 84, 85, 86, 87, 88, 89, 90, 21, 91, 17, 92, 93, 94, 95, 96, 97, 98, 32, 99, 100, 101, 102, 103, 41, 104, 105, 106, 107, 108, 109, 110, 111, 112, 113, 36, 114, 47, 115, 116, 117, 118, 119, 120, 121, 122, 123, 16, 124, 54, 125, 126, 127, 128, 129, 130, 131, 132, 133, 11, 134, 29, 135, 136, 137, 138, 33, 37, 139, 140, 141, 142, 143, 144, 145, 146, 147, 148, 149, 150, 151, 152, 153, 42, 154, 155, 156, 157, 158, 159, 46, 160, 48, 49, 161, 162, 163, 164, 165, 166, 167, 168, 169, 170, 171, 172, 173, 174, 175, 176, 177, 178, 179, 180, 181, 182, 183, 184, 185, 186, 187, 188, 189, 190, 191, 192, 193, 194, 195, 196, 197, 198, 199, 200, 201, 202, 203, 204, 205, 206, 207, 208, 209, 210, 211, 212, 213, 22, 24, 214, 215, 216, 217, 218, 219, 220, 221, 222, 223, 224, 225, 226, 227, 228, 229, 230, 231, 20, 232, 233, 234, 235, 236, 237, 238, 239, 240, 241, 242, 243, 244, 245, 59, 246, 247, 248, 249, 250, 251, 252, 253, 254, 255, 256, 257, 258, 259, 260, 261, 262, 263, 264, 265, 266, 267, 268, 269, 270, 271, 272, 273, 274, 275, 276, 277, 278, 279, 280, 281, 282, 283, 284, 285, 286, 287, 288, 289, 290, 291, 292, 293, 294, 295, 296, 297, 298, 299, 300, 301, 302, 303, 304, 305, 306, 307, 308, 309, 310, 311, 312, 313, 314, 315, 316, 317, 318, 319, 320, 321, 322, 323, 324, 325, 326, 327, 328, 329, 330, 331, 332, 333, 334, 335, 372, 373, 374, 375, 376, 377, 378, 379, 380, 381, 382, 383, 384, 385, 386, 387, 388, 389, 390, 396, 397, 398, 399, 394, 395, 391, 392, 393, 400, 401, 402, 403] rfl (by decide +kernel)
set_option maxRecDepth 20000 in
theorem gL_law_L_isStep : GoodIn wsL_law (va_wsS RL 98 yL_isStep wsL_isStep) := goodIn_app (goodIn_of _ (by decide +kernel)) ggL_law_L_isStep
set_option maxRecDepth 20000 in
theorem ggL_law_L_isWell : GoodIn wsL_law wsL_isWell := goodIn_r _ [338, 72, 73, 74, 2, 75, 12, 76, 77, 78, 79, 80, 81, 82, 83, 84, 85, 86, 87, 88, 89, 90, 21, 91, 17, 92, 93, 94, 95, 96, 97, 98, 32, 99, 100, 101, 102, 103, 41, 104, 105, 106, 107, 108, 109, 110, 111, 112, 113, 36, 114, 47, 339, 340, 341, 342, 343, 344, 345, 346, 319, 184, 185, 186, 347, 200, 201, 348, 349, 350, 351, 324, 327, 328, 329, 330, 313, 314, 315, 316, 317, 318, 264, 265, 176, 177, 178, 320, 321, 322, 323, 325, 326, 286, 287, 11, 288, 33, 29, 289, 168, 169, 170, 171, 172, 173, 174, 175, 179, 180, 181, 182, 183, 352, 353, 354, 355, 13, 214, 132, 133, 134, 135, 136, 137, 138, 37, 139, 140, 141, 142, 143, 144, 145, 146, 147, 148, 149, 150, 151, 152, 153, 42, 154, 155, 156, 157, 158, 159, 46, 160, 48, 49, 275, 276, 277, 278, 279, 280, 281, 282, 283, 284, 285, 290, 291, 292, 293, 294, 295, 296, 297, 298, 299, 300, 301, 302, 303, 304, 305, 306, 307, 196, 197, 198, 199, 308, 309, 310, 311, 312, 207, 208, 209, 372, 373, 374, 375, 376, 377, 378, 379, 380, 381, 382, 383, 384, 385, 386, 387, 388, 389, 390, 396, 397, 398, 399, 394, 395, 391, 392, 393, 400, 401, 402, 403] rfl (by decide +kernel)
set_option maxRecDepth 20000 in
theorem gL_law_L_isWell : GoodIn wsL_law (va_wsS RL 101 yL_isWell wsL_isWell) := goodIn_app (goodIn_of _ (by decide +kernel)) ggL_law_L_isWell
set_option maxRecDepth 20000 in
theorem ggL_law_L_areAlike : GoodIn wsL_law wsL_areAlike := goodIn_r _ [358, 68, 69, 62, 70, 71, 352, 353, 354, 2, 355, 13, 12, 79, 214, 132, 133, 11, 134, 29, 135, 136, 137, 138, 33, 37, 139, 140, 141, 142, 143, 144, 145, 146, 147, 148, 149, 150, 151, 32, 152, 41, 153, 42, 154, 155, 156, 157, 158, 36, 159, 46, 160, 47, 48, 49, 275, 276, 277, 278, 279, 280, 281, 282, 283, 284, 285, 286, 287, 288, 289, 101, 102, 103, 104, 105, 106, 107, 108, 109, 110, 290, 291, 292, 293, 294, 295, 296, 297, 298, 299, 300, 301, 302, 303, 304, 305, 306, 307, 196, 197, 198, 199, 200, 201, 308, 309, 310, 311, 312, 207, 208, 209, 339, 340, 341, 342, 343, 344, 345, 346, 77, 78, 76, 319, 184, 185, 186, 347, 348, 349, 350, 351, 324, 327, 328, 329, 330, 165, 166, 167, 359, 360, 361, 362, 85, 86, 87, 90, 111, 112, 113, 114, 72, 73, 74, 75, 80, 81, 82, 83, 84, 88, 89, 21, 91, 17, 92, 93, 94, 95, 96, 97, 98, 99, 100, 320, 321, 322, 323, 318, 264, 265, 325, 326, 313, 314, 315, 316, 317, 176, 177, 178, 168, 169, 170, 171, 172, 173, 174, 175, 179, 180, 181, 182, 183, 363, 364, 365, 366, 367, 368, 369, 370, 371, 335, 267, 268, 269, 372, 373, 374, 375, 376, 377, 378, 379, 380, 381, 382, 383, 384, 385, 386, 387, 388, 389, 390, 396, 397, 398, 399, 400, 401, 402, 403, 394, 395, 391, 392, 393] rfl (by decide +kernel)
set_option maxRecDepth 20000 in
theorem gL_law_L_areAlike : GoodIn wsL_law (va_wsS RL 105 yL_areAlike wsL_areAlike) := goodIn_app (goodIn_of _ (by decide +kernel)) ggL_law_L_areAlike
theorem dL_law_0 : decode cL_law 0 = .ok (.new 10, 3) := by decide +kernel
theorem dL_law_3 : decode cL_law 3 = .ok (.dup, 1) := by decide +kernel
theorem dL_law_4 : decode cL_law 4 = .ok (.invokespecial 93, 3) := by decide +kernel
theorem dL_law_7 : decode cL_law 7 = .ok (.astore_n 1, 1) := by decide +kernel
theorem dL_law_8 : decode cL_law 8 = .ok (.new 10, 3) := by decide +kernel
theorem dL_law_11 : decode cL_law 11 = .ok (.dup, 1) := by decide +kernel
theorem dL_law_12 : decode cL_law 12 = .ok (.invokespecial 93, 3) := by decide +kernel
theorem dL_law_15 : decode cL_law 15 = .ok (.astore_n 2, 1) := by decide +kernel
theorem dL_law_16 : decode cL_law 16 = .ok (.iconst 1, 1) := by decide +kernel
theorem dL_law_17 : decode cL_law 17 = .ok (.istore_n 3, 1) := by decide +kernel
theorem dL_law_18 : decode cL_law 18 = .ok (.iconst 0, 1) := by decide +kernel
theorem dL_law_19 : decode cL_law 19 = .ok (.istore 4, 2) := by decide +kernel
theorem dL_law_21 : decode cL_law 21 = .ok (.iload 4, 2) := by decide +kernel
theorem dL_law_23 : decode cL_law 23 = .ok (.bipush 60, 2) := by decide +kernel
theorem dL_law_25 : decode cL_law 25 = .ok (.if_icmp .ge 57, 3) := by decide +kernel
theorem dL_law_28 : decode cL_law 28 = .ok (.iload_n 3, 1) := by decide +kernel
theorem dL_law_29 : decode cL_law 29 = .ok (.ifCond .eq 53, 3) := by decide +kernel
theorem dL_law_32 : decode cL_law 32 = .ok (.aload_n 1, 1) := by decide +kernel
theorem dL_law_33 : decode cL_law 33 = .ok (.aload_n 2, 1) := by decide +kernel
theorem dL_law_34 : decode cL_law 34 = .ok (.aload_n 0, 1) := by decide +kernel
theorem dL_law_35 : decode cL_law 35 = .ok (.iload 4, 2) := by decide +kernel
theorem dL_law_37 : decode cL_law 37 = .ok (.invokestatic 94, 3) := by decide +kernel
theorem dL_law_40 : decode cL_law 40 = .ok (.aload_n 0, 1) := by decide +kernel
theorem dL_law_41 : decode cL_law 41 = .ok (.iload 4, 2) := by decide +kernel
theorem dL_law_43 : decode cL_law 43 = .ok (.iconst 1, 1) := by decide +kernel
theorem dL_law_44 : decode cL_law 44 = .ok (.iadd, 1) := by decide +kernel
theorem dL_law_45 : decode cL_law 45 = .ok (.invokestatic 94, 3) := by decide +kernel
theorem dL_law_48 : decode cL_law 48 = .ok (.iconst 2, 1) := by decide +kernel
theorem dL_law_49 : decode cL_law 49 = .ok (.ishr, 1) := by decide +kernel
theorem dL_law_50 : decode cL_law 50 = .ok (.invokestatic 98, 3) := by decide +kernel
theorem dL_law_53 : decode cL_law 53 = .ok (.ifCond .eq 21, 3) := by decide +kernel
theorem dL_law_56 : decode cL_law 56 = .ok (.iload 4, 2) := by decide +kernel
theorem dL_law_58 : decode cL_law 58 = .ok (.iconst 3, 1) := by decide +kernel
theorem dL_law_59 : decode cL_law 59 = .ok (.irem, 1) := by decide +kernel
theorem dL_law_60 : decode cL_law 60 = .ok (.ifCond .gt 10, 3) := by decide +kernel
theorem dL_law_63 : decode cL_law 63 = .ok (.aload_n 1, 1) := by decide +kernel
theorem dL_law_64 : decode cL_law 64 = .ok (.invokestatic 101, 3) := by decide +kernel
theorem dL_law_67 : decode cL_law 67 = .ok (.ifCond .eq 7, 3) := by decide +kernel
theorem dL_law_70 : decode cL_law 70 = .ok (.iconst 1, 1) := by decide +kernel
theorem dL_law_71 : decode cL_law 71 = .ok (.goto 4, 3) := by decide +kernel
theorem dL_law_74 : decode cL_law 74 = .ok (.iconst 0, 1) := by decide +kernel
theorem dL_law_75 : decode cL_law 75 = .ok (.istore_n 3, 1) := by decide +kernel
theorem dL_law_76 : decode cL_law 76 = .ok (.iinc 4 1, 3) := by decide +kernel
theorem dL_law_79 : decode cL_law 79 = .ok (.goto (-58), 3) := by decide +kernel
theorem dL_law_82 : decode cL_law 82 = .ok (.iload_n 3, 1) := by decide +kernel
theorem dL_law_83 : decode cL_law 83 = .ok (.ifCond .eq 28, 3) := by decide +kernel
theorem dL_law_86 : decode cL_law 86 = .ok (.aload_n 1, 1) := by decide +kernel
theorem dL_law_87 : decode cL_law 87 = .ok (.invokestatic 101, 3) := by decide +kernel
theorem dL_law_90 : decode cL_law 90 = .ok (.ifCond .eq 21, 3) := by decide +kernel
theorem dL_law_93 : decode cL_law 93 = .ok (.aload_n 1, 1) := by decide +kernel
theorem dL_law_94 : decode cL_law 94 = .ok (.aload_n 2, 1) := by decide +kernel
theorem dL_law_95 : decode cL_law 95 = .ok (.aload_n 0, 1) := by decide +kernel
theorem dL_law_96 : decode cL_law 96 = .ok (.bipush 60, 2) := by decide +kernel
theorem dL_law_98 : decode cL_law 98 = .ok (.invokestatic 94, 3) := by decide +kernel
theorem dL_law_101 : decode cL_law 101 = .ok (.invokestatic 105, 3) := by decide +kernel
theorem dL_law_104 : decode cL_law 104 = .ok (.ifCond .eq 7, 3) := by decide +kernel
theorem dL_law_107 : decode cL_law 107 = .ok (.iconst 1, 1) := by decide +kernel
theorem dL_law_108 : decode cL_law 108 = .ok (.goto 4, 3) := by decide +kernel
theorem dL_law_111 : decode cL_law 111 = .ok (.iconst 0, 1) := by decide +kernel
theorem dL_law_112 : decode cL_law 112 = .ok (.ireturn, 1) := by decide +kernel
abbrev vwCl : List vw_C := [(RX0, TX0, 13), (RX1, TX1, 4), (RX2, TX2, 3), (RX3, TX3, 2), (RX4, TX4, 4), (RX5, TX5, 6)]

