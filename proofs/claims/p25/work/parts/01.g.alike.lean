set_option maxRecDepth 20000 in
theorem ggL_areAlike_L_up : GoodIn wsL_areAlike wsL_up := goodIn_r _ [4, 5] (by decide +kernel) (by decide +kernel)
set_option maxRecDepth 20000 in
theorem gL_areAlike_L_up : GoodIn wsL_areAlike (va_wsS RL 15 yL_up wsL_up) := goodIn_app (goodIn_of _ (by decide +kernel)) ggL_areAlike_L_up
set_option maxRecDepth 20000 in
theorem ggL_areAlike_X5_untilJam : GoodIn wsL_areAlike wsX5_untilJam := goodIn_r _ [10, 11, 12, 13, 14, 15, 16, 17, 18, 19, 20, 21, 22, 23, 24, 25, 26, 27, 28, 29, 30, 31, 32, 33, 34, 35, 36, 37, 38, 39, 40, 41, 42, 43, 44, 45, 46, 47, 48, 49, 50, 51, 52, 53, 54, 55, 56, 57, 58, 59, 60, 61, 62, 63, 64, 65, 66, 67, 68, 69, 70, 71, 72, 73, 74, 75, 76, 77, 78, 79, 80, 81, 82, 83, 84, 85, 86, 87, 88, 89, 90, 91, 92, 93, 94, 95, 96, 97, 98, 99, 100, 101, 102, 103, 104, 105, 106, 107, 108, 109, 110, 111, 112, 219, 220, 221, 222, 223, 224, 225, 226, 227, 228, 229, 230, 231, 232, 233, 234, 235, 236, 237, 238, 239, 240, 241, 242, 243, 244, 245] (by decide +kernel) (by decide +kernel)
set_option maxRecDepth 20000 in
theorem gL_areAlike_X5_untilJam : GoodIn wsL_areAlike (wsV RL 81 RX5 yX5_untilJam wsX5_untilJam) := goodIn_app (goodIn_of _ (by decide +kernel)) ggL_areAlike_X5_untilJam
set_option maxRecDepth 20000 in
theorem ggL_areAlike_X5_nextStamps : GoodIn wsL_areAlike wsX5_nextStamps := goodIn_r _ [116, 117, 118, 119, 9, 120, 12, 121, 122, 123, 124, 125, 126, 39, 127, 41, 128, 103, 104, 129, 130, 131, 132, 133, 134, 135, 136, 137, 219, 220, 221, 222, 223, 224, 225, 226, 227, 228, 229, 230, 231, 232, 233, 234, 235, 236, 237, 238, 239, 240, 241] (by decide +kernel) (by decide +kernel)
set_option maxRecDepth 20000 in
theorem gL_areAlike_X5_nextStamps : GoodIn wsL_areAlike (wsV RL 84 RX5 yX5_nextStamps wsX5_nextStamps) := goodIn_app (goodIn_of _ (by decide +kernel)) ggL_areAlike_X5_nextStamps
set_option maxRecDepth 20000 in
theorem ggL_areAlike_L_turned : GoodIn wsL_areAlike wsL_turned := goodIn_r _ [140] (by decide +kernel) (by decide +kernel)
set_option maxRecDepth 20000 in
theorem gL_areAlike_L_turned : GoodIn wsL_areAlike (va_wsS RL 31 yL_turned wsL_turned) := goodIn_app (goodIn_of _ (by decide +kernel)) ggL_areAlike_L_turned
set_option maxRecDepth 20000 in
theorem ggL_areAlike_X5_ifStepped : GoodIn wsL_areAlike wsX5_ifStepped := goodIn_r _ [144, 11, 12, 145, 146, 147, 148, 14, 15, 16, 17, 18, 19, 20, 21, 22, 23, 24, 25, 26, 27, 28, 29, 30, 31, 32, 33, 34, 35, 36, 37, 38, 39, 40, 41, 42, 43, 44, 45, 46, 47, 48, 49, 50, 51, 52, 53, 54, 55, 56, 57, 58, 59, 60, 61, 62, 63, 64, 65, 66, 67, 68, 69, 70, 71, 72, 73, 74, 75, 76, 77, 78, 79, 80, 81, 82, 83, 84, 85, 86, 87, 88, 89, 90, 91, 92, 93, 94, 95, 96, 97, 98, 99, 100, 101, 102, 103, 104, 105, 106, 107, 108, 109, 110, 111, 112, 149, 150, 151, 152, 219, 220, 221, 222, 223, 224, 225, 226, 227, 228, 229, 230, 231, 232, 233, 234, 235, 236, 237, 238, 239, 240, 241, 242, 243, 244, 245] (by decide +kernel) (by decide +kernel)
set_option maxRecDepth 20000 in
theorem gL_areAlike_X5_ifStepped : GoodIn wsL_areAlike (wsV RL 87 RX5 yX5_ifStepped wsX5_ifStepped) := goodIn_app (goodIn_of _ (by decide +kernel)) ggL_areAlike_X5_ifStepped
set_option maxRecDepth 20000 in
theorem ggL_areAlike_X5_count : GoodIn wsL_areAlike wsX5_count := goodIn_r _ [156, 12, 123, 121, 122, 13, 157, 158, 159, 160, 161, 145, 146, 147, 162, 163, 148, 164, 165, 166, 167, 168, 169, 9, 170, 171, 172, 173, 39, 174, 175, 71, 72, 73, 41, 74, 75, 76, 77, 78, 79, 80, 149, 150, 151, 49, 152, 53, 219, 220, 221, 222, 223, 224, 225, 226, 227, 228, 229, 230, 231, 232, 233, 234, 235, 236, 237, 238, 239, 240, 241, 246, 247, 248, 249, 250, 242, 243, 244, 245] (by decide +kernel) (by decide +kernel)
set_option maxRecDepth 20000 in
theorem gL_areAlike_X5_count : GoodIn wsL_areAlike (wsV RL 38 RX5 yX5_count wsX5_count) := goodIn_app (goodIn_of _ (by decide +kernel)) ggL_areAlike_X5_count
set_option maxRecDepth 20000 in
theorem ggL_areAlike_X5_row : GoodIn wsL_areAlike wsX5_row := goodIn_r _ [179, 12, 121, 133, 122, 180, 181, 9, 182, 183, 71, 72, 39, 73, 41, 74, 75, 76, 77, 78, 79, 80, 184, 67, 68, 17, 69, 24, 19, 70, 168, 169, 170, 134, 135, 136, 137, 219, 220, 221, 222, 223, 224, 225, 226, 227, 228, 229, 230, 231, 232, 233, 234, 235, 236, 237, 238, 239, 240, 241] (by decide +kernel) (by decide +kernel)
set_option maxRecDepth 20000 in
theorem gL_areAlike_X5_row : GoodIn wsL_areAlike (wsV RL 75 RX5 yX5_row wsX5_row) := goodIn_app (goodIn_of _ (by decide +kernel)) ggL_areAlike_X5_row
set_option maxRecDepth 20000 in
theorem ggL_areAlike_X5_stamped : GoodIn wsL_areAlike wsX5_stamped := goodIn_r _ [188, 12, 121, 189, 180, 181, 9, 182, 190, 191, 192, 124, 125, 126, 39, 127, 41, 219, 220, 221, 222, 223, 224, 225, 226, 227, 228, 229, 230, 231, 232, 233, 234, 235, 236, 237, 238, 239, 240, 241] (by decide +kernel) (by decide +kernel)
set_option maxRecDepth 20000 in
theorem gL_areAlike_X5_stamped : GoodIn wsL_areAlike (wsV RL 72 RX5 yX5_stamped wsX5_stamped) := goodIn_app (goodIn_of _ (by decide +kernel)) ggL_areAlike_X5_stamped
set_option maxRecDepth 20000 in
theorem ggL_areAlike_X5_stamp : GoodIn wsL_areAlike wsX5_stamp := goodIn_r _ [196, 12, 148, 197, 198, 199, 121, 200, 190, 191, 9, 192, 201, 202, 203, 39, 204, 205, 125, 126, 127, 41, 219, 220, 221, 222, 223, 224, 225, 226, 227, 228, 229, 230, 231, 232, 233, 234, 235, 236, 237, 242, 243, 244, 245, 238, 239, 240, 241] (by decide +kernel) (by decide +kernel)
set_option maxRecDepth 20000 in
theorem gL_areAlike_X5_stamp : GoodIn wsL_areAlike (wsV RL 47 RX5 yX5_stamp wsX5_stamp) := goodIn_app (goodIn_of _ (by decide +kernel)) ggL_areAlike_X5_stamp
set_option maxRecDepth 20000 in
theorem ggL_areAlike_X5_bestOut : GoodIn wsL_areAlike wsX5_bestOut := goodIn_r _ [209, 12, 121, 133, 210, 142, 143, 9, 144, 11, 145, 146, 147, 148, 14, 15, 16, 17, 18, 19, 20, 21, 22, 23, 24, 25, 26, 27, 28, 29, 30, 31, 32, 33, 34, 35, 36, 37, 38, 39, 40, 41, 42, 43, 44, 45, 46, 47, 48, 49, 50, 51, 52, 53, 54, 55, 56, 57, 58, 59, 60, 61, 62, 63, 64, 65, 66, 67, 68, 69, 70, 71, 72, 73, 74, 75, 76, 77, 78, 79, 80, 81, 82, 83, 84, 85, 86, 87, 88, 89, 90, 91, 92, 93, 94, 95, 96, 97, 98, 99, 100, 101, 102, 103, 104, 105, 106, 107, 108, 109, 110, 111, 112, 149, 150, 151, 152, 124, 125, 126, 127, 211, 212, 213, 214, 215, 216, 217, 218, 205, 219, 220, 221, 222, 223, 224, 225, 226, 227, 228, 229, 230, 231, 232, 233, 234, 235, 236, 237, 238, 239, 240, 241, 242, 243, 244, 245] (by decide +kernel) (by decide +kernel)
set_option maxRecDepth 20000 in
theorem gL_areAlike_X5_bestOut : GoodIn wsL_areAlike (wsV RL 90 RX5 yX5_bestOut wsX5_bestOut) := goodIn_app (goodIn_of _ (by decide +kernel)) ggL_areAlike_X5_bestOut
theorem dL_areAlike_0 : decode cL_areAlike 0 = .ok (.iconst 1, 1) := by decide +kernel
theorem dL_areAlike_1 : decode cL_areAlike 1 = .ok (.iload_n 2, 1) := by decide +kernel
theorem dL_areAlike_2 : decode cL_areAlike 2 = .ok (.sipush 500, 3) := by decide +kernel
theorem dL_areAlike_5 : decode cL_areAlike 5 = .ok (.invokestatic 15, 3) := by decide +kernel
theorem dL_areAlike_8 : decode cL_areAlike 8 = .ok (.iadd, 1) := by decide +kernel
theorem dL_areAlike_9 : decode cL_areAlike 9 = .ok (.istore_n 3, 1) := by decide +kernel
theorem dL_areAlike_10 : decode cL_areAlike 10 = .ok (.aload_n 0, 1) := by decide +kernel
theorem dL_areAlike_11 : decode cL_areAlike 11 = .ok (.invokevirtual 81, 3) := by decide +kernel
theorem dL_areAlike_14 : decode cL_areAlike 14 = .ok (.aload_n 1, 1) := by decide +kernel
theorem dL_areAlike_15 : decode cL_areAlike 15 = .ok (.invokevirtual 81, 3) := by decide +kernel
theorem dL_areAlike_18 : decode cL_areAlike 18 = .ok (.if_icmp .ne 23, 3) := by decide +kernel
theorem dL_areAlike_21 : decode cL_areAlike 21 = .ok (.aload_n 0, 1) := by decide +kernel
theorem dL_areAlike_22 : decode cL_areAlike 22 = .ok (.iconst 0, 1) := by decide +kernel
theorem dL_areAlike_23 : decode cL_areAlike 23 = .ok (.invokevirtual 84, 3) := by decide +kernel
theorem dL_areAlike_26 : decode cL_areAlike 26 = .ok (.invokestatic 31, 3) := by decide +kernel
theorem dL_areAlike_29 : decode cL_areAlike 29 = .ok (.aload_n 1, 1) := by decide +kernel
theorem dL_areAlike_30 : decode cL_areAlike 30 = .ok (.iconst 1, 1) := by decide +kernel
theorem dL_areAlike_31 : decode cL_areAlike 31 = .ok (.invokevirtual 84, 3) := by decide +kernel
theorem dL_areAlike_34 : decode cL_areAlike 34 = .ok (.if_icmp .ne 7, 3) := by decide +kernel
theorem dL_areAlike_37 : decode cL_areAlike 37 = .ok (.iconst 1, 1) := by decide +kernel
theorem dL_areAlike_38 : decode cL_areAlike 38 = .ok (.goto 4, 3) := by decide +kernel
theorem dL_areAlike_41 : decode cL_areAlike 41 = .ok (.iconst 0, 1) := by decide +kernel
theorem dL_areAlike_42 : decode cL_areAlike 42 = .ok (.istore 4, 2) := by decide +kernel
theorem dL_areAlike_44 : decode cL_areAlike 44 = .ok (.iconst 0, 1) := by decide +kernel
theorem dL_areAlike_45 : decode cL_areAlike 45 = .ok (.istore 5, 2) := by decide +kernel
theorem dL_areAlike_47 : decode cL_areAlike 47 = .ok (.iload 5, 2) := by decide +kernel
theorem dL_areAlike_49 : decode cL_areAlike 49 = .ok (.iconst 5, 1) := by decide +kernel
theorem dL_areAlike_50 : decode cL_areAlike 50 = .ok (.if_icmp .ge 38, 3) := by decide +kernel
theorem dL_areAlike_53 : decode cL_areAlike 53 = .ok (.iload 4, 2) := by decide +kernel
theorem dL_areAlike_55 : decode cL_areAlike 55 = .ok (.ifCond .eq 24, 3) := by decide +kernel
theorem dL_areAlike_58 : decode cL_areAlike 58 = .ok (.aload_n 0, 1) := by decide +kernel
theorem dL_areAlike_59 : decode cL_areAlike 59 = .ok (.iload_n 3, 1) := by decide +kernel
theorem dL_areAlike_60 : decode cL_areAlike 60 = .ok (.iload 5, 2) := by decide +kernel
theorem dL_areAlike_62 : decode cL_areAlike 62 = .ok (.invokevirtual 87, 3) := by decide +kernel
theorem dL_areAlike_65 : decode cL_areAlike 65 = .ok (.aload_n 1, 1) := by decide +kernel
theorem dL_areAlike_66 : decode cL_areAlike 66 = .ok (.iload_n 3, 1) := by decide +kernel
theorem dL_areAlike_67 : decode cL_areAlike 67 = .ok (.iload 5, 2) := by decide +kernel
theorem dL_areAlike_69 : decode cL_areAlike 69 = .ok (.invokevirtual 87, 3) := by decide +kernel
theorem dL_areAlike_72 : decode cL_areAlike 72 = .ok (.if_icmp .ne 7, 3) := by decide +kernel
theorem dL_areAlike_75 : decode cL_areAlike 75 = .ok (.iconst 1, 1) := by decide +kernel
theorem dL_areAlike_76 : decode cL_areAlike 76 = .ok (.goto 4, 3) := by decide +kernel
theorem dL_areAlike_79 : decode cL_areAlike 79 = .ok (.iconst 0, 1) := by decide +kernel
theorem dL_areAlike_80 : decode cL_areAlike 80 = .ok (.istore 4, 2) := by decide +kernel
theorem dL_areAlike_82 : decode cL_areAlike 82 = .ok (.iinc 5 1, 3) := by decide +kernel
theorem dL_areAlike_85 : decode cL_areAlike 85 = .ok (.goto (-38), 3) := by decide +kernel
theorem dL_areAlike_88 : decode cL_areAlike 88 = .ok (.iconst 0, 1) := by decide +kernel
theorem dL_areAlike_89 : decode cL_areAlike 89 = .ok (.istore 5, 2) := by decide +kernel
theorem dL_areAlike_91 : decode cL_areAlike 91 = .ok (.iload 5, 2) := by decide +kernel
theorem dL_areAlike_93 : decode cL_areAlike 93 = .ok (.bipush 18, 2) := by decide +kernel
theorem dL_areAlike_95 : decode cL_areAlike 95 = .ok (.if_icmp .ge 71, 3) := by decide +kernel
theorem dL_areAlike_98 : decode cL_areAlike 98 = .ok (.iload 4, 2) := by decide +kernel
theorem dL_areAlike_100 : decode cL_areAlike 100 = .ok (.ifCond .eq 57, 3) := by decide +kernel
theorem dL_areAlike_103 : decode cL_areAlike 103 = .ok (.iload 5, 2) := by decide +kernel
theorem dL_areAlike_105 : decode cL_areAlike 105 = .ok (.bipush 6, 2) := by decide +kernel
theorem dL_areAlike_107 : decode cL_areAlike 107 = .ok (.if_icmp .eq 10, 3) := by decide +kernel
theorem dL_areAlike_110 : decode cL_areAlike 110 = .ok (.iload 5, 2) := by decide +kernel
theorem dL_areAlike_112 : decode cL_areAlike 112 = .ok (.bipush 7, 2) := by decide +kernel
theorem dL_areAlike_114 : decode cL_areAlike 114 = .ok (.if_icmp .ne 24, 3) := by decide +kernel
theorem dL_areAlike_117 : decode cL_areAlike 117 = .ok (.aload_n 0, 1) := by decide +kernel
theorem dL_areAlike_118 : decode cL_areAlike 118 = .ok (.iload 5, 2) := by decide +kernel
theorem dL_areAlike_120 : decode cL_areAlike 120 = .ok (.invokevirtual 38, 3) := by decide +kernel
theorem dL_areAlike_123 : decode cL_areAlike 123 = .ok (.invokestatic 31, 3) := by decide +kernel
theorem dL_areAlike_126 : decode cL_areAlike 126 = .ok (.aload_n 1, 1) := by decide +kernel
theorem dL_areAlike_127 : decode cL_areAlike 127 = .ok (.iload 5, 2) := by decide +kernel
theorem dL_areAlike_129 : decode cL_areAlike 129 = .ok (.invokevirtual 38, 3) := by decide +kernel
theorem dL_areAlike_132 : decode cL_areAlike 132 = .ok (.if_icmp .ne 25, 3) := by decide +kernel
theorem dL_areAlike_135 : decode cL_areAlike 135 = .ok (.goto 18, 3) := by decide +kernel
theorem dL_areAlike_138 : decode cL_areAlike 138 = .ok (.aload_n 0, 1) := by decide +kernel
theorem dL_areAlike_139 : decode cL_areAlike 139 = .ok (.iload 5, 2) := by decide +kernel
theorem dL_areAlike_141 : decode cL_areAlike 141 = .ok (.invokevirtual 38, 3) := by decide +kernel
theorem dL_areAlike_144 : decode cL_areAlike 144 = .ok (.aload_n 1, 1) := by decide +kernel
theorem dL_areAlike_145 : decode cL_areAlike 145 = .ok (.iload 5, 2) := by decide +kernel
theorem dL_areAlike_147 : decode cL_areAlike 147 = .ok (.invokevirtual 38, 3) := by decide +kernel
theorem dL_areAlike_150 : decode cL_areAlike 150 = .ok (.if_icmp .ne 7, 3) := by decide +kernel
theorem dL_areAlike_153 : decode cL_areAlike 153 = .ok (.iconst 1, 1) := by decide +kernel
theorem dL_areAlike_154 : decode cL_areAlike 154 = .ok (.goto 4, 3) := by decide +kernel
theorem dL_areAlike_157 : decode cL_areAlike 157 = .ok (.iconst 0, 1) := by decide +kernel
theorem dL_areAlike_158 : decode cL_areAlike 158 = .ok (.istore 4, 2) := by decide +kernel
theorem dL_areAlike_160 : decode cL_areAlike 160 = .ok (.iinc 5 1, 3) := by decide +kernel
theorem dL_areAlike_163 : decode cL_areAlike 163 = .ok (.goto (-72), 3) := by decide +kernel
theorem dL_areAlike_166 : decode cL_areAlike 166 = .ok (.iconst 0, 1) := by decide +kernel
theorem dL_areAlike_167 : decode cL_areAlike 167 = .ok (.istore 5, 2) := by decide +kernel
theorem dL_areAlike_169 : decode cL_areAlike 169 = .ok (.iload 5, 2) := by decide +kernel
theorem dL_areAlike_171 : decode cL_areAlike 171 = .ok (.bipush 16, 2) := by decide +kernel
theorem dL_areAlike_173 : decode cL_areAlike 173 = .ok (.if_icmp .ge 168, 3) := by decide +kernel
theorem dL_areAlike_176 : decode cL_areAlike 176 = .ok (.iload 4, 2) := by decide +kernel
theorem dL_areAlike_178 : decode cL_areAlike 178 = .ok (.ifCond .eq 78, 3) := by decide +kernel
theorem dL_areAlike_181 : decode cL_areAlike 181 = .ok (.aload_n 0, 1) := by decide +kernel
theorem dL_areAlike_182 : decode cL_areAlike 182 = .ok (.iload 5, 2) := by decide +kernel
theorem dL_areAlike_184 : decode cL_areAlike 184 = .ok (.iconst 0, 1) := by decide +kernel
theorem dL_areAlike_185 : decode cL_areAlike 185 = .ok (.invokevirtual 75, 3) := by decide +kernel
theorem dL_areAlike_188 : decode cL_areAlike 188 = .ok (.invokestatic 31, 3) := by decide +kernel
theorem dL_areAlike_191 : decode cL_areAlike 191 = .ok (.aload_n 1, 1) := by decide +kernel
theorem dL_areAlike_192 : decode cL_areAlike 192 = .ok (.iload 5, 2) := by decide +kernel
theorem dL_areAlike_194 : decode cL_areAlike 194 = .ok (.iconst 0, 1) := by decide +kernel
theorem dL_areAlike_195 : decode cL_areAlike 195 = .ok (.invokevirtual 75, 3) := by decide +kernel
theorem dL_areAlike_198 : decode cL_areAlike 198 = .ok (.if_icmp .ne 58, 3) := by decide +kernel
theorem dL_areAlike_201 : decode cL_areAlike 201 = .ok (.aload_n 0, 1) := by decide +kernel
theorem dL_areAlike_202 : decode cL_areAlike 202 = .ok (.iload 5, 2) := by decide +kernel
theorem dL_areAlike_204 : decode cL_areAlike 204 = .ok (.iconst 1, 1) := by decide +kernel
theorem dL_areAlike_205 : decode cL_areAlike 205 = .ok (.invokevirtual 75, 3) := by decide +kernel
theorem dL_areAlike_208 : decode cL_areAlike 208 = .ok (.aload_n 1, 1) := by decide +kernel
theorem dL_areAlike_209 : decode cL_areAlike 209 = .ok (.iload 5, 2) := by decide +kernel
theorem dL_areAlike_211 : decode cL_areAlike 211 = .ok (.iconst 1, 1) := by decide +kernel
theorem dL_areAlike_212 : decode cL_areAlike 212 = .ok (.invokevirtual 75, 3) := by decide +kernel
theorem dL_areAlike_215 : decode cL_areAlike 215 = .ok (.if_icmp .ne 41, 3) := by decide +kernel
theorem dL_areAlike_218 : decode cL_areAlike 218 = .ok (.aload_n 0, 1) := by decide +kernel
theorem dL_areAlike_219 : decode cL_areAlike 219 = .ok (.iload 5, 2) := by decide +kernel
theorem dL_areAlike_221 : decode cL_areAlike 221 = .ok (.iconst 2, 1) := by decide +kernel
theorem dL_areAlike_222 : decode cL_areAlike 222 = .ok (.invokevirtual 75, 3) := by decide +kernel
theorem dL_areAlike_225 : decode cL_areAlike 225 = .ok (.aload_n 1, 1) := by decide +kernel
theorem dL_areAlike_226 : decode cL_areAlike 226 = .ok (.iload 5, 2) := by decide +kernel
theorem dL_areAlike_228 : decode cL_areAlike 228 = .ok (.iconst 2, 1) := by decide +kernel
theorem dL_areAlike_229 : decode cL_areAlike 229 = .ok (.invokevirtual 75, 3) := by decide +kernel
theorem dL_areAlike_232 : decode cL_areAlike 232 = .ok (.if_icmp .ne 24, 3) := by decide +kernel
theorem dL_areAlike_235 : decode cL_areAlike 235 = .ok (.aload_n 0, 1) := by decide +kernel
theorem dL_areAlike_236 : decode cL_areAlike 236 = .ok (.iload 5, 2) := by decide +kernel
theorem dL_areAlike_238 : decode cL_areAlike 238 = .ok (.iconst 3, 1) := by decide +kernel
theorem dL_areAlike_239 : decode cL_areAlike 239 = .ok (.invokevirtual 75, 3) := by decide +kernel
theorem dL_areAlike_242 : decode cL_areAlike 242 = .ok (.aload_n 1, 1) := by decide +kernel
theorem dL_areAlike_243 : decode cL_areAlike 243 = .ok (.iload 5, 2) := by decide +kernel
theorem dL_areAlike_245 : decode cL_areAlike 245 = .ok (.iconst 3, 1) := by decide +kernel
theorem dL_areAlike_246 : decode cL_areAlike 246 = .ok (.invokevirtual 75, 3) := by decide +kernel
theorem dL_areAlike_249 : decode cL_areAlike 249 = .ok (.if_icmp .ne 7, 3) := by decide +kernel
theorem dL_areAlike_252 : decode cL_areAlike 252 = .ok (.iconst 1, 1) := by decide +kernel
theorem dL_areAlike_253 : decode cL_areAlike 253 = .ok (.goto 4, 3) := by decide +kernel
theorem dL_areAlike_256 : decode cL_areAlike 256 = .ok (.iconst 0, 1) := by decide +kernel
theorem dL_areAlike_257 : decode cL_areAlike 257 = .ok (.istore 4, 2) := by decide +kernel
theorem dL_areAlike_259 : decode cL_areAlike 259 = .ok (.iconst 0, 1) := by decide +kernel
theorem dL_areAlike_260 : decode cL_areAlike 260 = .ok (.istore 6, 2) := by decide +kernel
theorem dL_areAlike_262 : decode cL_areAlike 262 = .ok (.iload 6, 2) := by decide +kernel
theorem dL_areAlike_264 : decode cL_areAlike 264 = .ok (.bipush 6, 2) := by decide +kernel
theorem dL_areAlike_266 : decode cL_areAlike 266 = .ok (.if_icmp .ge 69, 3) := by decide +kernel
theorem dL_areAlike_269 : decode cL_areAlike 269 = .ok (.iload 4, 2) := by decide +kernel
theorem dL_areAlike_271 : decode cL_areAlike 271 = .ok (.ifCond .eq 55, 3) := by decide +kernel
theorem dL_areAlike_274 : decode cL_areAlike 274 = .ok (.aload_n 0, 1) := by decide +kernel
theorem dL_areAlike_275 : decode cL_areAlike 275 = .ok (.iload 5, 2) := by decide +kernel
theorem dL_areAlike_277 : decode cL_areAlike 277 = .ok (.iload 6, 2) := by decide +kernel
theorem dL_areAlike_279 : decode cL_areAlike 279 = .ok (.invokevirtual 72, 3) := by decide +kernel
theorem dL_areAlike_282 : decode cL_areAlike 282 = .ok (.aload_n 1, 1) := by decide +kernel
theorem dL_areAlike_283 : decode cL_areAlike 283 = .ok (.iload 5, 2) := by decide +kernel
theorem dL_areAlike_285 : decode cL_areAlike 285 = .ok (.iconst 5, 1) := by decide +kernel
theorem dL_areAlike_286 : decode cL_areAlike 286 = .ok (.iload 6, 2) := by decide +kernel
theorem dL_areAlike_288 : decode cL_areAlike 288 = .ok (.isub, 1) := by decide +kernel
theorem dL_areAlike_289 : decode cL_areAlike 289 = .ok (.invokevirtual 72, 3) := by decide +kernel
theorem dL_areAlike_292 : decode cL_areAlike 292 = .ok (.if_icmp .ne 34, 3) := by decide +kernel
theorem dL_areAlike_295 : decode cL_areAlike 295 = .ok (.iload 5, 2) := by decide +kernel
theorem dL_areAlike_297 : decode cL_areAlike 297 = .ok (.iconst 4, 1) := by decide +kernel
theorem dL_areAlike_298 : decode cL_areAlike 298 = .ok (.if_icmp .gt 24, 3) := by decide +kernel
theorem dL_areAlike_301 : decode cL_areAlike 301 = .ok (.aload_n 0, 1) := by decide +kernel
theorem dL_areAlike_302 : decode cL_areAlike 302 = .ok (.iload 6, 2) := by decide +kernel
theorem dL_areAlike_304 : decode cL_areAlike 304 = .ok (.iload 5, 2) := by decide +kernel
theorem dL_areAlike_306 : decode cL_areAlike 306 = .ok (.invokevirtual 47, 3) := by decide +kernel
theorem dL_areAlike_309 : decode cL_areAlike 309 = .ok (.aload_n 1, 1) := by decide +kernel
theorem dL_areAlike_310 : decode cL_areAlike 310 = .ok (.iconst 5, 1) := by decide +kernel
theorem dL_areAlike_311 : decode cL_areAlike 311 = .ok (.iload 6, 2) := by decide +kernel
theorem dL_areAlike_313 : decode cL_areAlike 313 = .ok (.isub, 1) := by decide +kernel
theorem dL_areAlike_314 : decode cL_areAlike 314 = .ok (.iload 5, 2) := by decide +kernel
theorem dL_areAlike_316 : decode cL_areAlike 316 = .ok (.invokevirtual 47, 3) := by decide +kernel
theorem dL_areAlike_319 : decode cL_areAlike 319 = .ok (.if_icmp .ne 7, 3) := by decide +kernel
theorem dL_areAlike_322 : decode cL_areAlike 322 = .ok (.iconst 1, 1) := by decide +kernel
theorem dL_areAlike_323 : decode cL_areAlike 323 = .ok (.goto 4, 3) := by decide +kernel
theorem dL_areAlike_326 : decode cL_areAlike 326 = .ok (.iconst 0, 1) := by decide +kernel
theorem dL_areAlike_327 : decode cL_areAlike 327 = .ok (.istore 4, 2) := by decide +kernel
theorem dL_areAlike_329 : decode cL_areAlike 329 = .ok (.iinc 6 1, 3) := by decide +kernel
theorem dL_areAlike_332 : decode cL_areAlike 332 = .ok (.goto (-70), 3) := by decide +kernel
theorem dL_areAlike_335 : decode cL_areAlike 335 = .ok (.iinc 5 1, 3) := by decide +kernel
theorem dL_areAlike_338 : decode cL_areAlike 338 = .ok (.goto (-169), 3) := by decide +kernel
theorem dL_areAlike_341 : decode cL_areAlike 341 = .ok (.aload_n 0, 1) := by decide +kernel
theorem dL_areAlike_342 : decode cL_areAlike 342 = .ok (.invokevirtual 90, 3) := by decide +kernel
theorem dL_areAlike_345 : decode cL_areAlike 345 = .ok (.istore 5, 2) := by decide +kernel
theorem dL_areAlike_347 : decode cL_areAlike 347 = .ok (.aload_n 1, 1) := by decide +kernel
theorem dL_areAlike_348 : decode cL_areAlike 348 = .ok (.invokevirtual 90, 3) := by decide +kernel
theorem dL_areAlike_351 : decode cL_areAlike 351 = .ok (.istore 6, 2) := by decide +kernel
theorem dL_areAlike_353 : decode cL_areAlike 353 = .ok (.iload 4, 2) := by decide +kernel
theorem dL_areAlike_355 : decode cL_areAlike 355 = .ok (.ifCond .eq 52, 3) := by decide +kernel
theorem dL_areAlike_358 : decode cL_areAlike 358 = .ok (.iload 5, 2) := by decide +kernel
theorem dL_areAlike_360 : decode cL_areAlike 360 = .ok (.bipush (-6), 2) := by decide +kernel
theorem dL_areAlike_362 : decode cL_areAlike 362 = .ok (.if_icmp .ne 7, 3) := by decide +kernel
theorem dL_areAlike_365 : decode cL_areAlike 365 = .ok (.iconst 1, 1) := by decide +kernel
theorem dL_areAlike_366 : decode cL_areAlike 366 = .ok (.goto 4, 3) := by decide +kernel
theorem dL_areAlike_369 : decode cL_areAlike 369 = .ok (.iconst 0, 1) := by decide +kernel
theorem dL_areAlike_370 : decode cL_areAlike 370 = .ok (.iload 6, 2) := by decide +kernel
theorem dL_areAlike_372 : decode cL_areAlike 372 = .ok (.bipush (-6), 2) := by decide +kernel
theorem dL_areAlike_374 : decode cL_areAlike 374 = .ok (.if_icmp .ne 7, 3) := by decide +kernel
theorem dL_areAlike_377 : decode cL_areAlike 377 = .ok (.iconst 1, 1) := by decide +kernel
theorem dL_areAlike_378 : decode cL_areAlike 378 = .ok (.goto 4, 3) := by decide +kernel
theorem dL_areAlike_381 : decode cL_areAlike 381 = .ok (.iconst 0, 1) := by decide +kernel
theorem dL_areAlike_382 : decode cL_areAlike 382 = .ok (.if_icmp .ne 25, 3) := by decide +kernel
theorem dL_areAlike_385 : decode cL_areAlike 385 = .ok (.iload 5, 2) := by decide +kernel
theorem dL_areAlike_387 : decode cL_areAlike 387 = .ok (.ifCond .lt 16, 3) := by decide +kernel
theorem dL_areAlike_390 : decode cL_areAlike 390 = .ok (.iload 5, 2) := by decide +kernel
theorem dL_areAlike_392 : decode cL_areAlike 392 = .ok (.bipush 6, 2) := by decide +kernel
theorem dL_areAlike_394 : decode cL_areAlike 394 = .ok (.idiv, 1) := by decide +kernel
theorem dL_areAlike_395 : decode cL_areAlike 395 = .ok (.iload 6, 2) := by decide +kernel
theorem dL_areAlike_397 : decode cL_areAlike 397 = .ok (.bipush 6, 2) := by decide +kernel
theorem dL_areAlike_399 : decode cL_areAlike 399 = .ok (.idiv, 1) := by decide +kernel
theorem dL_areAlike_400 : decode cL_areAlike 400 = .ok (.if_icmp .ne 7, 3) := by decide +kernel
theorem dL_areAlike_403 : decode cL_areAlike 403 = .ok (.iconst 1, 1) := by decide +kernel
theorem dL_areAlike_404 : decode cL_areAlike 404 = .ok (.goto 4, 3) := by decide +kernel
theorem dL_areAlike_407 : decode cL_areAlike 407 = .ok (.iconst 0, 1) := by decide +kernel
theorem dL_areAlike_408 : decode cL_areAlike 408 = .ok (.ireturn, 1) := by decide +kernel
