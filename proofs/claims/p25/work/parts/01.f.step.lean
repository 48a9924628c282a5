set_option maxRecDepth 20000 in
theorem ggL_isStep_L_up : GoodIn wsL_isStep wsL_up := goodIn_r _ [4, 5] (by decide +kernel) (by decide +kernel)
set_option maxRecDepth 20000 in
theorem gL_isStep_L_up : GoodIn wsL_isStep (va_wsS RL 15 yL_up wsL_up) := goodIn_app (goodIn_of _ (by decide +kernel)) ggL_isStep_L_up
set_option maxRecDepth 20000 in
theorem ggL_isStep_X5_count : GoodIn wsL_isStep wsX5_count := goodIn_r _ [10, 11, 12, 13, 14, 15, 16, 17, 18, 19, 20, 21, 22, 23, 24, 25, 26, 27, 28, 29, 30, 31, 32, 9, 33, 34, 35, 36, 37, 38, 39, 40, 41, 42, 43, 44, 45, 46, 47, 48, 49, 50, 51, 52, 53, 54, 55, 56, 292, 293, 294, 295, 296, 297, 298, 299, 300, 301, 302, 303, 304, 305, 306, 307, 308, 309, 310, 311, 312, 313, 314, 315, 316, 317, 318, 319, 320, 321, 322, 323] (by decide +kernel) (by decide +kernel)
set_option maxRecDepth 20000 in
theorem gL_isStep_X5_count : GoodIn wsL_isStep (wsV RL 38 RX5 yX5_count wsX5_count) := goodIn_app (goodIn_of _ (by decide +kernel)) ggL_isStep_X5_count
set_option maxRecDepth 20000 in
theorem ggL_isStep_X5_set : GoodIn wsL_isStep wsX5_set := goodIn_r _ [60, 61, 62, 29, 11, 12, 63, 64, 65, 66, 67, 68, 69, 70, 71, 72, 73, 74, 75, 76, 77, 78, 79, 80, 81, 82, 83, 84, 85, 86, 87, 88, 89, 90, 91, 92, 93, 94, 95, 96, 97, 98, 99, 37, 100, 43, 101, 102, 103, 104, 105, 106, 107, 54, 108, 109, 110, 56, 111, 112, 292, 293, 294, 295, 296, 297, 298, 299, 300, 301, 302, 303, 304, 305, 306, 307, 308, 309, 310, 317, 318, 319, 311, 312, 313, 314, 320, 321, 322, 323] (by decide +kernel) (by decide +kernel)
set_option maxRecDepth 20000 in
theorem gL_isStep_X5_set : GoodIn wsL_isStep (wsV RL 41 RX5 yX5_set wsX5_set) := goodIn_app (goodIn_of _ (by decide +kernel)) ggL_isStep_X5_set
set_option maxRecDepth 20000 in
theorem ggL_isStep_X5_order : GoodIn wsL_isStep wsX5_order := goodIn_r _ [116, 29, 11, 16, 63, 64, 65, 66, 67, 68, 69, 70, 71, 72, 73, 74, 75, 76, 77, 78, 79, 80, 81, 82, 83, 84, 85, 86, 87, 88, 89, 90, 91, 92, 93, 94, 95, 96, 97, 98, 99, 37, 100, 43, 101, 102, 103, 104, 105, 106, 107, 54, 108, 109, 110, 56, 111, 112, 292, 293, 294, 295, 296, 297, 298, 299, 300, 301, 302, 303, 304, 305, 306, 307, 308, 309, 310, 317, 318, 319, 311, 312, 313, 314, 320, 321, 322, 323] (by decide +kernel) (by decide +kernel)
set_option maxRecDepth 20000 in
theorem gL_isStep_X5_order : GoodIn wsL_isStep (wsV RL 44 RX5 yX5_order wsX5_order) := goodIn_app (goodIn_of _ (by decide +kernel)) ggL_isStep_X5_order
set_option maxRecDepth 20000 in
theorem ggL_isStep_L_turned : GoodIn wsL_isStep wsL_turned := goodIn_r _ [119] (by decide +kernel) (by decide +kernel)
set_option maxRecDepth 20000 in
theorem gL_isStep_L_turned : GoodIn wsL_isStep (va_wsS RL 31 yL_turned wsL_turned) := goodIn_app (goodIn_of _ (by decide +kernel)) ggL_isStep_L_turned
set_option maxRecDepth 20000 in
theorem ggL_isStep_X5_stamp : GoodIn wsL_isStep wsX5_stamp := goodIn_r _ [123, 11, 26, 124, 125, 126, 13, 127, 128, 129, 9, 130, 131, 132, 133, 37, 134, 135, 136, 137, 138, 43, 292, 293, 294, 295, 296, 297, 298, 299, 300, 301, 302, 303, 304, 305, 306, 307, 308, 309, 310, 320, 321, 322, 323, 311, 312, 313, 314] (by decide +kernel) (by decide +kernel)
set_option maxRecDepth 20000 in
theorem gL_isStep_X5_stamp : GoodIn wsL_isStep (wsV RL 47 RX5 yX5_stamp wsX5_stamp) := goodIn_app (goodIn_of _ (by decide +kernel)) ggL_isStep_X5_stamp
set_option maxRecDepth 20000 in
theorem ggL_isStep_X5_ink : GoodIn wsL_isStep wsX5_ink := goodIn_r _ [142, 29, 11, 26, 124, 128, 129, 9, 130, 63, 64, 65, 66, 67, 68, 69, 70, 71, 72, 73, 74, 75, 76, 77, 78, 79, 80, 81, 82, 83, 84, 85, 86, 87, 88, 89, 90, 91, 92, 93, 94, 95, 96, 97, 98, 99, 37, 100, 43, 101, 102, 103, 104, 105, 106, 107, 54, 108, 109, 110, 56, 111, 112, 292, 293, 294, 295, 296, 297, 298, 299, 300, 301, 302, 303, 304, 305, 306, 307, 308, 309, 310, 320, 321, 322, 323, 317, 318, 319, 311, 312, 313, 314] (by decide +kernel) (by decide +kernel)
set_option maxRecDepth 20000 in
theorem gL_isStep_X5_ink : GoodIn wsL_isStep (wsV RL 50 RX5 yX5_ink wsX5_ink) := goodIn_app (goodIn_of _ (by decide +kernel)) ggL_isStep_X5_ink
set_option maxRecDepth 20000 in
theorem ggL_isStep_X5_free : GoodIn wsL_isStep wsX5_free := goodIn_r _ [146, 11, 15, 29, 13, 14, 63, 64, 65, 66, 67, 68, 69, 70, 71, 72, 73, 74, 75, 76, 77, 78, 79, 80, 81, 82, 83, 84, 85, 86, 87, 88, 89, 90, 91, 92, 93, 94, 95, 96, 97, 98, 99, 37, 100, 43, 101, 102, 103, 104, 105, 106, 107, 54, 108, 109, 110, 56, 111, 112, 147, 148, 149, 150, 151, 152, 153, 292, 293, 294, 295, 296, 297, 298, 299, 300, 301, 302, 303, 304, 305, 306, 307, 308, 309, 310, 311, 312, 313, 314, 317, 318, 319, 320, 321, 322, 323] (by decide +kernel) (by decide +kernel)
set_option maxRecDepth 20000 in
theorem gL_isStep_X5_free : GoodIn wsL_isStep (wsV RL 53 RX5 yX5_free wsX5_free) := goodIn_app (goodIn_of _ (by decide +kernel)) ggL_isStep_X5_free
set_option maxRecDepth 20000 in
theorem ggL_isStep_X5_newForm : GoodIn wsL_isStep wsX5_newForm := goodIn_r _ [157, 29, 11, 17, 63, 64, 65, 66, 67, 68, 69, 70, 71, 72, 73, 74, 75, 76, 77, 78, 79, 80, 81, 82, 83, 84, 85, 86, 87, 88, 89, 90, 91, 92, 93, 94, 95, 96, 97, 98, 99, 37, 100, 43, 101, 102, 103, 104, 105, 106, 107, 54, 108, 109, 110, 56, 111, 112, 158, 159, 160, 161, 292, 293, 294, 295, 296, 297, 298, 299, 300, 301, 302, 303, 304, 305, 306, 307, 308, 309, 310, 317, 318, 319, 311, 312, 313, 314, 320, 321, 322, 323] (by decide +kernel) (by decide +kernel)
set_option maxRecDepth 20000 in
theorem gL_isStep_X5_newForm : GoodIn wsL_isStep (wsV RL 56 RX5 yX5_newForm wsX5_newForm) := goodIn_app (goodIn_of _ (by decide +kernel)) ggL_isStep_X5_newForm
set_option maxRecDepth 20000 in
theorem ggL_isStep_X5_save : GoodIn wsL_isStep wsX5_save := goodIn_r _ [165, 166, 11, 167, 13, 168, 76, 77, 78, 79, 80, 81, 82, 83, 84, 85, 86, 87, 88, 89, 90, 91, 92, 93, 94, 95, 96, 97, 98, 99, 37, 100, 43, 101, 102, 103, 104, 105, 106, 107, 54, 108, 109, 110, 56, 111, 112, 34, 35, 36, 38, 39, 40, 41, 42, 44, 45, 46, 47, 48, 49, 50, 292, 293, 294, 295, 296, 297, 298, 299, 300, 301, 302, 303, 304, 305, 306, 307, 308, 309, 310, 311, 312, 313, 314, 320, 321, 322, 323] (by decide +kernel) (by decide +kernel)
set_option maxRecDepth 20000 in
theorem gL_isStep_X5_save : GoodIn wsL_isStep (wsV RL 59 RX5 yX5_save wsX5_save) := goodIn_app (goodIn_of _ (by decide +kernel)) ggL_isStep_X5_save
set_option maxRecDepth 20000 in
theorem ggL_isStep_X5_restore : GoodIn wsL_isStep wsX5_restore := goodIn_r _ [172, 167, 29, 11, 166, 13, 63, 64, 65, 66, 67, 68, 69, 70, 71, 72, 73, 74, 75, 76, 77, 78, 79, 80, 81, 82, 83, 84, 85, 86, 87, 88, 89, 90, 91, 92, 93, 94, 95, 96, 97, 98, 99, 37, 100, 43, 101, 102, 103, 104, 105, 106, 107, 54, 108, 109, 110, 56, 111, 112, 168, 34, 35, 36, 38, 39, 40, 41, 42, 44, 45, 46, 47, 48, 49, 50, 292, 293, 294, 295, 296, 297, 298, 299, 300, 301, 302, 303, 304, 305, 306, 307, 308, 309, 310, 317, 318, 319, 311, 312, 313, 314, 320, 321, 322, 323] (by decide +kernel) (by decide +kernel)
set_option maxRecDepth 20000 in
theorem gL_isStep_X5_restore : GoodIn wsL_isStep (wsV RL 62 RX5 yX5_restore wsX5_restore) := goodIn_app (goodIn_of _ (by decide +kernel)) ggL_isStep_X5_restore
set_option maxRecDepth 20000 in
theorem ggL_isStep_L_isRead : GoodIn wsL_isStep wsL_isRead := goodIn_r _ [175, 176, 177, 178, 179, 180, 181, 9, 182, 27, 28, 183, 184, 185, 186, 187, 188, 1, 2, 3, 4, 5, 189, 190, 191, 192, 193, 194, 195, 196, 197, 198, 199, 200, 201, 117, 118, 119, 202, 203, 204, 205, 29, 11, 13, 206, 207, 208, 209, 210, 211, 212, 213, 214, 215, 129, 130, 63, 64, 65, 66, 67, 68, 69, 70, 71, 72, 73, 74, 75, 76, 77, 78, 79, 80, 81, 82, 83, 84, 85, 86, 87, 88, 89, 90, 91, 92, 93, 94, 95, 96, 97, 98, 99, 37, 100, 43, 101, 102, 103, 104, 105, 106, 107, 54, 108, 109, 110, 56, 111, 112, 216, 217, 218, 219, 220, 221, 222, 223, 224, 225, 135, 136, 137, 138, 34, 35, 36, 38, 39, 40, 41, 42, 44, 45, 46, 47, 48, 49, 50, 6, 7, 8, 10, 12, 14, 15, 16, 17, 18, 19, 20, 21, 22, 23, 24, 25, 26, 30, 31, 32, 33, 51, 52, 53, 55, 292, 293, 294, 295, 296, 297, 315, 316, 298, 299, 300, 301, 302, 303, 304, 305, 306, 307, 308, 309, 310, 317, 318, 319, 311, 312, 313, 314, 320, 321, 322, 323] rfl (by decide +kernel)
set_option maxRecDepth 20000 in
theorem gL_isStep_L_isRead : GoodIn wsL_isStep (va_wsS RL 65 yL_isRead wsL_isRead) := goodIn_app (goodIn_of _ (by decide +kernel)) ggL_isStep_L_isRead
set_option maxRecDepth 20000 in
theorem ggL_isStep_X5_step : GoodIn wsL_isStep wsX5_step := goodIn_r _ [229, 11, 15, 20, 230, 29, 63, 64, 65, 66, 67, 68, 69, 70, 71, 72, 73, 74, 75, 76, 77, 78, 79, 80, 81, 82, 83, 84, 85, 86, 87, 88, 89, 90, 91, 92, 93, 94, 95, 96, 97, 98, 99, 37, 100, 43, 101, 102, 103, 104, 105, 106, 107, 54, 108, 109, 110, 56, 111, 112, 231, 232, 233, 234, 235, 236, 237, 238, 239, 240, 241, 242, 243, 244, 245, 40, 41, 42, 44, 45, 46, 47, 48, 49, 50, 246, 247, 248, 249, 250, 251, 252, 253, 254, 255, 256, 257, 258, 259, 260, 261, 262, 263, 148, 149, 150, 151, 152, 153, 264, 265, 266, 267, 268, 159, 160, 161, 292, 293, 294, 295, 296, 297, 298, 299, 300, 301, 302, 303, 304, 305, 306, 307, 308, 309, 310, 317, 318, 319, 311, 312, 313, 314, 320, 321, 322, 323] (by decide +kernel) (by decide +kernel)
set_option maxRecDepth 20000 in
theorem gL_isStep_X5_step : GoodIn wsL_isStep (wsV RL 69 RX5 yX5_step wsX5_step) := goodIn_app (goodIn_of _ (by decide +kernel)) ggL_isStep_X5_step
set_option maxRecDepth 20000 in
theorem ggL_isStep_X5_stamped : GoodIn wsL_isStep wsX5_stamped := goodIn_r _ [272, 11, 13, 273, 274, 220, 9, 221, 128, 129, 130, 275, 136, 137, 37, 138, 43, 292, 293, 294, 295, 296, 297, 298, 299, 300, 301, 302, 303, 304, 305, 306, 307, 308, 309, 310, 311, 312, 313, 314] (by decide +kernel) (by decide +kernel)
set_option maxRecDepth 20000 in
theorem gL_isStep_X5_stamped : GoodIn wsL_isStep (wsV RL 72 RX5 yX5_stamped wsX5_stamped) := goodIn_app (goodIn_of _ (by decide +kernel)) ggL_isStep_X5_stamped
set_option maxRecDepth 20000 in
theorem ggL_isStep_X5_row : GoodIn wsL_isStep wsX5_row := goodIn_r _ [279, 11, 13, 280, 14, 274, 220, 9, 221, 281, 40, 41, 37, 42, 43, 44, 45, 46, 47, 48, 49, 50, 282, 242, 243, 78, 244, 85, 80, 245, 31, 32, 33, 283, 284, 285, 286, 292, 293, 294, 295, 296, 297, 298, 299, 300, 301, 302, 303, 304, 305, 306, 307, 308, 309, 310, 311, 312, 313, 314] (by decide +kernel) (by decide +kernel)
set_option maxRecDepth 20000 in
theorem gL_isStep_X5_row : GoodIn wsL_isStep (wsV RL 75 RX5 yX5_row wsX5_row) := goodIn_app (goodIn_of _ (by decide +kernel)) ggL_isStep_X5_row
set_option maxRecDepth 20000 in
theorem ggL_isStep_X5_peg : GoodIn wsL_isStep wsX5_peg := goodIn_r _ [290, 29, 11, 13, 280, 274, 220, 9, 221, 128, 129, 130, 63, 64, 65, 66, 67, 68, 69, 70, 71, 72, 73, 74, 75, 76, 77, 78, 79, 80, 81, 82, 83, 84, 85, 86, 87, 88, 89, 90, 91, 92, 93, 94, 95, 96, 97, 98, 99, 37, 100, 43, 101, 102, 103, 104, 105, 106, 107, 54, 108, 109, 110, 56, 111, 112, 291, 223, 224, 225, 135, 136, 137, 138, 281, 40, 41, 42, 44, 45, 46, 47, 48, 49, 50, 292, 293, 294, 295, 296, 297, 298, 299, 300, 301, 302, 303, 304, 305, 306, 307, 308, 309, 310, 311, 312, 313, 314, 317, 318, 319, 320, 321, 322, 323] (by decide +kernel) (by decide +kernel)
set_option maxRecDepth 20000 in
theorem gL_isStep_X5_peg : GoodIn wsL_isStep (wsV RL 78 RX5 yX5_peg wsX5_peg) := goodIn_app (goodIn_of _ (by decide +kernel)) ggL_isStep_X5_peg
theorem dL_isStep_0 : decode cL_isStep 0 = .ok (.iload_n 2, 1) := by decide +kernel
theorem dL_isStep_1 : decode cL_isStep 1 = .ok (.iconst 4, 1) := by decide +kernel
theorem dL_isStep_2 : decode cL_isStep 2 = .ok (.ishr, 1) := by decide +kernel
theorem dL_isStep_3 : decode cL_isStep 3 = .ok (.istore 4, 2) := by decide +kernel
theorem dL_isStep_5 : decode cL_isStep 5 = .ok (.iload_n 2, 1) := by decide +kernel
theorem dL_isStep_6 : decode cL_isStep 6 = .ok (.bipush 18, 2) := by decide +kernel
theorem dL_isStep_8 : decode cL_isStep 8 = .ok (.invokestatic 15, 3) := by decide +kernel
theorem dL_isStep_11 : decode cL_isStep 11 = .ok (.tableswitch 761 0 11 #[61, 61, 189, 250, 316, 416, 478, 546, 555, 555, 555, 555], 61) := by decide +kernel
theorem dL_isStep_72 : decode cL_isStep 72 = .ok (.iload 4, 2) := by decide +kernel
theorem dL_isStep_74 : decode cL_isStep 74 = .ok (.iconst 4, 1) := by decide +kernel
theorem dL_isStep_75 : decode cL_isStep 75 = .ok (.invokestatic 15, 3) := by decide +kernel
theorem dL_isStep_78 : decode cL_isStep 78 = .ok (.istore 5, 2) := by decide +kernel
theorem dL_isStep_80 : decode cL_isStep 80 = .ok (.iload 5, 2) := by decide +kernel
theorem dL_isStep_82 : decode cL_isStep 82 = .ok (.ifCond .ne 14, 3) := by decide +kernel
theorem dL_isStep_85 : decode cL_isStep 85 = .ok (.iconst 1, 1) := by decide +kernel
theorem dL_isStep_86 : decode cL_isStep 86 = .ok (.iload_n 3, 1) := by decide +kernel
theorem dL_isStep_87 : decode cL_isStep 87 = .ok (.bipush 8, 2) := by decide +kernel
theorem dL_isStep_89 : decode cL_isStep 89 = .ok (.invokestatic 15, 3) := by decide +kernel
theorem dL_isStep_92 : decode cL_isStep 92 = .ok (.iadd, 1) := by decide +kernel
theorem dL_isStep_93 : decode cL_isStep 93 = .ok (.goto 54, 3) := by decide +kernel
theorem dL_isStep_96 : decode cL_isStep 96 = .ok (.iload 5, 2) := by decide +kernel
theorem dL_isStep_98 : decode cL_isStep 98 = .ok (.iconst 1, 1) := by decide +kernel
theorem dL_isStep_99 : decode cL_isStep 99 = .ok (.if_icmp .ne 12, 3) := by decide +kernel
theorem dL_isStep_102 : decode cL_isStep 102 = .ok (.iload_n 3, 1) := by decide +kernel
theorem dL_isStep_103 : decode cL_isStep 103 = .ok (.bipush 10, 2) := by decide +kernel
theorem dL_isStep_105 : decode cL_isStep 105 = .ok (.invokestatic 15, 3) := by decide +kernel
theorem dL_isStep_108 : decode cL_isStep 108 = .ok (.goto 39, 3) := by decide +kernel
theorem dL_isStep_111 : decode cL_isStep 111 = .ok (.iload 5, 2) := by decide +kernel
theorem dL_isStep_113 : decode cL_isStep 113 = .ok (.iconst 2, 1) := by decide +kernel
theorem dL_isStep_114 : decode cL_isStep 114 = .ok (.if_icmp .ne 26, 3) := by decide +kernel
theorem dL_isStep_117 : decode cL_isStep 117 = .ok (.iload_n 3, 1) := by decide +kernel
theorem dL_isStep_118 : decode cL_isStep 118 = .ok (.iload 4, 2) := by decide +kernel
theorem dL_isStep_120 : decode cL_isStep 120 = .ok (.iconst 3, 1) := by decide +kernel
theorem dL_isStep_121 : decode cL_isStep 121 = .ok (.invokestatic 15, 3) := by decide +kernel
theorem dL_isStep_124 : decode cL_isStep 124 = .ok (.ifCond .ne 8, 3) := by decide +kernel
theorem dL_isStep_127 : decode cL_isStep 127 = .ok (.bipush 100, 2) := by decide +kernel
theorem dL_isStep_129 : decode cL_isStep 129 = .ok (.goto 5, 3) := by decide +kernel
theorem dL_isStep_132 : decode cL_isStep 132 = .ok (.bipush 6, 2) := by decide +kernel
theorem dL_isStep_134 : decode cL_isStep 134 = .ok (.invokestatic 15, 3) := by decide +kernel
theorem dL_isStep_137 : decode cL_isStep 137 = .ok (.goto 10, 3) := by decide +kernel
theorem dL_isStep_140 : decode cL_isStep 140 = .ok (.iconst 1, 1) := by decide +kernel
theorem dL_isStep_141 : decode cL_isStep 141 = .ok (.iload_n 3, 1) := by decide +kernel
theorem dL_isStep_142 : decode cL_isStep 142 = .ok (.iconst 4, 1) := by decide +kernel
theorem dL_isStep_143 : decode cL_isStep 143 = .ok (.invokestatic 15, 3) := by decide +kernel
theorem dL_isStep_146 : decode cL_isStep 146 = .ok (.iadd, 1) := by decide +kernel
theorem dL_isStep_147 : decode cL_isStep 147 = .ok (.istore 6, 2) := by decide +kernel
theorem dL_isStep_149 : decode cL_isStep 149 = .ok (.aload_n 0, 1) := by decide +kernel
theorem dL_isStep_150 : decode cL_isStep 150 = .ok (.iload 5, 2) := by decide +kernel
theorem dL_isStep_152 : decode cL_isStep 152 = .ok (.invokevirtual 38, 3) := by decide +kernel
theorem dL_isStep_155 : decode cL_isStep 155 = .ok (.istore 7, 2) := by decide +kernel
theorem dL_isStep_157 : decode cL_isStep 157 = .ok (.aload_n 0, 1) := by decide +kernel
theorem dL_isStep_158 : decode cL_isStep 158 = .ok (.iload 5, 2) := by decide +kernel
theorem dL_isStep_160 : decode cL_isStep 160 = .ok (.iload 6, 2) := by decide +kernel
theorem dL_isStep_162 : decode cL_isStep 162 = .ok (.invokevirtual 41, 3) := by decide +kernel
theorem dL_isStep_165 : decode cL_isStep 165 = .ok (.iload 7, 2) := by decide +kernel
theorem dL_isStep_167 : decode cL_isStep 167 = .ok (.if_icmp .ne 31, 3) := by decide +kernel
theorem dL_isStep_170 : decode cL_isStep 170 = .ok (.aload_n 1, 1) := by decide +kernel
theorem dL_isStep_171 : decode cL_isStep 171 = .ok (.iload 5, 2) := by decide +kernel
theorem dL_isStep_173 : decode cL_isStep 173 = .ok (.iload 6, 2) := by decide +kernel
theorem dL_isStep_175 : decode cL_isStep 175 = .ok (.invokevirtual 41, 3) := by decide +kernel
theorem dL_isStep_178 : decode cL_isStep 178 = .ok (.iload 7, 2) := by decide +kernel
theorem dL_isStep_180 : decode cL_isStep 180 = .ok (.if_icmp .ne 18, 3) := by decide +kernel
theorem dL_isStep_183 : decode cL_isStep 183 = .ok (.aload_n 0, 1) := by decide +kernel
theorem dL_isStep_184 : decode cL_isStep 184 = .ok (.iload 5, 2) := by decide +kernel
theorem dL_isStep_186 : decode cL_isStep 186 = .ok (.invokevirtual 38, 3) := by decide +kernel
theorem dL_isStep_189 : decode cL_isStep 189 = .ok (.iload 6, 2) := by decide +kernel
theorem dL_isStep_191 : decode cL_isStep 191 = .ok (.if_icmp .ne 7, 3) := by decide +kernel
theorem dL_isStep_194 : decode cL_isStep 194 = .ok (.iconst 1, 1) := by decide +kernel
theorem dL_isStep_195 : decode cL_isStep 195 = .ok (.goto 4, 3) := by decide +kernel
theorem dL_isStep_198 : decode cL_isStep 198 = .ok (.iconst 0, 1) := by decide +kernel
theorem dL_isStep_199 : decode cL_isStep 199 = .ok (.ireturn, 1) := by decide +kernel
theorem dL_isStep_200 : decode cL_isStep 200 = .ok (.iload_n 3, 1) := by decide +kernel
theorem dL_isStep_201 : decode cL_isStep 201 = .ok (.bipush 64, 2) := by decide +kernel
theorem dL_isStep_203 : decode cL_isStep 203 = .ok (.invokestatic 15, 3) := by decide +kernel
theorem dL_isStep_206 : decode cL_isStep 206 = .ok (.istore 5, 2) := by decide +kernel
theorem dL_isStep_208 : decode cL_isStep 208 = .ok (.aload_n 0, 1) := by decide +kernel
theorem dL_isStep_209 : decode cL_isStep 209 = .ok (.bipush 6, 2) := by decide +kernel
theorem dL_isStep_211 : decode cL_isStep 211 = .ok (.invokevirtual 38, 3) := by decide +kernel
theorem dL_isStep_214 : decode cL_isStep 214 = .ok (.istore 6, 2) := by decide +kernel
theorem dL_isStep_216 : decode cL_isStep 216 = .ok (.aload_n 0, 1) := by decide +kernel
theorem dL_isStep_217 : decode cL_isStep 217 = .ok (.iload 5, 2) := by decide +kernel
theorem dL_isStep_219 : decode cL_isStep 219 = .ok (.invokevirtual 44, 3) := by decide +kernel
theorem dL_isStep_222 : decode cL_isStep 222 = .ok (.iload 6, 2) := by decide +kernel
theorem dL_isStep_224 : decode cL_isStep 224 = .ok (.if_icmp .ne 35, 3) := by decide +kernel
theorem dL_isStep_227 : decode cL_isStep 227 = .ok (.aload_n 1, 1) := by decide +kernel
theorem dL_isStep_228 : decode cL_isStep 228 = .ok (.iload 5, 2) := by decide +kernel
theorem dL_isStep_230 : decode cL_isStep 230 = .ok (.invokestatic 31, 3) := by decide +kernel
theorem dL_isStep_233 : decode cL_isStep 233 = .ok (.invokevirtual 44, 3) := by decide +kernel
theorem dL_isStep_236 : decode cL_isStep 236 = .ok (.iload 6, 2) := by decide +kernel
theorem dL_isStep_238 : decode cL_isStep 238 = .ok (.invokestatic 31, 3) := by decide +kernel
theorem dL_isStep_241 : decode cL_isStep 241 = .ok (.if_icmp .ne 18, 3) := by decide +kernel
theorem dL_isStep_244 : decode cL_isStep 244 = .ok (.aload_n 0, 1) := by decide +kernel
theorem dL_isStep_245 : decode cL_isStep 245 = .ok (.bipush 6, 2) := by decide +kernel
theorem dL_isStep_247 : decode cL_isStep 247 = .ok (.invokevirtual 38, 3) := by decide +kernel
theorem dL_isStep_250 : decode cL_isStep 250 = .ok (.iload 5, 2) := by decide +kernel
theorem dL_isStep_252 : decode cL_isStep 252 = .ok (.if_icmp .ne 7, 3) := by decide +kernel
theorem dL_isStep_255 : decode cL_isStep 255 = .ok (.iconst 1, 1) := by decide +kernel
theorem dL_isStep_256 : decode cL_isStep 256 = .ok (.goto 4, 3) := by decide +kernel
theorem dL_isStep_259 : decode cL_isStep 259 = .ok (.iconst 0, 1) := by decide +kernel
theorem dL_isStep_260 : decode cL_isStep 260 = .ok (.ireturn, 1) := by decide +kernel
theorem dL_isStep_261 : decode cL_isStep 261 = .ok (.iload 4, 2) := by decide +kernel
theorem dL_isStep_263 : decode cL_isStep 263 = .ok (.bipush 6, 2) := by decide +kernel
theorem dL_isStep_265 : decode cL_isStep 265 = .ok (.invokestatic 15, 3) := by decide +kernel
theorem dL_isStep_268 : decode cL_isStep 268 = .ok (.istore 5, 2) := by decide +kernel
theorem dL_isStep_270 : decode cL_isStep 270 = .ok (.aload_n 0, 1) := by decide +kernel
theorem dL_isStep_271 : decode cL_isStep 271 = .ok (.iload 5, 2) := by decide +kernel
theorem dL_isStep_273 : decode cL_isStep 273 = .ok (.iconst 0, 1) := by decide +kernel
theorem dL_isStep_274 : decode cL_isStep 274 = .ok (.invokevirtual 47, 3) := by decide +kernel
theorem dL_isStep_277 : decode cL_isStep 277 = .ok (.istore 6, 2) := by decide +kernel
theorem dL_isStep_279 : decode cL_isStep 279 = .ok (.aload_n 0, 1) := by decide +kernel
theorem dL_isStep_280 : decode cL_isStep 280 = .ok (.iload 5, 2) := by decide +kernel
theorem dL_isStep_282 : decode cL_isStep 282 = .ok (.invokevirtual 50, 3) := by decide +kernel
theorem dL_isStep_285 : decode cL_isStep 285 = .ok (.bipush 99, 2) := by decide +kernel
theorem dL_isStep_287 : decode cL_isStep 287 = .ok (.iload 6, 2) := by decide +kernel
theorem dL_isStep_289 : decode cL_isStep 289 = .ok (.isub, 1) := by decide +kernel
theorem dL_isStep_290 : decode cL_isStep 290 = .ok (.if_icmp .ne 35, 3) := by decide +kernel
theorem dL_isStep_293 : decode cL_isStep 293 = .ok (.aload_n 1, 1) := by decide +kernel
theorem dL_isStep_294 : decode cL_isStep 294 = .ok (.iconst 5, 1) := by decide +kernel
theorem dL_isStep_295 : decode cL_isStep 295 = .ok (.iload 5, 2) := by decide +kernel
theorem dL_isStep_297 : decode cL_isStep 297 = .ok (.isub, 1) := by decide +kernel
theorem dL_isStep_298 : decode cL_isStep 298 = .ok (.invokevirtual 50, 3) := by decide +kernel
theorem dL_isStep_301 : decode cL_isStep 301 = .ok (.bipush 99, 2) := by decide +kernel
theorem dL_isStep_303 : decode cL_isStep 303 = .ok (.iload 6, 2) := by decide +kernel
theorem dL_isStep_305 : decode cL_isStep 305 = .ok (.isub, 1) := by decide +kernel
theorem dL_isStep_306 : decode cL_isStep 306 = .ok (.if_icmp .ne 19, 3) := by decide +kernel
theorem dL_isStep_309 : decode cL_isStep 309 = .ok (.aload_n 0, 1) := by decide +kernel
theorem dL_isStep_310 : decode cL_isStep 310 = .ok (.iload 5, 2) := by decide +kernel
theorem dL_isStep_312 : decode cL_isStep 312 = .ok (.iconst 0, 1) := by decide +kernel
theorem dL_isStep_313 : decode cL_isStep 313 = .ok (.invokevirtual 47, 3) := by decide +kernel
theorem dL_isStep_316 : decode cL_isStep 316 = .ok (.bipush 99, 2) := by decide +kernel
theorem dL_isStep_318 : decode cL_isStep 318 = .ok (.if_icmp .ne 7, 3) := by decide +kernel
theorem dL_isStep_321 : decode cL_isStep 321 = .ok (.iconst 1, 1) := by decide +kernel
theorem dL_isStep_322 : decode cL_isStep 322 = .ok (.goto 4, 3) := by decide +kernel
theorem dL_isStep_325 : decode cL_isStep 325 = .ok (.iconst 0, 1) := by decide +kernel
theorem dL_isStep_326 : decode cL_isStep 326 = .ok (.ireturn, 1) := by decide +kernel
theorem dL_isStep_327 : decode cL_isStep 327 = .ok (.aload_n 0, 1) := by decide +kernel
theorem dL_isStep_328 : decode cL_isStep 328 = .ok (.iconst 4, 1) := by decide +kernel
theorem dL_isStep_329 : decode cL_isStep 329 = .ok (.invokevirtual 38, 3) := by decide +kernel
theorem dL_isStep_332 : decode cL_isStep 332 = .ok (.istore 5, 2) := by decide +kernel
theorem dL_isStep_334 : decode cL_isStep 334 = .ok (.aload_n 0, 1) := by decide +kernel
theorem dL_isStep_335 : decode cL_isStep 335 = .ok (.iconst 5, 1) := by decide +kernel
theorem dL_isStep_336 : decode cL_isStep 336 = .ok (.invokevirtual 38, 3) := by decide +kernel
theorem dL_isStep_339 : decode cL_isStep 339 = .ok (.istore 6, 2) := by decide +kernel
theorem dL_isStep_341 : decode cL_isStep 341 = .ok (.aload_n 0, 1) := by decide +kernel
theorem dL_isStep_342 : decode cL_isStep 342 = .ok (.bipush 10, 2) := by decide +kernel
theorem dL_isStep_344 : decode cL_isStep 344 = .ok (.invokevirtual 38, 3) := by decide +kernel
theorem dL_isStep_347 : decode cL_isStep 347 = .ok (.istore 7, 2) := by decide +kernel
theorem dL_isStep_349 : decode cL_isStep 349 = .ok (.aload_n 0, 1) := by decide +kernel
theorem dL_isStep_350 : decode cL_isStep 350 = .ok (.invokevirtual 53, 3) := by decide +kernel
theorem dL_isStep_353 : decode cL_isStep 353 = .ok (.istore 8, 2) := by decide +kernel
theorem dL_isStep_355 : decode cL_isStep 355 = .ok (.iload 8, 2) := by decide +kernel
theorem dL_isStep_357 : decode cL_isStep 357 = .ok (.aload_n 1, 1) := by decide +kernel
theorem dL_isStep_358 : decode cL_isStep 358 = .ok (.invokevirtual 53, 3) := by decide +kernel
theorem dL_isStep_361 : decode cL_isStep 361 = .ok (.if_icmp .ne 64, 3) := by decide +kernel
theorem dL_isStep_364 : decode cL_isStep 364 = .ok (.iload 8, 2) := by decide +kernel
theorem dL_isStep_366 : decode cL_isStep 366 = .ok (.iload 6, 2) := by decide +kernel
theorem dL_isStep_368 : decode cL_isStep 368 = .ok (.iconst 1, 1) := by decide +kernel
theorem dL_isStep_369 : decode cL_isStep 369 = .ok (.if_icmp .ne 8, 3) := by decide +kernel
theorem dL_isStep_372 : decode cL_isStep 372 = .ok (.iload 5, 2) := by decide +kernel
theorem dL_isStep_374 : decode cL_isStep 374 = .ok (.goto 5, 3) := by decide +kernel
theorem dL_isStep_377 : decode cL_isStep 377 = .ok (.bipush (-5), 2) := by decide +kernel
theorem dL_isStep_379 : decode cL_isStep 379 = .ok (.if_icmp .ne 46, 3) := by decide +kernel
theorem dL_isStep_382 : decode cL_isStep 382 = .ok (.iload 6, 2) := by decide +kernel
theorem dL_isStep_384 : decode cL_isStep 384 = .ok (.ifCond .eq 26, 3) := by decide +kernel
theorem dL_isStep_387 : decode cL_isStep 387 = .ok (.aload_n 0, 1) := by decide +kernel
theorem dL_isStep_388 : decode cL_isStep 388 = .ok (.iconst 4, 1) := by decide +kernel
theorem dL_isStep_389 : decode cL_isStep 389 = .ok (.invokevirtual 38, 3) := by decide +kernel
theorem dL_isStep_392 : decode cL_isStep 392 = .ok (.iload 5, 2) := by decide +kernel
theorem dL_isStep_394 : decode cL_isStep 394 = .ok (.iconst 1, 1) := by decide +kernel
theorem dL_isStep_395 : decode cL_isStep 395 = .ok (.iadd, 1) := by decide +kernel
theorem dL_isStep_396 : decode cL_isStep 396 = .ok (.bipush 16, 2) := by decide +kernel
theorem dL_isStep_398 : decode cL_isStep 398 = .ok (.irem, 1) := by decide +kernel
theorem dL_isStep_399 : decode cL_isStep 399 = .ok (.if_icmp .ne 26, 3) := by decide +kernel
theorem dL_isStep_402 : decode cL_isStep 402 = .ok (.aload_n 0, 1) := by decide +kernel
theorem dL_isStep_403 : decode cL_isStep 403 = .ok (.iconst 5, 1) := by decide +kernel
theorem dL_isStep_404 : decode cL_isStep 404 = .ok (.invokevirtual 38, 3) := by decide +kernel
theorem dL_isStep_407 : decode cL_isStep 407 = .ok (.ifCond .ne 18, 3) := by decide +kernel
theorem dL_isStep_410 : decode cL_isStep 410 = .ok (.aload_n 0, 1) := by decide +kernel
theorem dL_isStep_411 : decode cL_isStep 411 = .ok (.bipush 10, 2) := by decide +kernel
theorem dL_isStep_413 : decode cL_isStep 413 = .ok (.invokevirtual 38, 3) := by decide +kernel
theorem dL_isStep_416 : decode cL_isStep 416 = .ok (.iload 7, 2) := by decide +kernel
theorem dL_isStep_418 : decode cL_isStep 418 = .ok (.if_icmp .ne 7, 3) := by decide +kernel
theorem dL_isStep_421 : decode cL_isStep 421 = .ok (.iconst 1, 1) := by decide +kernel
theorem dL_isStep_422 : decode cL_isStep 422 = .ok (.goto 4, 3) := by decide +kernel
theorem dL_isStep_425 : decode cL_isStep 425 = .ok (.iconst 0, 1) := by decide +kernel
theorem dL_isStep_426 : decode cL_isStep 426 = .ok (.ireturn, 1) := by decide +kernel
theorem dL_isStep_427 : decode cL_isStep 427 = .ok (.aload_n 0, 1) := by decide +kernel
theorem dL_isStep_428 : decode cL_isStep 428 = .ok (.bipush 7, 2) := by decide +kernel
theorem dL_isStep_430 : decode cL_isStep 430 = .ok (.invokevirtual 38, 3) := by decide +kernel
theorem dL_isStep_433 : decode cL_isStep 433 = .ok (.istore 5, 2) := by decide +kernel
theorem dL_isStep_435 : decode cL_isStep 435 = .ok (.aload_n 0, 1) := by decide +kernel
theorem dL_isStep_436 : decode cL_isStep 436 = .ok (.invokevirtual 56, 3) := by decide +kernel
theorem dL_isStep_439 : decode cL_isStep 439 = .ok (.iload 5, 2) := by decide +kernel
theorem dL_isStep_441 : decode cL_isStep 441 = .ok (.if_icmp .ne 46, 3) := by decide +kernel
theorem dL_isStep_444 : decode cL_isStep 444 = .ok (.aload_n 1, 1) := by decide +kernel
theorem dL_isStep_445 : decode cL_isStep 445 = .ok (.invokevirtual 56, 3) := by decide +kernel
theorem dL_isStep_448 : decode cL_isStep 448 = .ok (.iload 5, 2) := by decide +kernel
theorem dL_isStep_450 : decode cL_isStep 450 = .ok (.invokestatic 31, 3) := by decide +kernel
theorem dL_isStep_453 : decode cL_isStep 453 = .ok (.if_icmp .ne 34, 3) := by decide +kernel
theorem dL_isStep_456 : decode cL_isStep 456 = .ok (.aload_n 0, 1) := by decide +kernel
theorem dL_isStep_457 : decode cL_isStep 457 = .ok (.bipush 7, 2) := by decide +kernel
theorem dL_isStep_459 : decode cL_isStep 459 = .ok (.invokevirtual 38, 3) := by decide +kernel
theorem dL_isStep_462 : decode cL_isStep 462 = .ok (.ifCond .ne 25, 3) := by decide +kernel
theorem dL_isStep_465 : decode cL_isStep 465 = .ok (.aload_n 0, 1) := by decide +kernel
theorem dL_isStep_466 : decode cL_isStep 466 = .ok (.bipush 8, 2) := by decide +kernel
theorem dL_isStep_468 : decode cL_isStep 468 = .ok (.invokevirtual 38, 3) := by decide +kernel
theorem dL_isStep_471 : decode cL_isStep 471 = .ok (.ifCond .ne 16, 3) := by decide +kernel
theorem dL_isStep_474 : decode cL_isStep 474 = .ok (.aload_n 0, 1) := by decide +kernel
theorem dL_isStep_475 : decode cL_isStep 475 = .ok (.bipush 9, 2) := by decide +kernel
theorem dL_isStep_477 : decode cL_isStep 477 = .ok (.invokevirtual 38, 3) := by decide +kernel
theorem dL_isStep_480 : decode cL_isStep 480 = .ok (.ifCond .ne 7, 3) := by decide +kernel
theorem dL_isStep_483 : decode cL_isStep 483 = .ok (.iconst 1, 1) := by decide +kernel
theorem dL_isStep_484 : decode cL_isStep 484 = .ok (.goto 4, 3) := by decide +kernel
theorem dL_isStep_487 : decode cL_isStep 487 = .ok (.iconst 0, 1) := by decide +kernel
theorem dL_isStep_488 : decode cL_isStep 488 = .ok (.ireturn, 1) := by decide +kernel
theorem dL_isStep_489 : decode cL_isStep 489 = .ok (.iload_n 3, 1) := by decide +kernel
theorem dL_isStep_490 : decode cL_isStep 490 = .ok (.iconst 2, 1) := by decide +kernel
theorem dL_isStep_491 : decode cL_isStep 491 = .ok (.invokestatic 15, 3) := by decide +kernel
theorem dL_isStep_494 : decode cL_isStep 494 = .ok (.ifCond .ne 34, 3) := by decide +kernel
theorem dL_isStep_497 : decode cL_isStep 497 = .ok (.aload_n 0, 1) := by decide +kernel
theorem dL_isStep_498 : decode cL_isStep 498 = .ok (.iload 4, 2) := by decide +kernel
theorem dL_isStep_500 : decode cL_isStep 500 = .ok (.iconst 2, 1) := by decide +kernel
theorem dL_isStep_501 : decode cL_isStep 501 = .ok (.invokestatic 15, 3) := by decide +kernel
theorem dL_isStep_504 : decode cL_isStep 504 = .ok (.invokevirtual 59, 3) := by decide +kernel
theorem dL_isStep_507 : decode cL_isStep 507 = .ok (.aload_n 1, 1) := by decide +kernel
theorem dL_isStep_508 : decode cL_isStep 508 = .ok (.iload 4, 2) := by decide +kernel
theorem dL_isStep_510 : decode cL_isStep 510 = .ok (.iconst 2, 1) := by decide +kernel
theorem dL_isStep_511 : decode cL_isStep 511 = .ok (.invokestatic 15, 3) := by decide +kernel
theorem dL_isStep_514 : decode cL_isStep 514 = .ok (.invokevirtual 59, 3) := by decide +kernel
theorem dL_isStep_517 : decode cL_isStep 517 = .ok (.if_icmp .ne 7, 3) := by decide +kernel
theorem dL_isStep_520 : decode cL_isStep 520 = .ok (.iconst 1, 1) := by decide +kernel
theorem dL_isStep_521 : decode cL_isStep 521 = .ok (.goto 35, 3) := by decide +kernel
theorem dL_isStep_524 : decode cL_isStep 524 = .ok (.iconst 0, 1) := by decide +kernel
theorem dL_isStep_525 : decode cL_isStep 525 = .ok (.goto 31, 3) := by decide +kernel
theorem dL_isStep_528 : decode cL_isStep 528 = .ok (.aload_n 0, 1) := by decide +kernel
theorem dL_isStep_529 : decode cL_isStep 529 = .ok (.iload 4, 2) := by decide +kernel
theorem dL_isStep_531 : decode cL_isStep 531 = .ok (.iconst 2, 1) := by decide +kernel
theorem dL_isStep_532 : decode cL_isStep 532 = .ok (.invokestatic 15, 3) := by decide +kernel
theorem dL_isStep_535 : decode cL_isStep 535 = .ok (.invokevirtual 62, 3) := by decide +kernel
theorem dL_isStep_538 : decode cL_isStep 538 = .ok (.aload_n 1, 1) := by decide +kernel
theorem dL_isStep_539 : decode cL_isStep 539 = .ok (.iload 4, 2) := by decide +kernel
theorem dL_isStep_541 : decode cL_isStep 541 = .ok (.iconst 2, 1) := by decide +kernel
theorem dL_isStep_542 : decode cL_isStep 542 = .ok (.invokestatic 15, 3) := by decide +kernel
theorem dL_isStep_545 : decode cL_isStep 545 = .ok (.invokevirtual 62, 3) := by decide +kernel
theorem dL_isStep_548 : decode cL_isStep 548 = .ok (.if_icmp .ne 7, 3) := by decide +kernel
theorem dL_isStep_551 : decode cL_isStep 551 = .ok (.iconst 1, 1) := by decide +kernel
theorem dL_isStep_552 : decode cL_isStep 552 = .ok (.goto 4, 3) := by decide +kernel
theorem dL_isStep_555 : decode cL_isStep 555 = .ok (.iconst 0, 1) := by decide +kernel
theorem dL_isStep_556 : decode cL_isStep 556 = .ok (.ireturn, 1) := by decide +kernel
theorem dL_isStep_557 : decode cL_isStep 557 = .ok (.aload_n 0, 1) := by decide +kernel
theorem dL_isStep_558 : decode cL_isStep 558 = .ok (.aload_n 1, 1) := by decide +kernel
theorem dL_isStep_559 : decode cL_isStep 559 = .ok (.iload_n 3, 1) := by decide +kernel
theorem dL_isStep_560 : decode cL_isStep 560 = .ok (.iload 4, 2) := by decide +kernel
theorem dL_isStep_562 : decode cL_isStep 562 = .ok (.invokestatic 65, 3) := by decide +kernel
theorem dL_isStep_565 : decode cL_isStep 565 = .ok (.ireturn, 1) := by decide +kernel
theorem dL_isStep_566 : decode cL_isStep 566 = .ok (.iconst 1, 1) := by decide +kernel
theorem dL_isStep_567 : decode cL_isStep 567 = .ok (.iload_n 3, 1) := by decide +kernel
theorem dL_isStep_568 : decode cL_isStep 568 = .ok (.iload 4, 2) := by decide +kernel
theorem dL_isStep_570 : decode cL_isStep 570 = .ok (.iconst 5, 1) := by decide +kernel
theorem dL_isStep_571 : decode cL_isStep 571 = .ok (.invokestatic 15, 3) := by decide +kernel
theorem dL_isStep_574 : decode cL_isStep 574 = .ok (.ifCond .ne 9, 3) := by decide +kernel
theorem dL_isStep_577 : decode cL_isStep 577 = .ok (.sipush 200, 3) := by decide +kernel
theorem dL_isStep_580 : decode cL_isStep 580 = .ok (.goto 5, 3) := by decide +kernel
theorem dL_isStep_583 : decode cL_isStep 583 = .ok (.bipush 12, 2) := by decide +kernel
theorem dL_isStep_585 : decode cL_isStep 585 = .ok (.invokestatic 15, 3) := by decide +kernel
theorem dL_isStep_588 : decode cL_isStep 588 = .ok (.iadd, 1) := by decide +kernel
theorem dL_isStep_589 : decode cL_isStep 589 = .ok (.istore 5, 2) := by decide +kernel
theorem dL_isStep_591 : decode cL_isStep 591 = .ok (.aload_n 0, 1) := by decide +kernel
theorem dL_isStep_592 : decode cL_isStep 592 = .ok (.iconst 5, 1) := by decide +kernel
theorem dL_isStep_593 : decode cL_isStep 593 = .ok (.invokevirtual 38, 3) := by decide +kernel
theorem dL_isStep_596 : decode cL_isStep 596 = .ok (.iconst 1, 1) := by decide +kernel
theorem dL_isStep_597 : decode cL_isStep 597 = .ok (.if_icmp .ne 7, 3) := by decide +kernel
theorem dL_isStep_600 : decode cL_isStep 600 = .ok (.iconst 1, 1) := by decide +kernel
theorem dL_isStep_601 : decode cL_isStep 601 = .ok (.goto 4, 3) := by decide +kernel
theorem dL_isStep_604 : decode cL_isStep 604 = .ok (.iconst 0, 1) := by decide +kernel
theorem dL_isStep_605 : decode cL_isStep 605 = .ok (.istore 6, 2) := by decide +kernel
theorem dL_isStep_607 : decode cL_isStep 607 = .ok (.aload_n 0, 1) := by decide +kernel
theorem dL_isStep_608 : decode cL_isStep 608 = .ok (.bipush 10, 2) := by decide +kernel
theorem dL_isStep_610 : decode cL_isStep 610 = .ok (.invokevirtual 38, 3) := by decide +kernel
theorem dL_isStep_613 : decode cL_isStep 613 = .ok (.istore 7, 2) := by decide +kernel
theorem dL_isStep_615 : decode cL_isStep 615 = .ok (.aload_n 0, 1) := by decide +kernel
theorem dL_isStep_616 : decode cL_isStep 616 = .ok (.iconst 4, 1) := by decide +kernel
theorem dL_isStep_617 : decode cL_isStep 617 = .ok (.invokevirtual 38, 3) := by decide +kernel
theorem dL_isStep_620 : decode cL_isStep 620 = .ok (.istore 8, 2) := by decide +kernel
theorem dL_isStep_622 : decode cL_isStep 622 = .ok (.aload_n 0, 1) := by decide +kernel
theorem dL_isStep_623 : decode cL_isStep 623 = .ok (.iload 5, 2) := by decide +kernel
theorem dL_isStep_625 : decode cL_isStep 625 = .ok (.invokevirtual 69, 3) := by decide +kernel
theorem dL_isStep_628 : decode cL_isStep 628 = .ok (.istore 9, 2) := by decide +kernel
theorem dL_isStep_630 : decode cL_isStep 630 = .ok (.iload 6, 2) := by decide +kernel
theorem dL_isStep_632 : decode cL_isStep 632 = .ok (.ifCond .eq 27, 3) := by decide +kernel
theorem dL_isStep_635 : decode cL_isStep 635 = .ok (.iload 9, 2) := by decide +kernel
theorem dL_isStep_637 : decode cL_isStep 637 = .ok (.bipush (-5), 2) := by decide +kernel
theorem dL_isStep_639 : decode cL_isStep 639 = .ok (.if_icmp .ne 18, 3) := by decide +kernel
theorem dL_isStep_642 : decode cL_isStep 642 = .ok (.aload_n 1, 1) := by decide +kernel
theorem dL_isStep_643 : decode cL_isStep 643 = .ok (.iload 5, 2) := by decide +kernel
theorem dL_isStep_645 : decode cL_isStep 645 = .ok (.invokevirtual 69, 3) := by decide +kernel
theorem dL_isStep_648 : decode cL_isStep 648 = .ok (.iload 9, 2) := by decide +kernel
theorem dL_isStep_650 : decode cL_isStep 650 = .ok (.if_icmp .ne 7, 3) := by decide +kernel
theorem dL_isStep_653 : decode cL_isStep 653 = .ok (.iconst 1, 1) := by decide +kernel
theorem dL_isStep_654 : decode cL_isStep 654 = .ok (.goto 4, 3) := by decide +kernel
theorem dL_isStep_657 : decode cL_isStep 657 = .ok (.iconst 0, 1) := by decide +kernel
theorem dL_isStep_658 : decode cL_isStep 658 = .ok (.ireturn, 1) := by decide +kernel
theorem dL_isStep_659 : decode cL_isStep 659 = .ok (.iconst 0, 1) := by decide +kernel
theorem dL_isStep_660 : decode cL_isStep 660 = .ok (.istore 10, 2) := by decide +kernel
theorem dL_isStep_662 : decode cL_isStep 662 = .ok (.iload 10, 2) := by decide +kernel
theorem dL_isStep_664 : decode cL_isStep 664 = .ok (.iload 5, 2) := by decide +kernel
theorem dL_isStep_666 : decode cL_isStep 666 = .ok (.if_icmp .ge 35, 3) := by decide +kernel
theorem dL_isStep_669 : decode cL_isStep 669 = .ok (.aload_n 1, 1) := by decide +kernel
theorem dL_isStep_670 : decode cL_isStep 670 = .ok (.iconst 5, 1) := by decide +kernel
theorem dL_isStep_671 : decode cL_isStep 671 = .ok (.invokevirtual 38, 3) := by decide +kernel
theorem dL_isStep_674 : decode cL_isStep 674 = .ok (.ifCond .ne 27, 3) := by decide +kernel
theorem dL_isStep_677 : decode cL_isStep 677 = .ok (.aload_n 1, 1) := by decide +kernel
theorem dL_isStep_678 : decode cL_isStep 678 = .ok (.iconst 1, 1) := by decide +kernel
theorem dL_isStep_679 : decode cL_isStep 679 = .ok (.invokevirtual 69, 3) := by decide +kernel
theorem dL_isStep_682 : decode cL_isStep 682 = .ok (.istore 11, 2) := by decide +kernel
theorem dL_isStep_684 : decode cL_isStep 684 = .ok (.iload 10, 2) := by decide +kernel
theorem dL_isStep_686 : decode cL_isStep 686 = .ok (.iload 11, 2) := by decide +kernel
theorem dL_isStep_688 : decode cL_isStep 688 = .ok (.iadd, 1) := by decide +kernel
theorem dL_isStep_689 : decode cL_isStep 689 = .ok (.istore 10, 2) := by decide +kernel
theorem dL_isStep_691 : decode cL_isStep 691 = .ok (.iload 11, 2) := by decide +kernel
theorem dL_isStep_693 : decode cL_isStep 693 = .ok (.ifCond .ge 5, 3) := by decide +kernel
theorem dL_isStep_696 : decode cL_isStep 696 = .ok (.iconst 0, 1) := by decide +kernel
theorem dL_isStep_697 : decode cL_isStep 697 = .ok (.ireturn, 1) := by decide +kernel
theorem dL_isStep_698 : decode cL_isStep 698 = .ok (.goto (-36), 3) := by decide +kernel
theorem dL_isStep_701 : decode cL_isStep 701 = .ok (.iload 9, 2) := by decide +kernel
theorem dL_isStep_703 : decode cL_isStep 703 = .ok (.iload 10, 2) := by decide +kernel
theorem dL_isStep_705 : decode cL_isStep 705 = .ok (.if_icmp .ne 65, 3) := by decide +kernel
theorem dL_isStep_708 : decode cL_isStep 708 = .ok (.aload_n 0, 1) := by decide +kernel
theorem dL_isStep_709 : decode cL_isStep 709 = .ok (.bipush 10, 2) := by decide +kernel
theorem dL_isStep_711 : decode cL_isStep 711 = .ok (.invokevirtual 38, 3) := by decide +kernel
theorem dL_isStep_714 : decode cL_isStep 714 = .ok (.iload 7, 2) := by decide +kernel
theorem dL_isStep_716 : decode cL_isStep 716 = .ok (.iload 10, 2) := by decide +kernel
theorem dL_isStep_718 : decode cL_isStep 718 = .ok (.iadd, 1) := by decide +kernel
theorem dL_isStep_719 : decode cL_isStep 719 = .ok (.if_icmp .ne 51, 3) := by decide +kernel
theorem dL_isStep_722 : decode cL_isStep 722 = .ok (.aload_n 0, 1) := by decide +kernel
theorem dL_isStep_723 : decode cL_isStep 723 = .ok (.iconst 4, 1) := by decide +kernel
theorem dL_isStep_724 : decode cL_isStep 724 = .ok (.invokevirtual 38, 3) := by decide +kernel
theorem dL_isStep_727 : decode cL_isStep 727 = .ok (.iload 8, 2) := by decide +kernel
theorem dL_isStep_729 : decode cL_isStep 729 = .ok (.iload 10, 2) := by decide +kernel
theorem dL_isStep_731 : decode cL_isStep 731 = .ok (.iadd, 1) := by decide +kernel
theorem dL_isStep_732 : decode cL_isStep 732 = .ok (.bipush 16, 2) := by decide +kernel
theorem dL_isStep_734 : decode cL_isStep 734 = .ok (.irem, 1) := by decide +kernel
theorem dL_isStep_735 : decode cL_isStep 735 = .ok (.if_icmp .ne 35, 3) := by decide +kernel
theorem dL_isStep_738 : decode cL_isStep 738 = .ok (.iload 9, 2) := by decide +kernel
theorem dL_isStep_740 : decode cL_isStep 740 = .ok (.iload 5, 2) := by decide +kernel
theorem dL_isStep_742 : decode cL_isStep 742 = .ok (.if_icmp .ne 7, 3) := by decide +kernel
theorem dL_isStep_745 : decode cL_isStep 745 = .ok (.iconst 1, 1) := by decide +kernel
theorem dL_isStep_746 : decode cL_isStep 746 = .ok (.goto 4, 3) := by decide +kernel
theorem dL_isStep_749 : decode cL_isStep 749 = .ok (.iconst 0, 1) := by decide +kernel
theorem dL_isStep_750 : decode cL_isStep 750 = .ok (.aload_n 0, 1) := by decide +kernel
theorem dL_isStep_751 : decode cL_isStep 751 = .ok (.iconst 5, 1) := by decide +kernel
theorem dL_isStep_752 : decode cL_isStep 752 = .ok (.invokevirtual 38, 3) := by decide +kernel
theorem dL_isStep_755 : decode cL_isStep 755 = .ok (.ifCond .ne 7, 3) := by decide +kernel
theorem dL_isStep_758 : decode cL_isStep 758 = .ok (.iconst 1, 1) := by decide +kernel
theorem dL_isStep_759 : decode cL_isStep 759 = .ok (.goto 4, 3) := by decide +kernel
theorem dL_isStep_762 : decode cL_isStep 762 = .ok (.iconst 0, 1) := by decide +kernel
theorem dL_isStep_763 : decode cL_isStep 763 = .ok (.if_icmp .ne 7, 3) := by decide +kernel
theorem dL_isStep_766 : decode cL_isStep 766 = .ok (.iconst 1, 1) := by decide +kernel
theorem dL_isStep_767 : decode cL_isStep 767 = .ok (.goto 4, 3) := by decide +kernel
theorem dL_isStep_770 : decode cL_isStep 770 = .ok (.iconst 0, 1) := by decide +kernel
theorem dL_isStep_771 : decode cL_isStep 771 = .ok (.ireturn, 1) := by decide +kernel
theorem dL_isStep_772 : decode cL_isStep 772 = .ok (.iload 4, 2) := by decide +kernel
theorem dL_isStep_774 : decode cL_isStep 774 = .ok (.bipush 16, 2) := by decide +kernel
theorem dL_isStep_776 : decode cL_isStep 776 = .ok (.invokestatic 15, 3) := by decide +kernel
theorem dL_isStep_779 : decode cL_isStep 779 = .ok (.istore 5, 2) := by decide +kernel
theorem dL_isStep_781 : decode cL_isStep 781 = .ok (.iload_n 3, 1) := by decide +kernel
theorem dL_isStep_782 : decode cL_isStep 782 = .ok (.bipush 6, 2) := by decide +kernel
theorem dL_isStep_784 : decode cL_isStep 784 = .ok (.invokestatic 15, 3) := by decide +kernel
theorem dL_isStep_787 : decode cL_isStep 787 = .ok (.istore 6, 2) := by decide +kernel
theorem dL_isStep_789 : decode cL_isStep 789 = .ok (.aload_n 0, 1) := by decide +kernel
theorem dL_isStep_790 : decode cL_isStep 790 = .ok (.iload 5, 2) := by decide +kernel
theorem dL_isStep_792 : decode cL_isStep 792 = .ok (.iload 6, 2) := by decide +kernel
theorem dL_isStep_794 : decode cL_isStep 794 = .ok (.invokevirtual 72, 3) := by decide +kernel
theorem dL_isStep_797 : decode cL_isStep 797 = .ok (.ifCond .lt 7, 3) := by decide +kernel
theorem dL_isStep_800 : decode cL_isStep 800 = .ok (.iconst 1, 1) := by decide +kernel
theorem dL_isStep_801 : decode cL_isStep 801 = .ok (.goto 4, 3) := by decide +kernel
theorem dL_isStep_804 : decode cL_isStep 804 = .ok (.iconst 0, 1) := by decide +kernel
theorem dL_isStep_805 : decode cL_isStep 805 = .ok (.istore 7, 2) := by decide +kernel
theorem dL_isStep_807 : decode cL_isStep 807 = .ok (.aload_n 0, 1) := by decide +kernel
theorem dL_isStep_808 : decode cL_isStep 808 = .ok (.iload 5, 2) := by decide +kernel
theorem dL_isStep_810 : decode cL_isStep 810 = .ok (.iconst 1, 1) := by decide +kernel
theorem dL_isStep_811 : decode cL_isStep 811 = .ok (.invokevirtual 75, 3) := by decide +kernel
theorem dL_isStep_814 : decode cL_isStep 814 = .ok (.istore 8, 2) := by decide +kernel
theorem dL_isStep_816 : decode cL_isStep 816 = .ok (.aload_n 0, 1) := by decide +kernel
theorem dL_isStep_817 : decode cL_isStep 817 = .ok (.iload 5, 2) := by decide +kernel
theorem dL_isStep_819 : decode cL_isStep 819 = .ok (.iload 6, 2) := by decide +kernel
theorem dL_isStep_821 : decode cL_isStep 821 = .ok (.invokevirtual 78, 3) := by decide +kernel
theorem dL_isStep_824 : decode cL_isStep 824 = .ok (.istore 9, 2) := by decide +kernel
theorem dL_isStep_826 : decode cL_isStep 826 = .ok (.iload 9, 2) := by decide +kernel
theorem dL_isStep_828 : decode cL_isStep 828 = .ok (.aload_n 1, 1) := by decide +kernel
theorem dL_isStep_829 : decode cL_isStep 829 = .ok (.iload 5, 2) := by decide +kernel
theorem dL_isStep_831 : decode cL_isStep 831 = .ok (.iconst 5, 1) := by decide +kernel
theorem dL_isStep_832 : decode cL_isStep 832 = .ok (.iload 6, 2) := by decide +kernel
theorem dL_isStep_834 : decode cL_isStep 834 = .ok (.isub, 1) := by decide +kernel
theorem dL_isStep_835 : decode cL_isStep 835 = .ok (.invokevirtual 78, 3) := by decide +kernel
theorem dL_isStep_838 : decode cL_isStep 838 = .ok (.if_icmp .ne 47, 3) := by decide +kernel
theorem dL_isStep_841 : decode cL_isStep 841 = .ok (.iload 9, 2) := by decide +kernel
theorem dL_isStep_843 : decode cL_isStep 843 = .ok (.iload 8, 2) := by decide +kernel
theorem dL_isStep_845 : decode cL_isStep 845 = .ok (.iload 7, 2) := by decide +kernel
theorem dL_isStep_847 : decode cL_isStep 847 = .ok (.ifCond .eq 7, 3) := by decide +kernel
theorem dL_isStep_850 : decode cL_isStep 850 = .ok (.iconst (-1), 1) := by decide +kernel
theorem dL_isStep_851 : decode cL_isStep 851 = .ok (.goto 4, 3) := by decide +kernel
theorem dL_isStep_854 : decode cL_isStep 854 = .ok (.iconst 1, 1) := by decide +kernel
theorem dL_isStep_855 : decode cL_isStep 855 = .ok (.iadd, 1) := by decide +kernel
theorem dL_isStep_856 : decode cL_isStep 856 = .ok (.if_icmp .ne 29, 3) := by decide +kernel
theorem dL_isStep_859 : decode cL_isStep 859 = .ok (.aload_n 0, 1) := by decide +kernel
theorem dL_isStep_860 : decode cL_isStep 860 = .ok (.iload 5, 2) := by decide +kernel
theorem dL_isStep_862 : decode cL_isStep 862 = .ok (.iload 6, 2) := by decide +kernel
theorem dL_isStep_864 : decode cL_isStep 864 = .ok (.invokevirtual 72, 3) := by decide +kernel
theorem dL_isStep_867 : decode cL_isStep 867 = .ok (.iload 7, 2) := by decide +kernel
theorem dL_isStep_869 : decode cL_isStep 869 = .ok (.ifCond .eq 8, 3) := by decide +kernel
theorem dL_isStep_872 : decode cL_isStep 872 = .ok (.bipush (-6), 2) := by decide +kernel
theorem dL_isStep_874 : decode cL_isStep 874 = .ok (.goto 4, 3) := by decide +kernel
theorem dL_isStep_877 : decode cL_isStep 877 = .ok (.iconst 0, 1) := by decide +kernel
theorem dL_isStep_878 : decode cL_isStep 878 = .ok (.if_icmp .ne 7, 3) := by decide +kernel
theorem dL_isStep_881 : decode cL_isStep 881 = .ok (.iconst 1, 1) := by decide +kernel
theorem dL_isStep_882 : decode cL_isStep 882 = .ok (.goto 4, 3) := by decide +kernel
theorem dL_isStep_885 : decode cL_isStep 885 = .ok (.iconst 0, 1) := by decide +kernel
theorem dL_isStep_886 : decode cL_isStep 886 = .ok (.ireturn, 1) := by decide +kernel
