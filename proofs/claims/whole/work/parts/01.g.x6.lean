set_option maxRecDepth 20000 in
theorem ggX6_readsRow_X6_isHere : GoodIn wsX6_readsRow wsX6_isHere := goodIn_r _ [10, 2, 11, 1, 12, 13, 9, 14, 19, 20, 21, 22, 23, 24, 25, 26, 27, 28, 29, 30] (by decide +kernel) (by decide +kernel)
set_option maxRecDepth 20000 in
theorem gX6_readsRow_X6_isHere : GoodIn wsX6_readsRow (wsV RX6 150 RX6 yX6_isHere wsX6_isHere) := goodIn_app (goodIn_of _ (by decide +kernel)) ggX6_readsRow_X6_isHere
set_option maxRecDepth 20000 in
theorem ggX6_readsRow_X6_takesOne : GoodIn wsX6_readsRow wsX6_takesOne := goodIn_r _ [18, 2, 6, 7, 8, 9, 10, 11, 1, 12, 13, 14, 19, 20, 21, 22, 23, 24, 25, 26, 27, 28, 29, 30] (by decide +kernel) (by decide +kernel)
set_option maxRecDepth 20000 in
theorem gX6_readsRow_X6_takesOne : GoodIn wsX6_readsRow (wsV RX6 153 RX6 yX6_takesOne wsX6_takesOne) := goodIn_app (goodIn_of _ (by decide +kernel)) ggX6_readsRow_X6_takesOne
theorem dX6_readsRow_0 : decode cX6_readsRow 0 = .ok (.aload_n 0, 1) := by decide +kernel
theorem dX6_readsRow_1 : decode cX6_readsRow 1 = .ok (.bipush 48, 2) := by decide +kernel
theorem dX6_readsRow_3 : decode cX6_readsRow 3 = .ok (.bipush 57, 2) := by decide +kernel
theorem dX6_readsRow_5 : decode cX6_readsRow 5 = .ok (.invokevirtual 150, 3) := by decide +kernel
theorem dX6_readsRow_8 : decode cX6_readsRow 8 = .ok (.ifCond .ne 5, 3) := by decide +kernel
theorem dX6_readsRow_11 : decode cX6_readsRow 11 = .ok (.iconst 0, 1) := by decide +kernel
theorem dX6_readsRow_12 : decode cX6_readsRow 12 = .ok (.ireturn, 1) := by decide +kernel
theorem dX6_readsRow_13 : decode cX6_readsRow 13 = .ok (.aload_n 0, 1) := by decide +kernel
theorem dX6_readsRow_14 : decode cX6_readsRow 14 = .ok (.getfield 25, 3) := by decide +kernel
theorem dX6_readsRow_17 : decode cX6_readsRow 17 = .ok (.aload_n 0, 1) := by decide +kernel
theorem dX6_readsRow_18 : decode cX6_readsRow 18 = .ok (.getfield 147, 3) := by decide +kernel
theorem dX6_readsRow_21 : decode cX6_readsRow 21 = .ok (.iaload, 1) := by decide +kernel
theorem dX6_readsRow_22 : decode cX6_readsRow 22 = .ok (.bipush 48, 2) := by decide +kernel
theorem dX6_readsRow_24 : decode cX6_readsRow 24 = .ok (.isub, 1) := by decide +kernel
theorem dX6_readsRow_25 : decode cX6_readsRow 25 = .ok (.istore_n 1, 1) := by decide +kernel
theorem dX6_readsRow_26 : decode cX6_readsRow 26 = .ok (.aload_n 0, 1) := by decide +kernel
theorem dX6_readsRow_27 : decode cX6_readsRow 27 = .ok (.dup, 1) := by decide +kernel
theorem dX6_readsRow_28 : decode cX6_readsRow 28 = .ok (.getfield 147, 3) := by decide +kernel
theorem dX6_readsRow_31 : decode cX6_readsRow 31 = .ok (.iconst 1, 1) := by decide +kernel
theorem dX6_readsRow_32 : decode cX6_readsRow 32 = .ok (.iadd, 1) := by decide +kernel
theorem dX6_readsRow_33 : decode cX6_readsRow 33 = .ok (.putfield 147, 3) := by decide +kernel
theorem dX6_readsRow_36 : decode cX6_readsRow 36 = .ok (.iload_n 1, 1) := by decide +kernel
theorem dX6_readsRow_37 : decode cX6_readsRow 37 = .ok (.iconst 1, 1) := by decide +kernel
theorem dX6_readsRow_38 : decode cX6_readsRow 38 = .ok (.if_icmp .ne 40, 3) := by decide +kernel
theorem dX6_readsRow_41 : decode cX6_readsRow 41 = .ok (.aload_n 0, 1) := by decide +kernel
theorem dX6_readsRow_42 : decode cX6_readsRow 42 = .ok (.bipush 48, 2) := by decide +kernel
theorem dX6_readsRow_44 : decode cX6_readsRow 44 = .ok (.bipush 53, 2) := by decide +kernel
theorem dX6_readsRow_46 : decode cX6_readsRow 46 = .ok (.invokevirtual 150, 3) := by decide +kernel
theorem dX6_readsRow_49 : decode cX6_readsRow 49 = .ok (.ifCond .eq 29, 3) := by decide +kernel
theorem dX6_readsRow_52 : decode cX6_readsRow 52 = .ok (.bipush 10, 2) := by decide +kernel
theorem dX6_readsRow_54 : decode cX6_readsRow 54 = .ok (.aload_n 0, 1) := by decide +kernel
theorem dX6_readsRow_55 : decode cX6_readsRow 55 = .ok (.getfield 25, 3) := by decide +kernel
theorem dX6_readsRow_58 : decode cX6_readsRow 58 = .ok (.aload_n 0, 1) := by decide +kernel
theorem dX6_readsRow_59 : decode cX6_readsRow 59 = .ok (.getfield 147, 3) := by decide +kernel
theorem dX6_readsRow_62 : decode cX6_readsRow 62 = .ok (.iaload, 1) := by decide +kernel
theorem dX6_readsRow_63 : decode cX6_readsRow 63 = .ok (.iadd, 1) := by decide +kernel
theorem dX6_readsRow_64 : decode cX6_readsRow 64 = .ok (.bipush 48, 2) := by decide +kernel
theorem dX6_readsRow_66 : decode cX6_readsRow 66 = .ok (.isub, 1) := by decide +kernel
theorem dX6_readsRow_67 : decode cX6_readsRow 67 = .ok (.istore_n 1, 1) := by decide +kernel
theorem dX6_readsRow_68 : decode cX6_readsRow 68 = .ok (.aload_n 0, 1) := by decide +kernel
theorem dX6_readsRow_69 : decode cX6_readsRow 69 = .ok (.dup, 1) := by decide +kernel
theorem dX6_readsRow_70 : decode cX6_readsRow 70 = .ok (.getfield 147, 3) := by decide +kernel
theorem dX6_readsRow_73 : decode cX6_readsRow 73 = .ok (.iconst 1, 1) := by decide +kernel
theorem dX6_readsRow_74 : decode cX6_readsRow 74 = .ok (.iadd, 1) := by decide +kernel
theorem dX6_readsRow_75 : decode cX6_readsRow 75 = .ok (.putfield 147, 3) := by decide +kernel
theorem dX6_readsRow_78 : decode cX6_readsRow 78 = .ok (.aload_n 0, 1) := by decide +kernel
theorem dX6_readsRow_79 : decode cX6_readsRow 79 = .ok (.bipush 58, 2) := by decide +kernel
theorem dX6_readsRow_81 : decode cX6_readsRow 81 = .ok (.invokevirtual 153, 3) := by decide +kernel
theorem dX6_readsRow_84 : decode cX6_readsRow 84 = .ok (.ifCond .ne 5, 3) := by decide +kernel
theorem dX6_readsRow_87 : decode cX6_readsRow 87 = .ok (.iconst 0, 1) := by decide +kernel
theorem dX6_readsRow_88 : decode cX6_readsRow 88 = .ok (.ireturn, 1) := by decide +kernel
theorem dX6_readsRow_89 : decode cX6_readsRow 89 = .ok (.iconst 0, 1) := by decide +kernel
theorem dX6_readsRow_90 : decode cX6_readsRow 90 = .ok (.istore_n 2, 1) := by decide +kernel
theorem dX6_readsRow_91 : decode cX6_readsRow 91 = .ok (.iconst 0, 1) := by decide +kernel
theorem dX6_readsRow_92 : decode cX6_readsRow 92 = .ok (.istore_n 3, 1) := by decide +kernel
theorem dX6_readsRow_93 : decode cX6_readsRow 93 = .ok (.iload_n 3, 1) := by decide +kernel
theorem dX6_readsRow_94 : decode cX6_readsRow 94 = .ok (.bipush 6, 2) := by decide +kernel
theorem dX6_readsRow_96 : decode cX6_readsRow 96 = .ok (.if_icmp .ge 61, 3) := by decide +kernel
theorem dX6_readsRow_99 : decode cX6_readsRow 99 = .ok (.aload_n 0, 1) := by decide +kernel
theorem dX6_readsRow_100 : decode cX6_readsRow 100 = .ok (.bipush 48, 2) := by decide +kernel
theorem dX6_readsRow_102 : decode cX6_readsRow 102 = .ok (.iload_n 3, 1) := by decide +kernel
theorem dX6_readsRow_103 : decode cX6_readsRow 103 = .ok (.iadd, 1) := by decide +kernel
theorem dX6_readsRow_104 : decode cX6_readsRow 104 = .ok (.bipush 53, 2) := by decide +kernel
theorem dX6_readsRow_106 : decode cX6_readsRow 106 = .ok (.invokevirtual 150, 3) := by decide +kernel
theorem dX6_readsRow_109 : decode cX6_readsRow 109 = .ok (.ifCond .eq 48, 3) := by decide +kernel
theorem dX6_readsRow_112 : decode cX6_readsRow 112 = .ok (.iload_n 2, 1) := by decide +kernel
theorem dX6_readsRow_113 : decode cX6_readsRow 113 = .ok (.iconst 1, 1) := by decide +kernel
theorem dX6_readsRow_114 : decode cX6_readsRow 114 = .ok (.aload_n 0, 1) := by decide +kernel
theorem dX6_readsRow_115 : decode cX6_readsRow 115 = .ok (.getfield 25, 3) := by decide +kernel
theorem dX6_readsRow_118 : decode cX6_readsRow 118 = .ok (.aload_n 0, 1) := by decide +kernel
theorem dX6_readsRow_119 : decode cX6_readsRow 119 = .ok (.getfield 147, 3) := by decide +kernel
theorem dX6_readsRow_122 : decode cX6_readsRow 122 = .ok (.iaload, 1) := by decide +kernel
theorem dX6_readsRow_123 : decode cX6_readsRow 123 = .ok (.bipush 48, 2) := by decide +kernel
theorem dX6_readsRow_125 : decode cX6_readsRow 125 = .ok (.isub, 1) := by decide +kernel
theorem dX6_readsRow_126 : decode cX6_readsRow 126 = .ok (.ishl, 1) := by decide +kernel
theorem dX6_readsRow_127 : decode cX6_readsRow 127 = .ok (.ior, 1) := by decide +kernel
theorem dX6_readsRow_128 : decode cX6_readsRow 128 = .ok (.istore_n 2, 1) := by decide +kernel
theorem dX6_readsRow_129 : decode cX6_readsRow 129 = .ok (.aload_n 0, 1) := by decide +kernel
theorem dX6_readsRow_130 : decode cX6_readsRow 130 = .ok (.getfield 25, 3) := by decide +kernel
theorem dX6_readsRow_133 : decode cX6_readsRow 133 = .ok (.aload_n 0, 1) := by decide +kernel
theorem dX6_readsRow_134 : decode cX6_readsRow 134 = .ok (.getfield 147, 3) := by decide +kernel
theorem dX6_readsRow_137 : decode cX6_readsRow 137 = .ok (.iaload, 1) := by decide +kernel
theorem dX6_readsRow_138 : decode cX6_readsRow 138 = .ok (.bipush 48, 2) := by decide +kernel
theorem dX6_readsRow_140 : decode cX6_readsRow 140 = .ok (.isub, 1) := by decide +kernel
theorem dX6_readsRow_141 : decode cX6_readsRow 141 = .ok (.iconst 1, 1) := by decide +kernel
theorem dX6_readsRow_142 : decode cX6_readsRow 142 = .ok (.iadd, 1) := by decide +kernel
theorem dX6_readsRow_143 : decode cX6_readsRow 143 = .ok (.istore_n 3, 1) := by decide +kernel
theorem dX6_readsRow_144 : decode cX6_readsRow 144 = .ok (.aload_n 0, 1) := by decide +kernel
theorem dX6_readsRow_145 : decode cX6_readsRow 145 = .ok (.dup, 1) := by decide +kernel
theorem dX6_readsRow_146 : decode cX6_readsRow 146 = .ok (.getfield 147, 3) := by decide +kernel
theorem dX6_readsRow_149 : decode cX6_readsRow 149 = .ok (.iconst 1, 1) := by decide +kernel
theorem dX6_readsRow_150 : decode cX6_readsRow 150 = .ok (.iadd, 1) := by decide +kernel
theorem dX6_readsRow_151 : decode cX6_readsRow 151 = .ok (.putfield 147, 3) := by decide +kernel
theorem dX6_readsRow_154 : decode cX6_readsRow 154 = .ok (.goto (-61), 3) := by decide +kernel
theorem dX6_readsRow_157 : decode cX6_readsRow 157 = .ok (.aload_n 0, 1) := by decide +kernel
theorem dX6_readsRow_158 : decode cX6_readsRow 158 = .ok (.getfield 28, 3) := by decide +kernel
theorem dX6_readsRow_161 : decode cX6_readsRow 161 = .ok (.aload_n 0, 1) := by decide +kernel
theorem dX6_readsRow_162 : decode cX6_readsRow 162 = .ok (.getfield 156, 3) := by decide +kernel
theorem dX6_readsRow_165 : decode cX6_readsRow 165 = .ok (.iload_n 1, 1) := by decide +kernel
theorem dX6_readsRow_166 : decode cX6_readsRow 166 = .ok (.iastore, 1) := by decide +kernel
theorem dX6_readsRow_167 : decode cX6_readsRow 167 = .ok (.aload_n 0, 1) := by decide +kernel
theorem dX6_readsRow_168 : decode cX6_readsRow 168 = .ok (.getfield 31, 3) := by decide +kernel
theorem dX6_readsRow_171 : decode cX6_readsRow 171 = .ok (.aload_n 0, 1) := by decide +kernel
theorem dX6_readsRow_172 : decode cX6_readsRow 172 = .ok (.getfield 156, 3) := by decide +kernel
theorem dX6_readsRow_175 : decode cX6_readsRow 175 = .ok (.iload_n 2, 1) := by decide +kernel
theorem dX6_readsRow_176 : decode cX6_readsRow 176 = .ok (.iastore, 1) := by decide +kernel
theorem dX6_readsRow_177 : decode cX6_readsRow 177 = .ok (.aload_n 0, 1) := by decide +kernel
theorem dX6_readsRow_178 : decode cX6_readsRow 178 = .ok (.dup, 1) := by decide +kernel
theorem dX6_readsRow_179 : decode cX6_readsRow 179 = .ok (.getfield 156, 3) := by decide +kernel
theorem dX6_readsRow_182 : decode cX6_readsRow 182 = .ok (.iconst 1, 1) := by decide +kernel
theorem dX6_readsRow_183 : decode cX6_readsRow 183 = .ok (.iadd, 1) := by decide +kernel
theorem dX6_readsRow_184 : decode cX6_readsRow 184 = .ok (.putfield 156, 3) := by decide +kernel
theorem dX6_readsRow_187 : decode cX6_readsRow 187 = .ok (.iconst 1, 1) := by decide +kernel
theorem dX6_readsRow_188 : decode cX6_readsRow 188 = .ok (.ireturn, 1) := by decide +kernel
set_option maxRecDepth 20000 in
theorem ggX6_fault_X6_readsRow : GoodIn wsX6_fault wsX6_readsRow := goodIn_r _ [8, 9, 1, 10, 2, 11, 12, 13, 14, 7, 15, 3, 16, 17, 18, 19, 20, 21, 22, 23, 24, 25, 26, 27, 28, 29, 30, 31, 32, 33, 34] (by decide +kernel) (by decide +kernel)
set_option maxRecDepth 20000 in
theorem gX6_fault_X6_readsRow : GoodIn wsX6_fault (wsV RX6 159 RX6 yX6_readsRow wsX6_readsRow) := goodIn_app (goodIn_of _ (by decide +kernel)) ggX6_fault_X6_readsRow
set_option maxRecDepth 20000 in
theorem ggX6_fault_X6_takesOne : GoodIn wsX6_fault wsX6_takesOne := goodIn_r _ [22, 1, 12, 13, 14, 7, 15, 3, 9, 16, 17, 18, 23, 24, 25, 26, 27, 28, 29, 30, 31, 32, 33, 34] (by decide +kernel) (by decide +kernel)
set_option maxRecDepth 20000 in
theorem gX6_fault_X6_takesOne : GoodIn wsX6_fault (wsV RX6 153 RX6 yX6_takesOne wsX6_takesOne) := goodIn_app (goodIn_of _ (by decide +kernel)) ggX6_fault_X6_takesOne
theorem dX6_fault_0 : decode cX6_fault 0 = .ok (.aload_n 0, 1) := by decide +kernel
theorem dX6_fault_1 : decode cX6_fault 1 = .ok (.iconst 0, 1) := by decide +kernel
theorem dX6_fault_2 : decode cX6_fault 2 = .ok (.putfield 147, 3) := by decide +kernel
theorem dX6_fault_5 : decode cX6_fault 5 = .ok (.aload_n 0, 1) := by decide +kernel
theorem dX6_fault_6 : decode cX6_fault 6 = .ok (.iconst 0, 1) := by decide +kernel
theorem dX6_fault_7 : decode cX6_fault 7 = .ok (.putfield 156, 3) := by decide +kernel
theorem dX6_fault_10 : decode cX6_fault 10 = .ok (.iconst 1, 1) := by decide +kernel
theorem dX6_fault_11 : decode cX6_fault 11 = .ok (.istore_n 1, 1) := by decide +kernel
theorem dX6_fault_12 : decode cX6_fault 12 = .ok (.iload_n 1, 1) := by decide +kernel
theorem dX6_fault_13 : decode cX6_fault 13 = .ok (.ifCond .eq 25, 3) := by decide +kernel
theorem dX6_fault_16 : decode cX6_fault 16 = .ok (.aload_n 0, 1) := by decide +kernel
theorem dX6_fault_17 : decode cX6_fault 17 = .ok (.invokevirtual 159, 3) := by decide +kernel
theorem dX6_fault_20 : decode cX6_fault 20 = .ok (.ifCond .ne 8, 3) := by decide +kernel
theorem dX6_fault_23 : decode cX6_fault 23 = .ok (.aload_n 0, 1) := by decide +kernel
theorem dX6_fault_24 : decode cX6_fault 24 = .ok (.getfield 147, 3) := by decide +kernel
theorem dX6_fault_27 : decode cX6_fault 27 = .ok (.ireturn, 1) := by decide +kernel
theorem dX6_fault_28 : decode cX6_fault 28 = .ok (.aload_n 0, 1) := by decide +kernel
theorem dX6_fault_29 : decode cX6_fault 29 = .ok (.bipush 59, 2) := by decide +kernel
theorem dX6_fault_31 : decode cX6_fault 31 = .ok (.invokevirtual 153, 3) := by decide +kernel
theorem dX6_fault_34 : decode cX6_fault 34 = .ok (.istore_n 1, 1) := by decide +kernel
theorem dX6_fault_35 : decode cX6_fault 35 = .ok (.goto (-23), 3) := by decide +kernel
theorem dX6_fault_38 : decode cX6_fault 38 = .ok (.aload_n 0, 1) := by decide +kernel
theorem dX6_fault_39 : decode cX6_fault 39 = .ok (.getfield 147, 3) := by decide +kernel
theorem dX6_fault_42 : decode cX6_fault 42 = .ok (.aload_n 0, 1) := by decide +kernel
theorem dX6_fault_43 : decode cX6_fault 43 = .ok (.getfield 121, 3) := by decide +kernel
theorem dX6_fault_46 : decode cX6_fault 46 = .ok (.if_icmp .ne 8, 3) := by decide +kernel
theorem dX6_fault_49 : decode cX6_fault 49 = .ok (.bipush (-6), 2) := by decide +kernel
theorem dX6_fault_51 : decode cX6_fault 51 = .ok (.goto 7, 3) := by decide +kernel
theorem dX6_fault_54 : decode cX6_fault 54 = .ok (.aload_n 0, 1) := by decide +kernel
theorem dX6_fault_55 : decode cX6_fault 55 = .ok (.getfield 147, 3) := by decide +kernel
theorem dX6_fault_58 : decode cX6_fault 58 = .ok (.ireturn, 1) := by decide +kernel
set_option maxRecDepth 20000 in
theorem ggX6_read_X6_fault : GoodIn wsX6_read wsX6_fault := goodIn_r _ [10, 11, 1, 5, 12, 13, 14, 9, 15, 16, 2, 3, 17, 18, 19, 20, 21, 22, 23, 24, 25, 26, 27, 49, 50, 51, 52, 53, 54, 55, 56, 57, 58, 59, 60] (by decide +kernel) (by decide +kernel)
set_option maxRecDepth 20000 in
theorem gX6_read_X6_fault : GoodIn wsX6_read (wsV RX6 162 RX6 yX6_fault wsX6_fault) := goodIn_app (goodIn_of _ (by decide +kernel)) ggX6_read_X6_fault
set_option maxRecDepth 20000 in
theorem ggX6_read_X6_changes : GoodIn wsX6_read wsX6_changes := goodIn_r _ [31, 32, 33, 4, 49, 50, 51, 52, 53, 54, 55, 56, 57, 58, 59, 60] (by decide +kernel) (by decide +kernel)
set_option maxRecDepth 20000 in
theorem gX6_read_X6_changes : GoodIn wsX6_read (wsV RX6 91 RX6 yX6_changes wsX6_changes) := goodIn_app (goodIn_of _ (by decide +kernel)) ggX6_read_X6_changes
set_option maxRecDepth 20000 in
theorem ggX6_read_X6_at : GoodIn wsX6_read wsX6_at := goodIn_r _ [36] (by decide +kernel) (by decide +kernel)
set_option maxRecDepth 20000 in
theorem gX6_read_X6_at : GoodIn wsX6_read (va_wsS RX6 46 yX6_at wsX6_at) := goodIn_app (goodIn_of _ (by decide +kernel)) ggX6_read_X6_at
set_option maxRecDepth 20000 in
theorem ggX6_read_X6_pegs : GoodIn wsX6_read wsX6_pegs := goodIn_r _ [40, 41, 42, 43, 9, 44, 45, 46, 47, 48, 4, 34, 35, 36, 49, 50, 51, 52, 53, 54, 55, 56, 57, 58, 59, 60] (by decide +kernel) (by decide +kernel)
set_option maxRecDepth 20000 in
theorem gX6_read_X6_pegs : GoodIn wsX6_read (wsV RX6 114 RX6 yX6_pegs wsX6_pegs) := goodIn_app (goodIn_of _ (by decide +kernel)) ggX6_read_X6_pegs
theorem dX6_read_0 : decode cX6_read 0 = .ok (.aload_n 0, 1) := by decide +kernel
theorem dX6_read_1 : decode cX6_read 1 = .ok (.invokevirtual 162, 3) := by decide +kernel
theorem dX6_read_4 : decode cX6_read 4 = .ok (.bipush (-6), 2) := by decide +kernel
theorem dX6_read_6 : decode cX6_read 6 = .ok (.if_icmp .eq 6, 3) := by decide +kernel
theorem dX6_read_9 : decode cX6_read 9 = .ok (.bipush (-3), 2) := by decide +kernel
theorem dX6_read_11 : decode cX6_read 11 = .ok (.ireturn, 1) := by decide +kernel
theorem dX6_read_12 : decode cX6_read 12 = .ok (.aload_n 0, 1) := by decide +kernel
theorem dX6_read_13 : decode cX6_read 13 = .ok (.invokevirtual 91, 3) := by decide +kernel
theorem dX6_read_16 : decode cX6_read 16 = .ok (.iconst 0, 1) := by decide +kernel
theorem dX6_read_17 : decode cX6_read 17 = .ok (.istore_n 1, 1) := by decide +kernel
theorem dX6_read_18 : decode cX6_read 18 = .ok (.iload_n 1, 1) := by decide +kernel
theorem dX6_read_19 : decode cX6_read 19 = .ok (.bipush 6, 2) := by decide +kernel
theorem dX6_read_21 : decode cX6_read 21 = .ok (.aload_n 0, 1) := by decide +kernel
theorem dX6_read_22 : decode cX6_read 22 = .ok (.getfield 156, 3) := by decide +kernel
theorem dX6_read_25 : decode cX6_read 25 = .ok (.imul, 1) := by decide +kernel
theorem dX6_read_26 : decode cX6_read 26 = .ok (.if_icmp .ge 88, 3) := by decide +kernel
theorem dX6_read_29 : decode cX6_read 29 = .ok (.aload_n 0, 1) := by decide +kernel
theorem dX6_read_30 : decode cX6_read 30 = .ok (.getfield 28, 3) := by decide +kernel
theorem dX6_read_33 : decode cX6_read 33 = .ok (.iload_n 1, 1) := by decide +kernel
theorem dX6_read_34 : decode cX6_read 34 = .ok (.bipush 6, 2) := by decide +kernel
theorem dX6_read_36 : decode cX6_read 36 = .ok (.idiv, 1) := by decide +kernel
theorem dX6_read_37 : decode cX6_read 37 = .ok (.iaload, 1) := by decide +kernel
theorem dX6_read_38 : decode cX6_read 38 = .ok (.iload_n 1, 1) := by decide +kernel
theorem dX6_read_39 : decode cX6_read 39 = .ok (.bipush 6, 2) := by decide +kernel
theorem dX6_read_41 : decode cX6_read 41 = .ok (.irem, 1) := by decide +kernel
theorem dX6_read_42 : decode cX6_read 42 = .ok (.invokestatic 46, 3) := by decide +kernel
theorem dX6_read_45 : decode cX6_read 45 = .ok (.istore_n 2, 1) := by decide +kernel
theorem dX6_read_46 : decode cX6_read 46 = .ok (.aload_n 0, 1) := by decide +kernel
theorem dX6_read_47 : decode cX6_read 47 = .ok (.getfield 31, 3) := by decide +kernel
theorem dX6_read_50 : decode cX6_read 50 = .ok (.iload_n 1, 1) := by decide +kernel
theorem dX6_read_51 : decode cX6_read 51 = .ok (.bipush 6, 2) := by decide +kernel
theorem dX6_read_53 : decode cX6_read 53 = .ok (.idiv, 1) := by decide +kernel
theorem dX6_read_54 : decode cX6_read 54 = .ok (.iaload, 1) := by decide +kernel
theorem dX6_read_55 : decode cX6_read 55 = .ok (.iload_n 1, 1) := by decide +kernel
theorem dX6_read_56 : decode cX6_read 56 = .ok (.bipush 6, 2) := by decide +kernel
theorem dX6_read_58 : decode cX6_read 58 = .ok (.irem, 1) := by decide +kernel
theorem dX6_read_59 : decode cX6_read 59 = .ok (.ishr, 1) := by decide +kernel
theorem dX6_read_60 : decode cX6_read 60 = .ok (.iconst 1, 1) := by decide +kernel
theorem dX6_read_61 : decode cX6_read 61 = .ok (.iand, 1) := by decide +kernel
theorem dX6_read_62 : decode cX6_read 62 = .ok (.iconst 1, 1) := by decide +kernel
theorem dX6_read_63 : decode cX6_read 63 = .ok (.if_icmp .ne 7, 3) := by decide +kernel
theorem dX6_read_66 : decode cX6_read 66 = .ok (.iconst 1, 1) := by decide +kernel
theorem dX6_read_67 : decode cX6_read 67 = .ok (.goto 4, 3) := by decide +kernel
theorem dX6_read_70 : decode cX6_read 70 = .ok (.iconst 0, 1) := by decide +kernel
theorem dX6_read_71 : decode cX6_read 71 = .ok (.istore_n 3, 1) := by decide +kernel
theorem dX6_read_72 : decode cX6_read 72 = .ok (.aload_n 0, 1) := by decide +kernel
theorem dX6_read_73 : decode cX6_read 73 = .ok (.getfield 7, 3) := by decide +kernel
theorem dX6_read_76 : decode cX6_read 76 = .ok (.iload_n 2, 1) := by decide +kernel
theorem dX6_read_77 : decode cX6_read 77 = .ok (.iload_n 3, 1) := by decide +kernel
theorem dX6_read_78 : decode cX6_read 78 = .ok (.ifCond .ne 8, 3) := by decide +kernel
theorem dX6_read_81 : decode cX6_read 81 = .ok (.bipush (-6), 2) := by decide +kernel
theorem dX6_read_83 : decode cX6_read 83 = .ok (.goto 24, 3) := by decide +kernel
theorem dX6_read_86 : decode cX6_read 86 = .ok (.aload_n 0, 1) := by decide +kernel
theorem dX6_read_87 : decode cX6_read 87 = .ok (.getfield 7, 3) := by decide +kernel
theorem dX6_read_90 : decode cX6_read 90 = .ok (.iload_n 2, 1) := by decide +kernel
theorem dX6_read_91 : decode cX6_read 91 = .ok (.iaload, 1) := by decide +kernel
theorem dX6_read_92 : decode cX6_read 92 = .ok (.bipush (-6), 2) := by decide +kernel
theorem dX6_read_94 : decode cX6_read 94 = .ok (.if_icmp .ne 7, 3) := by decide +kernel
theorem dX6_read_97 : decode cX6_read 97 = .ok (.iconst 0, 1) := by decide +kernel
theorem dX6_read_98 : decode cX6_read 98 = .ok (.goto 9, 3) := by decide +kernel
theorem dX6_read_101 : decode cX6_read 101 = .ok (.aload_n 0, 1) := by decide +kernel
theorem dX6_read_102 : decode cX6_read 102 = .ok (.getfield 7, 3) := by decide +kernel
theorem dX6_read_105 : decode cX6_read 105 = .ok (.iload_n 2, 1) := by decide +kernel
theorem dX6_read_106 : decode cX6_read 106 = .ok (.iaload, 1) := by decide +kernel
theorem dX6_read_107 : decode cX6_read 107 = .ok (.iastore, 1) := by decide +kernel
theorem dX6_read_108 : decode cX6_read 108 = .ok (.iinc 1 1, 3) := by decide +kernel
theorem dX6_read_111 : decode cX6_read 111 = .ok (.goto (-93), 3) := by decide +kernel
theorem dX6_read_114 : decode cX6_read 114 = .ok (.aload_n 0, 1) := by decide +kernel
theorem dX6_read_115 : decode cX6_read 115 = .ok (.iconst 0, 1) := by decide +kernel
theorem dX6_read_116 : decode cX6_read 116 = .ok (.putfield 121, 3) := by decide +kernel
theorem dX6_read_119 : decode cX6_read 119 = .ok (.aload_n 0, 1) := by decide +kernel
theorem dX6_read_120 : decode cX6_read 120 = .ok (.invokevirtual 114, 3) := by decide +kernel
theorem dX6_read_123 : decode cX6_read 123 = .ok (.ireturn, 1) := by decide +kernel
theorem dX6_undo_0 : decode cX6_undo 0 = .ok (.aload_n 0, 1) := by decide +kernel
theorem dX6_undo_1 : decode cX6_undo 1 = .ok (.getfield 34, 3) := by decide +kernel
theorem dX6_undo_4 : decode cX6_undo 4 = .ok (.ifCond .ne 6, 3) := by decide +kernel
theorem dX6_undo_7 : decode cX6_undo 7 = .ok (.bipush (-5), 2) := by decide +kernel
theorem dX6_undo_9 : decode cX6_undo 9 = .ok (.ireturn, 1) := by decide +kernel
theorem dX6_undo_10 : decode cX6_undo 10 = .ok (.aload_n 0, 1) := by decide +kernel
theorem dX6_undo_11 : decode cX6_undo 11 = .ok (.dup, 1) := by decide +kernel
theorem dX6_undo_12 : decode cX6_undo 12 = .ok (.getfield 34, 3) := by decide +kernel
theorem dX6_undo_15 : decode cX6_undo 15 = .ok (.iconst 1, 1) := by decide +kernel
theorem dX6_undo_16 : decode cX6_undo 16 = .ok (.isub, 1) := by decide +kernel
theorem dX6_undo_17 : decode cX6_undo 17 = .ok (.putfield 34, 3) := by decide +kernel
theorem dX6_undo_20 : decode cX6_undo 20 = .ok (.iconst 0, 1) := by decide +kernel
theorem dX6_undo_21 : decode cX6_undo 21 = .ok (.istore_n 1, 1) := by decide +kernel
theorem dX6_undo_22 : decode cX6_undo 22 = .ok (.iload_n 1, 1) := by decide +kernel
theorem dX6_undo_23 : decode cX6_undo 23 = .ok (.sipush 136, 3) := by decide +kernel
theorem dX6_undo_26 : decode cX6_undo 26 = .ok (.if_icmp .ge 30, 3) := by decide +kernel
theorem dX6_undo_29 : decode cX6_undo 29 = .ok (.aload_n 0, 1) := by decide +kernel
theorem dX6_undo_30 : decode cX6_undo 30 = .ok (.getfield 7, 3) := by decide +kernel
theorem dX6_undo_33 : decode cX6_undo 33 = .ok (.iload_n 1, 1) := by decide +kernel
theorem dX6_undo_34 : decode cX6_undo 34 = .ok (.aload_n 0, 1) := by decide +kernel
theorem dX6_undo_35 : decode cX6_undo 35 = .ok (.getfield 16, 3) := by decide +kernel
theorem dX6_undo_38 : decode cX6_undo 38 = .ok (.sipush 136, 3) := by decide +kernel
theorem dX6_undo_41 : decode cX6_undo 41 = .ok (.aload_n 0, 1) := by decide +kernel
theorem dX6_undo_42 : decode cX6_undo 42 = .ok (.getfield 34, 3) := by decide +kernel
theorem dX6_undo_45 : decode cX6_undo 45 = .ok (.imul, 1) := by decide +kernel
theorem dX6_undo_46 : decode cX6_undo 46 = .ok (.iload_n 1, 1) := by decide +kernel
theorem dX6_undo_47 : decode cX6_undo 47 = .ok (.iadd, 1) := by decide +kernel
theorem dX6_undo_48 : decode cX6_undo 48 = .ok (.iaload, 1) := by decide +kernel
theorem dX6_undo_49 : decode cX6_undo 49 = .ok (.iastore, 1) := by decide +kernel
theorem dX6_undo_50 : decode cX6_undo 50 = .ok (.iinc 1 1, 3) := by decide +kernel
theorem dX6_undo_53 : decode cX6_undo 53 = .ok (.goto (-31), 3) := by decide +kernel
theorem dX6_undo_56 : decode cX6_undo 56 = .ok (.aload_n 0, 1) := by decide +kernel
theorem dX6_undo_57 : decode cX6_undo 57 = .ok (.getfield 34, 3) := by decide +kernel
theorem dX6_undo_60 : decode cX6_undo 60 = .ok (.ireturn, 1) := by decide +kernel
theorem dX6_isSlot_0 : decode cX6_isSlot 0 = .ok (.iload_n 0, 1) := by decide +kernel
theorem dX6_isSlot_1 : decode cX6_isSlot 1 = .ok (.ifCond .eq 8, 3) := by decide +kernel
theorem dX6_isSlot_4 : decode cX6_isSlot 4 = .ok (.iload_n 0, 1) := by decide +kernel
theorem dX6_isSlot_5 : decode cX6_isSlot 5 = .ok (.iconst 1, 1) := by decide +kernel
theorem dX6_isSlot_6 : decode cX6_isSlot 6 = .ok (.if_icmp .ne 7, 3) := by decide +kernel
theorem dX6_isSlot_9 : decode cX6_isSlot 9 = .ok (.iconst 1, 1) := by decide +kernel
theorem dX6_isSlot_10 : decode cX6_isSlot 10 = .ok (.goto 4, 3) := by decide +kernel
theorem dX6_isSlot_13 : decode cX6_isSlot 13 = .ok (.iconst 0, 1) := by decide +kernel
theorem dX6_isSlot_14 : decode cX6_isSlot 14 = .ok (.ireturn, 1) := by decide +kernel
set_option maxRecDepth 20000 in
theorem ggX6_save_X6_isSlot : GoodIn wsX6_save wsX6_isSlot := goodIn_r _ [7] (by decide +kernel) (by decide +kernel)
set_option maxRecDepth 20000 in
theorem gX6_save_X6_isSlot : GoodIn wsX6_save (va_wsS RX6 165 yX6_isSlot wsX6_isSlot) := goodIn_app (goodIn_of _ (by decide +kernel)) ggX6_save_X6_isSlot
set_option maxRecDepth 20000 in
theorem ggX6_save_X6_pegs : GoodIn wsX6_save wsX6_pegs := goodIn_r _ [11, 12, 13, 14, 6, 15, 16, 17, 18, 19, 2, 20, 21, 22, 23, 24, 25, 26, 27, 28, 29, 30, 31, 32, 33, 34] (by decide +kernel) (by decide +kernel)
set_option maxRecDepth 20000 in
theorem gX6_save_X6_pegs : GoodIn wsX6_save (wsV RX6 114 RX6 yX6_pegs wsX6_pegs) := goodIn_app (goodIn_of _ (by decide +kernel)) ggX6_save_X6_pegs
theorem dX6_save_0 : decode cX6_save 0 = .ok (.iload_n 1, 1) := by decide +kernel
theorem dX6_save_1 : decode cX6_save 1 = .ok (.invokestatic 165, 3) := by decide +kernel
theorem dX6_save_4 : decode cX6_save 4 = .ok (.ifCond .ne 6, 3) := by decide +kernel
theorem dX6_save_7 : decode cX6_save 7 = .ok (.bipush (-2), 2) := by decide +kernel
theorem dX6_save_9 : decode cX6_save 9 = .ok (.ireturn, 1) := by decide +kernel
theorem dX6_save_10 : decode cX6_save 10 = .ok (.iconst 0, 1) := by decide +kernel
theorem dX6_save_11 : decode cX6_save 11 = .ok (.istore_n 2, 1) := by decide +kernel
theorem dX6_save_12 : decode cX6_save 12 = .ok (.iload_n 2, 1) := by decide +kernel
theorem dX6_save_13 : decode cX6_save 13 = .ok (.sipush 136, 3) := by decide +kernel
theorem dX6_save_16 : decode cX6_save 16 = .ok (.if_icmp .ge 27, 3) := by decide +kernel
theorem dX6_save_19 : decode cX6_save 19 = .ok (.aload_n 0, 1) := by decide +kernel
theorem dX6_save_20 : decode cX6_save 20 = .ok (.getfield 19, 3) := by decide +kernel
theorem dX6_save_23 : decode cX6_save 23 = .ok (.sipush 136, 3) := by decide +kernel
theorem dX6_save_26 : decode cX6_save 26 = .ok (.iload_n 1, 1) := by decide +kernel
theorem dX6_save_27 : decode cX6_save 27 = .ok (.imul, 1) := by decide +kernel
theorem dX6_save_28 : decode cX6_save 28 = .ok (.iload_n 2, 1) := by decide +kernel
theorem dX6_save_29 : decode cX6_save 29 = .ok (.iadd, 1) := by decide +kernel
theorem dX6_save_30 : decode cX6_save 30 = .ok (.aload_n 0, 1) := by decide +kernel
theorem dX6_save_31 : decode cX6_save 31 = .ok (.getfield 7, 3) := by decide +kernel
theorem dX6_save_34 : decode cX6_save 34 = .ok (.iload_n 2, 1) := by decide +kernel
theorem dX6_save_35 : decode cX6_save 35 = .ok (.iaload, 1) := by decide +kernel
theorem dX6_save_36 : decode cX6_save 36 = .ok (.iastore, 1) := by decide +kernel
theorem dX6_save_37 : decode cX6_save 37 = .ok (.iinc 2 1, 3) := by decide +kernel
theorem dX6_save_40 : decode cX6_save 40 = .ok (.goto (-28), 3) := by decide +kernel
theorem dX6_save_43 : decode cX6_save 43 = .ok (.aload_n 0, 1) := by decide +kernel
theorem dX6_save_44 : decode cX6_save 44 = .ok (.getfield 22, 3) := by decide +kernel
theorem dX6_save_47 : decode cX6_save 47 = .ok (.iload_n 1, 1) := by decide +kernel
theorem dX6_save_48 : decode cX6_save 48 = .ok (.iconst 1, 1) := by decide +kernel
theorem dX6_save_49 : decode cX6_save 49 = .ok (.iastore, 1) := by decide +kernel
theorem dX6_save_50 : decode cX6_save 50 = .ok (.aload_n 0, 1) := by decide +kernel
theorem dX6_save_51 : decode cX6_save 51 = .ok (.invokevirtual 114, 3) := by decide +kernel
theorem dX6_save_54 : decode cX6_save 54 = .ok (.ireturn, 1) := by decide +kernel
set_option maxRecDepth 20000 in
theorem ggX6_restore_X6_isSlot : GoodIn wsX6_restore wsX6_isSlot := goodIn_r _ [7] (by decide +kernel) (by decide +kernel)
set_option maxRecDepth 20000 in
theorem gX6_restore_X6_isSlot : GoodIn wsX6_restore (va_wsS RX6 165 yX6_isSlot wsX6_isSlot) := goodIn_app (goodIn_of _ (by decide +kernel)) ggX6_restore_X6_isSlot
set_option maxRecDepth 20000 in
theorem ggX6_restore_X6_changes : GoodIn wsX6_restore wsX6_changes := goodIn_r _ [11, 12, 13, 2, 29, 30, 31, 32, 33, 34, 35, 36, 37, 38, 39, 40] (by decide +kernel) (by decide +kernel)
set_option maxRecDepth 20000 in
theorem gX6_restore_X6_changes : GoodIn wsX6_restore (wsV RX6 91 RX6 yX6_changes wsX6_changes) := goodIn_app (goodIn_of _ (by decide +kernel)) ggX6_restore_X6_changes
set_option maxRecDepth 20000 in
theorem ggX6_restore_X6_pegs : GoodIn wsX6_restore wsX6_pegs := goodIn_r _ [17, 18, 19, 20, 6, 21, 22, 23, 24, 25, 2, 26, 27, 28, 29, 30, 31, 32, 33, 34, 35, 36, 37, 38, 39, 40] (by decide +kernel) (by decide +kernel)
set_option maxRecDepth 20000 in
theorem gX6_restore_X6_pegs : GoodIn wsX6_restore (wsV RX6 114 RX6 yX6_pegs wsX6_pegs) := goodIn_app (goodIn_of _ (by decide +kernel)) ggX6_restore_X6_pegs
theorem dX6_restore_0 : decode cX6_restore 0 = .ok (.iload_n 1, 1) := by decide +kernel
theorem dX6_restore_1 : decode cX6_restore 1 = .ok (.invokestatic 165, 3) := by decide +kernel
theorem dX6_restore_4 : decode cX6_restore 4 = .ok (.ifCond .ne 6, 3) := by decide +kernel
theorem dX6_restore_7 : decode cX6_restore 7 = .ok (.bipush (-2), 2) := by decide +kernel
theorem dX6_restore_9 : decode cX6_restore 9 = .ok (.ireturn, 1) := by decide +kernel
theorem dX6_restore_10 : decode cX6_restore 10 = .ok (.aload_n 0, 1) := by decide +kernel
theorem dX6_restore_11 : decode cX6_restore 11 = .ok (.getfield 22, 3) := by decide +kernel
theorem dX6_restore_14 : decode cX6_restore 14 = .ok (.iload_n 1, 1) := by decide +kernel
theorem dX6_restore_15 : decode cX6_restore 15 = .ok (.iaload, 1) := by decide +kernel
theorem dX6_restore_16 : decode cX6_restore 16 = .ok (.ifCond .ne 6, 3) := by decide +kernel
theorem dX6_restore_19 : decode cX6_restore 19 = .ok (.bipush (-5), 2) := by decide +kernel
theorem dX6_restore_21 : decode cX6_restore 21 = .ok (.ireturn, 1) := by decide +kernel
theorem dX6_restore_22 : decode cX6_restore 22 = .ok (.aload_n 0, 1) := by decide +kernel
theorem dX6_restore_23 : decode cX6_restore 23 = .ok (.invokevirtual 91, 3) := by decide +kernel
theorem dX6_restore_26 : decode cX6_restore 26 = .ok (.iconst 0, 1) := by decide +kernel
theorem dX6_restore_27 : decode cX6_restore 27 = .ok (.istore_n 2, 1) := by decide +kernel
theorem dX6_restore_28 : decode cX6_restore 28 = .ok (.iload_n 2, 1) := by decide +kernel
theorem dX6_restore_29 : decode cX6_restore 29 = .ok (.sipush 136, 3) := by decide +kernel
theorem dX6_restore_32 : decode cX6_restore 32 = .ok (.if_icmp .ge 27, 3) := by decide +kernel
theorem dX6_restore_35 : decode cX6_restore 35 = .ok (.aload_n 0, 1) := by decide +kernel
theorem dX6_restore_36 : decode cX6_restore 36 = .ok (.getfield 7, 3) := by decide +kernel
theorem dX6_restore_39 : decode cX6_restore 39 = .ok (.iload_n 2, 1) := by decide +kernel
theorem dX6_restore_40 : decode cX6_restore 40 = .ok (.aload_n 0, 1) := by decide +kernel
theorem dX6_restore_41 : decode cX6_restore 41 = .ok (.getfield 19, 3) := by decide +kernel
theorem dX6_restore_44 : decode cX6_restore 44 = .ok (.sipush 136, 3) := by decide +kernel
theorem dX6_restore_47 : decode cX6_restore 47 = .ok (.iload_n 1, 1) := by decide +kernel
theorem dX6_restore_48 : decode cX6_restore 48 = .ok (.imul, 1) := by decide +kernel
theorem dX6_restore_49 : decode cX6_restore 49 = .ok (.iload_n 2, 1) := by decide +kernel
theorem dX6_restore_50 : decode cX6_restore 50 = .ok (.iadd, 1) := by decide +kernel
theorem dX6_restore_51 : decode cX6_restore 51 = .ok (.iaload, 1) := by decide +kernel
theorem dX6_restore_52 : decode cX6_restore 52 = .ok (.iastore, 1) := by decide +kernel
theorem dX6_restore_53 : decode cX6_restore 53 = .ok (.iinc 2 1, 3) := by decide +kernel
theorem dX6_restore_56 : decode cX6_restore 56 = .ok (.goto (-28), 3) := by decide +kernel
theorem dX6_restore_59 : decode cX6_restore 59 = .ok (.aload_n 0, 1) := by decide +kernel
theorem dX6_restore_60 : decode cX6_restore 60 = .ok (.invokevirtual 114, 3) := by decide +kernel
theorem dX6_restore_63 : decode cX6_restore 63 = .ok (.ireturn, 1) := by decide +kernel
theorem dJ6_bitCount_0f7a4_0 : decode cJ6_bitCount_0f7a4 0 = .ok (.iload_n 0, 1) := by decide +kernel
theorem dJ6_bitCount_0f7a4_1 : decode cJ6_bitCount_0f7a4 1 = .ok (.iload_n 0, 1) := by decide +kernel
theorem dJ6_bitCount_0f7a4_2 : decode cJ6_bitCount_0f7a4 2 = .ok (.iconst 1, 1) := by decide +kernel
theorem dJ6_bitCount_0f7a4_3 : decode cJ6_bitCount_0f7a4 3 = .ok (.iushr, 1) := by decide +kernel
theorem dJ6_bitCount_0f7a4_4 : decode cJ6_bitCount_0f7a4 4 = .ok (.ldc_w 265, 3) := by decide +kernel
theorem dJ6_bitCount_0f7a4_7 : decode cJ6_bitCount_0f7a4 7 = .ok (.iand, 1) := by decide +kernel
theorem dJ6_bitCount_0f7a4_8 : decode cJ6_bitCount_0f7a4 8 = .ok (.isub, 1) := by decide +kernel
theorem dJ6_bitCount_0f7a4_9 : decode cJ6_bitCount_0f7a4 9 = .ok (.istore_n 0, 1) := by decide +kernel
theorem dJ6_bitCount_0f7a4_10 : decode cJ6_bitCount_0f7a4 10 = .ok (.iload_n 0, 1) := by decide +kernel
theorem dJ6_bitCount_0f7a4_11 : decode cJ6_bitCount_0f7a4 11 = .ok (.ldc_w 266, 3) := by decide +kernel
theorem dJ6_bitCount_0f7a4_14 : decode cJ6_bitCount_0f7a4 14 = .ok (.iand, 1) := by decide +kernel
theorem dJ6_bitCount_0f7a4_15 : decode cJ6_bitCount_0f7a4 15 = .ok (.iload_n 0, 1) := by decide +kernel
theorem dJ6_bitCount_0f7a4_16 : decode cJ6_bitCount_0f7a4 16 = .ok (.iconst 2, 1) := by decide +kernel
theorem dJ6_bitCount_0f7a4_17 : decode cJ6_bitCount_0f7a4 17 = .ok (.iushr, 1) := by decide +kernel
theorem dJ6_bitCount_0f7a4_18 : decode cJ6_bitCount_0f7a4 18 = .ok (.ldc_w 266, 3) := by decide +kernel
theorem dJ6_bitCount_0f7a4_21 : decode cJ6_bitCount_0f7a4 21 = .ok (.iand, 1) := by decide +kernel
theorem dJ6_bitCount_0f7a4_22 : decode cJ6_bitCount_0f7a4 22 = .ok (.iadd, 1) := by decide +kernel
theorem dJ6_bitCount_0f7a4_23 : decode cJ6_bitCount_0f7a4 23 = .ok (.istore_n 0, 1) := by decide +kernel
theorem dJ6_bitCount_0f7a4_24 : decode cJ6_bitCount_0f7a4 24 = .ok (.iload_n 0, 1) := by decide +kernel
theorem dJ6_bitCount_0f7a4_25 : decode cJ6_bitCount_0f7a4 25 = .ok (.iload_n 0, 1) := by decide +kernel
theorem dJ6_bitCount_0f7a4_26 : decode cJ6_bitCount_0f7a4 26 = .ok (.iconst 4, 1) := by decide +kernel
theorem dJ6_bitCount_0f7a4_27 : decode cJ6_bitCount_0f7a4 27 = .ok (.iushr, 1) := by decide +kernel
theorem dJ6_bitCount_0f7a4_28 : decode cJ6_bitCount_0f7a4 28 = .ok (.iadd, 1) := by decide +kernel
theorem dJ6_bitCount_0f7a4_29 : decode cJ6_bitCount_0f7a4 29 = .ok (.ldc_w 267, 3) := by decide +kernel
theorem dJ6_bitCount_0f7a4_32 : decode cJ6_bitCount_0f7a4 32 = .ok (.iand, 1) := by decide +kernel
theorem dJ6_bitCount_0f7a4_33 : decode cJ6_bitCount_0f7a4 33 = .ok (.istore_n 0, 1) := by decide +kernel
theorem dJ6_bitCount_0f7a4_34 : decode cJ6_bitCount_0f7a4 34 = .ok (.iload_n 0, 1) := by decide +kernel
theorem dJ6_bitCount_0f7a4_35 : decode cJ6_bitCount_0f7a4 35 = .ok (.iload_n 0, 1) := by decide +kernel
theorem dJ6_bitCount_0f7a4_36 : decode cJ6_bitCount_0f7a4 36 = .ok (.bipush 8, 2) := by decide +kernel
theorem dJ6_bitCount_0f7a4_38 : decode cJ6_bitCount_0f7a4 38 = .ok (.iushr, 1) := by decide +kernel
theorem dJ6_bitCount_0f7a4_39 : decode cJ6_bitCount_0f7a4 39 = .ok (.iadd, 1) := by decide +kernel
theorem dJ6_bitCount_0f7a4_40 : decode cJ6_bitCount_0f7a4 40 = .ok (.istore_n 0, 1) := by decide +kernel
theorem dJ6_bitCount_0f7a4_41 : decode cJ6_bitCount_0f7a4 41 = .ok (.iload_n 0, 1) := by decide +kernel
theorem dJ6_bitCount_0f7a4_42 : decode cJ6_bitCount_0f7a4 42 = .ok (.iload_n 0, 1) := by decide +kernel
theorem dJ6_bitCount_0f7a4_43 : decode cJ6_bitCount_0f7a4 43 = .ok (.bipush 16, 2) := by decide +kernel
theorem dJ6_bitCount_0f7a4_45 : decode cJ6_bitCount_0f7a4 45 = .ok (.iushr, 1) := by decide +kernel
theorem dJ6_bitCount_0f7a4_46 : decode cJ6_bitCount_0f7a4 46 = .ok (.iadd, 1) := by decide +kernel
theorem dJ6_bitCount_0f7a4_47 : decode cJ6_bitCount_0f7a4 47 = .ok (.istore_n 0, 1) := by decide +kernel
theorem dJ6_bitCount_0f7a4_48 : decode cJ6_bitCount_0f7a4 48 = .ok (.iload_n 0, 1) := by decide +kernel
theorem dJ6_bitCount_0f7a4_49 : decode cJ6_bitCount_0f7a4 49 = .ok (.bipush 63, 2) := by decide +kernel
theorem dJ6_bitCount_0f7a4_51 : decode cJ6_bitCount_0f7a4 51 = .ok (.iand, 1) := by decide +kernel
theorem dJ6_bitCount_0f7a4_52 : decode cJ6_bitCount_0f7a4 52 = .ok (.ireturn, 1) := by decide +kernel
theorem dJ9_floorMod_7cf53_0 : decode cJ9_floorMod_7cf53 0 = .ok (.iload_n 0, 1) := by decide +kernel
theorem dJ9_floorMod_7cf53_1 : decode cJ9_floorMod_7cf53 1 = .ok (.iload_n 1, 1) := by decide +kernel
theorem dJ9_floorMod_7cf53_2 : decode cJ9_floorMod_7cf53 2 = .ok (.irem, 1) := by decide +kernel
theorem dJ9_floorMod_7cf53_3 : decode cJ9_floorMod_7cf53 3 = .ok (.istore_n 2, 1) := by decide +kernel
theorem dJ9_floorMod_7cf53_4 : decode cJ9_floorMod_7cf53 4 = .ok (.iload_n 0, 1) := by decide +kernel
theorem dJ9_floorMod_7cf53_5 : decode cJ9_floorMod_7cf53 5 = .ok (.iload_n 1, 1) := by decide +kernel
theorem dJ9_floorMod_7cf53_6 : decode cJ9_floorMod_7cf53 6 = .ok (.ixor, 1) := by decide +kernel
theorem dJ9_floorMod_7cf53_7 : decode cJ9_floorMod_7cf53 7 = .ok (.ifCond .ge 11, 3) := by decide +kernel
theorem dJ9_floorMod_7cf53_10 : decode cJ9_floorMod_7cf53 10 = .ok (.iload_n 2, 1) := by decide +kernel
theorem dJ9_floorMod_7cf53_11 : decode cJ9_floorMod_7cf53 11 = .ok (.ifCond .eq 7, 3) := by decide +kernel
theorem dJ9_floorMod_7cf53_14 : decode cJ9_floorMod_7cf53 14 = .ok (.iload_n 2, 1) := by decide +kernel
theorem dJ9_floorMod_7cf53_15 : decode cJ9_floorMod_7cf53 15 = .ok (.iload_n 1, 1) := by decide +kernel
theorem dJ9_floorMod_7cf53_16 : decode cJ9_floorMod_7cf53 16 = .ok (.iadd, 1) := by decide +kernel
theorem dJ9_floorMod_7cf53_17 : decode cJ9_floorMod_7cf53 17 = .ok (.ireturn, 1) := by decide +kernel
theorem dJ9_floorMod_7cf53_18 : decode cJ9_floorMod_7cf53 18 = .ok (.iload_n 2, 1) := by decide +kernel
theorem dJ9_floorMod_7cf53_19 : decode cJ9_floorMod_7cf53 19 = .ok (.ireturn, 1) := by decide +kernel
theorem dJ9_min_7cf53_0 : decode cJ9_min_7cf53 0 = .ok (.iload_n 0, 1) := by decide +kernel
theorem dJ9_min_7cf53_1 : decode cJ9_min_7cf53 1 = .ok (.iload_n 1, 1) := by decide +kernel
theorem dJ9_min_7cf53_2 : decode cJ9_min_7cf53 2 = .ok (.if_icmp .gt 7, 3) := by decide +kernel
theorem dJ9_min_7cf53_5 : decode cJ9_min_7cf53 5 = .ok (.iload_n 0, 1) := by decide +kernel
theorem dJ9_min_7cf53_6 : decode cJ9_min_7cf53 6 = .ok (.goto 4, 3) := by decide +kernel
theorem dJ9_min_7cf53_9 : decode cJ9_min_7cf53 9 = .ok (.iload_n 1, 1) := by decide +kernel
theorem dJ9_min_7cf53_10 : decode cJ9_min_7cf53 10 = .ok (.ireturn, 1) := by decide +kernel
