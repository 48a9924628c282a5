theorem dX6_init_0 : decode cX6_init 0 = .ok (.aload_n 0, 1) := by decide +kernel
theorem dX6_init_1 : decode cX6_init 1 = .ok (.invokespecial 1, 3) := by decide +kernel
theorem dX6_init_4 : decode cX6_init 4 = .ok (.aload_n 0, 1) := by decide +kernel
theorem dX6_init_5 : decode cX6_init 5 = .ok (.sipush 136, 3) := by decide +kernel
theorem dX6_init_8 : decode cX6_init 8 = .ok (.newarray .int, 2) := by decide +kernel
theorem dX6_init_10 : decode cX6_init 10 = .ok (.putfield 7, 3) := by decide +kernel
theorem dX6_init_13 : decode cX6_init 13 = .ok (.aload_n 0, 1) := by decide +kernel
theorem dX6_init_14 : decode cX6_init 14 = .ok (.sipush 136, 3) := by decide +kernel
theorem dX6_init_17 : decode cX6_init 17 = .ok (.newarray .int, 2) := by decide +kernel
theorem dX6_init_19 : decode cX6_init 19 = .ok (.putfield 13, 3) := by decide +kernel
theorem dX6_init_22 : decode cX6_init 22 = .ok (.aload_n 0, 1) := by decide +kernel
theorem dX6_init_23 : decode cX6_init 23 = .ok (.sipush 816, 3) := by decide +kernel
theorem dX6_init_26 : decode cX6_init 26 = .ok (.newarray .int, 2) := by decide +kernel
theorem dX6_init_28 : decode cX6_init 28 = .ok (.putfield 16, 3) := by decide +kernel
theorem dX6_init_31 : decode cX6_init 31 = .ok (.aload_n 0, 1) := by decide +kernel
theorem dX6_init_32 : decode cX6_init 32 = .ok (.sipush 272, 3) := by decide +kernel
theorem dX6_init_35 : decode cX6_init 35 = .ok (.newarray .int, 2) := by decide +kernel
theorem dX6_init_37 : decode cX6_init 37 = .ok (.putfield 19, 3) := by decide +kernel
theorem dX6_init_40 : decode cX6_init 40 = .ok (.aload_n 0, 1) := by decide +kernel
theorem dX6_init_41 : decode cX6_init 41 = .ok (.iconst 2, 1) := by decide +kernel
theorem dX6_init_42 : decode cX6_init 42 = .ok (.newarray .int, 2) := by decide +kernel
theorem dX6_init_44 : decode cX6_init 44 = .ok (.putfield 22, 3) := by decide +kernel
theorem dX6_init_47 : decode cX6_init 47 = .ok (.aload_n 0, 1) := by decide +kernel
theorem dX6_init_48 : decode cX6_init 48 = .ok (.bipush 60, 2) := by decide +kernel
theorem dX6_init_50 : decode cX6_init 50 = .ok (.newarray .int, 2) := by decide +kernel
theorem dX6_init_52 : decode cX6_init 52 = .ok (.putfield 25, 3) := by decide +kernel
theorem dX6_init_55 : decode cX6_init 55 = .ok (.aload_n 0, 1) := by decide +kernel
theorem dX6_init_56 : decode cX6_init 56 = .ok (.bipush 31, 2) := by decide +kernel
theorem dX6_init_58 : decode cX6_init 58 = .ok (.newarray .int, 2) := by decide +kernel
theorem dX6_init_60 : decode cX6_init 60 = .ok (.putfield 28, 3) := by decide +kernel
theorem dX6_init_63 : decode cX6_init 63 = .ok (.aload_n 0, 1) := by decide +kernel
theorem dX6_init_64 : decode cX6_init 64 = .ok (.bipush 31, 2) := by decide +kernel
theorem dX6_init_66 : decode cX6_init 66 = .ok (.newarray .int, 2) := by decide +kernel
theorem dX6_init_68 : decode cX6_init 68 = .ok (.putfield 31, 3) := by decide +kernel
theorem dX6_init_71 : decode cX6_init 71 = .ok (.aload_n 0, 1) := by decide +kernel
theorem dX6_init_72 : decode cX6_init 72 = .ok (.getfield 7, 3) := by decide +kernel
theorem dX6_init_75 : decode cX6_init 75 = .ok (.iconst 0, 1) := by decide +kernel
theorem dX6_init_76 : decode cX6_init 76 = .ok (.iconst 4, 1) := by decide +kernel
theorem dX6_init_77 : decode cX6_init 77 = .ok (.iastore, 1) := by decide +kernel
theorem dX6_init_78 : decode cX6_init 78 = .ok (.aload_n 0, 1) := by decide +kernel
theorem dX6_init_79 : decode cX6_init 79 = .ok (.getfield 7, 3) := by decide +kernel
theorem dX6_init_82 : decode cX6_init 82 = .ok (.iconst 1, 1) := by decide +kernel
theorem dX6_init_83 : decode cX6_init 83 = .ok (.iconst 1, 1) := by decide +kernel
theorem dX6_init_84 : decode cX6_init 84 = .ok (.iastore, 1) := by decide +kernel
theorem dX6_init_85 : decode cX6_init 85 = .ok (.aload_n 0, 1) := by decide +kernel
theorem dX6_init_86 : decode cX6_init 86 = .ok (.getfield 7, 3) := by decide +kernel
theorem dX6_init_89 : decode cX6_init 89 = .ok (.iconst 3, 1) := by decide +kernel
theorem dX6_init_90 : decode cX6_init 90 = .ok (.iconst 1, 1) := by decide +kernel
theorem dX6_init_91 : decode cX6_init 91 = .ok (.iastore, 1) := by decide +kernel
theorem dX6_init_92 : decode cX6_init 92 = .ok (.iconst 0, 1) := by decide +kernel
theorem dX6_init_93 : decode cX6_init 93 = .ok (.istore_n 1, 1) := by decide +kernel
theorem dX6_init_94 : decode cX6_init 94 = .ok (.iload_n 1, 1) := by decide +kernel
theorem dX6_init_95 : decode cX6_init 95 = .ok (.bipush 6, 2) := by decide +kernel
theorem dX6_init_97 : decode cX6_init 97 = .ok (.if_icmp .ge 20, 3) := by decide +kernel
theorem dX6_init_100 : decode cX6_init 100 = .ok (.aload_n 0, 1) := by decide +kernel
theorem dX6_init_101 : decode cX6_init 101 = .ok (.getfield 7, 3) := by decide +kernel
theorem dX6_init_104 : decode cX6_init 104 = .ok (.bipush 16, 2) := by decide +kernel
theorem dX6_init_106 : decode cX6_init 106 = .ok (.iload_n 1, 1) := by decide +kernel
theorem dX6_init_107 : decode cX6_init 107 = .ok (.iadd, 1) := by decide +kernel
theorem dX6_init_108 : decode cX6_init 108 = .ok (.bipush 50, 2) := by decide +kernel
theorem dX6_init_110 : decode cX6_init 110 = .ok (.iastore, 1) := by decide +kernel
theorem dX6_init_111 : decode cX6_init 111 = .ok (.iinc 1 1, 3) := by decide +kernel
theorem dX6_init_114 : decode cX6_init 114 = .ok (.goto (-20), 3) := by decide +kernel
theorem dX6_init_117 : decode cX6_init 117 = .ok (.bipush 40, 2) := by decide +kernel
theorem dX6_init_119 : decode cX6_init 119 = .ok (.istore_n 1, 1) := by decide +kernel
theorem dX6_init_120 : decode cX6_init 120 = .ok (.iload_n 1, 1) := by decide +kernel
theorem dX6_init_121 : decode cX6_init 121 = .ok (.sipush 136, 3) := by decide +kernel
theorem dX6_init_124 : decode cX6_init 124 = .ok (.if_icmp .ge 17, 3) := by decide +kernel
theorem dX6_init_127 : decode cX6_init 127 = .ok (.aload_n 0, 1) := by decide +kernel
theorem dX6_init_128 : decode cX6_init 128 = .ok (.getfield 7, 3) := by decide +kernel
theorem dX6_init_131 : decode cX6_init 131 = .ok (.iload_n 1, 1) := by decide +kernel
theorem dX6_init_132 : decode cX6_init 132 = .ok (.bipush (-6), 2) := by decide +kernel
theorem dX6_init_134 : decode cX6_init 134 = .ok (.iastore, 1) := by decide +kernel
theorem dX6_init_135 : decode cX6_init 135 = .ok (.iinc 1 1, 3) := by decide +kernel
theorem dX6_init_138 : decode cX6_init 138 = .ok (.goto (-18), 3) := by decide +kernel
theorem dX6_init_141 : decode cX6_init 141 = .ok (.return_, 1) := by decide +kernel
theorem dX6_in_0 : decode cX6_in 0 = .ok (.lload_n 0, 1) := by decide +kernel
theorem dX6_in_1 : decode cX6_in 1 = .ok (.lload_n 2, 1) := by decide +kernel
theorem dX6_in_2 : decode cX6_in 2 = .ok (.lcmp, 1) := by decide +kernel
theorem dX6_in_3 : decode cX6_in 3 = .ok (.ifCond .lt 14, 3) := by decide +kernel
theorem dX6_in_6 : decode cX6_in 6 = .ok (.lload_n 0, 1) := by decide +kernel
theorem dX6_in_7 : decode cX6_in 7 = .ok (.lload 4, 2) := by decide +kernel
theorem dX6_in_9 : decode cX6_in 9 = .ok (.lcmp, 1) := by decide +kernel
theorem dX6_in_10 : decode cX6_in 10 = .ok (.ifCond .gt 7, 3) := by decide +kernel
theorem dX6_in_13 : decode cX6_in 13 = .ok (.iconst 1, 1) := by decide +kernel
theorem dX6_in_14 : decode cX6_in 14 = .ok (.goto 4, 3) := by decide +kernel
theorem dX6_in_17 : decode cX6_in 17 = .ok (.iconst 0, 1) := by decide +kernel
theorem dX6_in_18 : decode cX6_in 18 = .ok (.ireturn, 1) := by decide +kernel
theorem dX6_changes_0 : decode cX6_changes 0 = .ok (.aload_n 0, 1) := by decide +kernel
theorem dX6_changes_1 : decode cX6_changes 1 = .ok (.getfield 34, 3) := by decide +kernel
theorem dX6_changes_4 : decode cX6_changes 4 = .ok (.bipush 6, 2) := by decide +kernel
theorem dX6_changes_6 : decode cX6_changes 6 = .ok (.if_icmp .ne 44, 3) := by decide +kernel
theorem dX6_changes_9 : decode cX6_changes 9 = .ok (.iconst 0, 1) := by decide +kernel
theorem dX6_changes_10 : decode cX6_changes 10 = .ok (.istore_n 1, 1) := by decide +kernel
theorem dX6_changes_11 : decode cX6_changes 11 = .ok (.iload_n 1, 1) := by decide +kernel
theorem dX6_changes_12 : decode cX6_changes 12 = .ok (.sipush 680, 3) := by decide +kernel
theorem dX6_changes_15 : decode cX6_changes 15 = .ok (.if_icmp .ge 25, 3) := by decide +kernel
theorem dX6_changes_18 : decode cX6_changes 18 = .ok (.aload_n 0, 1) := by decide +kernel
theorem dX6_changes_19 : decode cX6_changes 19 = .ok (.getfield 16, 3) := by decide +kernel
theorem dX6_changes_22 : decode cX6_changes 22 = .ok (.iload_n 1, 1) := by decide +kernel
theorem dX6_changes_23 : decode cX6_changes 23 = .ok (.aload_n 0, 1) := by decide +kernel
theorem dX6_changes_24 : decode cX6_changes 24 = .ok (.getfield 16, 3) := by decide +kernel
theorem dX6_changes_27 : decode cX6_changes 27 = .ok (.iload_n 1, 1) := by decide +kernel
theorem dX6_changes_28 : decode cX6_changes 28 = .ok (.sipush 136, 3) := by decide +kernel
theorem dX6_changes_31 : decode cX6_changes 31 = .ok (.iadd, 1) := by decide +kernel
theorem dX6_changes_32 : decode cX6_changes 32 = .ok (.iaload, 1) := by decide +kernel
theorem dX6_changes_33 : decode cX6_changes 33 = .ok (.iastore, 1) := by decide +kernel
theorem dX6_changes_34 : decode cX6_changes 34 = .ok (.iinc 1 1, 3) := by decide +kernel
theorem dX6_changes_37 : decode cX6_changes 37 = .ok (.goto (-26), 3) := by decide +kernel
theorem dX6_changes_40 : decode cX6_changes 40 = .ok (.aload_n 0, 1) := by decide +kernel
theorem dX6_changes_41 : decode cX6_changes 41 = .ok (.dup, 1) := by decide +kernel
theorem dX6_changes_42 : decode cX6_changes 42 = .ok (.getfield 34, 3) := by decide +kernel
theorem dX6_changes_45 : decode cX6_changes 45 = .ok (.iconst 1, 1) := by decide +kernel
theorem dX6_changes_46 : decode cX6_changes 46 = .ok (.isub, 1) := by decide +kernel
theorem dX6_changes_47 : decode cX6_changes 47 = .ok (.putfield 34, 3) := by decide +kernel
theorem dX6_changes_50 : decode cX6_changes 50 = .ok (.iconst 0, 1) := by decide +kernel
theorem dX6_changes_51 : decode cX6_changes 51 = .ok (.istore_n 1, 1) := by decide +kernel
theorem dX6_changes_52 : decode cX6_changes 52 = .ok (.iload_n 1, 1) := by decide +kernel
theorem dX6_changes_53 : decode cX6_changes 53 = .ok (.sipush 136, 3) := by decide +kernel
theorem dX6_changes_56 : decode cX6_changes 56 = .ok (.if_icmp .ge 30, 3) := by decide +kernel
theorem dX6_changes_59 : decode cX6_changes 59 = .ok (.aload_n 0, 1) := by decide +kernel
theorem dX6_changes_60 : decode cX6_changes 60 = .ok (.getfield 16, 3) := by decide +kernel
theorem dX6_changes_63 : decode cX6_changes 63 = .ok (.sipush 136, 3) := by decide +kernel
theorem dX6_changes_66 : decode cX6_changes 66 = .ok (.aload_n 0, 1) := by decide +kernel
theorem dX6_changes_67 : decode cX6_changes 67 = .ok (.getfield 34, 3) := by decide +kernel
theorem dX6_changes_70 : decode cX6_changes 70 = .ok (.imul, 1) := by decide +kernel
theorem dX6_changes_71 : decode cX6_changes 71 = .ok (.iload_n 1, 1) := by decide +kernel
theorem dX6_changes_72 : decode cX6_changes 72 = .ok (.iadd, 1) := by decide +kernel
theorem dX6_changes_73 : decode cX6_changes 73 = .ok (.aload_n 0, 1) := by decide +kernel
theorem dX6_changes_74 : decode cX6_changes 74 = .ok (.getfield 7, 3) := by decide +kernel
theorem dX6_changes_77 : decode cX6_changes 77 = .ok (.iload_n 1, 1) := by decide +kernel
theorem dX6_changes_78 : decode cX6_changes 78 = .ok (.iaload, 1) := by decide +kernel
theorem dX6_changes_79 : decode cX6_changes 79 = .ok (.iastore, 1) := by decide +kernel
theorem dX6_changes_80 : decode cX6_changes 80 = .ok (.iinc 1 1, 3) := by decide +kernel
theorem dX6_changes_83 : decode cX6_changes 83 = .ok (.goto (-31), 3) := by decide +kernel
theorem dX6_changes_86 : decode cX6_changes 86 = .ok (.aload_n 0, 1) := by decide +kernel
theorem dX6_changes_87 : decode cX6_changes 87 = .ok (.dup, 1) := by decide +kernel
theorem dX6_changes_88 : decode cX6_changes 88 = .ok (.getfield 34, 3) := by decide +kernel
theorem dX6_changes_91 : decode cX6_changes 91 = .ok (.iconst 1, 1) := by decide +kernel
theorem dX6_changes_92 : decode cX6_changes 92 = .ok (.iadd, 1) := by decide +kernel
theorem dX6_changes_93 : decode cX6_changes 93 = .ok (.putfield 34, 3) := by decide +kernel
theorem dX6_changes_96 : decode cX6_changes 96 = .ok (.return_, 1) := by decide +kernel
theorem dX6_keeps_0 : decode cX6_keeps 0 = .ok (.iconst 0, 1) := by decide +kernel
theorem dX6_keeps_1 : decode cX6_keeps 1 = .ok (.istore_n 1, 1) := by decide +kernel
theorem dX6_keeps_2 : decode cX6_keeps 2 = .ok (.iload_n 1, 1) := by decide +kernel
theorem dX6_keeps_3 : decode cX6_keeps 3 = .ok (.sipush 136, 3) := by decide +kernel
theorem dX6_keeps_6 : decode cX6_keeps 6 = .ok (.if_icmp .ge 21, 3) := by decide +kernel
theorem dX6_keeps_9 : decode cX6_keeps 9 = .ok (.aload_n 0, 1) := by decide +kernel
theorem dX6_keeps_10 : decode cX6_keeps 10 = .ok (.getfield 13, 3) := by decide +kernel
theorem dX6_keeps_13 : decode cX6_keeps 13 = .ok (.iload_n 1, 1) := by decide +kernel
theorem dX6_keeps_14 : decode cX6_keeps 14 = .ok (.aload_n 0, 1) := by decide +kernel
theorem dX6_keeps_15 : decode cX6_keeps 15 = .ok (.getfield 7, 3) := by decide +kernel
theorem dX6_keeps_18 : decode cX6_keeps 18 = .ok (.iload_n 1, 1) := by decide +kernel
theorem dX6_keeps_19 : decode cX6_keeps 19 = .ok (.iaload, 1) := by decide +kernel
theorem dX6_keeps_20 : decode cX6_keeps 20 = .ok (.iastore, 1) := by decide +kernel
theorem dX6_keeps_21 : decode cX6_keeps 21 = .ok (.iinc 1 1, 3) := by decide +kernel
theorem dX6_keeps_24 : decode cX6_keeps 24 = .ok (.goto (-22), 3) := by decide +kernel
theorem dX6_keeps_27 : decode cX6_keeps 27 = .ok (.return_, 1) := by decide +kernel
theorem dX6_comesBack_0 : decode cX6_comesBack 0 = .ok (.iconst 0, 1) := by decide +kernel
theorem dX6_comesBack_1 : decode cX6_comesBack 1 = .ok (.istore_n 1, 1) := by decide +kernel
theorem dX6_comesBack_2 : decode cX6_comesBack 2 = .ok (.iload_n 1, 1) := by decide +kernel
theorem dX6_comesBack_3 : decode cX6_comesBack 3 = .ok (.sipush 136, 3) := by decide +kernel
theorem dX6_comesBack_6 : decode cX6_comesBack 6 = .ok (.if_icmp .ge 21, 3) := by decide +kernel
theorem dX6_comesBack_9 : decode cX6_comesBack 9 = .ok (.aload_n 0, 1) := by decide +kernel
theorem dX6_comesBack_10 : decode cX6_comesBack 10 = .ok (.getfield 7, 3) := by decide +kernel
theorem dX6_comesBack_13 : decode cX6_comesBack 13 = .ok (.iload_n 1, 1) := by decide +kernel
theorem dX6_comesBack_14 : decode cX6_comesBack 14 = .ok (.aload_n 0, 1) := by decide +kernel
theorem dX6_comesBack_15 : decode cX6_comesBack 15 = .ok (.getfield 13, 3) := by decide +kernel
theorem dX6_comesBack_18 : decode cX6_comesBack 18 = .ok (.iload_n 1, 1) := by decide +kernel
theorem dX6_comesBack_19 : decode cX6_comesBack 19 = .ok (.iaload, 1) := by decide +kernel
theorem dX6_comesBack_20 : decode cX6_comesBack 20 = .ok (.iastore, 1) := by decide +kernel
theorem dX6_comesBack_21 : decode cX6_comesBack 21 = .ok (.iinc 1 1, 3) := by decide +kernel
theorem dX6_comesBack_24 : decode cX6_comesBack 24 = .ok (.goto (-22), 3) := by decide +kernel
theorem dX6_comesBack_27 : decode cX6_comesBack 27 = .ok (.return_, 1) := by decide +kernel
set_option maxRecDepth 20000 in
theorem ggX6_isRow_X6_in : GoodIn wsX6_isRow wsX6_in := goodIn_r _ [5] (by decide +kernel) (by decide +kernel)
set_option maxRecDepth 20000 in
theorem gX6_isRow_X6_in : GoodIn wsX6_isRow (va_wsS RX6 40 yX6_in wsX6_in) := goodIn_app (goodIn_of _ (by decide +kernel)) ggX6_isRow_X6_in
theorem dX6_isRow_0 : decode cX6_isRow 0 = .ok (.iload_n 0, 1) := by decide +kernel
theorem dX6_isRow_1 : decode cX6_isRow 1 = .ok (.i2l, 1) := by decide +kernel
theorem dX6_isRow_2 : decode cX6_isRow 2 = .ok (.lconst 0, 1) := by decide +kernel
theorem dX6_isRow_3 : decode cX6_isRow 3 = .ok (.ldc2_w 38, 3) := by decide +kernel
theorem dX6_isRow_6 : decode cX6_isRow 6 = .ok (.invokestatic 40, 3) := by decide +kernel
theorem dX6_isRow_9 : decode cX6_isRow 9 = .ok (.ireturn, 1) := by decide +kernel
set_option maxRecDepth 20000 in
theorem ggX6_isPlace_X6_in : GoodIn wsX6_isPlace wsX6_in := goodIn_r _ [5] (by decide +kernel) (by decide +kernel)
set_option maxRecDepth 20000 in
theorem gX6_isPlace_X6_in : GoodIn wsX6_isPlace (va_wsS RX6 40 yX6_in wsX6_in) := goodIn_app (goodIn_of _ (by decide +kernel)) ggX6_isPlace_X6_in
theorem dX6_isPlace_0 : decode cX6_isPlace 0 = .ok (.iload_n 0, 1) := by decide +kernel
theorem dX6_isPlace_1 : decode cX6_isPlace 1 = .ok (.i2l, 1) := by decide +kernel
theorem dX6_isPlace_2 : decode cX6_isPlace 2 = .ok (.lconst 0, 1) := by decide +kernel
theorem dX6_isPlace_3 : decode cX6_isPlace 3 = .ok (.ldc2_w 44, 3) := by decide +kernel
theorem dX6_isPlace_6 : decode cX6_isPlace 6 = .ok (.invokestatic 40, 3) := by decide +kernel
theorem dX6_isPlace_9 : decode cX6_isPlace 9 = .ok (.ireturn, 1) := by decide +kernel
theorem dX6_at_0 : decode cX6_at 0 = .ok (.bipush 40, 2) := by decide +kernel
theorem dX6_at_2 : decode cX6_at 2 = .ok (.bipush 6, 2) := by decide +kernel
theorem dX6_at_4 : decode cX6_at 4 = .ok (.iload_n 0, 1) := by decide +kernel
theorem dX6_at_5 : decode cX6_at 5 = .ok (.imul, 1) := by decide +kernel
theorem dX6_at_6 : decode cX6_at 6 = .ok (.iadd, 1) := by decide +kernel
theorem dX6_at_7 : decode cX6_at 7 = .ok (.iload_n 1, 1) := by decide +kernel
theorem dX6_at_8 : decode cX6_at 8 = .ok (.iadd, 1) := by decide +kernel
theorem dX6_at_9 : decode cX6_at 9 = .ok (.ireturn, 1) := by decide +kernel
set_option maxRecDepth 20000 in
theorem ggX6_hasPeg_X6_at : GoodIn wsX6_hasPeg wsX6_at := goodIn_r _ [5] (by decide +kernel) (by decide +kernel)
set_option maxRecDepth 20000 in
theorem gX6_hasPeg_X6_at : GoodIn wsX6_hasPeg (va_wsS RX6 46 yX6_at wsX6_at) := goodIn_app (goodIn_of _ (by decide +kernel)) ggX6_hasPeg_X6_at
theorem dX6_hasPeg_0 : decode cX6_hasPeg 0 = .ok (.aload_n 0, 1) := by decide +kernel
theorem dX6_hasPeg_1 : decode cX6_hasPeg 1 = .ok (.getfield 7, 3) := by decide +kernel
theorem dX6_hasPeg_4 : decode cX6_hasPeg 4 = .ok (.iload_n 1, 1) := by decide +kernel
theorem dX6_hasPeg_5 : decode cX6_hasPeg 5 = .ok (.iload_n 2, 1) := by decide +kernel
theorem dX6_hasPeg_6 : decode cX6_hasPeg 6 = .ok (.invokestatic 46, 3) := by decide +kernel
theorem dX6_hasPeg_9 : decode cX6_hasPeg 9 = .ok (.iaload, 1) := by decide +kernel
theorem dX6_hasPeg_10 : decode cX6_hasPeg 10 = .ok (.bipush (-6), 2) := by decide +kernel
theorem dX6_hasPeg_12 : decode cX6_hasPeg 12 = .ok (.if_icmp .eq 7, 3) := by decide +kernel
theorem dX6_hasPeg_15 : decode cX6_hasPeg 15 = .ok (.iconst 1, 1) := by decide +kernel
theorem dX6_hasPeg_16 : decode cX6_hasPeg 16 = .ok (.goto 4, 3) := by decide +kernel
theorem dX6_hasPeg_19 : decode cX6_hasPeg 19 = .ok (.iconst 0, 1) := by decide +kernel
theorem dX6_hasPeg_20 : decode cX6_hasPeg 20 = .ok (.ireturn, 1) := by decide +kernel
set_option maxRecDepth 20000 in
theorem ggX6_pegsIn_X6_hasPeg : GoodIn wsX6_pegsIn wsX6_hasPeg := goodIn_r _ [5, 6, 7, 8, 4, 9, 10, 11, 12, 13, 14, 15, 16, 17, 18, 19, 20, 21] (by decide +kernel) (by decide +kernel)
set_option maxRecDepth 20000 in
theorem gX6_pegsIn_X6_hasPeg : GoodIn wsX6_pegsIn (wsV RX6 50 RX6 yX6_hasPeg wsX6_hasPeg) := goodIn_app (goodIn_of _ (by decide +kernel)) ggX6_pegsIn_X6_hasPeg
theorem dX6_pegsIn_0 : decode cX6_pegsIn 0 = .ok (.iconst 0, 1) := by decide +kernel
theorem dX6_pegsIn_1 : decode cX6_pegsIn 1 = .ok (.istore_n 2, 1) := by decide +kernel
theorem dX6_pegsIn_2 : decode cX6_pegsIn 2 = .ok (.iconst 0, 1) := by decide +kernel
theorem dX6_pegsIn_3 : decode cX6_pegsIn 3 = .ok (.istore_n 3, 1) := by decide +kernel
theorem dX6_pegsIn_4 : decode cX6_pegsIn 4 = .ok (.iload_n 3, 1) := by decide +kernel
theorem dX6_pegsIn_5 : decode cX6_pegsIn 5 = .ok (.bipush 6, 2) := by decide +kernel
theorem dX6_pegsIn_7 : decode cX6_pegsIn 7 = .ok (.if_icmp .ge 26, 3) := by decide +kernel
theorem dX6_pegsIn_10 : decode cX6_pegsIn 10 = .ok (.iload_n 2, 1) := by decide +kernel
theorem dX6_pegsIn_11 : decode cX6_pegsIn 11 = .ok (.aload_n 0, 1) := by decide +kernel
theorem dX6_pegsIn_12 : decode cX6_pegsIn 12 = .ok (.iload_n 1, 1) := by decide +kernel
theorem dX6_pegsIn_13 : decode cX6_pegsIn 13 = .ok (.iload_n 3, 1) := by decide +kernel
theorem dX6_pegsIn_14 : decode cX6_pegsIn 14 = .ok (.invokevirtual 50, 3) := by decide +kernel
theorem dX6_pegsIn_17 : decode cX6_pegsIn 17 = .ok (.ifCond .eq 7, 3) := by decide +kernel
theorem dX6_pegsIn_20 : decode cX6_pegsIn 20 = .ok (.iconst 1, 1) := by decide +kernel
theorem dX6_pegsIn_21 : decode cX6_pegsIn 21 = .ok (.goto 4, 3) := by decide +kernel
theorem dX6_pegsIn_24 : decode cX6_pegsIn 24 = .ok (.iconst 0, 1) := by decide +kernel
theorem dX6_pegsIn_25 : decode cX6_pegsIn 25 = .ok (.iadd, 1) := by decide +kernel
theorem dX6_pegsIn_26 : decode cX6_pegsIn 26 = .ok (.istore_n 2, 1) := by decide +kernel
theorem dX6_pegsIn_27 : decode cX6_pegsIn 27 = .ok (.iinc 3 1, 3) := by decide +kernel
theorem dX6_pegsIn_30 : decode cX6_pegsIn 30 = .ok (.goto (-26), 3) := by decide +kernel
theorem dX6_pegsIn_33 : decode cX6_pegsIn 33 = .ok (.iload_n 2, 1) := by decide +kernel
theorem dX6_pegsIn_34 : decode cX6_pegsIn 34 = .ok (.ireturn, 1) := by decide +kernel
set_option maxRecDepth 20000 in
theorem ggX6_setIn_X6_hasPeg : GoodIn wsX6_setIn wsX6_hasPeg := goodIn_r _ [5, 6, 7, 8, 4, 9, 10, 11, 12, 13, 14, 15, 16, 17, 18, 19, 20, 21] (by decide +kernel) (by decide +kernel)
set_option maxRecDepth 20000 in
theorem gX6_setIn_X6_hasPeg : GoodIn wsX6_setIn (wsV RX6 50 RX6 yX6_hasPeg wsX6_hasPeg) := goodIn_app (goodIn_of _ (by decide +kernel)) ggX6_setIn_X6_hasPeg
theorem dX6_setIn_0 : decode cX6_setIn 0 = .ok (.iconst 0, 1) := by decide +kernel
theorem dX6_setIn_1 : decode cX6_setIn 1 = .ok (.istore_n 2, 1) := by decide +kernel
theorem dX6_setIn_2 : decode cX6_setIn 2 = .ok (.iconst 0, 1) := by decide +kernel
theorem dX6_setIn_3 : decode cX6_setIn 3 = .ok (.istore_n 3, 1) := by decide +kernel
theorem dX6_setIn_4 : decode cX6_setIn 4 = .ok (.iload_n 3, 1) := by decide +kernel
theorem dX6_setIn_5 : decode cX6_setIn 5 = .ok (.bipush 6, 2) := by decide +kernel
theorem dX6_setIn_7 : decode cX6_setIn 7 = .ok (.if_icmp .ge 28, 3) := by decide +kernel
theorem dX6_setIn_10 : decode cX6_setIn 10 = .ok (.iload_n 2, 1) := by decide +kernel
theorem dX6_setIn_11 : decode cX6_setIn 11 = .ok (.aload_n 0, 1) := by decide +kernel
theorem dX6_setIn_12 : decode cX6_setIn 12 = .ok (.iload_n 1, 1) := by decide +kernel
theorem dX6_setIn_13 : decode cX6_setIn 13 = .ok (.iload_n 3, 1) := by decide +kernel
theorem dX6_setIn_14 : decode cX6_setIn 14 = .ok (.invokevirtual 50, 3) := by decide +kernel
theorem dX6_setIn_17 : decode cX6_setIn 17 = .ok (.ifCond .eq 9, 3) := by decide +kernel
theorem dX6_setIn_20 : decode cX6_setIn 20 = .ok (.iconst 1, 1) := by decide +kernel
theorem dX6_setIn_21 : decode cX6_setIn 21 = .ok (.iload_n 3, 1) := by decide +kernel
theorem dX6_setIn_22 : decode cX6_setIn 22 = .ok (.ishl, 1) := by decide +kernel
theorem dX6_setIn_23 : decode cX6_setIn 23 = .ok (.goto 4, 3) := by decide +kernel
theorem dX6_setIn_26 : decode cX6_setIn 26 = .ok (.iconst 0, 1) := by decide +kernel
theorem dX6_setIn_27 : decode cX6_setIn 27 = .ok (.ior, 1) := by decide +kernel
theorem dX6_setIn_28 : decode cX6_setIn 28 = .ok (.istore_n 2, 1) := by decide +kernel
theorem dX6_setIn_29 : decode cX6_setIn 29 = .ok (.iinc 3 1, 3) := by decide +kernel
theorem dX6_setIn_32 : decode cX6_setIn 32 = .ok (.goto (-28), 3) := by decide +kernel
theorem dX6_setIn_35 : decode cX6_setIn 35 = .ok (.iload_n 2, 1) := by decide +kernel
theorem dX6_setIn_36 : decode cX6_setIn 36 = .ok (.ireturn, 1) := by decide +kernel
set_option maxRecDepth 20000 in
theorem ggX6_pegs_X6_pegsIn : GoodIn wsX6_pegs wsX6_pegsIn := goodIn_r _ [5, 6, 7, 8, 4, 9, 10, 11, 12, 13, 14, 15, 16, 17, 18, 19, 20, 21, 22, 23, 24, 25] (by decide +kernel) (by decide +kernel)
set_option maxRecDepth 20000 in
theorem gX6_pegs_X6_pegsIn : GoodIn wsX6_pegs (wsV RX6 54 RX6 yX6_pegsIn wsX6_pegsIn) := goodIn_app (goodIn_of _ (by decide +kernel)) ggX6_pegs_X6_pegsIn
theorem dX6_pegs_0 : decode cX6_pegs 0 = .ok (.iconst 0, 1) := by decide +kernel
theorem dX6_pegs_1 : decode cX6_pegs 1 = .ok (.istore_n 1, 1) := by decide +kernel
theorem dX6_pegs_2 : decode cX6_pegs 2 = .ok (.iconst 0, 1) := by decide +kernel
theorem dX6_pegs_3 : decode cX6_pegs 3 = .ok (.istore_n 2, 1) := by decide +kernel
theorem dX6_pegs_4 : decode cX6_pegs 4 = .ok (.iload_n 2, 1) := by decide +kernel
theorem dX6_pegs_5 : decode cX6_pegs 5 = .ok (.bipush 16, 2) := by decide +kernel
theorem dX6_pegs_7 : decode cX6_pegs 7 = .ok (.if_icmp .ge 17, 3) := by decide +kernel
theorem dX6_pegs_10 : decode cX6_pegs 10 = .ok (.iload_n 1, 1) := by decide +kernel
theorem dX6_pegs_11 : decode cX6_pegs 11 = .ok (.aload_n 0, 1) := by decide +kernel
theorem dX6_pegs_12 : decode cX6_pegs 12 = .ok (.iload_n 2, 1) := by decide +kernel
theorem dX6_pegs_13 : decode cX6_pegs 13 = .ok (.invokevirtual 54, 3) := by decide +kernel
theorem dX6_pegs_16 : decode cX6_pegs 16 = .ok (.iadd, 1) := by decide +kernel
theorem dX6_pegs_17 : decode cX6_pegs 17 = .ok (.istore_n 1, 1) := by decide +kernel
theorem dX6_pegs_18 : decode cX6_pegs 18 = .ok (.iinc 2 1, 3) := by decide +kernel
theorem dX6_pegs_21 : decode cX6_pegs 21 = .ok (.goto (-17), 3) := by decide +kernel
theorem dX6_pegs_24 : decode cX6_pegs 24 = .ok (.iload_n 1, 1) := by decide +kernel
theorem dX6_pegs_25 : decode cX6_pegs 25 = .ok (.ireturn, 1) := by decide +kernel
set_option maxRecDepth 20000 in
theorem ggX6_wouldJam_X6_pegsIn : GoodIn wsX6_wouldJam wsX6_pegsIn := goodIn_r _ [6, 7, 8, 9, 5, 10, 1, 11, 12, 13, 14, 15, 16, 17, 18, 19, 20, 21, 22, 23, 24, 25] (by decide +kernel) (by decide +kernel)
set_option maxRecDepth 20000 in
theorem gX6_wouldJam_X6_pegsIn : GoodIn wsX6_wouldJam (wsV RX6 54 RX6 yX6_pegsIn wsX6_pegsIn) := goodIn_app (goodIn_of _ (by decide +kernel)) ggX6_wouldJam_X6_pegsIn
theorem dX6_wouldJam_0 : decode cX6_wouldJam 0 = .ok (.aload_n 0, 1) := by decide +kernel
theorem dX6_wouldJam_1 : decode cX6_wouldJam 1 = .ok (.iload_n 1, 1) := by decide +kernel
theorem dX6_wouldJam_2 : decode cX6_wouldJam 2 = .ok (.invokevirtual 54, 3) := by decide +kernel
theorem dX6_wouldJam_5 : decode cX6_wouldJam 5 = .ok (.aload_n 0, 1) := by decide +kernel
theorem dX6_wouldJam_6 : decode cX6_wouldJam 6 = .ok (.getfield 7, 3) := by decide +kernel
theorem dX6_wouldJam_9 : decode cX6_wouldJam 9 = .ok (.iconst 3, 1) := by decide +kernel
theorem dX6_wouldJam_10 : decode cX6_wouldJam 10 = .ok (.iaload, 1) := by decide +kernel
theorem dX6_wouldJam_11 : decode cX6_wouldJam 11 = .ok (.if_icmp .le 7, 3) := by decide +kernel
theorem dX6_wouldJam_14 : decode cX6_wouldJam 14 = .ok (.iconst 1, 1) := by decide +kernel
theorem dX6_wouldJam_15 : decode cX6_wouldJam 15 = .ok (.goto 4, 3) := by decide +kernel
theorem dX6_wouldJam_18 : decode cX6_wouldJam 18 = .ok (.iconst 0, 1) := by decide +kernel
theorem dX6_wouldJam_19 : decode cX6_wouldJam 19 = .ok (.ireturn, 1) := by decide +kernel
theorem dX6_newOne_0 : decode cX6_newOne 0 = .ok (.aload_n 0, 1) := by decide +kernel
theorem dX6_newOne_1 : decode cX6_newOne 1 = .ok (.getfield 7, 3) := by decide +kernel
theorem dX6_newOne_4 : decode cX6_newOne 4 = .ok (.bipush 7, 2) := by decide +kernel
theorem dX6_newOne_6 : decode cX6_newOne 6 = .ok (.iconst 0, 1) := by decide +kernel
theorem dX6_newOne_7 : decode cX6_newOne 7 = .ok (.iastore, 1) := by decide +kernel
theorem dX6_newOne_8 : decode cX6_newOne 8 = .ok (.aload_n 0, 1) := by decide +kernel
theorem dX6_newOne_9 : decode cX6_newOne 9 = .ok (.getfield 7, 3) := by decide +kernel
theorem dX6_newOne_12 : decode cX6_newOne 12 = .ok (.bipush 8, 2) := by decide +kernel
theorem dX6_newOne_14 : decode cX6_newOne 14 = .ok (.iconst 0, 1) := by decide +kernel
theorem dX6_newOne_15 : decode cX6_newOne 15 = .ok (.iastore, 1) := by decide +kernel
theorem dX6_newOne_16 : decode cX6_newOne 16 = .ok (.aload_n 0, 1) := by decide +kernel
theorem dX6_newOne_17 : decode cX6_newOne 17 = .ok (.getfield 7, 3) := by decide +kernel
theorem dX6_newOne_20 : decode cX6_newOne 20 = .ok (.bipush 9, 2) := by decide +kernel
theorem dX6_newOne_22 : decode cX6_newOne 22 = .ok (.iconst 0, 1) := by decide +kernel
theorem dX6_newOne_23 : decode cX6_newOne 23 = .ok (.iastore, 1) := by decide +kernel
theorem dX6_newOne_24 : decode cX6_newOne 24 = .ok (.return_, 1) := by decide +kernel
theorem dX6_falls_0 : decode cX6_falls 0 = .ok (.aload_n 0, 1) := by decide +kernel
theorem dX6_falls_1 : decode cX6_falls 1 = .ok (.getfield 7, 3) := by decide +kernel
theorem dX6_falls_4 : decode cX6_falls 4 = .ok (.bipush 7, 2) := by decide +kernel
theorem dX6_falls_6 : decode cX6_falls 6 = .ok (.iaload, 1) := by decide +kernel
theorem dX6_falls_7 : decode cX6_falls 7 = .ok (.iload_n 1, 1) := by decide +kernel
theorem dX6_falls_8 : decode cX6_falls 8 = .ok (.ishr, 1) := by decide +kernel
theorem dX6_falls_9 : decode cX6_falls 9 = .ok (.iconst 1, 1) := by decide +kernel
theorem dX6_falls_10 : decode cX6_falls 10 = .ok (.iand, 1) := by decide +kernel
theorem dX6_falls_11 : decode cX6_falls 11 = .ok (.iconst 1, 1) := by decide +kernel
theorem dX6_falls_12 : decode cX6_falls 12 = .ok (.if_icmp .ne 24, 3) := by decide +kernel
theorem dX6_falls_15 : decode cX6_falls 15 = .ok (.aload_n 0, 1) := by decide +kernel
theorem dX6_falls_16 : decode cX6_falls 16 = .ok (.getfield 7, 3) := by decide +kernel
theorem dX6_falls_19 : decode cX6_falls 19 = .ok (.bipush 8, 2) := by decide +kernel
theorem dX6_falls_21 : decode cX6_falls 21 = .ok (.iconst 1, 1) := by decide +kernel
theorem dX6_falls_22 : decode cX6_falls 22 = .ok (.iastore, 1) := by decide +kernel
theorem dX6_falls_23 : decode cX6_falls 23 = .ok (.aload_n 0, 1) := by decide +kernel
theorem dX6_falls_24 : decode cX6_falls 24 = .ok (.getfield 7, 3) := by decide +kernel
theorem dX6_falls_27 : decode cX6_falls 27 = .ok (.bipush 34, 2) := by decide +kernel
theorem dX6_falls_29 : decode cX6_falls 29 = .ok (.iload_n 1, 1) := by decide +kernel
theorem dX6_falls_30 : decode cX6_falls 30 = .ok (.iadd, 1) := by decide +kernel
theorem dX6_falls_31 : decode cX6_falls 31 = .ok (.dup2, 1) := by decide +kernel
theorem dX6_falls_32 : decode cX6_falls 32 = .ok (.iaload, 1) := by decide +kernel
theorem dX6_falls_33 : decode cX6_falls 33 = .ok (.iconst 1, 1) := by decide +kernel
theorem dX6_falls_34 : decode cX6_falls 34 = .ok (.iadd, 1) := by decide +kernel
theorem dX6_falls_35 : decode cX6_falls 35 = .ok (.iastore, 1) := by decide +kernel
theorem dX6_falls_36 : decode cX6_falls 36 = .ok (.aload_n 0, 1) := by decide +kernel
theorem dX6_falls_37 : decode cX6_falls 37 = .ok (.getfield 7, 3) := by decide +kernel
theorem dX6_falls_40 : decode cX6_falls 40 = .ok (.bipush 16, 2) := by decide +kernel
theorem dX6_falls_42 : decode cX6_falls 42 = .ok (.iload_n 1, 1) := by decide +kernel
theorem dX6_falls_43 : decode cX6_falls 43 = .ok (.iadd, 1) := by decide +kernel
theorem dX6_falls_44 : decode cX6_falls 44 = .ok (.iaload, 1) := by decide +kernel
theorem dX6_falls_45 : decode cX6_falls 45 = .ok (.aload_n 0, 1) := by decide +kernel
theorem dX6_falls_46 : decode cX6_falls 46 = .ok (.getfield 7, 3) := by decide +kernel
theorem dX6_falls_49 : decode cX6_falls 49 = .ok (.iconst 1, 1) := by decide +kernel
theorem dX6_falls_50 : decode cX6_falls 50 = .ok (.iaload, 1) := by decide +kernel
theorem dX6_falls_51 : decode cX6_falls 51 = .ok (.if_icmp .ge 17, 3) := by decide +kernel
theorem dX6_falls_54 : decode cX6_falls 54 = .ok (.aload_n 0, 1) := by decide +kernel
theorem dX6_falls_55 : decode cX6_falls 55 = .ok (.getfield 7, 3) := by decide +kernel
theorem dX6_falls_58 : decode cX6_falls 58 = .ok (.bipush 28, 2) := by decide +kernel
theorem dX6_falls_60 : decode cX6_falls 60 = .ok (.iload_n 1, 1) := by decide +kernel
theorem dX6_falls_61 : decode cX6_falls 61 = .ok (.iadd, 1) := by decide +kernel
theorem dX6_falls_62 : decode cX6_falls 62 = .ok (.dup2, 1) := by decide +kernel
theorem dX6_falls_63 : decode cX6_falls 63 = .ok (.iaload, 1) := by decide +kernel
theorem dX6_falls_64 : decode cX6_falls 64 = .ok (.iconst 1, 1) := by decide +kernel
theorem dX6_falls_65 : decode cX6_falls 65 = .ok (.iadd, 1) := by decide +kernel
theorem dX6_falls_66 : decode cX6_falls 66 = .ok (.iastore, 1) := by decide +kernel
theorem dX6_falls_67 : decode cX6_falls 67 = .ok (.return_, 1) := by decide +kernel
theorem dX6_falls_68 : decode cX6_falls 68 = .ok (.aload_n 0, 1) := by decide +kernel
theorem dX6_falls_69 : decode cX6_falls 69 = .ok (.getfield 7, 3) := by decide +kernel
theorem dX6_falls_72 : decode cX6_falls 72 = .ok (.bipush 16, 2) := by decide +kernel
theorem dX6_falls_74 : decode cX6_falls 74 = .ok (.iload_n 1, 1) := by decide +kernel
theorem dX6_falls_75 : decode cX6_falls 75 = .ok (.iadd, 1) := by decide +kernel
theorem dX6_falls_76 : decode cX6_falls 76 = .ok (.dup2, 1) := by decide +kernel
theorem dX6_falls_77 : decode cX6_falls 77 = .ok (.iaload, 1) := by decide +kernel
theorem dX6_falls_78 : decode cX6_falls 78 = .ok (.aload_n 0, 1) := by decide +kernel
theorem dX6_falls_79 : decode cX6_falls 79 = .ok (.getfield 7, 3) := by decide +kernel
theorem dX6_falls_82 : decode cX6_falls 82 = .ok (.iconst 1, 1) := by decide +kernel
theorem dX6_falls_83 : decode cX6_falls 83 = .ok (.iaload, 1) := by decide +kernel
theorem dX6_falls_84 : decode cX6_falls 84 = .ok (.isub, 1) := by decide +kernel
theorem dX6_falls_85 : decode cX6_falls 85 = .ok (.iastore, 1) := by decide +kernel
theorem dX6_falls_86 : decode cX6_falls 86 = .ok (.aload_n 0, 1) := by decide +kernel
theorem dX6_falls_87 : decode cX6_falls 87 = .ok (.getfield 7, 3) := by decide +kernel
theorem dX6_falls_90 : decode cX6_falls 90 = .ok (.bipush 22, 2) := by decide +kernel
theorem dX6_falls_92 : decode cX6_falls 92 = .ok (.iload_n 1, 1) := by decide +kernel
theorem dX6_falls_93 : decode cX6_falls 93 = .ok (.iadd, 1) := by decide +kernel
theorem dX6_falls_94 : decode cX6_falls 94 = .ok (.dup2, 1) := by decide +kernel
theorem dX6_falls_95 : decode cX6_falls 95 = .ok (.iaload, 1) := by decide +kernel
theorem dX6_falls_96 : decode cX6_falls 96 = .ok (.iconst 1, 1) := by decide +kernel
theorem dX6_falls_97 : decode cX6_falls 97 = .ok (.iadd, 1) := by decide +kernel
theorem dX6_falls_98 : decode cX6_falls 98 = .ok (.iastore, 1) := by decide +kernel
theorem dX6_falls_99 : decode cX6_falls 99 = .ok (.aload_n 0, 1) := by decide +kernel
theorem dX6_falls_100 : decode cX6_falls 100 = .ok (.getfield 7, 3) := by decide +kernel
theorem dX6_falls_103 : decode cX6_falls 103 = .ok (.bipush 7, 2) := by decide +kernel
theorem dX6_falls_105 : decode cX6_falls 105 = .ok (.dup2, 1) := by decide +kernel
theorem dX6_falls_106 : decode cX6_falls 106 = .ok (.iaload, 1) := by decide +kernel
theorem dX6_falls_107 : decode cX6_falls 107 = .ok (.iconst 1, 1) := by decide +kernel
theorem dX6_falls_108 : decode cX6_falls 108 = .ok (.iload_n 1, 1) := by decide +kernel
theorem dX6_falls_109 : decode cX6_falls 109 = .ok (.ishl, 1) := by decide +kernel
theorem dX6_falls_110 : decode cX6_falls 110 = .ok (.ior, 1) := by decide +kernel
theorem dX6_falls_111 : decode cX6_falls 111 = .ok (.iastore, 1) := by decide +kernel
theorem dX6_falls_112 : decode cX6_falls 112 = .ok (.return_, 1) := by decide +kernel
set_option maxRecDepth 20000 in
theorem ggX6_wears_X6_at : GoodIn wsX6_wears wsX6_at := goodIn_r _ [5] (by decide +kernel) (by decide +kernel)
set_option maxRecDepth 20000 in
theorem gX6_wears_X6_at : GoodIn wsX6_wears (va_wsS RX6 46 yX6_at wsX6_at) := goodIn_app (goodIn_of _ (by decide +kernel)) ggX6_wears_X6_at
theorem dX6_wears_0 : decode cX6_wears 0 = .ok (.aload_n 0, 1) := by decide +kernel
theorem dX6_wears_1 : decode cX6_wears 1 = .ok (.getfield 7, 3) := by decide +kernel
theorem dX6_wears_4 : decode cX6_wears 4 = .ok (.iload_n 1, 1) := by decide +kernel
theorem dX6_wears_5 : decode cX6_wears 5 = .ok (.iload_n 2, 1) := by decide +kernel
theorem dX6_wears_6 : decode cX6_wears 6 = .ok (.invokestatic 46, 3) := by decide +kernel
theorem dX6_wears_9 : decode cX6_wears 9 = .ok (.dup2, 1) := by decide +kernel
theorem dX6_wears_10 : decode cX6_wears 10 = .ok (.iaload, 1) := by decide +kernel
theorem dX6_wears_11 : decode cX6_wears 11 = .ok (.iconst 1, 1) := by decide +kernel
theorem dX6_wears_12 : decode cX6_wears 12 = .ok (.iadd, 1) := by decide +kernel
theorem dX6_wears_13 : decode cX6_wears 13 = .ok (.iastore, 1) := by decide +kernel
theorem dX6_wears_14 : decode cX6_wears 14 = .ok (.aload_n 0, 1) := by decide +kernel
theorem dX6_wears_15 : decode cX6_wears 15 = .ok (.getfield 7, 3) := by decide +kernel
theorem dX6_wears_18 : decode cX6_wears 18 = .ok (.iconst 2, 1) := by decide +kernel
theorem dX6_wears_19 : decode cX6_wears 19 = .ok (.iaload, 1) := by decide +kernel
theorem dX6_wears_20 : decode cX6_wears 20 = .ok (.ifCond .eq 45, 3) := by decide +kernel
theorem dX6_wears_23 : decode cX6_wears 23 = .ok (.aload_n 0, 1) := by decide +kernel
theorem dX6_wears_24 : decode cX6_wears 24 = .ok (.getfield 7, 3) := by decide +kernel
theorem dX6_wears_27 : decode cX6_wears 27 = .ok (.iload_n 1, 1) := by decide +kernel
theorem dX6_wears_28 : decode cX6_wears 28 = .ok (.iload_n 2, 1) := by decide +kernel
theorem dX6_wears_29 : decode cX6_wears 29 = .ok (.invokestatic 46, 3) := by decide +kernel
theorem dX6_wears_32 : decode cX6_wears 32 = .ok (.iaload, 1) := by decide +kernel
theorem dX6_wears_33 : decode cX6_wears 33 = .ok (.aload_n 0, 1) := by decide +kernel
theorem dX6_wears_34 : decode cX6_wears 34 = .ok (.getfield 7, 3) := by decide +kernel
theorem dX6_wears_37 : decode cX6_wears 37 = .ok (.iconst 2, 1) := by decide +kernel
theorem dX6_wears_38 : decode cX6_wears 38 = .ok (.iaload, 1) := by decide +kernel
theorem dX6_wears_39 : decode cX6_wears 39 = .ok (.if_icmp .lt 26, 3) := by decide +kernel
theorem dX6_wears_42 : decode cX6_wears 42 = .ok (.aload_n 0, 1) := by decide +kernel
theorem dX6_wears_43 : decode cX6_wears 43 = .ok (.getfield 7, 3) := by decide +kernel
theorem dX6_wears_46 : decode cX6_wears 46 = .ok (.iload_n 1, 1) := by decide +kernel
theorem dX6_wears_47 : decode cX6_wears 47 = .ok (.iload_n 2, 1) := by decide +kernel
theorem dX6_wears_48 : decode cX6_wears 48 = .ok (.invokestatic 46, 3) := by decide +kernel
theorem dX6_wears_51 : decode cX6_wears 51 = .ok (.bipush (-6), 2) := by decide +kernel
theorem dX6_wears_53 : decode cX6_wears 53 = .ok (.iastore, 1) := by decide +kernel
theorem dX6_wears_54 : decode cX6_wears 54 = .ok (.aload_n 0, 1) := by decide +kernel
theorem dX6_wears_55 : decode cX6_wears 55 = .ok (.getfield 7, 3) := by decide +kernel
theorem dX6_wears_58 : decode cX6_wears 58 = .ok (.bipush 15, 2) := by decide +kernel
theorem dX6_wears_60 : decode cX6_wears 60 = .ok (.dup2, 1) := by decide +kernel
theorem dX6_wears_61 : decode cX6_wears 61 = .ok (.iaload, 1) := by decide +kernel
theorem dX6_wears_62 : decode cX6_wears 62 = .ok (.iconst 1, 1) := by decide +kernel
theorem dX6_wears_63 : decode cX6_wears 63 = .ok (.iadd, 1) := by decide +kernel
theorem dX6_wears_64 : decode cX6_wears 64 = .ok (.iastore, 1) := by decide +kernel
theorem dX6_wears_65 : decode cX6_wears 65 = .ok (.return_, 1) := by decide +kernel
set_option maxRecDepth 20000 in
theorem ggX6_lies_X6_newOne : GoodIn wsX6_lies wsX6_newOne := goodIn_r _ [6, 1, 7, 8, 9, 10, 11, 12, 13, 14, 15, 16, 17, 18] (by decide +kernel) (by decide +kernel)
set_option maxRecDepth 20000 in
theorem gX6_lies_X6_newOne : GoodIn wsX6_lies (wsV RX6 58 RX6 yX6_newOne wsX6_newOne) := goodIn_app (goodIn_of _ (by decide +kernel)) ggX6_lies_X6_newOne
theorem dX6_lies_0 : decode cX6_lies 0 = .ok (.aload_n 0, 1) := by decide +kernel
theorem dX6_lies_1 : decode cX6_lies 1 = .ok (.getfield 7, 3) := by decide +kernel
theorem dX6_lies_4 : decode cX6_lies 4 = .ok (.bipush 9, 2) := by decide +kernel
theorem dX6_lies_6 : decode cX6_lies 6 = .ok (.dup2, 1) := by decide +kernel
theorem dX6_lies_7 : decode cX6_lies 7 = .ok (.iaload, 1) := by decide +kernel
theorem dX6_lies_8 : decode cX6_lies 8 = .ok (.iconst 1, 1) := by decide +kernel
theorem dX6_lies_9 : decode cX6_lies 9 = .ok (.iadd, 1) := by decide +kernel
theorem dX6_lies_10 : decode cX6_lies 10 = .ok (.iastore, 1) := by decide +kernel
theorem dX6_lies_11 : decode cX6_lies 11 = .ok (.aload_n 0, 1) := by decide +kernel
theorem dX6_lies_12 : decode cX6_lies 12 = .ok (.getfield 7, 3) := by decide +kernel
theorem dX6_lies_15 : decode cX6_lies 15 = .ok (.bipush 9, 2) := by decide +kernel
theorem dX6_lies_17 : decode cX6_lies 17 = .ok (.iaload, 1) := by decide +kernel
theorem dX6_lies_18 : decode cX6_lies 18 = .ok (.aload_n 0, 1) := by decide +kernel
theorem dX6_lies_19 : decode cX6_lies 19 = .ok (.getfield 7, 3) := by decide +kernel
theorem dX6_lies_22 : decode cX6_lies 22 = .ok (.iconst 0, 1) := by decide +kernel
theorem dX6_lies_23 : decode cX6_lies 23 = .ok (.iaload, 1) := by decide +kernel
theorem dX6_lies_24 : decode cX6_lies 24 = .ok (.if_icmp .ge 4, 3) := by decide +kernel
theorem dX6_lies_27 : decode cX6_lies 27 = .ok (.return_, 1) := by decide +kernel
theorem dX6_lies_28 : decode cX6_lies 28 = .ok (.aload_n 0, 1) := by decide +kernel
theorem dX6_lies_29 : decode cX6_lies 29 = .ok (.getfield 7, 3) := by decide +kernel
theorem dX6_lies_32 : decode cX6_lies 32 = .ok (.bipush 8, 2) := by decide +kernel
theorem dX6_lies_34 : decode cX6_lies 34 = .ok (.iaload, 1) := by decide +kernel
theorem dX6_lies_35 : decode cX6_lies 35 = .ok (.iconst 1, 1) := by decide +kernel
theorem dX6_lies_36 : decode cX6_lies 36 = .ok (.if_icmp .ne 17, 3) := by decide +kernel
theorem dX6_lies_39 : decode cX6_lies 39 = .ok (.aload_n 0, 1) := by decide +kernel
theorem dX6_lies_40 : decode cX6_lies 40 = .ok (.getfield 7, 3) := by decide +kernel
theorem dX6_lies_43 : decode cX6_lies 43 = .ok (.bipush 13, 2) := by decide +kernel
theorem dX6_lies_45 : decode cX6_lies 45 = .ok (.dup2, 1) := by decide +kernel
theorem dX6_lies_46 : decode cX6_lies 46 = .ok (.iaload, 1) := by decide +kernel
theorem dX6_lies_47 : decode cX6_lies 47 = .ok (.iconst 1, 1) := by decide +kernel
theorem dX6_lies_48 : decode cX6_lies 48 = .ok (.iadd, 1) := by decide +kernel
theorem dX6_lies_49 : decode cX6_lies 49 = .ok (.iastore, 1) := by decide +kernel
theorem dX6_lies_50 : decode cX6_lies 50 = .ok (.goto 45, 3) := by decide +kernel
theorem dX6_lies_53 : decode cX6_lies 53 = .ok (.aload_n 0, 1) := by decide +kernel
theorem dX6_lies_54 : decode cX6_lies 54 = .ok (.getfield 7, 3) := by decide +kernel
theorem dX6_lies_57 : decode cX6_lies 57 = .ok (.bipush 7, 2) := by decide +kernel
theorem dX6_lies_59 : decode cX6_lies 59 = .ok (.iaload, 1) := by decide +kernel
theorem dX6_lies_60 : decode cX6_lies 60 = .ok (.aload_n 0, 1) := by decide +kernel
theorem dX6_lies_61 : decode cX6_lies 61 = .ok (.getfield 7, 3) := by decide +kernel
theorem dX6_lies_64 : decode cX6_lies 64 = .ok (.bipush 6, 2) := by decide +kernel
theorem dX6_lies_66 : decode cX6_lies 66 = .ok (.iaload, 1) := by decide +kernel
theorem dX6_lies_67 : decode cX6_lies 67 = .ok (.if_icmp .ne 17, 3) := by decide +kernel
theorem dX6_lies_70 : decode cX6_lies 70 = .ok (.aload_n 0, 1) := by decide +kernel
theorem dX6_lies_71 : decode cX6_lies 71 = .ok (.getfield 7, 3) := by decide +kernel
theorem dX6_lies_74 : decode cX6_lies 74 = .ok (.bipush 11, 2) := by decide +kernel
theorem dX6_lies_76 : decode cX6_lies 76 = .ok (.dup2, 1) := by decide +kernel
theorem dX6_lies_77 : decode cX6_lies 77 = .ok (.iaload, 1) := by decide +kernel
theorem dX6_lies_78 : decode cX6_lies 78 = .ok (.iconst 1, 1) := by decide +kernel
theorem dX6_lies_79 : decode cX6_lies 79 = .ok (.iadd, 1) := by decide +kernel
theorem dX6_lies_80 : decode cX6_lies 80 = .ok (.iastore, 1) := by decide +kernel
theorem dX6_lies_81 : decode cX6_lies 81 = .ok (.goto 14, 3) := by decide +kernel
theorem dX6_lies_84 : decode cX6_lies 84 = .ok (.aload_n 0, 1) := by decide +kernel
theorem dX6_lies_85 : decode cX6_lies 85 = .ok (.getfield 7, 3) := by decide +kernel
theorem dX6_lies_88 : decode cX6_lies 88 = .ok (.bipush 12, 2) := by decide +kernel
theorem dX6_lies_90 : decode cX6_lies 90 = .ok (.dup2, 1) := by decide +kernel
theorem dX6_lies_91 : decode cX6_lies 91 = .ok (.iaload, 1) := by decide +kernel
theorem dX6_lies_92 : decode cX6_lies 92 = .ok (.iconst 1, 1) := by decide +kernel
theorem dX6_lies_93 : decode cX6_lies 93 = .ok (.iadd, 1) := by decide +kernel
theorem dX6_lies_94 : decode cX6_lies 94 = .ok (.iastore, 1) := by decide +kernel
theorem dX6_lies_95 : decode cX6_lies 95 = .ok (.aload_n 0, 1) := by decide +kernel
theorem dX6_lies_96 : decode cX6_lies 96 = .ok (.invokevirtual 58, 3) := by decide +kernel
theorem dX6_lies_99 : decode cX6_lies 99 = .ok (.return_, 1) := by decide +kernel
set_option maxRecDepth 20000 in
theorem ggX6_steps_X6_wouldJam : GoodIn wsX6_steps wsX6_wouldJam := goodIn_r _ [6, 1, 7, 8, 9, 5, 10, 11, 12, 13, 14, 15, 16, 17, 34, 35, 36, 37, 38, 39, 40, 41, 42, 43, 44, 45] (by decide +kernel) (by decide +kernel)
set_option maxRecDepth 20000 in
theorem gX6_steps_X6_wouldJam : GoodIn wsX6_steps (wsV RX6 61 RX6 yX6_wouldJam wsX6_wouldJam) := goodIn_app (goodIn_of _ (by decide +kernel)) ggX6_steps_X6_wouldJam
set_option maxRecDepth 20000 in
theorem ggX6_steps_X6_hasPeg : GoodIn wsX6_steps wsX6_hasPeg := goodIn_r _ [14, 1, 15, 16, 5, 17, 34, 35, 36, 37, 38, 39, 40, 41, 42, 43, 44, 45] (by decide +kernel) (by decide +kernel)
set_option maxRecDepth 20000 in
theorem gX6_steps_X6_hasPeg : GoodIn wsX6_steps (wsV RX6 50 RX6 yX6_hasPeg wsX6_hasPeg) := goodIn_app (goodIn_of _ (by decide +kernel)) ggX6_steps_X6_hasPeg
set_option maxRecDepth 20000 in
theorem ggX6_steps_X6_falls : GoodIn wsX6_steps wsX6_falls := goodIn_r _ [21, 1, 34, 35, 36, 37, 38, 39, 40, 41, 42, 43, 44, 45] (by decide +kernel) (by decide +kernel)
set_option maxRecDepth 20000 in
theorem gX6_steps_X6_falls : GoodIn wsX6_steps (wsV RX6 65 RX6 yX6_falls wsX6_falls) := goodIn_app (goodIn_of _ (by decide +kernel)) ggX6_steps_X6_falls
set_option maxRecDepth 20000 in
theorem ggX6_steps_X6_wears : GoodIn wsX6_steps wsX6_wears := goodIn_r _ [25, 1, 15, 16, 5, 17, 34, 35, 36, 37, 38, 39, 40, 41, 42, 43, 44, 45] (by decide +kernel) (by decide +kernel)
set_option maxRecDepth 20000 in
theorem gX6_steps_X6_wears : GoodIn wsX6_steps (wsV RX6 69 RX6 yX6_wears wsX6_wears) := goodIn_app (goodIn_of _ (by decide +kernel)) ggX6_steps_X6_wears
set_option maxRecDepth 20000 in
theorem ggX6_steps_X6_lies : GoodIn wsX6_steps wsX6_lies := goodIn_r _ [29, 1, 30, 31, 32, 5, 33, 34, 35, 36, 37, 38, 39, 40, 41, 42, 43, 44, 45] (by decide +kernel) (by decide +kernel)
set_option maxRecDepth 20000 in
theorem gX6_steps_X6_lies : GoodIn wsX6_steps (wsV RX6 73 RX6 yX6_lies wsX6_lies) := goodIn_app (goodIn_of _ (by decide +kernel)) ggX6_steps_X6_lies
theorem dX6_steps_0 : decode cX6_steps 0 = .ok (.aload_n 0, 1) := by decide +kernel
theorem dX6_steps_1 : decode cX6_steps 1 = .ok (.getfield 7, 3) := by decide +kernel
theorem dX6_steps_4 : decode cX6_steps 4 = .ok (.iconst 5, 1) := by decide +kernel
theorem dX6_steps_5 : decode cX6_steps 5 = .ok (.iaload, 1) := by decide +kernel
theorem dX6_steps_6 : decode cX6_steps 6 = .ok (.iconst 1, 1) := by decide +kernel
theorem dX6_steps_7 : decode cX6_steps 7 = .ok (.if_icmp .ne 5, 3) := by decide +kernel
theorem dX6_steps_10 : decode cX6_steps 10 = .ok (.iconst 0, 1) := by decide +kernel
theorem dX6_steps_11 : decode cX6_steps 11 = .ok (.ireturn, 1) := by decide +kernel
theorem dX6_steps_12 : decode cX6_steps 12 = .ok (.aload_n 0, 1) := by decide +kernel
theorem dX6_steps_13 : decode cX6_steps 13 = .ok (.getfield 7, 3) := by decide +kernel
theorem dX6_steps_16 : decode cX6_steps 16 = .ok (.iconst 4, 1) := by decide +kernel
theorem dX6_steps_17 : decode cX6_steps 17 = .ok (.iaload, 1) := by decide +kernel
theorem dX6_steps_18 : decode cX6_steps 18 = .ok (.istore_n 1, 1) := by decide +kernel
theorem dX6_steps_19 : decode cX6_steps 19 = .ok (.aload_n 0, 1) := by decide +kernel
theorem dX6_steps_20 : decode cX6_steps 20 = .ok (.iload_n 1, 1) := by decide +kernel
theorem dX6_steps_21 : decode cX6_steps 21 = .ok (.invokevirtual 61, 3) := by decide +kernel
theorem dX6_steps_24 : decode cX6_steps 24 = .ok (.ifCond .eq 23, 3) := by decide +kernel
theorem dX6_steps_27 : decode cX6_steps 27 = .ok (.aload_n 0, 1) := by decide +kernel
theorem dX6_steps_28 : decode cX6_steps 28 = .ok (.getfield 7, 3) := by decide +kernel
theorem dX6_steps_31 : decode cX6_steps 31 = .ok (.iconst 5, 1) := by decide +kernel
theorem dX6_steps_32 : decode cX6_steps 32 = .ok (.iconst 1, 1) := by decide +kernel
theorem dX6_steps_33 : decode cX6_steps 33 = .ok (.iastore, 1) := by decide +kernel
theorem dX6_steps_34 : decode cX6_steps 34 = .ok (.aload_n 0, 1) := by decide +kernel
theorem dX6_steps_35 : decode cX6_steps 35 = .ok (.getfield 7, 3) := by decide +kernel
theorem dX6_steps_38 : decode cX6_steps 38 = .ok (.bipush 14, 2) := by decide +kernel
theorem dX6_steps_40 : decode cX6_steps 40 = .ok (.dup2, 1) := by decide +kernel
theorem dX6_steps_41 : decode cX6_steps 41 = .ok (.iaload, 1) := by decide +kernel
theorem dX6_steps_42 : decode cX6_steps 42 = .ok (.iconst 1, 1) := by decide +kernel
theorem dX6_steps_43 : decode cX6_steps 43 = .ok (.iadd, 1) := by decide +kernel
theorem dX6_steps_44 : decode cX6_steps 44 = .ok (.iastore, 1) := by decide +kernel
theorem dX6_steps_45 : decode cX6_steps 45 = .ok (.iconst 0, 1) := by decide +kernel
theorem dX6_steps_46 : decode cX6_steps 46 = .ok (.ireturn, 1) := by decide +kernel
theorem dX6_steps_47 : decode cX6_steps 47 = .ok (.iconst 0, 1) := by decide +kernel
theorem dX6_steps_48 : decode cX6_steps 48 = .ok (.istore_n 2, 1) := by decide +kernel
theorem dX6_steps_49 : decode cX6_steps 49 = .ok (.iload_n 2, 1) := by decide +kernel
theorem dX6_steps_50 : decode cX6_steps 50 = .ok (.bipush 6, 2) := by decide +kernel
theorem dX6_steps_52 : decode cX6_steps 52 = .ok (.if_icmp .ge 29, 3) := by decide +kernel
theorem dX6_steps_55 : decode cX6_steps 55 = .ok (.aload_n 0, 1) := by decide +kernel
theorem dX6_steps_56 : decode cX6_steps 56 = .ok (.iload_n 1, 1) := by decide +kernel
theorem dX6_steps_57 : decode cX6_steps 57 = .ok (.iload_n 2, 1) := by decide +kernel
theorem dX6_steps_58 : decode cX6_steps 58 = .ok (.invokevirtual 50, 3) := by decide +kernel
theorem dX6_steps_61 : decode cX6_steps 61 = .ok (.ifCond .eq 14, 3) := by decide +kernel
theorem dX6_steps_64 : decode cX6_steps 64 = .ok (.aload_n 0, 1) := by decide +kernel
theorem dX6_steps_65 : decode cX6_steps 65 = .ok (.iload_n 2, 1) := by decide +kernel
theorem dX6_steps_66 : decode cX6_steps 66 = .ok (.invokevirtual 65, 3) := by decide +kernel
theorem dX6_steps_69 : decode cX6_steps 69 = .ok (.aload_n 0, 1) := by decide +kernel
theorem dX6_steps_70 : decode cX6_steps 70 = .ok (.iload_n 1, 1) := by decide +kernel
theorem dX6_steps_71 : decode cX6_steps 71 = .ok (.iload_n 2, 1) := by decide +kernel
theorem dX6_steps_72 : decode cX6_steps 72 = .ok (.invokevirtual 69, 3) := by decide +kernel
theorem dX6_steps_75 : decode cX6_steps 75 = .ok (.iinc 2 1, 3) := by decide +kernel
theorem dX6_steps_78 : decode cX6_steps 78 = .ok (.goto (-29), 3) := by decide +kernel
theorem dX6_steps_81 : decode cX6_steps 81 = .ok (.aload_n 0, 1) := by decide +kernel
theorem dX6_steps_82 : decode cX6_steps 82 = .ok (.getfield 7, 3) := by decide +kernel
theorem dX6_steps_85 : decode cX6_steps 85 = .ok (.iconst 4, 1) := by decide +kernel
theorem dX6_steps_86 : decode cX6_steps 86 = .ok (.iload_n 1, 1) := by decide +kernel
theorem dX6_steps_87 : decode cX6_steps 87 = .ok (.iconst 1, 1) := by decide +kernel
theorem dX6_steps_88 : decode cX6_steps 88 = .ok (.iadd, 1) := by decide +kernel
theorem dX6_steps_89 : decode cX6_steps 89 = .ok (.bipush 16, 2) := by decide +kernel
theorem dX6_steps_91 : decode cX6_steps 91 = .ok (.irem, 1) := by decide +kernel
theorem dX6_steps_92 : decode cX6_steps 92 = .ok (.iastore, 1) := by decide +kernel
theorem dX6_steps_93 : decode cX6_steps 93 = .ok (.aload_n 0, 1) := by decide +kernel
theorem dX6_steps_94 : decode cX6_steps 94 = .ok (.getfield 7, 3) := by decide +kernel
theorem dX6_steps_97 : decode cX6_steps 97 = .ok (.bipush 10, 2) := by decide +kernel
theorem dX6_steps_99 : decode cX6_steps 99 = .ok (.dup2, 1) := by decide +kernel
theorem dX6_steps_100 : decode cX6_steps 100 = .ok (.iaload, 1) := by decide +kernel
theorem dX6_steps_101 : decode cX6_steps 101 = .ok (.iconst 1, 1) := by decide +kernel
theorem dX6_steps_102 : decode cX6_steps 102 = .ok (.iadd, 1) := by decide +kernel
theorem dX6_steps_103 : decode cX6_steps 103 = .ok (.iastore, 1) := by decide +kernel
theorem dX6_steps_104 : decode cX6_steps 104 = .ok (.aload_n 0, 1) := by decide +kernel
theorem dX6_steps_105 : decode cX6_steps 105 = .ok (.invokevirtual 73, 3) := by decide +kernel
theorem dX6_steps_108 : decode cX6_steps 108 = .ok (.iconst 1, 1) := by decide +kernel
theorem dX6_steps_109 : decode cX6_steps 109 = .ok (.ireturn, 1) := by decide +kernel
set_option maxRecDepth 20000 in
theorem ggX6_stepsUpTo_X6_steps : GoodIn wsX6_stepsUpTo wsX6_steps := goodIn_r _ [5, 6, 7, 8, 9, 4, 10, 11, 12, 13, 14, 15, 16, 17, 18, 19, 20, 21, 22, 23, 24, 25, 26, 27, 28, 29, 30, 31, 32, 33, 34, 35, 36, 37, 38, 39, 40, 41, 42, 43, 44, 45, 46, 47, 48, 49] (by decide +kernel) (by decide +kernel)
set_option maxRecDepth 20000 in
theorem gX6_stepsUpTo_X6_steps : GoodIn wsX6_stepsUpTo (wsV RX6 76 RX6 yX6_steps wsX6_steps) := goodIn_app (goodIn_of _ (by decide +kernel)) ggX6_stepsUpTo_X6_steps
theorem dX6_stepsUpTo_0 : decode cX6_stepsUpTo 0 = .ok (.iconst 0, 1) := by decide +kernel
theorem dX6_stepsUpTo_1 : decode cX6_stepsUpTo 1 = .ok (.istore_n 2, 1) := by decide +kernel
theorem dX6_stepsUpTo_2 : decode cX6_stepsUpTo 2 = .ok (.iload_n 2, 1) := by decide +kernel
theorem dX6_stepsUpTo_3 : decode cX6_stepsUpTo 3 = .ok (.iload_n 1, 1) := by decide +kernel
theorem dX6_stepsUpTo_4 : decode cX6_stepsUpTo 4 = .ok (.if_icmp .ge 16, 3) := by decide +kernel
theorem dX6_stepsUpTo_7 : decode cX6_stepsUpTo 7 = .ok (.aload_n 0, 1) := by decide +kernel
theorem dX6_stepsUpTo_8 : decode cX6_stepsUpTo 8 = .ok (.invokevirtual 76, 3) := by decide +kernel
theorem dX6_stepsUpTo_11 : decode cX6_stepsUpTo 11 = .ok (.ifCond .eq 9, 3) := by decide +kernel
theorem dX6_stepsUpTo_14 : decode cX6_stepsUpTo 14 = .ok (.iinc 2 1, 3) := by decide +kernel
theorem dX6_stepsUpTo_17 : decode cX6_stepsUpTo 17 = .ok (.goto (-15), 3) := by decide +kernel
theorem dX6_stepsUpTo_20 : decode cX6_stepsUpTo 20 = .ok (.iload_n 2, 1) := by decide +kernel
theorem dX6_stepsUpTo_21 : decode cX6_stepsUpTo 21 = .ok (.ireturn, 1) := by decide +kernel
set_option maxRecDepth 20000 in
theorem ggX6_isSetting_X6_in : GoodIn wsX6_isSetting wsX6_in := goodIn_r _ [8] (by decide +kernel) (by decide +kernel)
set_option maxRecDepth 20000 in
theorem gX6_isSetting_X6_in : GoodIn wsX6_isSetting (va_wsS RX6 40 yX6_in wsX6_in) := goodIn_app (goodIn_of _ (by decide +kernel)) ggX6_isSetting_X6_in
theorem dX6_isSetting_0 : decode cX6_isSetting 0 = .ok (.iload_n 0, 1) := by decide +kernel
theorem dX6_isSetting_1 : decode cX6_isSetting 1 = .ok (.tableswitch 71 0 3 #[31, 41, 51, 61], 31) := by decide +kernel
theorem dX6_isSetting_32 : decode cX6_isSetting 32 = .ok (.iload_n 1, 1) := by decide +kernel
theorem dX6_isSetting_33 : decode cX6_isSetting 33 = .ok (.i2l, 1) := by decide +kernel
theorem dX6_isSetting_34 : decode cX6_isSetting 34 = .ok (.lconst 1, 1) := by decide +kernel
theorem dX6_isSetting_35 : decode cX6_isSetting 35 = .ok (.ldc2_w 80, 3) := by decide +kernel
theorem dX6_isSetting_38 : decode cX6_isSetting 38 = .ok (.invokestatic 40, 3) := by decide +kernel
theorem dX6_isSetting_41 : decode cX6_isSetting 41 = .ok (.ireturn, 1) := by decide +kernel
theorem dX6_isSetting_42 : decode cX6_isSetting 42 = .ok (.iload_n 1, 1) := by decide +kernel
theorem dX6_isSetting_43 : decode cX6_isSetting 43 = .ok (.i2l, 1) := by decide +kernel
theorem dX6_isSetting_44 : decode cX6_isSetting 44 = .ok (.lconst 0, 1) := by decide +kernel
theorem dX6_isSetting_45 : decode cX6_isSetting 45 = .ok (.ldc2_w 82, 3) := by decide +kernel
theorem dX6_isSetting_48 : decode cX6_isSetting 48 = .ok (.invokestatic 40, 3) := by decide +kernel
theorem dX6_isSetting_51 : decode cX6_isSetting 51 = .ok (.ireturn, 1) := by decide +kernel
theorem dX6_isSetting_52 : decode cX6_isSetting 52 = .ok (.iload_n 1, 1) := by decide +kernel
theorem dX6_isSetting_53 : decode cX6_isSetting 53 = .ok (.i2l, 1) := by decide +kernel
theorem dX6_isSetting_54 : decode cX6_isSetting 54 = .ok (.lconst 0, 1) := by decide +kernel
theorem dX6_isSetting_55 : decode cX6_isSetting 55 = .ok (.ldc2_w 84, 3) := by decide +kernel
theorem dX6_isSetting_58 : decode cX6_isSetting 58 = .ok (.invokestatic 40, 3) := by decide +kernel
theorem dX6_isSetting_61 : decode cX6_isSetting 61 = .ok (.ireturn, 1) := by decide +kernel
theorem dX6_isSetting_62 : decode cX6_isSetting 62 = .ok (.iload_n 1, 1) := by decide +kernel
theorem dX6_isSetting_63 : decode cX6_isSetting 63 = .ok (.i2l, 1) := by decide +kernel
theorem dX6_isSetting_64 : decode cX6_isSetting 64 = .ok (.lconst 1, 1) := by decide +kernel
theorem dX6_isSetting_65 : decode cX6_isSetting 65 = .ok (.ldc2_w 86, 3) := by decide +kernel
theorem dX6_isSetting_68 : decode cX6_isSetting 68 = .ok (.invokestatic 40, 3) := by decide +kernel
theorem dX6_isSetting_71 : decode cX6_isSetting 71 = .ok (.ireturn, 1) := by decide +kernel
theorem dX6_isSetting_72 : decode cX6_isSetting 72 = .ok (.iconst 0, 1) := by decide +kernel
theorem dX6_isSetting_73 : decode cX6_isSetting 73 = .ok (.ireturn, 1) := by decide +kernel
