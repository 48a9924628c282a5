set_option maxRecDepth 20000 in
theorem ggX5_init_X0_init : GoodIn wsX5_init wsX0_init := goodIn_r _ [21, 22, 2, 3, 23, 24, 25, 26, 27, 28, 29, 30, 31, 32, 33, 34, 35, 36, 37, 38, 39, 40, 41, 42, 43, 44, 55, 56, 57, 58, 59, 60, 61, 62, 63, 64, 65, 66, 67, 79, 80, 81, 82, 83, 84, 85, 86] (by decide +kernel) (by decide +kernel)
set_option maxRecDepth 20000 in
theorem gX5_init_X0_init_n9 : GoodIn wsX5_init (wsX0_init) := ggX5_init_X0_init
set_option maxRecDepth 20000 in
theorem ggX5_init_X2_init : GoodIn wsX5_init wsX2_init := goodIn_r _ [46, 47, 2, 3, 48, 5, 6, 49, 20, 21, 22, 23, 24, 25, 26, 27, 28, 29, 30, 31, 32, 33, 34, 35, 36, 37, 38, 39, 40, 41, 42, 43, 44, 55, 56, 57, 58, 59, 60, 61, 62, 63, 64, 65, 66, 67, 74, 75, 76, 79, 80, 81, 82, 83, 84, 85, 86] (by decide +kernel) (by decide +kernel)
set_option maxRecDepth 20000 in
theorem gX5_init_X2_init_n21 : GoodIn wsX5_init (wsX2_init) := ggX5_init_X2_init
set_option maxRecDepth 20000 in
theorem ggX5_init_X3_init : GoodIn wsX5_init wsX3_init := goodIn_r _ [51, 52, 2, 3, 53, 54, 77, 78] (by decide +kernel) (by decide +kernel)
set_option maxRecDepth 20000 in
theorem gX5_init_X3_init_n28 : GoodIn wsX5_init (wsX3_init) := ggX5_init_X3_init
theorem dX5_init_0 : decode cX5_init 0 = .ok (.aload_n 0, 1) := by decide +kernel
theorem dX5_init_1 : decode cX5_init 1 = .ok (.invokespecial 1, 3) := by decide +kernel
theorem dX5_init_4 : decode cX5_init 4 = .ok (.aload_n 0, 1) := by decide +kernel
theorem dX5_init_5 : decode cX5_init 5 = .ok (.new 7, 3) := by decide +kernel
theorem dX5_init_8 : decode cX5_init 8 = .ok (.dup, 1) := by decide +kernel
theorem dX5_init_9 : decode cX5_init 9 = .ok (.invokespecial 9, 3) := by decide +kernel
theorem dX5_init_12 : decode cX5_init 12 = .ok (.putfield 10, 3) := by decide +kernel
theorem dX5_init_15 : decode cX5_init 15 = .ok (.aload_n 0, 1) := by decide +kernel
theorem dX5_init_16 : decode cX5_init 16 = .ok (.new 7, 3) := by decide +kernel
theorem dX5_init_19 : decode cX5_init 19 = .ok (.dup, 1) := by decide +kernel
theorem dX5_init_20 : decode cX5_init 20 = .ok (.invokespecial 9, 3) := by decide +kernel
theorem dX5_init_23 : decode cX5_init 23 = .ok (.putfield 16, 3) := by decide +kernel
theorem dX5_init_26 : decode cX5_init 26 = .ok (.aload_n 0, 1) := by decide +kernel
theorem dX5_init_27 : decode cX5_init 27 = .ok (.new 19, 3) := by decide +kernel
theorem dX5_init_30 : decode cX5_init 30 = .ok (.dup, 1) := by decide +kernel
theorem dX5_init_31 : decode cX5_init 31 = .ok (.invokespecial 21, 3) := by decide +kernel
theorem dX5_init_34 : decode cX5_init 34 = .ok (.putfield 22, 3) := by decide +kernel
theorem dX5_init_37 : decode cX5_init 37 = .ok (.aload_n 0, 1) := by decide +kernel
theorem dX5_init_38 : decode cX5_init 38 = .ok (.new 26, 3) := by decide +kernel
theorem dX5_init_41 : decode cX5_init 41 = .ok (.dup, 1) := by decide +kernel
theorem dX5_init_42 : decode cX5_init 42 = .ok (.invokespecial 28, 3) := by decide +kernel
theorem dX5_init_45 : decode cX5_init 45 = .ok (.putfield 29, 3) := by decide +kernel
theorem dX5_init_48 : decode cX5_init 48 = .ok (.aload_n 0, 1) := by decide +kernel
theorem dX5_init_49 : decode cX5_init 49 = .ok (.iconst 2, 1) := by decide +kernel
theorem dX5_init_50 : decode cX5_init 50 = .ok (.anewarray 7, 3) := by decide +kernel
theorem dX5_init_53 : decode cX5_init 53 = .ok (.dup, 1) := by decide +kernel
theorem dX5_init_54 : decode cX5_init 54 = .ok (.iconst 0, 1) := by decide +kernel
theorem dX5_init_55 : decode cX5_init 55 = .ok (.new 7, 3) := by decide +kernel
theorem dX5_init_58 : decode cX5_init 58 = .ok (.dup, 1) := by decide +kernel
theorem dX5_init_59 : decode cX5_init 59 = .ok (.invokespecial 9, 3) := by decide +kernel
theorem dX5_init_62 : decode cX5_init 62 = .ok (.aastore, 1) := by decide +kernel
theorem dX5_init_63 : decode cX5_init 63 = .ok (.dup, 1) := by decide +kernel
theorem dX5_init_64 : decode cX5_init 64 = .ok (.iconst 1, 1) := by decide +kernel
theorem dX5_init_65 : decode cX5_init 65 = .ok (.new 7, 3) := by decide +kernel
theorem dX5_init_68 : decode cX5_init 68 = .ok (.dup, 1) := by decide +kernel
theorem dX5_init_69 : decode cX5_init 69 = .ok (.invokespecial 9, 3) := by decide +kernel
theorem dX5_init_72 : decode cX5_init 72 = .ok (.aastore, 1) := by decide +kernel
theorem dX5_init_73 : decode cX5_init 73 = .ok (.putfield 33, 3) := by decide +kernel
theorem dX5_init_76 : decode cX5_init 76 = .ok (.aload_n 0, 1) := by decide +kernel
theorem dX5_init_77 : decode cX5_init 77 = .ok (.iconst 2, 1) := by decide +kernel
theorem dX5_init_78 : decode cX5_init 78 = .ok (.newarray .boolean, 2) := by decide +kernel
theorem dX5_init_80 : decode cX5_init 80 = .ok (.putfield 37, 3) := by decide +kernel
theorem dX5_init_83 : decode cX5_init 83 = .ok (.return_, 1) := by decide +kernel
set_option maxRecDepth 20000 in
theorem ggX5_set_X2_keep : GoodIn wsX5_set wsX2_keep := goodIn_r _ [10, 11, 12, 13, 14, 15, 16, 17, 18, 19, 20, 21, 22, 23, 24, 25, 26, 27, 28, 29, 30, 31, 32, 33, 34, 35, 36, 37, 38, 39, 40, 41, 42, 43, 44, 45, 46, 47, 48, 49, 50, 51, 52, 53, 54, 55, 56, 57, 58, 59, 79, 80, 81, 66, 67, 68, 69, 70, 71, 72, 73, 74, 75, 76, 77, 78, 82, 83, 84, 85, 86, 87, 88, 89] (by decide +kernel) (by decide +kernel)
set_option maxRecDepth 20000 in
theorem gX5_set_X2_keep : GoodIn wsX5_set (wsV RX5 48 RX2 yX2_keep wsX2_keep) := goodIn_app (goodIn_of _ (by decide +kernel)) ggX5_set_X2_keep
theorem dX5_set_0 : decode cX5_set 0 = .ok (.iload_n 1, 1) := by decide +kernel
theorem dX5_set_1 : decode cX5_set 1 = .ok (.ifCond .lt 26, 3) := by decide +kernel
theorem dX5_set_4 : decode cX5_set 4 = .ok (.iload_n 1, 1) := by decide +kernel
theorem dX5_set_5 : decode cX5_set 5 = .ok (.iconst 4, 1) := by decide +kernel
theorem dX5_set_6 : decode cX5_set 6 = .ok (.if_icmp .ge 21, 3) := by decide +kernel
theorem dX5_set_9 : decode cX5_set 9 = .ok (.iload_n 2, 1) := by decide +kernel
theorem dX5_set_10 : decode cX5_set 10 = .ok (.getstatic 41, 3) := by decide +kernel
theorem dX5_set_13 : decode cX5_set 13 = .ok (.iload_n 1, 1) := by decide +kernel
theorem dX5_set_14 : decode cX5_set 14 = .ok (.iaload, 1) := by decide +kernel
theorem dX5_set_15 : decode cX5_set 15 = .ok (.if_icmp .lt 12, 3) := by decide +kernel
theorem dX5_set_18 : decode cX5_set 18 = .ok (.iload_n 2, 1) := by decide +kernel
theorem dX5_set_19 : decode cX5_set 19 = .ok (.getstatic 45, 3) := by decide +kernel
theorem dX5_set_22 : decode cX5_set 22 = .ok (.iload_n 1, 1) := by decide +kernel
theorem dX5_set_23 : decode cX5_set 23 = .ok (.iaload, 1) := by decide +kernel
theorem dX5_set_24 : decode cX5_set 24 = .ok (.if_icmp .le 6, 3) := by decide +kernel
theorem dX5_set_27 : decode cX5_set 27 = .ok (.bipush (-2), 2) := by decide +kernel
theorem dX5_set_29 : decode cX5_set 29 = .ok (.ireturn, 1) := by decide +kernel
theorem dX5_set_30 : decode cX5_set 30 = .ok (.aload_n 0, 1) := by decide +kernel
theorem dX5_set_31 : decode cX5_set 31 = .ok (.getfield 22, 3) := by decide +kernel
theorem dX5_set_34 : decode cX5_set 34 = .ok (.aload_n 0, 1) := by decide +kernel
theorem dX5_set_35 : decode cX5_set 35 = .ok (.getfield 10, 3) := by decide +kernel
theorem dX5_set_38 : decode cX5_set 38 = .ok (.invokevirtual 48, 3) := by decide +kernel
theorem dX5_set_41 : decode cX5_set 41 = .ok (.aload_n 0, 1) := by decide +kernel
theorem dX5_set_42 : decode cX5_set 42 = .ok (.getfield 10, 3) := by decide +kernel
theorem dX5_set_45 : decode cX5_set 45 = .ok (.getfield 52, 3) := by decide +kernel
theorem dX5_set_48 : decode cX5_set 48 = .ok (.iload_n 1, 1) := by decide +kernel
theorem dX5_set_49 : decode cX5_set 49 = .ok (.iaload, 1) := by decide +kernel
theorem dX5_set_50 : decode cX5_set 50 = .ok (.istore_n 3, 1) := by decide +kernel
theorem dX5_set_51 : decode cX5_set 51 = .ok (.aload_n 0, 1) := by decide +kernel
theorem dX5_set_52 : decode cX5_set 52 = .ok (.getfield 10, 3) := by decide +kernel
theorem dX5_set_55 : decode cX5_set 55 = .ok (.getfield 52, 3) := by decide +kernel
theorem dX5_set_58 : decode cX5_set 58 = .ok (.iload_n 1, 1) := by decide +kernel
theorem dX5_set_59 : decode cX5_set 59 = .ok (.iload_n 2, 1) := by decide +kernel
theorem dX5_set_60 : decode cX5_set 60 = .ok (.iastore, 1) := by decide +kernel
theorem dX5_set_61 : decode cX5_set 61 = .ok (.iload_n 3, 1) := by decide +kernel
theorem dX5_set_62 : decode cX5_set 62 = .ok (.ireturn, 1) := by decide +kernel
set_option maxRecDepth 20000 in
theorem ggX5_peg_X5_isRow : GoodIn wsX5_peg wsX5_isRow := goodIn_r _ [8] (by decide +kernel) (by decide +kernel)
set_option maxRecDepth 20000 in
theorem gX5_peg_X5_isRow : GoodIn wsX5_peg (va_wsS RX5 55 yX5_isRow wsX5_isRow) := goodIn_app (goodIn_of _ (by decide +kernel)) ggX5_peg_X5_isRow
set_option maxRecDepth 20000 in
theorem ggX5_peg_X5_isPlace : GoodIn wsX5_peg wsX5_isPlace := goodIn_r _ [11] (by decide +kernel) (by decide +kernel)
set_option maxRecDepth 20000 in
theorem gX5_peg_X5_isPlace : GoodIn wsX5_peg (va_wsS RX5 59 yX5_isPlace wsX5_isPlace) := goodIn_app (goodIn_of _ (by decide +kernel)) ggX5_peg_X5_isPlace
set_option maxRecDepth 20000 in
theorem ggX5_peg_X2_keep : GoodIn wsX5_peg wsX2_keep := goodIn_r _ [16, 17, 18, 19, 20, 21, 22, 23, 24, 25, 26, 27, 28, 29, 30, 31, 32, 33, 34, 35, 36, 37, 38, 39, 40, 41, 42, 43, 44, 45, 46, 47, 48, 49, 50, 51, 52, 53, 54, 55, 56, 57, 58, 59, 60, 61, 62, 63, 64, 65, 108, 109, 110, 91, 92, 93, 94, 95, 96, 97, 98, 99, 100, 101, 102, 103, 104, 105, 106, 107, 111, 112, 113, 114] (by decide +kernel) (by decide +kernel)
set_option maxRecDepth 20000 in
theorem gX5_peg_X2_keep : GoodIn wsX5_peg (wsV RX5 48 RX2 yX2_keep wsX2_keep) := goodIn_app (goodIn_of _ (by decide +kernel)) ggX5_peg_X2_keep
set_option maxRecDepth 20000 in
theorem ggX5_peg_X1_giveRow : GoodIn wsX5_peg wsX1_giveRow := goodIn_r _ [69, 53, 51, 70, 71, 72, 49, 73, 104, 105, 106, 107] (by decide +kernel) (by decide +kernel)
set_option maxRecDepth 20000 in
theorem gX5_peg_X1_giveRow : GoodIn wsX5_peg (wsV RX5 71 RX1 yX1_giveRow wsX1_giveRow) := goodIn_app (goodIn_of _ (by decide +kernel)) ggX5_peg_X1_giveRow
set_option maxRecDepth 20000 in
theorem ggX5_peg_X1_pegsInRow : GoodIn wsX5_peg wsX1_pegsInRow := goodIn_r _ [77, 51, 78, 79, 80, 81, 82, 83, 84, 104, 105, 106, 107] (by decide +kernel) (by decide +kernel)
set_option maxRecDepth 20000 in
theorem gX5_peg_X1_pegsInRow : GoodIn wsX5_peg (wsV RX5 75 RX1 yX1_pegsInRow wsX1_pegsInRow) := goodIn_app (goodIn_of _ (by decide +kernel)) ggX5_peg_X1_pegsInRow
theorem dX5_peg_0 : decode cX5_peg 0 = .ok (.iload_n 1, 1) := by decide +kernel
theorem dX5_peg_1 : decode cX5_peg 1 = .ok (.invokestatic 55, 3) := by decide +kernel
theorem dX5_peg_4 : decode cX5_peg 4 = .ok (.ifCond .eq 10, 3) := by decide +kernel
theorem dX5_peg_7 : decode cX5_peg 7 = .ok (.iload_n 2, 1) := by decide +kernel
theorem dX5_peg_8 : decode cX5_peg 8 = .ok (.invokestatic 59, 3) := by decide +kernel
theorem dX5_peg_11 : decode cX5_peg 11 = .ok (.ifCond .ne 5, 3) := by decide +kernel
theorem dX5_peg_14 : decode cX5_peg 14 = .ok (.iconst (-1), 1) := by decide +kernel
theorem dX5_peg_15 : decode cX5_peg 15 = .ok (.ireturn, 1) := by decide +kernel
theorem dX5_peg_16 : decode cX5_peg 16 = .ok (.aload_n 0, 1) := by decide +kernel
theorem dX5_peg_17 : decode cX5_peg 17 = .ok (.getfield 22, 3) := by decide +kernel
theorem dX5_peg_20 : decode cX5_peg 20 = .ok (.aload_n 0, 1) := by decide +kernel
theorem dX5_peg_21 : decode cX5_peg 21 = .ok (.getfield 10, 3) := by decide +kernel
theorem dX5_peg_24 : decode cX5_peg 24 = .ok (.invokevirtual 48, 3) := by decide +kernel
theorem dX5_peg_27 : decode cX5_peg 27 = .ok (.aload_n 0, 1) := by decide +kernel
theorem dX5_peg_28 : decode cX5_peg 28 = .ok (.getfield 10, 3) := by decide +kernel
theorem dX5_peg_31 : decode cX5_peg 31 = .ok (.getfield 62, 3) := by decide +kernel
theorem dX5_peg_34 : decode cX5_peg 34 = .ok (.iload_n 1, 1) := by decide +kernel
theorem dX5_peg_35 : decode cX5_peg 35 = .ok (.aload_n 0, 1) := by decide +kernel
theorem dX5_peg_36 : decode cX5_peg 36 = .ok (.getfield 10, 3) := by decide +kernel
theorem dX5_peg_39 : decode cX5_peg 39 = .ok (.getfield 62, 3) := by decide +kernel
theorem dX5_peg_42 : decode cX5_peg 42 = .ok (.getfield 66, 3) := by decide +kernel
theorem dX5_peg_45 : decode cX5_peg 45 = .ok (.iload_n 1, 1) := by decide +kernel
theorem dX5_peg_46 : decode cX5_peg 46 = .ok (.iaload, 1) := by decide +kernel
theorem dX5_peg_47 : decode cX5_peg 47 = .ok (.iconst 1, 1) := by decide +kernel
theorem dX5_peg_48 : decode cX5_peg 48 = .ok (.iload_n 2, 1) := by decide +kernel
theorem dX5_peg_49 : decode cX5_peg 49 = .ok (.ishl, 1) := by decide +kernel
theorem dX5_peg_50 : decode cX5_peg 50 = .ok (.ixor, 1) := by decide +kernel
theorem dX5_peg_51 : decode cX5_peg 51 = .ok (.invokevirtual 71, 3) := by decide +kernel
theorem dX5_peg_54 : decode cX5_peg 54 = .ok (.aload_n 0, 1) := by decide +kernel
theorem dX5_peg_55 : decode cX5_peg 55 = .ok (.getfield 10, 3) := by decide +kernel
theorem dX5_peg_58 : decode cX5_peg 58 = .ok (.getfield 62, 3) := by decide +kernel
theorem dX5_peg_61 : decode cX5_peg 61 = .ok (.iload_n 1, 1) := by decide +kernel
theorem dX5_peg_62 : decode cX5_peg 62 = .ok (.invokevirtual 75, 3) := by decide +kernel
theorem dX5_peg_65 : decode cX5_peg 65 = .ok (.ireturn, 1) := by decide +kernel
set_option maxRecDepth 20000 in
theorem ggX5_order_X2_keep : GoodIn wsX5_order wsX2_keep := goodIn_r _ [8, 9, 10, 11, 12, 13, 14, 15, 16, 17, 18, 19, 20, 21, 22, 23, 24, 25, 26, 27, 28, 29, 30, 31, 32, 33, 34, 35, 36, 37, 38, 39, 40, 41, 42, 43, 44, 45, 46, 47, 48, 49, 50, 51, 52, 53, 54, 55, 56, 57, 77, 78, 79, 64, 65, 66, 67, 68, 69, 70, 71, 72, 73, 74, 75, 76, 80, 81, 82, 83, 84, 85, 86, 87] (by decide +kernel) (by decide +kernel)
set_option maxRecDepth 20000 in
theorem gX5_order_X2_keep : GoodIn wsX5_order (wsV RX5 48 RX2 yX2_keep wsX2_keep) := goodIn_app (goodIn_of _ (by decide +kernel)) ggX5_order_X2_keep
theorem dX5_order_0 : decode cX5_order 0 = .ok (.iload_n 1, 1) := by decide +kernel
theorem dX5_order_1 : decode cX5_order 1 = .ok (.ifCond .lt 9, 3) := by decide +kernel
theorem dX5_order_4 : decode cX5_order 4 = .ok (.iload_n 1, 1) := by decide +kernel
theorem dX5_order_5 : decode cX5_order 5 = .ok (.bipush 64, 2) := by decide +kernel
theorem dX5_order_7 : decode cX5_order 7 = .ok (.if_icmp .lt 6, 3) := by decide +kernel
theorem dX5_order_10 : decode cX5_order 10 = .ok (.bipush (-2), 2) := by decide +kernel
theorem dX5_order_12 : decode cX5_order 12 = .ok (.ireturn, 1) := by decide +kernel
theorem dX5_order_13 : decode cX5_order 13 = .ok (.aload_n 0, 1) := by decide +kernel
theorem dX5_order_14 : decode cX5_order 14 = .ok (.getfield 22, 3) := by decide +kernel
theorem dX5_order_17 : decode cX5_order 17 = .ok (.aload_n 0, 1) := by decide +kernel
theorem dX5_order_18 : decode cX5_order 18 = .ok (.getfield 10, 3) := by decide +kernel
theorem dX5_order_21 : decode cX5_order 21 = .ok (.invokevirtual 48, 3) := by decide +kernel
theorem dX5_order_24 : decode cX5_order 24 = .ok (.aload_n 0, 1) := by decide +kernel
theorem dX5_order_25 : decode cX5_order 25 = .ok (.getfield 10, 3) := by decide +kernel
theorem dX5_order_28 : decode cX5_order 28 = .ok (.getfield 79, 3) := by decide +kernel
theorem dX5_order_31 : decode cX5_order 31 = .ok (.istore_n 2, 1) := by decide +kernel
theorem dX5_order_32 : decode cX5_order 32 = .ok (.aload_n 0, 1) := by decide +kernel
theorem dX5_order_33 : decode cX5_order 33 = .ok (.getfield 10, 3) := by decide +kernel
theorem dX5_order_36 : decode cX5_order 36 = .ok (.iload_n 1, 1) := by decide +kernel
theorem dX5_order_37 : decode cX5_order 37 = .ok (.putfield 79, 3) := by decide +kernel
theorem dX5_order_40 : decode cX5_order 40 = .ok (.iload_n 2, 1) := by decide +kernel
theorem dX5_order_41 : decode cX5_order 41 = .ok (.ireturn, 1) := by decide +kernel
set_option maxRecDepth 20000 in
theorem ggX5_ink_X5_isPlace : GoodIn wsX5_ink wsX5_isPlace := goodIn_r _ [8] (by decide +kernel) (by decide +kernel)
set_option maxRecDepth 20000 in
theorem gX5_ink_X5_isPlace : GoodIn wsX5_ink (va_wsS RX5 59 yX5_isPlace wsX5_isPlace) := goodIn_app (goodIn_of _ (by decide +kernel)) ggX5_ink_X5_isPlace
set_option maxRecDepth 20000 in
theorem ggX5_ink_X2_keep : GoodIn wsX5_ink wsX2_keep := goodIn_r _ [13, 14, 15, 16, 17, 18, 19, 20, 21, 22, 23, 24, 25, 26, 27, 28, 29, 30, 31, 32, 33, 34, 35, 36, 37, 38, 39, 40, 41, 42, 43, 44, 45, 46, 47, 48, 49, 50, 51, 52, 53, 54, 55, 56, 57, 58, 59, 60, 61, 62, 86, 87, 88, 69, 70, 71, 72, 73, 74, 75, 76, 77, 78, 79, 80, 81, 89, 90, 91, 92, 82, 83, 84, 85] (by decide +kernel) (by decide +kernel)
set_option maxRecDepth 20000 in
theorem gX5_ink_X2_keep : GoodIn wsX5_ink (wsV RX5 48 RX2 yX2_keep wsX2_keep) := goodIn_app (goodIn_of _ (by decide +kernel)) ggX5_ink_X2_keep
theorem dX5_ink_0 : decode cX5_ink 0 = .ok (.iload_n 1, 1) := by decide +kernel
theorem dX5_ink_1 : decode cX5_ink 1 = .ok (.invokestatic 59, 3) := by decide +kernel
theorem dX5_ink_4 : decode cX5_ink 4 = .ok (.ifCond .ne 5, 3) := by decide +kernel
theorem dX5_ink_7 : decode cX5_ink 7 = .ok (.iconst (-1), 1) := by decide +kernel
theorem dX5_ink_8 : decode cX5_ink 8 = .ok (.ireturn, 1) := by decide +kernel
theorem dX5_ink_9 : decode cX5_ink 9 = .ok (.aload_n 0, 1) := by decide +kernel
theorem dX5_ink_10 : decode cX5_ink 10 = .ok (.getfield 22, 3) := by decide +kernel
theorem dX5_ink_13 : decode cX5_ink 13 = .ok (.aload_n 0, 1) := by decide +kernel
theorem dX5_ink_14 : decode cX5_ink 14 = .ok (.getfield 10, 3) := by decide +kernel
theorem dX5_ink_17 : decode cX5_ink 17 = .ok (.invokevirtual 48, 3) := by decide +kernel
theorem dX5_ink_20 : decode cX5_ink 20 = .ok (.bipush 99, 2) := by decide +kernel
theorem dX5_ink_22 : decode cX5_ink 22 = .ok (.aload_n 0, 1) := by decide +kernel
theorem dX5_ink_23 : decode cX5_ink 23 = .ok (.getfield 10, 3) := by decide +kernel
theorem dX5_ink_26 : decode cX5_ink 26 = .ok (.getfield 83, 3) := by decide +kernel
theorem dX5_ink_29 : decode cX5_ink 29 = .ok (.getfield 87, 3) := by decide +kernel
theorem dX5_ink_32 : decode cX5_ink 32 = .ok (.iload_n 1, 1) := by decide +kernel
theorem dX5_ink_33 : decode cX5_ink 33 = .ok (.iaload, 1) := by decide +kernel
theorem dX5_ink_34 : decode cX5_ink 34 = .ok (.isub, 1) := by decide +kernel
theorem dX5_ink_35 : decode cX5_ink 35 = .ok (.istore_n 2, 1) := by decide +kernel
theorem dX5_ink_36 : decode cX5_ink 36 = .ok (.aload_n 0, 1) := by decide +kernel
theorem dX5_ink_37 : decode cX5_ink 37 = .ok (.getfield 10, 3) := by decide +kernel
theorem dX5_ink_40 : decode cX5_ink 40 = .ok (.getfield 83, 3) := by decide +kernel
theorem dX5_ink_43 : decode cX5_ink 43 = .ok (.getfield 87, 3) := by decide +kernel
theorem dX5_ink_46 : decode cX5_ink 46 = .ok (.iload_n 1, 1) := by decide +kernel
theorem dX5_ink_47 : decode cX5_ink 47 = .ok (.bipush 99, 2) := by decide +kernel
theorem dX5_ink_49 : decode cX5_ink 49 = .ok (.iastore, 1) := by decide +kernel
theorem dX5_ink_50 : decode cX5_ink 50 = .ok (.iload_n 2, 1) := by decide +kernel
theorem dX5_ink_51 : decode cX5_ink 51 = .ok (.ireturn, 1) := by decide +kernel
set_option maxRecDepth 20000 in
theorem ggX5_step_X2_keep : GoodIn wsX5_step wsX2_keep := goodIn_r _ [10, 11, 12, 13, 14, 15, 16, 17, 18, 19, 20, 21, 22, 23, 24, 25, 26, 27, 28, 29, 30, 31, 32, 33, 34, 35, 36, 37, 38, 39, 40, 41, 42, 43, 44, 45, 46, 47, 48, 49, 50, 51, 52, 53, 54, 55, 56, 57, 58, 59, 136, 137, 138, 123, 124, 125, 126, 127, 128, 129, 130, 131, 132, 133, 134, 135, 139, 140, 141, 142, 143, 144, 145, 146] (by decide +kernel) (by decide +kernel)
set_option maxRecDepth 20000 in
theorem gX5_step_X2_keep : GoodIn wsX5_step (wsV RX5 48 RX2 yX2_keep wsX2_keep) := goodIn_app (goodIn_of _ (by decide +kernel)) ggX5_step_X2_keep
set_option maxRecDepth 20000 in
theorem ggX5_step_X0_makeSteps : GoodIn wsX5_step wsX0_makeSteps := goodIn_r _ [63, 64, 65, 66, 21, 67, 30, 28, 68, 39, 69, 35, 34, 23, 70, 71, 72, 73, 74, 75, 76, 43, 77, 45, 78, 79, 80, 81, 82, 83, 84, 85, 86, 87, 88, 89, 90, 91, 92, 32, 33, 29, 93, 94, 95, 96, 53, 97, 55, 58, 57, 98, 99, 100, 101, 47, 49, 102, 103, 104, 105, 48, 106, 107, 108, 109, 110, 111, 112, 38, 31, 36, 37, 113, 114, 115, 116, 123, 124, 125, 126, 127, 128, 129, 130, 131, 132, 133, 134, 135, 139, 140, 141, 142, 143, 144, 145, 146] (by decide +kernel) (by decide +kernel)
set_option maxRecDepth 20000 in
theorem gX5_step_X0_makeSteps : GoodIn wsX5_step (wsV RX5 100 RX0 yX0_makeSteps wsX0_makeSteps) := goodIn_app (goodIn_of _ (by decide +kernel)) ggX5_step_X0_makeSteps
theorem dX5_step_0 : decode cX5_step 0 = .ok (.iload_n 1, 1) := by decide +kernel
theorem dX5_step_1 : decode cX5_step 1 = .ok (.iconst 1, 1) := by decide +kernel
theorem dX5_step_2 : decode cX5_step 2 = .ok (.if_icmp .lt 10, 3) := by decide +kernel
theorem dX5_step_5 : decode cX5_step 5 = .ok (.iload_n 1, 1) := by decide +kernel
theorem dX5_step_6 : decode cX5_step 6 = .ok (.sipush 200, 3) := by decide +kernel
theorem dX5_step_9 : decode cX5_step 9 = .ok (.if_icmp .le 6, 3) := by decide +kernel
theorem dX5_step_12 : decode cX5_step 12 = .ok (.bipush (-2), 2) := by decide +kernel
theorem dX5_step_14 : decode cX5_step 14 = .ok (.ireturn, 1) := by decide +kernel
theorem dX5_step_15 : decode cX5_step 15 = .ok (.aload_n 0, 1) := by decide +kernel
theorem dX5_step_16 : decode cX5_step 16 = .ok (.getfield 10, 3) := by decide +kernel
theorem dX5_step_19 : decode cX5_step 19 = .ok (.getfield 92, 3) := by decide +kernel
theorem dX5_step_22 : decode cX5_step 22 = .ok (.ifCond .eq 6, 3) := by decide +kernel
theorem dX5_step_25 : decode cX5_step 25 = .ok (.bipush (-5), 2) := by decide +kernel
theorem dX5_step_27 : decode cX5_step 27 = .ok (.ireturn, 1) := by decide +kernel
theorem dX5_step_28 : decode cX5_step 28 = .ok (.aload_n 0, 1) := by decide +kernel
theorem dX5_step_29 : decode cX5_step 29 = .ok (.getfield 10, 3) := by decide +kernel
theorem dX5_step_32 : decode cX5_step 32 = .ok (.getfield 96, 3) := by decide +kernel
theorem dX5_step_35 : decode cX5_step 35 = .ok (.iload_n 1, 1) := by decide +kernel
theorem dX5_step_36 : decode cX5_step 36 = .ok (.iadd, 1) := by decide +kernel
theorem dX5_step_37 : decode cX5_step 37 = .ok (.ldc 99, 2) := by decide +kernel
theorem dX5_step_39 : decode cX5_step 39 = .ok (.if_icmp .le 6, 3) := by decide +kernel
theorem dX5_step_42 : decode cX5_step 42 = .ok (.bipush (-4), 2) := by decide +kernel
theorem dX5_step_44 : decode cX5_step 44 = .ok (.ireturn, 1) := by decide +kernel
theorem dX5_step_45 : decode cX5_step 45 = .ok (.aload_n 0, 1) := by decide +kernel
theorem dX5_step_46 : decode cX5_step 46 = .ok (.getfield 22, 3) := by decide +kernel
theorem dX5_step_49 : decode cX5_step 49 = .ok (.aload_n 0, 1) := by decide +kernel
theorem dX5_step_50 : decode cX5_step 50 = .ok (.getfield 10, 3) := by decide +kernel
theorem dX5_step_53 : decode cX5_step 53 = .ok (.invokevirtual 48, 3) := by decide +kernel
theorem dX5_step_56 : decode cX5_step 56 = .ok (.aload_n 0, 1) := by decide +kernel
theorem dX5_step_57 : decode cX5_step 57 = .ok (.getfield 10, 3) := by decide +kernel
theorem dX5_step_60 : decode cX5_step 60 = .ok (.iload_n 1, 1) := by decide +kernel
theorem dX5_step_61 : decode cX5_step 61 = .ok (.invokevirtual 100, 3) := by decide +kernel
theorem dX5_step_64 : decode cX5_step 64 = .ok (.ireturn, 1) := by decide +kernel
set_option maxRecDepth 20000 in
theorem ggX5_free_X2_keep : GoodIn wsX5_free wsX2_keep := goodIn_r _ [10, 11, 12, 13, 14, 15, 16, 17, 18, 19, 20, 21, 22, 23, 24, 25, 26, 27, 28, 29, 30, 31, 32, 33, 34, 35, 36, 37, 38, 39, 40, 41, 42, 43, 44, 45, 46, 47, 48, 49, 50, 51, 52, 53, 54, 55, 56, 57, 58, 59, 90, 91, 92, 73, 74, 75, 76, 77, 78, 79, 80, 81, 82, 83, 84, 85, 86, 87, 88, 89, 93, 94, 95, 96] (by decide +kernel) (by decide +kernel)
set_option maxRecDepth 20000 in
theorem gX5_free_X2_keep : GoodIn wsX5_free (wsV RX5 48 RX2 yX2_keep wsX2_keep) := goodIn_app (goodIn_of _ (by decide +kernel)) ggX5_free_X2_keep
set_option maxRecDepth 20000 in
theorem ggX5_free_X1_goOn : GoodIn wsX5_free wsX1_goOn := goodIn_r _ [63, 48, 64, 65, 43, 66, 86, 87, 88, 89] (by decide +kernel) (by decide +kernel)
set_option maxRecDepth 20000 in
theorem gX5_free_X1_goOn : GoodIn wsX5_free (wsV RX5 106 RX1 yX1_goOn wsX1_goOn) := goodIn_app (goodIn_of _ (by decide +kernel)) ggX5_free_X1_goOn
theorem dX5_free_0 : decode cX5_free 0 = .ok (.aload_n 0, 1) := by decide +kernel
theorem dX5_free_1 : decode cX5_free 1 = .ok (.getfield 10, 3) := by decide +kernel
theorem dX5_free_4 : decode cX5_free 4 = .ok (.getfield 92, 3) := by decide +kernel
theorem dX5_free_7 : decode cX5_free 7 = .ok (.ifCond .ne 6, 3) := by decide +kernel
theorem dX5_free_10 : decode cX5_free 10 = .ok (.bipush (-5), 2) := by decide +kernel
theorem dX5_free_12 : decode cX5_free 12 = .ok (.ireturn, 1) := by decide +kernel
theorem dX5_free_13 : decode cX5_free 13 = .ok (.aload_n 0, 1) := by decide +kernel
theorem dX5_free_14 : decode cX5_free 14 = .ok (.getfield 22, 3) := by decide +kernel
theorem dX5_free_17 : decode cX5_free 17 = .ok (.aload_n 0, 1) := by decide +kernel
theorem dX5_free_18 : decode cX5_free 18 = .ok (.getfield 10, 3) := by decide +kernel
theorem dX5_free_21 : decode cX5_free 21 = .ok (.invokevirtual 48, 3) := by decide +kernel
theorem dX5_free_24 : decode cX5_free 24 = .ok (.aload_n 0, 1) := by decide +kernel
theorem dX5_free_25 : decode cX5_free 25 = .ok (.getfield 10, 3) := by decide +kernel
theorem dX5_free_28 : decode cX5_free 28 = .ok (.getfield 62, 3) := by decide +kernel
theorem dX5_free_31 : decode cX5_free 31 = .ok (.getfield 103, 3) := by decide +kernel
theorem dX5_free_34 : decode cX5_free 34 = .ok (.istore_n 1, 1) := by decide +kernel
theorem dX5_free_35 : decode cX5_free 35 = .ok (.aload_n 0, 1) := by decide +kernel
theorem dX5_free_36 : decode cX5_free 36 = .ok (.getfield 10, 3) := by decide +kernel
theorem dX5_free_39 : decode cX5_free 39 = .ok (.iconst 0, 1) := by decide +kernel
theorem dX5_free_40 : decode cX5_free 40 = .ok (.putfield 92, 3) := by decide +kernel
theorem dX5_free_43 : decode cX5_free 43 = .ok (.aload_n 0, 1) := by decide +kernel
theorem dX5_free_44 : decode cX5_free 44 = .ok (.getfield 10, 3) := by decide +kernel
theorem dX5_free_47 : decode cX5_free 47 = .ok (.getfield 62, 3) := by decide +kernel
theorem dX5_free_50 : decode cX5_free 50 = .ok (.invokevirtual 106, 3) := by decide +kernel
theorem dX5_free_53 : decode cX5_free 53 = .ok (.iload_n 1, 1) := by decide +kernel
theorem dX5_free_54 : decode cX5_free 54 = .ok (.ireturn, 1) := by decide +kernel
set_option maxRecDepth 20000 in
theorem ggX5_newForm_X2_keep : GoodIn wsX5_newForm wsX2_keep := goodIn_r _ [8, 9, 10, 11, 12, 13, 14, 15, 16, 17, 18, 19, 20, 21, 22, 23, 24, 25, 26, 27, 28, 29, 30, 31, 32, 33, 34, 35, 36, 37, 38, 39, 40, 41, 42, 43, 44, 45, 46, 47, 48, 49, 50, 51, 52, 53, 54, 55, 56, 57, 81, 82, 83, 68, 69, 70, 71, 72, 73, 74, 75, 76, 77, 78, 79, 80, 84, 85, 86, 87, 88, 89, 90, 91] (by decide +kernel) (by decide +kernel)
set_option maxRecDepth 20000 in
theorem gX5_newForm_X2_keep : GoodIn wsX5_newForm (wsV RX5 48 RX2 yX2_keep wsX2_keep) := goodIn_app (goodIn_of _ (by decide +kernel)) ggX5_newForm_X2_keep
set_option maxRecDepth 20000 in
theorem ggX5_newForm_X0_layForm : GoodIn wsX5_newForm wsX0_layForm := goodIn_r _ [61, 30, 31, 32, 68, 69, 70, 71, 72, 73, 74, 75, 76, 77, 78, 79, 80] (by decide +kernel) (by decide +kernel)
set_option maxRecDepth 20000 in
theorem gX5_newForm_X0_layForm : GoodIn wsX5_newForm (wsV RX5 112 RX0 yX0_layForm wsX0_layForm) := goodIn_app (goodIn_of _ (by decide +kernel)) ggX5_newForm_X0_layForm
theorem dX5_newForm_0 : decode cX5_newForm 0 = .ok (.aload_n 0, 1) := by decide +kernel
theorem dX5_newForm_1 : decode cX5_newForm 1 = .ok (.getfield 22, 3) := by decide +kernel
theorem dX5_newForm_4 : decode cX5_newForm 4 = .ok (.aload_n 0, 1) := by decide +kernel
theorem dX5_newForm_5 : decode cX5_newForm 5 = .ok (.getfield 10, 3) := by decide +kernel
theorem dX5_newForm_8 : decode cX5_newForm 8 = .ok (.invokevirtual 48, 3) := by decide +kernel
theorem dX5_newForm_11 : decode cX5_newForm 11 = .ok (.aload_n 0, 1) := by decide +kernel
theorem dX5_newForm_12 : decode cX5_newForm 12 = .ok (.getfield 10, 3) := by decide +kernel
theorem dX5_newForm_15 : decode cX5_newForm 15 = .ok (.getfield 109, 3) := by decide +kernel
theorem dX5_newForm_18 : decode cX5_newForm 18 = .ok (.istore_n 1, 1) := by decide +kernel
theorem dX5_newForm_19 : decode cX5_newForm 19 = .ok (.aload_n 0, 1) := by decide +kernel
theorem dX5_newForm_20 : decode cX5_newForm 20 = .ok (.getfield 10, 3) := by decide +kernel
theorem dX5_newForm_23 : decode cX5_newForm 23 = .ok (.invokevirtual 112, 3) := by decide +kernel
theorem dX5_newForm_26 : decode cX5_newForm 26 = .ok (.iload_n 1, 1) := by decide +kernel
theorem dX5_newForm_27 : decode cX5_newForm 27 = .ok (.ireturn, 1) := by decide +kernel
set_option maxRecDepth 20000 in
theorem ggX5_read_X3_firstFault : GoodIn wsX5_read wsX3_firstFault := goodIn_r _ [9, 10, 11, 12, 13, 8, 14, 15, 16, 17, 18, 19, 20, 127, 128] (by decide +kernel) (by decide +kernel)
set_option maxRecDepth 20000 in
theorem gX5_read_X3_firstFault : GoodIn wsX5_read (wsV RX5 115 RX3 yX3_firstFault wsX3_firstFault) := goodIn_app (goodIn_of _ (by decide +kernel)) ggX5_read_X3_firstFault
set_option maxRecDepth 20000 in
theorem ggX5_read_X2_keep : GoodIn wsX5_read wsX2_keep := goodIn_r _ [25, 26, 27, 28, 29, 30, 31, 32, 33, 34, 35, 36, 37, 38, 39, 40, 41, 42, 43, 44, 45, 46, 47, 48, 49, 50, 51, 52, 53, 54, 55, 56, 57, 58, 59, 60, 61, 62, 63, 64, 65, 66, 67, 68, 69, 70, 71, 72, 73, 74, 129, 130, 131, 114, 115, 116, 117, 118, 119, 120, 121, 122, 123, 124, 125, 126, 132, 133, 134, 135, 136, 137, 138, 139] (by decide +kernel) (by decide +kernel)
set_option maxRecDepth 20000 in
theorem gX5_read_X2_keep : GoodIn wsX5_read (wsV RX5 48 RX2 yX2_keep wsX2_keep) := goodIn_app (goodIn_of _ (by decide +kernel)) ggX5_read_X2_keep
set_option maxRecDepth 20000 in
theorem ggX5_read_X3_changeRows : GoodIn wsX5_read wsX3_changeRows := goodIn_r _ [78, 10, 11, 79, 19, 80, 81, 82, 83, 58, 84, 62, 60, 85, 86, 87, 88, 127, 128, 132, 133, 134, 135] (by decide +kernel) (by decide +kernel)
set_option maxRecDepth 20000 in
theorem gX5_read_X3_changeRows : GoodIn wsX5_read (wsV RX5 119 RX3 yX3_changeRows wsX3_changeRows) := goodIn_app (goodIn_of _ (by decide +kernel)) ggX5_read_X3_changeRows
set_option maxRecDepth 20000 in
theorem ggX5_read_X3_empty : GoodIn wsX5_read wsX3_empty := goodIn_r _ [92, 10, 127, 128] (by decide +kernel) (by decide +kernel)
set_option maxRecDepth 20000 in
theorem gX5_read_X3_empty : GoodIn wsX5_read (wsV RX5 123 RX3 yX3_empty wsX3_empty) := goodIn_app (goodIn_of _ (by decide +kernel)) ggX5_read_X3_empty
set_option maxRecDepth 20000 in
theorem ggX5_read_X1_allPegs : GoodIn wsX5_read wsX1_allPegs := goodIn_r _ [96, 97, 98, 99, 58, 100, 60, 101, 102, 103, 104, 105, 106, 107, 132, 133, 134, 135] (by decide +kernel) (by decide +kernel)
set_option maxRecDepth 20000 in
theorem gX5_read_X1_allPegs : GoodIn wsX5_read (wsV RX5 126 RX1 yX1_allPegs wsX1_allPegs) := goodIn_app (goodIn_of _ (by decide +kernel)) ggX5_read_X1_allPegs
theorem dX5_read_0 : decode cX5_read 0 = .ok (.aload_n 0, 1) := by decide +kernel
theorem dX5_read_1 : decode cX5_read 1 = .ok (.getfield 29, 3) := by decide +kernel
theorem dX5_read_4 : decode cX5_read 4 = .ok (.invokevirtual 115, 3) := by decide +kernel
theorem dX5_read_7 : decode cX5_read 7 = .ok (.bipush (-6), 2) := by decide +kernel
theorem dX5_read_9 : decode cX5_read 9 = .ok (.if_icmp .eq 6, 3) := by decide +kernel
theorem dX5_read_12 : decode cX5_read 12 = .ok (.bipush (-3), 2) := by decide +kernel
theorem dX5_read_14 : decode cX5_read 14 = .ok (.ireturn, 1) := by decide +kernel
theorem dX5_read_15 : decode cX5_read 15 = .ok (.aload_n 0, 1) := by decide +kernel
theorem dX5_read_16 : decode cX5_read 16 = .ok (.getfield 22, 3) := by decide +kernel
theorem dX5_read_19 : decode cX5_read 19 = .ok (.aload_n 0, 1) := by decide +kernel
theorem dX5_read_20 : decode cX5_read 20 = .ok (.getfield 10, 3) := by decide +kernel
theorem dX5_read_23 : decode cX5_read 23 = .ok (.invokevirtual 48, 3) := by decide +kernel
theorem dX5_read_26 : decode cX5_read 26 = .ok (.aload_n 0, 1) := by decide +kernel
theorem dX5_read_27 : decode cX5_read 27 = .ok (.getfield 29, 3) := by decide +kernel
theorem dX5_read_30 : decode cX5_read 30 = .ok (.aload_n 0, 1) := by decide +kernel
theorem dX5_read_31 : decode cX5_read 31 = .ok (.getfield 10, 3) := by decide +kernel
theorem dX5_read_34 : decode cX5_read 34 = .ok (.getfield 62, 3) := by decide +kernel
theorem dX5_read_37 : decode cX5_read 37 = .ok (.invokevirtual 119, 3) := by decide +kernel
theorem dX5_read_40 : decode cX5_read 40 = .ok (.aload_n 0, 1) := by decide +kernel
theorem dX5_read_41 : decode cX5_read 41 = .ok (.getfield 29, 3) := by decide +kernel
theorem dX5_read_44 : decode cX5_read 44 = .ok (.invokevirtual 123, 3) := by decide +kernel
theorem dX5_read_47 : decode cX5_read 47 = .ok (.aload_n 0, 1) := by decide +kernel
theorem dX5_read_48 : decode cX5_read 48 = .ok (.getfield 10, 3) := by decide +kernel
theorem dX5_read_51 : decode cX5_read 51 = .ok (.getfield 62, 3) := by decide +kernel
theorem dX5_read_54 : decode cX5_read 54 = .ok (.invokevirtual 126, 3) := by decide +kernel
theorem dX5_read_57 : decode cX5_read 57 = .ok (.ireturn, 1) := by decide +kernel
set_option maxRecDepth 20000 in
theorem ggX5_row_X5_isRow : GoodIn wsX5_row wsX5_isRow := goodIn_r _ [8] (by decide +kernel) (by decide +kernel)
set_option maxRecDepth 20000 in
theorem gX5_row_X5_isRow : GoodIn wsX5_row (va_wsS RX5 55 yX5_isRow wsX5_isRow) := goodIn_app (goodIn_of _ (by decide +kernel)) ggX5_row_X5_isRow
set_option maxRecDepth 20000 in
theorem ggX5_row_X1_pegsInRow : GoodIn wsX5_row wsX1_pegsInRow := goodIn_r _ [13, 14, 15, 16, 17, 18, 19, 20, 21, 56, 57, 58, 59] (by decide +kernel) (by decide +kernel)
set_option maxRecDepth 20000 in
theorem gX5_row_X1_pegsInRow : GoodIn wsX5_row (wsV RX5 75 RX1 yX1_pegsInRow wsX1_pegsInRow) := goodIn_app (goodIn_of _ (by decide +kernel)) ggX5_row_X1_pegsInRow
set_option maxRecDepth 20000 in
theorem ggX5_row_X0_wouldJamAt : GoodIn wsX5_row wsX0_wouldJamAt := goodIn_r _ [26, 27, 28, 29, 10, 11, 12, 13, 14, 15, 16, 17, 18, 19, 20, 21, 43, 44, 45, 46, 47, 48, 49, 50, 51, 52, 53, 54, 55, 56, 57, 58, 59] (by decide +kernel) (by decide +kernel)
set_option maxRecDepth 20000 in
theorem gX5_row_X0_wouldJamAt : GoodIn wsX5_row (wsV RX5 129 RX0 yX0_wouldJamAt wsX0_wouldJamAt) := goodIn_app (goodIn_of _ (by decide +kernel)) ggX5_row_X0_wouldJamAt
set_option maxRecDepth 20000 in
theorem ggX5_row_X5_asNumber : GoodIn wsX5_row wsX5_asNumber := goodIn_r _ [32] (by decide +kernel) (by decide +kernel)
set_option maxRecDepth 20000 in
theorem gX5_row_X5_asNumber : GoodIn wsX5_row (va_wsS RX5 132 yX5_asNumber wsX5_asNumber) := goodIn_app (goodIn_of _ (by decide +kernel)) ggX5_row_X5_asNumber
set_option maxRecDepth 20000 in
theorem ggX5_row_J9_floorMod_7cf53 : GoodIn wsX5_row wsJ9_floorMod_7cf53 := goodIn_r _ [36] (by decide +kernel) (by decide +kernel)
set_option maxRecDepth 20000 in
theorem gX5_row_J9_floorMod_7cf53 : GoodIn wsX5_row (va_wsS RX5 136 yJ9_floorMod_7cf53 wsJ9_floorMod_7cf53) := goodIn_app (goodIn_of _ (by decide +kernel)) ggX5_row_J9_floorMod_7cf53
theorem dX5_row_0 : decode cX5_row 0 = .ok (.iload_n 1, 1) := by decide +kernel
theorem dX5_row_1 : decode cX5_row 1 = .ok (.invokestatic 55, 3) := by decide +kernel
theorem dX5_row_4 : decode cX5_row 4 = .ok (.ifCond .ne 5, 3) := by decide +kernel
theorem dX5_row_7 : decode cX5_row 7 = .ok (.iconst (-1), 1) := by decide +kernel
theorem dX5_row_8 : decode cX5_row 8 = .ok (.ireturn, 1) := by decide +kernel
theorem dX5_row_9 : decode cX5_row 9 = .ok (.iload_n 2, 1) := by decide +kernel
theorem dX5_row_10 : decode cX5_row 10 = .ok (.tableswitch 85 0 3 #[30, 43, 55, 67], 30) := by decide +kernel
theorem dX5_row_40 : decode cX5_row 40 = .ok (.aload_n 0, 1) := by decide +kernel
theorem dX5_row_41 : decode cX5_row 41 = .ok (.getfield 10, 3) := by decide +kernel
theorem dX5_row_44 : decode cX5_row 44 = .ok (.getfield 62, 3) := by decide +kernel
theorem dX5_row_47 : decode cX5_row 47 = .ok (.getfield 66, 3) := by decide +kernel
theorem dX5_row_50 : decode cX5_row 50 = .ok (.iload_n 1, 1) := by decide +kernel
theorem dX5_row_51 : decode cX5_row 51 = .ok (.iaload, 1) := by decide +kernel
theorem dX5_row_52 : decode cX5_row 52 = .ok (.ireturn, 1) := by decide +kernel
theorem dX5_row_53 : decode cX5_row 53 = .ok (.aload_n 0, 1) := by decide +kernel
theorem dX5_row_54 : decode cX5_row 54 = .ok (.getfield 10, 3) := by decide +kernel
theorem dX5_row_57 : decode cX5_row 57 = .ok (.getfield 62, 3) := by decide +kernel
theorem dX5_row_60 : decode cX5_row 60 = .ok (.iload_n 1, 1) := by decide +kernel
theorem dX5_row_61 : decode cX5_row 61 = .ok (.invokevirtual 75, 3) := by decide +kernel
theorem dX5_row_64 : decode cX5_row 64 = .ok (.ireturn, 1) := by decide +kernel
theorem dX5_row_65 : decode cX5_row 65 = .ok (.aload_n 0, 1) := by decide +kernel
theorem dX5_row_66 : decode cX5_row 66 = .ok (.getfield 10, 3) := by decide +kernel
theorem dX5_row_69 : decode cX5_row 69 = .ok (.iload_n 1, 1) := by decide +kernel
theorem dX5_row_70 : decode cX5_row 70 = .ok (.invokevirtual 129, 3) := by decide +kernel
theorem dX5_row_73 : decode cX5_row 73 = .ok (.invokestatic 132, 3) := by decide +kernel
theorem dX5_row_76 : decode cX5_row 76 = .ok (.ireturn, 1) := by decide +kernel
theorem dX5_row_77 : decode cX5_row 77 = .ok (.iload_n 1, 1) := by decide +kernel
theorem dX5_row_78 : decode cX5_row 78 = .ok (.aload_n 0, 1) := by decide +kernel
theorem dX5_row_79 : decode cX5_row 79 = .ok (.getfield 10, 3) := by decide +kernel
theorem dX5_row_82 : decode cX5_row 82 = .ok (.getfield 62, 3) := by decide +kernel
theorem dX5_row_85 : decode cX5_row 85 = .ok (.getfield 103, 3) := by decide +kernel
theorem dX5_row_88 : decode cX5_row 88 = .ok (.isub, 1) := by decide +kernel
theorem dX5_row_89 : decode cX5_row 89 = .ok (.bipush 16, 2) := by decide +kernel
theorem dX5_row_91 : decode cX5_row 91 = .ok (.invokestatic 136, 3) := by decide +kernel
theorem dX5_row_94 : decode cX5_row 94 = .ok (.ireturn, 1) := by decide +kernel
theorem dX5_row_95 : decode cX5_row 95 = .ok (.bipush (-2), 2) := by decide +kernel
theorem dX5_row_97 : decode cX5_row 97 = .ok (.ireturn, 1) := by decide +kernel
set_option maxRecDepth 20000 in
theorem ggX5_stamped_X5_isRow : GoodIn wsX5_stamped wsX5_isRow := goodIn_r _ [7] (by decide +kernel) (by decide +kernel)
set_option maxRecDepth 20000 in
theorem gX5_stamped_X5_isRow : GoodIn wsX5_stamped (va_wsS RX5 55 yX5_isRow wsX5_isRow) := goodIn_app (goodIn_of _ (by decide +kernel)) ggX5_stamped_X5_isRow
set_option maxRecDepth 20000 in
theorem ggX5_stamped_X5_isPlace : GoodIn wsX5_stamped wsX5_isPlace := goodIn_r _ [10] (by decide +kernel) (by decide +kernel)
set_option maxRecDepth 20000 in
theorem gX5_stamped_X5_isPlace : GoodIn wsX5_stamped (va_wsS RX5 59 yX5_isPlace wsX5_isPlace) := goodIn_app (goodIn_of _ (by decide +kernel)) ggX5_stamped_X5_isPlace
set_option maxRecDepth 20000 in
theorem ggX5_stamped_X1_hasPeg : GoodIn wsX5_stamped wsX1_hasPeg := goodIn_r _ [15, 16, 36, 37, 38, 39] (by decide +kernel) (by decide +kernel)
set_option maxRecDepth 20000 in
theorem gX5_stamped_X1_hasPeg : GoodIn wsX5_stamped (wsV RX5 142 RX1 yX1_hasPeg wsX1_hasPeg) := goodIn_app (goodIn_of _ (by decide +kernel)) ggX5_stamped_X1_hasPeg
theorem dX5_stamped_0 : decode cX5_stamped 0 = .ok (.iload_n 1, 1) := by decide +kernel
theorem dX5_stamped_1 : decode cX5_stamped 1 = .ok (.invokestatic 55, 3) := by decide +kernel
theorem dX5_stamped_4 : decode cX5_stamped 4 = .ok (.ifCond .eq 10, 3) := by decide +kernel
theorem dX5_stamped_7 : decode cX5_stamped 7 = .ok (.iload_n 2, 1) := by decide +kernel
theorem dX5_stamped_8 : decode cX5_stamped 8 = .ok (.invokestatic 59, 3) := by decide +kernel
theorem dX5_stamped_11 : decode cX5_stamped 11 = .ok (.ifCond .ne 5, 3) := by decide +kernel
theorem dX5_stamped_14 : decode cX5_stamped 14 = .ok (.iconst (-1), 1) := by decide +kernel
theorem dX5_stamped_15 : decode cX5_stamped 15 = .ok (.ireturn, 1) := by decide +kernel
theorem dX5_stamped_16 : decode cX5_stamped 16 = .ok (.aload_n 0, 1) := by decide +kernel
theorem dX5_stamped_17 : decode cX5_stamped 17 = .ok (.getfield 10, 3) := by decide +kernel
theorem dX5_stamped_20 : decode cX5_stamped 20 = .ok (.getfield 62, 3) := by decide +kernel
theorem dX5_stamped_23 : decode cX5_stamped 23 = .ok (.iload_n 1, 1) := by decide +kernel
theorem dX5_stamped_24 : decode cX5_stamped 24 = .ok (.iload_n 2, 1) := by decide +kernel
theorem dX5_stamped_25 : decode cX5_stamped 25 = .ok (.invokevirtual 142, 3) := by decide +kernel
theorem dX5_stamped_28 : decode cX5_stamped 28 = .ok (.ifCond .eq 23, 3) := by decide +kernel
theorem dX5_stamped_31 : decode cX5_stamped 31 = .ok (.aload_n 0, 1) := by decide +kernel
theorem dX5_stamped_32 : decode cX5_stamped 32 = .ok (.getfield 10, 3) := by decide +kernel
theorem dX5_stamped_35 : decode cX5_stamped 35 = .ok (.getfield 62, 3) := by decide +kernel
theorem dX5_stamped_38 : decode cX5_stamped 38 = .ok (.getfield 146, 3) := by decide +kernel
theorem dX5_stamped_41 : decode cX5_stamped 41 = .ok (.iload_n 1, 1) := by decide +kernel
theorem dX5_stamped_42 : decode cX5_stamped 42 = .ok (.bipush 6, 2) := by decide +kernel
theorem dX5_stamped_44 : decode cX5_stamped 44 = .ok (.imul, 1) := by decide +kernel
theorem dX5_stamped_45 : decode cX5_stamped 45 = .ok (.iload_n 2, 1) := by decide +kernel
theorem dX5_stamped_46 : decode cX5_stamped 46 = .ok (.iadd, 1) := by decide +kernel
theorem dX5_stamped_47 : decode cX5_stamped 47 = .ok (.iaload, 1) := by decide +kernel
theorem dX5_stamped_48 : decode cX5_stamped 48 = .ok (.goto 5, 3) := by decide +kernel
theorem dX5_stamped_51 : decode cX5_stamped 51 = .ok (.bipush (-6), 2) := by decide +kernel
theorem dX5_stamped_53 : decode cX5_stamped 53 = .ok (.ireturn, 1) := by decide +kernel
set_option maxRecDepth 20000 in
theorem ggX5_stamp_X5_isPlace : GoodIn wsX5_stamp wsX5_isPlace := goodIn_r _ [11] (by decide +kernel) (by decide +kernel)
set_option maxRecDepth 20000 in
theorem gX5_stamp_X5_isPlace : GoodIn wsX5_stamp (va_wsS RX5 59 yX5_isPlace wsX5_isPlace) := goodIn_app (goodIn_of _ (by decide +kernel)) ggX5_stamp_X5_isPlace
set_option maxRecDepth 20000 in
theorem ggX5_stamp_X1_pegsAtPlace : GoodIn wsX5_stamp wsX1_pegsAtPlace := goodIn_r _ [16, 17, 18, 19, 15, 20, 21, 45, 46, 47, 48] (by decide +kernel) (by decide +kernel)
set_option maxRecDepth 20000 in
theorem gX5_stamp_X1_pegsAtPlace : GoodIn wsX5_stamp (wsV RX5 155 RX1 yX1_pegsAtPlace wsX1_pegsAtPlace) := goodIn_app (goodIn_of _ (by decide +kernel)) ggX5_stamp_X1_pegsAtPlace
theorem dX5_stamp_0 : decode cX5_stamp 0 = .ok (.iload_n 1, 1) := by decide +kernel
theorem dX5_stamp_1 : decode cX5_stamp 1 = .ok (.invokestatic 59, 3) := by decide +kernel
theorem dX5_stamp_4 : decode cX5_stamp 4 = .ok (.ifCond .ne 5, 3) := by decide +kernel
theorem dX5_stamp_7 : decode cX5_stamp 7 = .ok (.iconst (-1), 1) := by decide +kernel
theorem dX5_stamp_8 : decode cX5_stamp 8 = .ok (.ireturn, 1) := by decide +kernel
theorem dX5_stamp_9 : decode cX5_stamp 9 = .ok (.iload_n 2, 1) := by decide +kernel
theorem dX5_stamp_10 : decode cX5_stamp 10 = .ok (.tableswitch 98 0 4 #[34, 47, 60, 73, 85], 34) := by decide +kernel
theorem dX5_stamp_44 : decode cX5_stamp 44 = .ok (.aload_n 0, 1) := by decide +kernel
theorem dX5_stamp_45 : decode cX5_stamp 45 = .ok (.getfield 10, 3) := by decide +kernel
theorem dX5_stamp_48 : decode cX5_stamp 48 = .ok (.getfield 83, 3) := by decide +kernel
theorem dX5_stamp_51 : decode cX5_stamp 51 = .ok (.getfield 87, 3) := by decide +kernel
theorem dX5_stamp_54 : decode cX5_stamp 54 = .ok (.iload_n 1, 1) := by decide +kernel
theorem dX5_stamp_55 : decode cX5_stamp 55 = .ok (.iaload, 1) := by decide +kernel
theorem dX5_stamp_56 : decode cX5_stamp 56 = .ok (.ireturn, 1) := by decide +kernel
theorem dX5_stamp_57 : decode cX5_stamp 57 = .ok (.aload_n 0, 1) := by decide +kernel
theorem dX5_stamp_58 : decode cX5_stamp 58 = .ok (.getfield 10, 3) := by decide +kernel
theorem dX5_stamp_61 : decode cX5_stamp 61 = .ok (.getfield 83, 3) := by decide +kernel
theorem dX5_stamp_64 : decode cX5_stamp 64 = .ok (.getfield 149, 3) := by decide +kernel
theorem dX5_stamp_67 : decode cX5_stamp 67 = .ok (.iload_n 1, 1) := by decide +kernel
theorem dX5_stamp_68 : decode cX5_stamp 68 = .ok (.iaload, 1) := by decide +kernel
theorem dX5_stamp_69 : decode cX5_stamp 69 = .ok (.ireturn, 1) := by decide +kernel
theorem dX5_stamp_70 : decode cX5_stamp 70 = .ok (.aload_n 0, 1) := by decide +kernel
theorem dX5_stamp_71 : decode cX5_stamp 71 = .ok (.getfield 10, 3) := by decide +kernel
theorem dX5_stamp_74 : decode cX5_stamp 74 = .ok (.getfield 83, 3) := by decide +kernel
theorem dX5_stamp_77 : decode cX5_stamp 77 = .ok (.getfield 152, 3) := by decide +kernel
theorem dX5_stamp_80 : decode cX5_stamp 80 = .ok (.iload_n 1, 1) := by decide +kernel
theorem dX5_stamp_81 : decode cX5_stamp 81 = .ok (.iaload, 1) := by decide +kernel
theorem dX5_stamp_82 : decode cX5_stamp 82 = .ok (.ireturn, 1) := by decide +kernel
theorem dX5_stamp_83 : decode cX5_stamp 83 = .ok (.aload_n 0, 1) := by decide +kernel
theorem dX5_stamp_84 : decode cX5_stamp 84 = .ok (.getfield 10, 3) := by decide +kernel
theorem dX5_stamp_87 : decode cX5_stamp 87 = .ok (.getfield 62, 3) := by decide +kernel
theorem dX5_stamp_90 : decode cX5_stamp 90 = .ok (.iload_n 1, 1) := by decide +kernel
theorem dX5_stamp_91 : decode cX5_stamp 91 = .ok (.invokevirtual 155, 3) := by decide +kernel
theorem dX5_stamp_94 : decode cX5_stamp 94 = .ok (.ireturn, 1) := by decide +kernel
theorem dX5_stamp_95 : decode cX5_stamp 95 = .ok (.aload_n 0, 1) := by decide +kernel
theorem dX5_stamp_96 : decode cX5_stamp 96 = .ok (.getfield 10, 3) := by decide +kernel
theorem dX5_stamp_99 : decode cX5_stamp 99 = .ok (.getfield 83, 3) := by decide +kernel
theorem dX5_stamp_102 : decode cX5_stamp 102 = .ok (.getfield 158, 3) := by decide +kernel
theorem dX5_stamp_105 : decode cX5_stamp 105 = .ok (.iload_n 1, 1) := by decide +kernel
theorem dX5_stamp_106 : decode cX5_stamp 106 = .ok (.iaload, 1) := by decide +kernel
theorem dX5_stamp_107 : decode cX5_stamp 107 = .ok (.ireturn, 1) := by decide +kernel
theorem dX5_stamp_108 : decode cX5_stamp 108 = .ok (.bipush (-2), 2) := by decide +kernel
theorem dX5_stamp_110 : decode cX5_stamp 110 = .ok (.ireturn, 1) := by decide +kernel
set_option maxRecDepth 20000 in
theorem ggX5_count_X5_asNumber : GoodIn wsX5_count wsX5_asNumber := goodIn_r _ [24] (by decide +kernel) (by decide +kernel)
set_option maxRecDepth 20000 in
theorem gX5_count_X5_asNumber : GoodIn wsX5_count (va_wsS RX5 132 yX5_asNumber wsX5_asNumber) := goodIn_app (goodIn_of _ (by decide +kernel)) ggX5_count_X5_asNumber
set_option maxRecDepth 20000 in
theorem ggX5_count_X1_allPegs : GoodIn wsX5_count wsX1_allPegs := goodIn_r _ [29, 30, 31, 32, 28, 33, 34, 35, 36, 37, 38, 39, 40, 41, 67, 68, 69, 70] (by decide +kernel) (by decide +kernel)
set_option maxRecDepth 20000 in
theorem gX5_count_X1_allPegs : GoodIn wsX5_count (wsV RX5 126 RX1 yX1_allPegs wsX1_allPegs) := goodIn_app (goodIn_of _ (by decide +kernel)) ggX5_count_X1_allPegs
set_option maxRecDepth 20000 in
theorem ggX5_count_X4_allMarks : GoodIn wsX5_count wsX4_allMarks := goodIn_r _ [46, 47, 76, 77, 78, 79] (by decide +kernel) (by decide +kernel)
set_option maxRecDepth 20000 in
theorem gX5_count_X4_allMarks : GoodIn wsX5_count (wsV RX5 182 RX4 yX4_allMarks wsX4_allMarks) := goodIn_app (goodIn_of _ (by decide +kernel)) ggX5_count_X4_allMarks
theorem dX5_count_0 : decode cX5_count 0 = .ok (.iload_n 1, 1) := by decide +kernel
theorem dX5_count_1 : decode cX5_count 1 = .ok (.ifCond .lt 18, 3) := by decide +kernel
theorem dX5_count_4 : decode cX5_count 4 = .ok (.iload_n 1, 1) := by decide +kernel
theorem dX5_count_5 : decode cX5_count 5 = .ok (.iconst 4, 1) := by decide +kernel
theorem dX5_count_6 : decode cX5_count 6 = .ok (.if_icmp .ge 13, 3) := by decide +kernel
theorem dX5_count_9 : decode cX5_count 9 = .ok (.aload_n 0, 1) := by decide +kernel
theorem dX5_count_10 : decode cX5_count 10 = .ok (.getfield 10, 3) := by decide +kernel
theorem dX5_count_13 : decode cX5_count 13 = .ok (.getfield 52, 3) := by decide +kernel
theorem dX5_count_16 : decode cX5_count 16 = .ok (.iload_n 1, 1) := by decide +kernel
theorem dX5_count_17 : decode cX5_count 17 = .ok (.iaload, 1) := by decide +kernel
theorem dX5_count_18 : decode cX5_count 18 = .ok (.ireturn, 1) := by decide +kernel
theorem dX5_count_19 : decode cX5_count 19 = .ok (.iload_n 1, 1) := by decide +kernel
theorem dX5_count_20 : decode cX5_count 20 = .ok (.tableswitch 226 4 19 #[80, 91, 102, 110, 118, 129, 137, 145, 153, 161, 169, 177, 188, 199, 210, 218], 80) := by decide +kernel
theorem dX5_count_100 : decode cX5_count 100 = .ok (.aload_n 0, 1) := by decide +kernel
theorem dX5_count_101 : decode cX5_count 101 = .ok (.getfield 10, 3) := by decide +kernel
theorem dX5_count_104 : decode cX5_count 104 = .ok (.getfield 62, 3) := by decide +kernel
theorem dX5_count_107 : decode cX5_count 107 = .ok (.getfield 103, 3) := by decide +kernel
theorem dX5_count_110 : decode cX5_count 110 = .ok (.ireturn, 1) := by decide +kernel
theorem dX5_count_111 : decode cX5_count 111 = .ok (.aload_n 0, 1) := by decide +kernel
theorem dX5_count_112 : decode cX5_count 112 = .ok (.getfield 10, 3) := by decide +kernel
theorem dX5_count_115 : decode cX5_count 115 = .ok (.getfield 92, 3) := by decide +kernel
theorem dX5_count_118 : decode cX5_count 118 = .ok (.invokestatic 132, 3) := by decide +kernel
theorem dX5_count_121 : decode cX5_count 121 = .ok (.ireturn, 1) := by decide +kernel
theorem dX5_count_122 : decode cX5_count 122 = .ok (.aload_n 0, 1) := by decide +kernel
theorem dX5_count_123 : decode cX5_count 123 = .ok (.getfield 10, 3) := by decide +kernel
theorem dX5_count_126 : decode cX5_count 126 = .ok (.getfield 79, 3) := by decide +kernel
theorem dX5_count_129 : decode cX5_count 129 = .ok (.ireturn, 1) := by decide +kernel
theorem dX5_count_130 : decode cX5_count 130 = .ok (.aload_n 0, 1) := by decide +kernel
theorem dX5_count_131 : decode cX5_count 131 = .ok (.getfield 10, 3) := by decide +kernel
theorem dX5_count_134 : decode cX5_count 134 = .ok (.getfield 109, 3) := by decide +kernel
theorem dX5_count_137 : decode cX5_count 137 = .ok (.ireturn, 1) := by decide +kernel
theorem dX5_count_138 : decode cX5_count 138 = .ok (.aload_n 0, 1) := by decide +kernel
theorem dX5_count_139 : decode cX5_count 139 = .ok (.getfield 10, 3) := by decide +kernel
theorem dX5_count_142 : decode cX5_count 142 = .ok (.getfield 161, 3) := by decide +kernel
theorem dX5_count_145 : decode cX5_count 145 = .ok (.invokestatic 132, 3) := by decide +kernel
theorem dX5_count_148 : decode cX5_count 148 = .ok (.ireturn, 1) := by decide +kernel
theorem dX5_count_149 : decode cX5_count 149 = .ok (.aload_n 0, 1) := by decide +kernel
theorem dX5_count_150 : decode cX5_count 150 = .ok (.getfield 10, 3) := by decide +kernel
theorem dX5_count_153 : decode cX5_count 153 = .ok (.getfield 164, 3) := by decide +kernel
theorem dX5_count_156 : decode cX5_count 156 = .ok (.ireturn, 1) := by decide +kernel
theorem dX5_count_157 : decode cX5_count 157 = .ok (.aload_n 0, 1) := by decide +kernel
theorem dX5_count_158 : decode cX5_count 158 = .ok (.getfield 10, 3) := by decide +kernel
theorem dX5_count_161 : decode cX5_count 161 = .ok (.getfield 96, 3) := by decide +kernel
theorem dX5_count_164 : decode cX5_count 164 = .ok (.ireturn, 1) := by decide +kernel
theorem dX5_count_165 : decode cX5_count 165 = .ok (.aload_n 0, 1) := by decide +kernel
theorem dX5_count_166 : decode cX5_count 166 = .ok (.getfield 10, 3) := by decide +kernel
theorem dX5_count_169 : decode cX5_count 169 = .ok (.getfield 167, 3) := by decide +kernel
theorem dX5_count_172 : decode cX5_count 172 = .ok (.ireturn, 1) := by decide +kernel
theorem dX5_count_173 : decode cX5_count 173 = .ok (.aload_n 0, 1) := by decide +kernel
theorem dX5_count_174 : decode cX5_count 174 = .ok (.getfield 10, 3) := by decide +kernel
theorem dX5_count_177 : decode cX5_count 177 = .ok (.getfield 170, 3) := by decide +kernel
theorem dX5_count_180 : decode cX5_count 180 = .ok (.ireturn, 1) := by decide +kernel
theorem dX5_count_181 : decode cX5_count 181 = .ok (.aload_n 0, 1) := by decide +kernel
theorem dX5_count_182 : decode cX5_count 182 = .ok (.getfield 10, 3) := by decide +kernel
theorem dX5_count_185 : decode cX5_count 185 = .ok (.getfield 173, 3) := by decide +kernel
theorem dX5_count_188 : decode cX5_count 188 = .ok (.ireturn, 1) := by decide +kernel
theorem dX5_count_189 : decode cX5_count 189 = .ok (.aload_n 0, 1) := by decide +kernel
theorem dX5_count_190 : decode cX5_count 190 = .ok (.getfield 10, 3) := by decide +kernel
theorem dX5_count_193 : decode cX5_count 193 = .ok (.getfield 176, 3) := by decide +kernel
theorem dX5_count_196 : decode cX5_count 196 = .ok (.ireturn, 1) := by decide +kernel
theorem dX5_count_197 : decode cX5_count 197 = .ok (.aload_n 0, 1) := by decide +kernel
theorem dX5_count_198 : decode cX5_count 198 = .ok (.getfield 10, 3) := by decide +kernel
theorem dX5_count_201 : decode cX5_count 201 = .ok (.getfield 62, 3) := by decide +kernel
theorem dX5_count_204 : decode cX5_count 204 = .ok (.invokevirtual 126, 3) := by decide +kernel
theorem dX5_count_207 : decode cX5_count 207 = .ok (.ireturn, 1) := by decide +kernel
theorem dX5_count_208 : decode cX5_count 208 = .ok (.aload_n 0, 1) := by decide +kernel
theorem dX5_count_209 : decode cX5_count 209 = .ok (.getfield 10, 3) := by decide +kernel
theorem dX5_count_212 : decode cX5_count 212 = .ok (.getfield 62, 3) := by decide +kernel
theorem dX5_count_215 : decode cX5_count 215 = .ok (.getfield 179, 3) := by decide +kernel
theorem dX5_count_218 : decode cX5_count 218 = .ok (.ireturn, 1) := by decide +kernel
theorem dX5_count_219 : decode cX5_count 219 = .ok (.aload_n 0, 1) := by decide +kernel
theorem dX5_count_220 : decode cX5_count 220 = .ok (.getfield 10, 3) := by decide +kernel
theorem dX5_count_223 : decode cX5_count 223 = .ok (.getfield 83, 3) := by decide +kernel
theorem dX5_count_226 : decode cX5_count 226 = .ok (.invokevirtual 182, 3) := by decide +kernel
theorem dX5_count_229 : decode cX5_count 229 = .ok (.ireturn, 1) := by decide +kernel
theorem dX5_count_230 : decode cX5_count 230 = .ok (.aload_n 0, 1) := by decide +kernel
theorem dX5_count_231 : decode cX5_count 231 = .ok (.getfield 29, 3) := by decide +kernel
theorem dX5_count_234 : decode cX5_count 234 = .ok (.getfield 185, 3) := by decide +kernel
theorem dX5_count_237 : decode cX5_count 237 = .ok (.ireturn, 1) := by decide +kernel
theorem dX5_count_238 : decode cX5_count 238 = .ok (.aload_n 0, 1) := by decide +kernel
theorem dX5_count_239 : decode cX5_count 239 = .ok (.getfield 22, 3) := by decide +kernel
theorem dX5_count_242 : decode cX5_count 242 = .ok (.getfield 188, 3) := by decide +kernel
theorem dX5_count_245 : decode cX5_count 245 = .ok (.ireturn, 1) := by decide +kernel
theorem dX5_count_246 : decode cX5_count 246 = .ok (.bipush (-2), 2) := by decide +kernel
theorem dX5_count_248 : decode cX5_count 248 = .ok (.ireturn, 1) := by decide +kernel
set_option maxRecDepth 20000 in
theorem ggX5_untilJam_X0_copyFrom : GoodIn wsX5_untilJam wsX0_copyFrom := goodIn_r _ [8, 9, 10, 11, 12, 13, 14, 15, 16, 17, 18, 19, 20, 21, 22, 23, 24, 25, 26, 27, 28, 29, 30, 31, 32, 33, 34, 35, 36, 37, 38, 39, 40, 41, 42, 43, 44, 45, 109, 110, 111, 112, 113, 114, 115, 116, 117, 118, 119, 120, 121, 122, 123, 124, 125, 126, 127, 128, 129] (by decide +kernel) (by decide +kernel)
set_option maxRecDepth 20000 in
theorem gX5_untilJam_X0_copyFrom : GoodIn wsX5_untilJam (wsV RX5 191 RX0 yX0_copyFrom wsX0_copyFrom) := goodIn_app (goodIn_of _ (by decide +kernel)) ggX5_untilJam_X0_copyFrom
set_option maxRecDepth 20000 in
theorem ggX5_untilJam_X0_makeSteps : GoodIn wsX5_untilJam wsX0_makeSteps := goodIn_r _ [49, 50, 51, 52, 7, 53, 16, 14, 54, 25, 55, 21, 20, 9, 56, 57, 58, 59, 60, 61, 62, 29, 63, 31, 64, 65, 66, 67, 68, 69, 70, 71, 72, 73, 74, 75, 76, 77, 78, 18, 19, 15, 79, 80, 81, 82, 39, 83, 41, 44, 43, 84, 85, 86, 87, 33, 35, 88, 89, 90, 91, 34, 92, 93, 94, 95, 96, 97, 98, 24, 17, 22, 23, 99, 100, 101, 102, 109, 110, 111, 112, 113, 114, 115, 116, 117, 118, 119, 120, 121, 122, 123, 124, 125, 126, 127, 128, 129] (by decide +kernel) (by decide +kernel)
set_option maxRecDepth 20000 in
theorem gX5_untilJam_X0_makeSteps : GoodIn wsX5_untilJam (wsV RX5 100 RX0 yX0_makeSteps wsX0_makeSteps) := goodIn_app (goodIn_of _ (by decide +kernel)) ggX5_untilJam_X0_makeSteps
theorem dX5_untilJam_0 : decode cX5_untilJam 0 = .ok (.aload_n 0, 1) := by decide +kernel
theorem dX5_untilJam_1 : decode cX5_untilJam 1 = .ok (.getfield 16, 3) := by decide +kernel
theorem dX5_untilJam_4 : decode cX5_untilJam 4 = .ok (.aload_n 0, 1) := by decide +kernel
theorem dX5_untilJam_5 : decode cX5_untilJam 5 = .ok (.getfield 10, 3) := by decide +kernel
theorem dX5_untilJam_8 : decode cX5_untilJam 8 = .ok (.invokevirtual 191, 3) := by decide +kernel
theorem dX5_untilJam_11 : decode cX5_untilJam 11 = .ok (.aload_n 0, 1) := by decide +kernel
theorem dX5_untilJam_12 : decode cX5_untilJam 12 = .ok (.getfield 16, 3) := by decide +kernel
theorem dX5_untilJam_15 : decode cX5_untilJam 15 = .ok (.sipush 500, 3) := by decide +kernel
theorem dX5_untilJam_18 : decode cX5_untilJam 18 = .ok (.invokevirtual 100, 3) := by decide +kernel
theorem dX5_untilJam_21 : decode cX5_untilJam 21 = .ok (.istore_n 1, 1) := by decide +kernel
theorem dX5_untilJam_22 : decode cX5_untilJam 22 = .ok (.aload_n 0, 1) := by decide +kernel
theorem dX5_untilJam_23 : decode cX5_untilJam 23 = .ok (.getfield 16, 3) := by decide +kernel
theorem dX5_untilJam_26 : decode cX5_untilJam 26 = .ok (.getfield 92, 3) := by decide +kernel
theorem dX5_untilJam_29 : decode cX5_untilJam 29 = .ok (.ifCond .eq 7, 3) := by decide +kernel
theorem dX5_untilJam_32 : decode cX5_untilJam 32 = .ok (.iload_n 1, 1) := by decide +kernel
theorem dX5_untilJam_33 : decode cX5_untilJam 33 = .ok (.goto 5, 3) := by decide +kernel
theorem dX5_untilJam_36 : decode cX5_untilJam 36 = .ok (.bipush (-6), 2) := by decide +kernel
theorem dX5_untilJam_38 : decode cX5_untilJam 38 = .ok (.ireturn, 1) := by decide +kernel
set_option maxRecDepth 20000 in
theorem ggX5_ifStepped_X0_copyFrom : GoodIn wsX5_ifStepped wsX0_copyFrom := goodIn_r _ [11, 12, 13, 14, 15, 16, 17, 18, 19, 20, 21, 22, 23, 24, 25, 26, 27, 28, 29, 30, 31, 32, 33, 34, 35, 36, 37, 38, 39, 40, 41, 42, 43, 44, 45, 46, 47, 48, 116, 117, 118, 119, 120, 121, 122, 123, 124, 125, 126, 127, 128, 129, 130, 131, 132, 133, 134, 135, 136] (by decide +kernel) (by decide +kernel)
set_option maxRecDepth 20000 in
theorem gX5_ifStepped_X0_copyFrom : GoodIn wsX5_ifStepped (wsV RX5 191 RX0 yX0_copyFrom wsX0_copyFrom) := goodIn_app (goodIn_of _ (by decide +kernel)) ggX5_ifStepped_X0_copyFrom
set_option maxRecDepth 20000 in
theorem ggX5_ifStepped_X0_makeSteps : GoodIn wsX5_ifStepped wsX0_makeSteps := goodIn_r _ [52, 53, 54, 55, 10, 56, 19, 17, 57, 28, 58, 24, 23, 12, 59, 60, 61, 62, 63, 64, 65, 32, 66, 34, 67, 68, 69, 70, 71, 72, 73, 74, 75, 76, 77, 78, 79, 80, 81, 21, 22, 18, 82, 83, 84, 85, 42, 86, 44, 47, 46, 87, 88, 89, 90, 36, 38, 91, 92, 93, 94, 37, 95, 96, 97, 98, 99, 100, 101, 27, 20, 25, 26, 102, 103, 104, 105, 116, 117, 118, 119, 120, 121, 122, 123, 124, 125, 126, 127, 128, 129, 130, 131, 132, 133, 134, 135, 136] (by decide +kernel) (by decide +kernel)
set_option maxRecDepth 20000 in
theorem gX5_ifStepped_X0_makeSteps : GoodIn wsX5_ifStepped (wsV RX5 100 RX0 yX0_makeSteps wsX0_makeSteps) := goodIn_app (goodIn_of _ (by decide +kernel)) ggX5_ifStepped_X0_makeSteps
set_option maxRecDepth 20000 in
theorem ggX5_ifStepped_X4_allMarks : GoodIn wsX5_ifStepped wsX4_allMarks := goodIn_r _ [109, 46, 133, 134, 135, 136] (by decide +kernel) (by decide +kernel)
set_option maxRecDepth 20000 in
theorem gX5_ifStepped_X4_allMarks : GoodIn wsX5_ifStepped (wsV RX5 182 RX4 yX4_allMarks wsX4_allMarks) := goodIn_app (goodIn_of _ (by decide +kernel)) ggX5_ifStepped_X4_allMarks
theorem dX5_ifStepped_0 : decode cX5_ifStepped 0 = .ok (.iload_n 1, 1) := by decide +kernel
theorem dX5_ifStepped_1 : decode cX5_ifStepped 1 = .ok (.iconst 1, 1) := by decide +kernel
theorem dX5_ifStepped_2 : decode cX5_ifStepped 2 = .ok (.if_icmp .lt 19, 3) := by decide +kernel
theorem dX5_ifStepped_5 : decode cX5_ifStepped 5 = .ok (.iload_n 1, 1) := by decide +kernel
theorem dX5_ifStepped_6 : decode cX5_ifStepped 6 = .ok (.sipush 500, 3) := by decide +kernel
theorem dX5_ifStepped_9 : decode cX5_ifStepped 9 = .ok (.if_icmp .gt 12, 3) := by decide +kernel
theorem dX5_ifStepped_12 : decode cX5_ifStepped 12 = .ok (.iload_n 2, 1) := by decide +kernel
theorem dX5_ifStepped_13 : decode cX5_ifStepped 13 = .ok (.ifCond .lt 8, 3) := by decide +kernel
theorem dX5_ifStepped_16 : decode cX5_ifStepped 16 = .ok (.iload_n 2, 1) := by decide +kernel
theorem dX5_ifStepped_17 : decode cX5_ifStepped 17 = .ok (.iconst 4, 1) := by decide +kernel
theorem dX5_ifStepped_18 : decode cX5_ifStepped 18 = .ok (.if_icmp .le 6, 3) := by decide +kernel
theorem dX5_ifStepped_21 : decode cX5_ifStepped 21 = .ok (.bipush (-2), 2) := by decide +kernel
theorem dX5_ifStepped_23 : decode cX5_ifStepped 23 = .ok (.ireturn, 1) := by decide +kernel
theorem dX5_ifStepped_24 : decode cX5_ifStepped 24 = .ok (.aload_n 0, 1) := by decide +kernel
theorem dX5_ifStepped_25 : decode cX5_ifStepped 25 = .ok (.getfield 16, 3) := by decide +kernel
theorem dX5_ifStepped_28 : decode cX5_ifStepped 28 = .ok (.aload_n 0, 1) := by decide +kernel
theorem dX5_ifStepped_29 : decode cX5_ifStepped 29 = .ok (.getfield 10, 3) := by decide +kernel
theorem dX5_ifStepped_32 : decode cX5_ifStepped 32 = .ok (.invokevirtual 191, 3) := by decide +kernel
theorem dX5_ifStepped_35 : decode cX5_ifStepped 35 = .ok (.aload_n 0, 1) := by decide +kernel
theorem dX5_ifStepped_36 : decode cX5_ifStepped 36 = .ok (.getfield 16, 3) := by decide +kernel
theorem dX5_ifStepped_39 : decode cX5_ifStepped 39 = .ok (.iload_n 1, 1) := by decide +kernel
theorem dX5_ifStepped_40 : decode cX5_ifStepped 40 = .ok (.invokevirtual 100, 3) := by decide +kernel
theorem dX5_ifStepped_43 : decode cX5_ifStepped 43 = .ok (.istore_n 3, 1) := by decide +kernel
theorem dX5_ifStepped_44 : decode cX5_ifStepped 44 = .ok (.iload_n 2, 1) := by decide +kernel
theorem dX5_ifStepped_45 : decode cX5_ifStepped 45 = .ok (.tableswitch 81 0 3 #[31, 33, 49, 65], 31) := by decide +kernel
theorem dX5_ifStepped_76 : decode cX5_ifStepped 76 = .ok (.iload_n 3, 1) := by decide +kernel
theorem dX5_ifStepped_77 : decode cX5_ifStepped 77 = .ok (.ireturn, 1) := by decide +kernel
theorem dX5_ifStepped_78 : decode cX5_ifStepped 78 = .ok (.aload_n 0, 1) := by decide +kernel
theorem dX5_ifStepped_79 : decode cX5_ifStepped 79 = .ok (.getfield 16, 3) := by decide +kernel
theorem dX5_ifStepped_82 : decode cX5_ifStepped 82 = .ok (.getfield 167, 3) := by decide +kernel
theorem dX5_ifStepped_85 : decode cX5_ifStepped 85 = .ok (.aload_n 0, 1) := by decide +kernel
theorem dX5_ifStepped_86 : decode cX5_ifStepped 86 = .ok (.getfield 10, 3) := by decide +kernel
theorem dX5_ifStepped_89 : decode cX5_ifStepped 89 = .ok (.getfield 167, 3) := by decide +kernel
theorem dX5_ifStepped_92 : decode cX5_ifStepped 92 = .ok (.isub, 1) := by decide +kernel
theorem dX5_ifStepped_93 : decode cX5_ifStepped 93 = .ok (.ireturn, 1) := by decide +kernel
theorem dX5_ifStepped_94 : decode cX5_ifStepped 94 = .ok (.aload_n 0, 1) := by decide +kernel
theorem dX5_ifStepped_95 : decode cX5_ifStepped 95 = .ok (.getfield 16, 3) := by decide +kernel
theorem dX5_ifStepped_98 : decode cX5_ifStepped 98 = .ok (.getfield 170, 3) := by decide +kernel
theorem dX5_ifStepped_101 : decode cX5_ifStepped 101 = .ok (.aload_n 0, 1) := by decide +kernel
theorem dX5_ifStepped_102 : decode cX5_ifStepped 102 = .ok (.getfield 10, 3) := by decide +kernel
theorem dX5_ifStepped_105 : decode cX5_ifStepped 105 = .ok (.getfield 170, 3) := by decide +kernel
theorem dX5_ifStepped_108 : decode cX5_ifStepped 108 = .ok (.isub, 1) := by decide +kernel
theorem dX5_ifStepped_109 : decode cX5_ifStepped 109 = .ok (.ireturn, 1) := by decide +kernel
theorem dX5_ifStepped_110 : decode cX5_ifStepped 110 = .ok (.aload_n 0, 1) := by decide +kernel
theorem dX5_ifStepped_111 : decode cX5_ifStepped 111 = .ok (.getfield 16, 3) := by decide +kernel
theorem dX5_ifStepped_114 : decode cX5_ifStepped 114 = .ok (.getfield 173, 3) := by decide +kernel
theorem dX5_ifStepped_117 : decode cX5_ifStepped 117 = .ok (.aload_n 0, 1) := by decide +kernel
theorem dX5_ifStepped_118 : decode cX5_ifStepped 118 = .ok (.getfield 10, 3) := by decide +kernel
theorem dX5_ifStepped_121 : decode cX5_ifStepped 121 = .ok (.getfield 173, 3) := by decide +kernel
theorem dX5_ifStepped_124 : decode cX5_ifStepped 124 = .ok (.isub, 1) := by decide +kernel
theorem dX5_ifStepped_125 : decode cX5_ifStepped 125 = .ok (.ireturn, 1) := by decide +kernel
theorem dX5_ifStepped_126 : decode cX5_ifStepped 126 = .ok (.aload_n 0, 1) := by decide +kernel
theorem dX5_ifStepped_127 : decode cX5_ifStepped 127 = .ok (.getfield 16, 3) := by decide +kernel
theorem dX5_ifStepped_130 : decode cX5_ifStepped 130 = .ok (.getfield 83, 3) := by decide +kernel
theorem dX5_ifStepped_133 : decode cX5_ifStepped 133 = .ok (.invokevirtual 182, 3) := by decide +kernel
theorem dX5_ifStepped_136 : decode cX5_ifStepped 136 = .ok (.aload_n 0, 1) := by decide +kernel
theorem dX5_ifStepped_137 : decode cX5_ifStepped 137 = .ok (.getfield 10, 3) := by decide +kernel
theorem dX5_ifStepped_140 : decode cX5_ifStepped 140 = .ok (.getfield 83, 3) := by decide +kernel
theorem dX5_ifStepped_143 : decode cX5_ifStepped 143 = .ok (.invokevirtual 182, 3) := by decide +kernel
theorem dX5_ifStepped_146 : decode cX5_ifStepped 146 = .ok (.isub, 1) := by decide +kernel
theorem dX5_ifStepped_147 : decode cX5_ifStepped 147 = .ok (.ireturn, 1) := by decide +kernel
set_option maxRecDepth 20000 in
theorem ggX5_bestOut_X5_ifStepped : GoodIn wsX5_bestOut wsX5_ifStepped := goodIn_r _ [8, 9, 1, 10, 11, 12, 13, 14, 15, 16, 17, 18, 19, 20, 21, 22, 23, 24, 25, 26, 27, 28, 29, 30, 31, 32, 33, 34, 35, 36, 37, 38, 39, 40, 41, 42, 43, 44, 45, 46, 47, 48, 49, 50, 51, 52, 53, 54, 55, 56, 57, 58, 59, 60, 61, 62, 63, 64, 65, 66, 67, 68, 69, 70, 71, 72, 73, 74, 75, 76, 77, 78, 79, 80, 81, 82, 83, 84, 85, 86, 87, 88, 89, 90, 91, 92, 93, 94, 95, 96, 97, 98, 99, 100, 101, 102, 103, 104, 105, 106, 107, 108, 109, 110, 111, 112, 113, 114, 115, 116, 130, 131, 132, 133, 134, 135, 136, 137, 138, 139, 140, 141, 142, 143, 144, 145, 146, 147, 148, 149, 150, 151, 152, 153, 154, 155, 156] (by decide +kernel) (by decide +kernel)
set_option maxRecDepth 20000 in
theorem gX5_bestOut_X5_ifStepped : GoodIn wsX5_bestOut (wsV RX5 194 RX5 yX5_ifStepped wsX5_ifStepped) := goodIn_app (goodIn_of _ (by decide +kernel)) ggX5_bestOut_X5_ifStepped
set_option maxRecDepth 20000 in
theorem ggX5_bestOut_X1_hasPeg : GoodIn wsX5_bestOut wsX1_hasPeg := goodIn_r _ [120, 41, 149, 150, 151, 152] (by decide +kernel) (by decide +kernel)
set_option maxRecDepth 20000 in
theorem gX5_bestOut_X1_hasPeg : GoodIn wsX5_bestOut (wsV RX5 142 RX1 yX1_hasPeg wsX1_hasPeg) := goodIn_app (goodIn_of _ (by decide +kernel)) ggX5_bestOut_X1_hasPeg
set_option maxRecDepth 20000 in
theorem ggX5_bestOut_X5_rightWithRow : GoodIn wsX5_bestOut wsX5_rightWithRow := goodIn_r _ [124, 9, 1, 2, 10, 14, 15, 16, 17, 18, 19, 20, 21, 22, 23, 24, 25, 26, 27, 28, 29, 30, 31, 32, 33, 34, 35, 36, 37, 38, 39, 40, 41, 42, 43, 44, 45, 46, 47, 48, 49, 50, 51, 52, 53, 54, 55, 125, 126, 127, 128, 129, 118, 119, 120, 56, 57, 58, 59, 60, 61, 62, 63, 64, 65, 66, 67, 68, 69, 70, 71, 72, 73, 74, 75, 76, 77, 78, 79, 80, 81, 82, 83, 84, 85, 86, 87, 88, 89, 90, 91, 92, 93, 94, 95, 96, 97, 98, 99, 100, 101, 102, 103, 104, 105, 106, 107, 108, 109, 110, 111, 112, 130, 131, 132, 133, 134, 135, 136, 137, 138, 139, 140, 141, 142, 143, 144, 145, 146, 147, 148, 149, 150, 151, 152, 153, 154, 155, 156] (by decide +kernel) (by decide +kernel)
set_option maxRecDepth 20000 in
theorem gX5_bestOut_X5_rightWithRow : GoodIn wsX5_bestOut (wsV RX5 197 RX5 yX5_rightWithRow wsX5_rightWithRow) := goodIn_app (goodIn_of _ (by decide +kernel)) ggX5_bestOut_X5_rightWithRow
theorem dX5_bestOut_0 : decode cX5_bestOut 0 = .ok (.bipush (-6), 2) := by decide +kernel
theorem dX5_bestOut_2 : decode cX5_bestOut 2 = .ok (.istore_n 1, 1) := by decide +kernel
theorem dX5_bestOut_3 : decode cX5_bestOut 3 = .ok (.aload_n 0, 1) := by decide +kernel
theorem dX5_bestOut_4 : decode cX5_bestOut 4 = .ok (.bipush 64, 2) := by decide +kernel
theorem dX5_bestOut_6 : decode cX5_bestOut 6 = .ok (.iconst 1, 1) := by decide +kernel
theorem dX5_bestOut_7 : decode cX5_bestOut 7 = .ok (.invokevirtual 194, 3) := by decide +kernel
theorem dX5_bestOut_10 : decode cX5_bestOut 10 = .ok (.istore_n 2, 1) := by decide +kernel
theorem dX5_bestOut_11 : decode cX5_bestOut 11 = .ok (.iconst 0, 1) := by decide +kernel
theorem dX5_bestOut_12 : decode cX5_bestOut 12 = .ok (.istore_n 3, 1) := by decide +kernel
theorem dX5_bestOut_13 : decode cX5_bestOut 13 = .ok (.iload_n 3, 1) := by decide +kernel
theorem dX5_bestOut_14 : decode cX5_bestOut 14 = .ok (.bipush 16, 2) := by decide +kernel
theorem dX5_bestOut_16 : decode cX5_bestOut 16 = .ok (.if_icmp .ge 82, 3) := by decide +kernel
theorem dX5_bestOut_19 : decode cX5_bestOut 19 = .ok (.iconst 0, 1) := by decide +kernel
theorem dX5_bestOut_20 : decode cX5_bestOut 20 = .ok (.istore 4, 2) := by decide +kernel
theorem dX5_bestOut_22 : decode cX5_bestOut 22 = .ok (.iload 4, 2) := by decide +kernel
theorem dX5_bestOut_24 : decode cX5_bestOut 24 = .ok (.bipush 6, 2) := by decide +kernel
theorem dX5_bestOut_26 : decode cX5_bestOut 26 = .ok (.if_icmp .ge 66, 3) := by decide +kernel
theorem dX5_bestOut_29 : decode cX5_bestOut 29 = .ok (.aload_n 0, 1) := by decide +kernel
theorem dX5_bestOut_30 : decode cX5_bestOut 30 = .ok (.getfield 10, 3) := by decide +kernel
theorem dX5_bestOut_33 : decode cX5_bestOut 33 = .ok (.getfield 62, 3) := by decide +kernel
theorem dX5_bestOut_36 : decode cX5_bestOut 36 = .ok (.iload_n 3, 1) := by decide +kernel
theorem dX5_bestOut_37 : decode cX5_bestOut 37 = .ok (.iload 4, 2) := by decide +kernel
theorem dX5_bestOut_39 : decode cX5_bestOut 39 = .ok (.invokevirtual 142, 3) := by decide +kernel
theorem dX5_bestOut_42 : decode cX5_bestOut 42 = .ok (.ifCond .eq 44, 3) := by decide +kernel
theorem dX5_bestOut_45 : decode cX5_bestOut 45 = .ok (.aload_n 0, 1) := by decide +kernel
theorem dX5_bestOut_46 : decode cX5_bestOut 46 = .ok (.iload_n 3, 1) := by decide +kernel
theorem dX5_bestOut_47 : decode cX5_bestOut 47 = .ok (.aload_n 0, 1) := by decide +kernel
theorem dX5_bestOut_48 : decode cX5_bestOut 48 = .ok (.getfield 10, 3) := by decide +kernel
theorem dX5_bestOut_51 : decode cX5_bestOut 51 = .ok (.getfield 62, 3) := by decide +kernel
theorem dX5_bestOut_54 : decode cX5_bestOut 54 = .ok (.getfield 66, 3) := by decide +kernel
theorem dX5_bestOut_57 : decode cX5_bestOut 57 = .ok (.iload_n 3, 1) := by decide +kernel
theorem dX5_bestOut_58 : decode cX5_bestOut 58 = .ok (.iaload, 1) := by decide +kernel
theorem dX5_bestOut_59 : decode cX5_bestOut 59 = .ok (.iconst 1, 1) := by decide +kernel
theorem dX5_bestOut_60 : decode cX5_bestOut 60 = .ok (.iload 4, 2) := by decide +kernel
theorem dX5_bestOut_62 : decode cX5_bestOut 62 = .ok (.ishl, 1) := by decide +kernel
theorem dX5_bestOut_63 : decode cX5_bestOut 63 = .ok (.ixor, 1) := by decide +kernel
theorem dX5_bestOut_64 : decode cX5_bestOut 64 = .ok (.invokevirtual 197, 3) := by decide +kernel
theorem dX5_bestOut_67 : decode cX5_bestOut 67 = .ok (.istore 5, 2) := by decide +kernel
theorem dX5_bestOut_69 : decode cX5_bestOut 69 = .ok (.iload 5, 2) := by decide +kernel
theorem dX5_bestOut_71 : decode cX5_bestOut 71 = .ok (.iload_n 2, 1) := by decide +kernel
theorem dX5_bestOut_72 : decode cX5_bestOut 72 = .ok (.if_icmp .le 14, 3) := by decide +kernel
theorem dX5_bestOut_75 : decode cX5_bestOut 75 = .ok (.iload 5, 2) := by decide +kernel
theorem dX5_bestOut_77 : decode cX5_bestOut 77 = .ok (.istore_n 2, 1) := by decide +kernel
theorem dX5_bestOut_78 : decode cX5_bestOut 78 = .ok (.iload_n 3, 1) := by decide +kernel
theorem dX5_bestOut_79 : decode cX5_bestOut 79 = .ok (.bipush 6, 2) := by decide +kernel
theorem dX5_bestOut_81 : decode cX5_bestOut 81 = .ok (.imul, 1) := by decide +kernel
theorem dX5_bestOut_82 : decode cX5_bestOut 82 = .ok (.iload 4, 2) := by decide +kernel
theorem dX5_bestOut_84 : decode cX5_bestOut 84 = .ok (.iadd, 1) := by decide +kernel
theorem dX5_bestOut_85 : decode cX5_bestOut 85 = .ok (.istore_n 1, 1) := by decide +kernel
theorem dX5_bestOut_86 : decode cX5_bestOut 86 = .ok (.iinc 4 1, 3) := by decide +kernel
theorem dX5_bestOut_89 : decode cX5_bestOut 89 = .ok (.goto (-67), 3) := by decide +kernel
theorem dX5_bestOut_92 : decode cX5_bestOut 92 = .ok (.iinc 3 1, 3) := by decide +kernel
theorem dX5_bestOut_95 : decode cX5_bestOut 95 = .ok (.goto (-82), 3) := by decide +kernel
theorem dX5_bestOut_98 : decode cX5_bestOut 98 = .ok (.iload_n 1, 1) := by decide +kernel
theorem dX5_bestOut_99 : decode cX5_bestOut 99 = .ok (.ireturn, 1) := by decide +kernel
set_option maxRecDepth 20000 in
theorem ggX5_nextStamps_X5_nextStampsByStep : GoodIn wsX5_nextStamps wsX5_nextStampsByStep := goodIn_r _ [5, 6, 7, 8, 9, 10, 11, 12, 13, 14, 15, 16, 17, 18, 28, 29, 30, 31, 32, 33, 34, 35, 36, 37, 38, 39, 40, 41, 42, 43, 44, 45, 46, 47, 48, 49, 50] (by decide +kernel) (by decide +kernel)
set_option maxRecDepth 20000 in
theorem gX5_nextStamps_X5_nextStampsByStep : GoodIn wsX5_nextStamps (wsV RX5 200 RX5 yX5_nextStampsByStep wsX5_nextStampsByStep) := goodIn_app (goodIn_of _ (by decide +kernel)) ggX5_nextStamps_X5_nextStampsByStep
set_option maxRecDepth 20000 in
theorem ggX5_nextStamps_X5_nextStampsByPegs : GoodIn wsX5_nextStamps wsX5_nextStampsByPegs := goodIn_r _ [22, 6, 9, 7, 23, 8, 24, 25, 26, 27, 28, 29, 30, 31, 32, 33, 34, 35, 36, 37, 38, 39, 40, 41, 42, 43, 44, 45, 46, 47, 48, 49, 50] (by decide +kernel) (by decide +kernel)
set_option maxRecDepth 20000 in
theorem gX5_nextStamps_X5_nextStampsByPegs : GoodIn wsX5_nextStamps (wsV RX5 203 RX5 yX5_nextStampsByPegs wsX5_nextStampsByPegs) := goodIn_app (goodIn_of _ (by decide +kernel)) ggX5_nextStamps_X5_nextStampsByPegs
theorem dX5_nextStamps_0 : decode cX5_nextStamps 0 = .ok (.iload_n 1, 1) := by decide +kernel
theorem dX5_nextStamps_1 : decode cX5_nextStamps 1 = .ok (.ifCond .ne 8, 3) := by decide +kernel
theorem dX5_nextStamps_4 : decode cX5_nextStamps 4 = .ok (.aload_n 0, 1) := by decide +kernel
theorem dX5_nextStamps_5 : decode cX5_nextStamps 5 = .ok (.invokevirtual 200, 3) := by decide +kernel
theorem dX5_nextStamps_8 : decode cX5_nextStamps 8 = .ok (.ireturn, 1) := by decide +kernel
theorem dX5_nextStamps_9 : decode cX5_nextStamps 9 = .ok (.iload_n 1, 1) := by decide +kernel
theorem dX5_nextStamps_10 : decode cX5_nextStamps 10 = .ok (.iconst 1, 1) := by decide +kernel
theorem dX5_nextStamps_11 : decode cX5_nextStamps 11 = .ok (.if_icmp .ne 10, 3) := by decide +kernel
theorem dX5_nextStamps_14 : decode cX5_nextStamps 14 = .ok (.aload_n 0, 1) := by decide +kernel
theorem dX5_nextStamps_15 : decode cX5_nextStamps 15 = .ok (.invokevirtual 203, 3) := by decide +kernel
theorem dX5_nextStamps_18 : decode cX5_nextStamps 18 = .ok (.goto 5, 3) := by decide +kernel
theorem dX5_nextStamps_21 : decode cX5_nextStamps 21 = .ok (.bipush (-2), 2) := by decide +kernel
theorem dX5_nextStamps_23 : decode cX5_nextStamps 23 = .ok (.ireturn, 1) := by decide +kernel
set_option maxRecDepth 20000 in
theorem ggX5_put_X3_charactersIn : GoodIn wsX5_put wsX3_charactersIn := goodIn_r _ [6, 7] (by decide +kernel) (by decide +kernel)
set_option maxRecDepth 20000 in
theorem gX5_put_X3_charactersIn : GoodIn wsX5_put (va_wsS RX5 206 yX3_charactersIn wsX3_charactersIn) := goodIn_app (goodIn_of _ (by decide +kernel)) ggX5_put_X3_charactersIn
set_option maxRecDepth 20000 in
theorem ggX5_put_X3_append : GoodIn wsX5_put wsX3_append := goodIn_r _ [11, 12, 13, 7, 20, 21] (by decide +kernel) (by decide +kernel)
set_option maxRecDepth 20000 in
theorem gX5_put_X3_append : GoodIn wsX5_put (wsV RX5 210 RX3 yX3_append wsX3_append) := goodIn_app (goodIn_of _ (by decide +kernel)) ggX5_put_X3_append
theorem dX5_put_0 : decode cX5_put 0 = .ok (.lload_n 1, 1) := by decide +kernel
theorem dX5_put_1 : decode cX5_put 1 = .ok (.invokestatic 206, 3) := by decide +kernel
theorem dX5_put_4 : decode cX5_put 4 = .ok (.istore_n 3, 1) := by decide +kernel
theorem dX5_put_5 : decode cX5_put 5 = .ok (.iload_n 3, 1) := by decide +kernel
theorem dX5_put_6 : decode cX5_put 6 = .ok (.ifCond .ne 6, 3) := by decide +kernel
theorem dX5_put_9 : decode cX5_put 9 = .ok (.bipush (-2), 2) := by decide +kernel
theorem dX5_put_11 : decode cX5_put 11 = .ok (.ireturn, 1) := by decide +kernel
theorem dX5_put_12 : decode cX5_put 12 = .ok (.aload_n 0, 1) := by decide +kernel
theorem dX5_put_13 : decode cX5_put 13 = .ok (.getfield 29, 3) := by decide +kernel
theorem dX5_put_16 : decode cX5_put 16 = .ok (.getfield 185, 3) := by decide +kernel
theorem dX5_put_19 : decode cX5_put 19 = .ok (.iload_n 3, 1) := by decide +kernel
theorem dX5_put_20 : decode cX5_put 20 = .ok (.iadd, 1) := by decide +kernel
theorem dX5_put_21 : decode cX5_put 21 = .ok (.bipush 60, 2) := by decide +kernel
theorem dX5_put_23 : decode cX5_put 23 = .ok (.if_icmp .le 6, 3) := by decide +kernel
theorem dX5_put_26 : decode cX5_put 26 = .ok (.bipush (-4), 2) := by decide +kernel
theorem dX5_put_28 : decode cX5_put 28 = .ok (.ireturn, 1) := by decide +kernel
theorem dX5_put_29 : decode cX5_put 29 = .ok (.aload_n 0, 1) := by decide +kernel
theorem dX5_put_30 : decode cX5_put 30 = .ok (.getfield 29, 3) := by decide +kernel
theorem dX5_put_33 : decode cX5_put 33 = .ok (.lload_n 1, 1) := by decide +kernel
theorem dX5_put_34 : decode cX5_put 34 = .ok (.iload_n 3, 1) := by decide +kernel
theorem dX5_put_35 : decode cX5_put 35 = .ok (.invokevirtual 210, 3) := by decide +kernel
theorem dX5_put_38 : decode cX5_put 38 = .ok (.aload_n 0, 1) := by decide +kernel
theorem dX5_put_39 : decode cX5_put 39 = .ok (.getfield 29, 3) := by decide +kernel
theorem dX5_put_42 : decode cX5_put 42 = .ok (.getfield 185, 3) := by decide +kernel
theorem dX5_put_45 : decode cX5_put 45 = .ok (.ireturn, 1) := by decide +kernel
set_option maxRecDepth 20000 in
theorem ggX5_wipe_X3_empty : GoodIn wsX5_wipe wsX3_empty := goodIn_r _ [7, 8, 15, 16] (by decide +kernel) (by decide +kernel)
set_option maxRecDepth 20000 in
theorem gX5_wipe_X3_empty : GoodIn wsX5_wipe (wsV RX5 123 RX3 yX3_empty wsX3_empty) := goodIn_app (goodIn_of _ (by decide +kernel)) ggX5_wipe_X3_empty
theorem dX5_wipe_0 : decode cX5_wipe 0 = .ok (.aload_n 0, 1) := by decide +kernel
theorem dX5_wipe_1 : decode cX5_wipe 1 = .ok (.getfield 29, 3) := by decide +kernel
theorem dX5_wipe_4 : decode cX5_wipe 4 = .ok (.getfield 185, 3) := by decide +kernel
theorem dX5_wipe_7 : decode cX5_wipe 7 = .ok (.istore_n 1, 1) := by decide +kernel
theorem dX5_wipe_8 : decode cX5_wipe 8 = .ok (.aload_n 0, 1) := by decide +kernel
theorem dX5_wipe_9 : decode cX5_wipe 9 = .ok (.getfield 29, 3) := by decide +kernel
theorem dX5_wipe_12 : decode cX5_wipe 12 = .ok (.invokevirtual 123, 3) := by decide +kernel
theorem dX5_wipe_15 : decode cX5_wipe 15 = .ok (.iload_n 1, 1) := by decide +kernel
theorem dX5_wipe_16 : decode cX5_wipe 16 = .ok (.ireturn, 1) := by decide +kernel
set_option maxRecDepth 20000 in
theorem ggX5_save_X0_copyFrom : GoodIn wsX5_save wsX0_copyFrom := goodIn_r _ [9, 10, 11, 12, 13, 14, 15, 16, 17, 18, 19, 20, 21, 22, 23, 24, 25, 26, 27, 28, 29, 30, 31, 32, 33, 34, 35, 36, 37, 38, 39, 40, 41, 42, 43, 44, 45, 46, 68, 69, 70, 71, 72, 73, 74, 75, 76, 77, 78, 79, 80, 81, 82, 83, 84, 85, 86, 87, 88] (by decide +kernel) (by decide +kernel)
set_option maxRecDepth 20000 in
theorem gX5_save_X0_copyFrom : GoodIn wsX5_save (wsV RX5 191 RX0 yX0_copyFrom wsX0_copyFrom) := goodIn_app (goodIn_of _ (by decide +kernel)) ggX5_save_X0_copyFrom
set_option maxRecDepth 20000 in
theorem ggX5_save_X1_allPegs : GoodIn wsX5_save wsX1_allPegs := goodIn_r _ [50, 51, 52, 53, 30, 54, 32, 55, 56, 57, 58, 59, 60, 61, 81, 82, 83, 84] (by decide +kernel) (by decide +kernel)
set_option maxRecDepth 20000 in
theorem gX5_save_X1_allPegs : GoodIn wsX5_save (wsV RX5 126 RX1 yX1_allPegs wsX1_allPegs) := goodIn_app (goodIn_of _ (by decide +kernel)) ggX5_save_X1_allPegs
theorem dX5_save_0 : decode cX5_save 0 = .ok (.iload_n 1, 1) := by decide +kernel
theorem dX5_save_1 : decode cX5_save 1 = .ok (.ifCond .lt 8, 3) := by decide +kernel
theorem dX5_save_4 : decode cX5_save 4 = .ok (.iload_n 1, 1) := by decide +kernel
theorem dX5_save_5 : decode cX5_save 5 = .ok (.iconst 2, 1) := by decide +kernel
theorem dX5_save_6 : decode cX5_save 6 = .ok (.if_icmp .lt 6, 3) := by decide +kernel
theorem dX5_save_9 : decode cX5_save 9 = .ok (.bipush (-2), 2) := by decide +kernel
theorem dX5_save_11 : decode cX5_save 11 = .ok (.ireturn, 1) := by decide +kernel
theorem dX5_save_12 : decode cX5_save 12 = .ok (.aload_n 0, 1) := by decide +kernel
theorem dX5_save_13 : decode cX5_save 13 = .ok (.getfield 33, 3) := by decide +kernel
theorem dX5_save_16 : decode cX5_save 16 = .ok (.iload_n 1, 1) := by decide +kernel
theorem dX5_save_17 : decode cX5_save 17 = .ok (.aaload, 1) := by decide +kernel
theorem dX5_save_18 : decode cX5_save 18 = .ok (.aload_n 0, 1) := by decide +kernel
theorem dX5_save_19 : decode cX5_save 19 = .ok (.getfield 10, 3) := by decide +kernel
theorem dX5_save_22 : decode cX5_save 22 = .ok (.invokevirtual 191, 3) := by decide +kernel
theorem dX5_save_25 : decode cX5_save 25 = .ok (.aload_n 0, 1) := by decide +kernel
theorem dX5_save_26 : decode cX5_save 26 = .ok (.getfield 37, 3) := by decide +kernel
theorem dX5_save_29 : decode cX5_save 29 = .ok (.iload_n 1, 1) := by decide +kernel
theorem dX5_save_30 : decode cX5_save 30 = .ok (.iconst 1, 1) := by decide +kernel
theorem dX5_save_31 : decode cX5_save 31 = .ok (.bastore, 1) := by decide +kernel
theorem dX5_save_32 : decode cX5_save 32 = .ok (.aload_n 0, 1) := by decide +kernel
theorem dX5_save_33 : decode cX5_save 33 = .ok (.getfield 10, 3) := by decide +kernel
theorem dX5_save_36 : decode cX5_save 36 = .ok (.getfield 62, 3) := by decide +kernel
theorem dX5_save_39 : decode cX5_save 39 = .ok (.invokevirtual 126, 3) := by decide +kernel
theorem dX5_save_42 : decode cX5_save 42 = .ok (.ireturn, 1) := by decide +kernel
set_option maxRecDepth 20000 in
theorem ggX5_restore_X2_keep : GoodIn wsX5_restore wsX2_keep := goodIn_r _ [10, 11, 12, 13, 14, 15, 16, 17, 18, 19, 20, 21, 22, 23, 24, 25, 26, 27, 28, 29, 30, 31, 32, 33, 34, 35, 36, 37, 38, 39, 40, 41, 42, 43, 44, 45, 46, 47, 48, 49, 50, 51, 52, 53, 54, 55, 56, 57, 58, 59, 95, 96, 97, 82, 83, 84, 85, 86, 87, 88, 89, 90, 91, 92, 93, 94, 98, 99, 100, 101, 102, 103, 104, 105] (by decide +kernel) (by decide +kernel)
set_option maxRecDepth 20000 in
theorem gX5_restore_X2_keep : GoodIn wsX5_restore (wsV RX5 48 RX2 yX2_keep wsX2_keep) := goodIn_app (goodIn_of _ (by decide +kernel)) ggX5_restore_X2_keep
set_option maxRecDepth 20000 in
theorem ggX5_restore_X0_copyFrom : GoodIn wsX5_restore wsX0_copyFrom := goodIn_r _ [22, 23, 24, 25, 26, 27, 28, 29, 30, 31, 32, 33, 34, 35, 36, 37, 38, 39, 40, 41, 42, 43, 44, 45, 46, 47, 48, 49, 50, 51, 52, 53, 54, 55, 56, 57, 58, 59, 82, 83, 84, 85, 86, 87, 88, 89, 90, 91, 92, 93, 94, 98, 99, 100, 101, 102, 103, 104, 105] (by decide +kernel) (by decide +kernel)
set_option maxRecDepth 20000 in
theorem gX5_restore_X0_copyFrom : GoodIn wsX5_restore (wsV RX5 191 RX0 yX0_copyFrom wsX0_copyFrom) := goodIn_app (goodIn_of _ (by decide +kernel)) ggX5_restore_X0_copyFrom
set_option maxRecDepth 20000 in
theorem ggX5_restore_X1_allPegs : GoodIn wsX5_restore wsX1_allPegs := goodIn_r _ [64, 65, 66, 67, 43, 68, 45, 69, 70, 71, 72, 73, 74, 75, 98, 99, 100, 101] (by decide +kernel) (by decide +kernel)
set_option maxRecDepth 20000 in
theorem gX5_restore_X1_allPegs : GoodIn wsX5_restore (wsV RX5 126 RX1 yX1_allPegs wsX1_allPegs) := goodIn_app (goodIn_of _ (by decide +kernel)) ggX5_restore_X1_allPegs
theorem dX5_restore_0 : decode cX5_restore 0 = .ok (.iload_n 1, 1) := by decide +kernel
theorem dX5_restore_1 : decode cX5_restore 1 = .ok (.ifCond .lt 8, 3) := by decide +kernel
theorem dX5_restore_4 : decode cX5_restore 4 = .ok (.iload_n 1, 1) := by decide +kernel
theorem dX5_restore_5 : decode cX5_restore 5 = .ok (.iconst 2, 1) := by decide +kernel
theorem dX5_restore_6 : decode cX5_restore 6 = .ok (.if_icmp .lt 6, 3) := by decide +kernel
theorem dX5_restore_9 : decode cX5_restore 9 = .ok (.bipush (-2), 2) := by decide +kernel
theorem dX5_restore_11 : decode cX5_restore 11 = .ok (.ireturn, 1) := by decide +kernel
theorem dX5_restore_12 : decode cX5_restore 12 = .ok (.aload_n 0, 1) := by decide +kernel
theorem dX5_restore_13 : decode cX5_restore 13 = .ok (.getfield 37, 3) := by decide +kernel
theorem dX5_restore_16 : decode cX5_restore 16 = .ok (.iload_n 1, 1) := by decide +kernel
theorem dX5_restore_17 : decode cX5_restore 17 = .ok (.baload, 1) := by decide +kernel
theorem dX5_restore_18 : decode cX5_restore 18 = .ok (.ifCond .ne 6, 3) := by decide +kernel
theorem dX5_restore_21 : decode cX5_restore 21 = .ok (.bipush (-5), 2) := by decide +kernel
theorem dX5_restore_23 : decode cX5_restore 23 = .ok (.ireturn, 1) := by decide +kernel
theorem dX5_restore_24 : decode cX5_restore 24 = .ok (.aload_n 0, 1) := by decide +kernel
theorem dX5_restore_25 : decode cX5_restore 25 = .ok (.getfield 22, 3) := by decide +kernel
theorem dX5_restore_28 : decode cX5_restore 28 = .ok (.aload_n 0, 1) := by decide +kernel
theorem dX5_restore_29 : decode cX5_restore 29 = .ok (.getfield 10, 3) := by decide +kernel
theorem dX5_restore_32 : decode cX5_restore 32 = .ok (.invokevirtual 48, 3) := by decide +kernel
theorem dX5_restore_35 : decode cX5_restore 35 = .ok (.aload_n 0, 1) := by decide +kernel
theorem dX5_restore_36 : decode cX5_restore 36 = .ok (.getfield 10, 3) := by decide +kernel
theorem dX5_restore_39 : decode cX5_restore 39 = .ok (.aload_n 0, 1) := by decide +kernel
theorem dX5_restore_40 : decode cX5_restore 40 = .ok (.getfield 33, 3) := by decide +kernel
theorem dX5_restore_43 : decode cX5_restore 43 = .ok (.iload_n 1, 1) := by decide +kernel
theorem dX5_restore_44 : decode cX5_restore 44 = .ok (.aaload, 1) := by decide +kernel
theorem dX5_restore_45 : decode cX5_restore 45 = .ok (.invokevirtual 191, 3) := by decide +kernel
theorem dX5_restore_48 : decode cX5_restore 48 = .ok (.aload_n 0, 1) := by decide +kernel
theorem dX5_restore_49 : decode cX5_restore 49 = .ok (.getfield 10, 3) := by decide +kernel
theorem dX5_restore_52 : decode cX5_restore 52 = .ok (.getfield 62, 3) := by decide +kernel
theorem dX5_restore_55 : decode cX5_restore 55 = .ok (.invokevirtual 126, 3) := by decide +kernel
theorem dX5_restore_58 : decode cX5_restore 58 = .ok (.ireturn, 1) := by decide +kernel
theorem dX5_isRow_0 : decode cX5_isRow 0 = .ok (.iload_n 0, 1) := by decide +kernel
theorem dX5_isRow_1 : decode cX5_isRow 1 = .ok (.ifCond .lt 13, 3) := by decide +kernel
theorem dX5_isRow_4 : decode cX5_isRow 4 = .ok (.iload_n 0, 1) := by decide +kernel
theorem dX5_isRow_5 : decode cX5_isRow 5 = .ok (.bipush 16, 2) := by decide +kernel
theorem dX5_isRow_7 : decode cX5_isRow 7 = .ok (.if_icmp .ge 7, 3) := by decide +kernel
theorem dX5_isRow_10 : decode cX5_isRow 10 = .ok (.iconst 1, 1) := by decide +kernel
theorem dX5_isRow_11 : decode cX5_isRow 11 = .ok (.goto 4, 3) := by decide +kernel
theorem dX5_isRow_14 : decode cX5_isRow 14 = .ok (.iconst 0, 1) := by decide +kernel
theorem dX5_isRow_15 : decode cX5_isRow 15 = .ok (.ireturn, 1) := by decide +kernel
theorem dX5_isPlace_0 : decode cX5_isPlace 0 = .ok (.iload_n 0, 1) := by decide +kernel
theorem dX5_isPlace_1 : decode cX5_isPlace 1 = .ok (.ifCond .lt 13, 3) := by decide +kernel
theorem dX5_isPlace_4 : decode cX5_isPlace 4 = .ok (.iload_n 0, 1) := by decide +kernel
theorem dX5_isPlace_5 : decode cX5_isPlace 5 = .ok (.bipush 6, 2) := by decide +kernel
theorem dX5_isPlace_7 : decode cX5_isPlace 7 = .ok (.if_icmp .ge 7, 3) := by decide +kernel
theorem dX5_isPlace_10 : decode cX5_isPlace 10 = .ok (.iconst 1, 1) := by decide +kernel
theorem dX5_isPlace_11 : decode cX5_isPlace 11 = .ok (.goto 4, 3) := by decide +kernel
theorem dX5_isPlace_14 : decode cX5_isPlace 14 = .ok (.iconst 0, 1) := by decide +kernel
theorem dX5_isPlace_15 : decode cX5_isPlace 15 = .ok (.ireturn, 1) := by decide +kernel
theorem dX5_asNumber_0 : decode cX5_asNumber 0 = .ok (.iload_n 0, 1) := by decide +kernel
theorem dX5_asNumber_1 : decode cX5_asNumber 1 = .ok (.ifCond .eq 7, 3) := by decide +kernel
theorem dX5_asNumber_4 : decode cX5_asNumber 4 = .ok (.iconst 1, 1) := by decide +kernel
theorem dX5_asNumber_5 : decode cX5_asNumber 5 = .ok (.goto 4, 3) := by decide +kernel
theorem dX5_asNumber_8 : decode cX5_asNumber 8 = .ok (.iconst 0, 1) := by decide +kernel
theorem dX5_asNumber_9 : decode cX5_asNumber 9 = .ok (.ireturn, 1) := by decide +kernel
set_option maxRecDepth 20000 in
theorem ggX5_rightWithRow_X0_copyFrom : GoodIn wsX5_rightWithRow wsX0_copyFrom := goodIn_r _ [9, 10, 11, 12, 13, 14, 15, 16, 17, 18, 19, 20, 21, 22, 23, 24, 25, 26, 27, 28, 29, 30, 31, 32, 33, 34, 35, 36, 37, 38, 39, 40, 41, 42, 43, 44, 45, 46, 118, 119, 120, 121, 122, 123, 124, 125, 126, 127, 128, 129, 130, 131, 132, 133, 134, 135, 136, 137, 138] (by decide +kernel) (by decide +kernel)
set_option maxRecDepth 20000 in
theorem gX5_rightWithRow_X0_copyFrom : GoodIn wsX5_rightWithRow (wsV RX5 191 RX0 yX0_copyFrom wsX0_copyFrom) := goodIn_app (goodIn_of _ (by decide +kernel)) ggX5_rightWithRow_X0_copyFrom
set_option maxRecDepth 20000 in
theorem ggX5_rightWithRow_X1_giveRow : GoodIn wsX5_rightWithRow wsX1_giveRow := goodIn_r _ [50, 34, 32, 51, 52, 53, 30, 54, 131, 132, 133, 134] (by decide +kernel) (by decide +kernel)
set_option maxRecDepth 20000 in
theorem gX5_rightWithRow_X1_giveRow : GoodIn wsX5_rightWithRow (wsV RX5 71 RX1 yX1_giveRow wsX1_giveRow) := goodIn_app (goodIn_of _ (by decide +kernel)) ggX5_rightWithRow_X1_giveRow
set_option maxRecDepth 20000 in
theorem ggX5_rightWithRow_X0_makeSteps : GoodIn wsX5_rightWithRow wsX0_makeSteps := goodIn_r _ [58, 59, 60, 61, 8, 62, 17, 15, 63, 26, 64, 22, 21, 10, 65, 66, 67, 68, 69, 70, 71, 30, 72, 32, 73, 74, 75, 76, 77, 78, 79, 80, 81, 82, 83, 84, 85, 86, 87, 19, 20, 16, 88, 89, 90, 91, 40, 92, 42, 45, 44, 93, 94, 95, 96, 34, 36, 97, 98, 99, 100, 35, 101, 102, 103, 104, 105, 106, 107, 25, 18, 23, 24, 108, 109, 110, 111, 118, 119, 120, 121, 122, 123, 124, 125, 126, 127, 128, 129, 130, 131, 132, 133, 134, 135, 136, 137, 138] (by decide +kernel) (by decide +kernel)
set_option maxRecDepth 20000 in
theorem gX5_rightWithRow_X0_makeSteps : GoodIn wsX5_rightWithRow (wsV RX5 100 RX0 yX0_makeSteps wsX0_makeSteps) := goodIn_app (goodIn_of _ (by decide +kernel)) ggX5_rightWithRow_X0_makeSteps
theorem dX5_rightWithRow_0 : decode cX5_rightWithRow 0 = .ok (.aload_n 0, 1) := by decide +kernel
theorem dX5_rightWithRow_1 : decode cX5_rightWithRow 1 = .ok (.getfield 16, 3) := by decide +kernel
theorem dX5_rightWithRow_4 : decode cX5_rightWithRow 4 = .ok (.aload_n 0, 1) := by decide +kernel
theorem dX5_rightWithRow_5 : decode cX5_rightWithRow 5 = .ok (.getfield 10, 3) := by decide +kernel
theorem dX5_rightWithRow_8 : decode cX5_rightWithRow 8 = .ok (.invokevirtual 191, 3) := by decide +kernel
theorem dX5_rightWithRow_11 : decode cX5_rightWithRow 11 = .ok (.aload_n 0, 1) := by decide +kernel
theorem dX5_rightWithRow_12 : decode cX5_rightWithRow 12 = .ok (.getfield 16, 3) := by decide +kernel
theorem dX5_rightWithRow_15 : decode cX5_rightWithRow 15 = .ok (.getfield 62, 3) := by decide +kernel
theorem dX5_rightWithRow_18 : decode cX5_rightWithRow 18 = .ok (.iload_n 1, 1) := by decide +kernel
theorem dX5_rightWithRow_19 : decode cX5_rightWithRow 19 = .ok (.iload_n 2, 1) := by decide +kernel
theorem dX5_rightWithRow_20 : decode cX5_rightWithRow 20 = .ok (.invokevirtual 71, 3) := by decide +kernel
theorem dX5_rightWithRow_23 : decode cX5_rightWithRow 23 = .ok (.aload_n 0, 1) := by decide +kernel
theorem dX5_rightWithRow_24 : decode cX5_rightWithRow 24 = .ok (.getfield 16, 3) := by decide +kernel
theorem dX5_rightWithRow_27 : decode cX5_rightWithRow 27 = .ok (.bipush 64, 2) := by decide +kernel
theorem dX5_rightWithRow_29 : decode cX5_rightWithRow 29 = .ok (.invokevirtual 100, 3) := by decide +kernel
theorem dX5_rightWithRow_32 : decode cX5_rightWithRow 32 = .ok (.pop, 1) := by decide +kernel
theorem dX5_rightWithRow_33 : decode cX5_rightWithRow 33 = .ok (.aload_n 0, 1) := by decide +kernel
theorem dX5_rightWithRow_34 : decode cX5_rightWithRow 34 = .ok (.getfield 16, 3) := by decide +kernel
theorem dX5_rightWithRow_37 : decode cX5_rightWithRow 37 = .ok (.getfield 167, 3) := by decide +kernel
theorem dX5_rightWithRow_40 : decode cX5_rightWithRow 40 = .ok (.aload_n 0, 1) := by decide +kernel
theorem dX5_rightWithRow_41 : decode cX5_rightWithRow 41 = .ok (.getfield 10, 3) := by decide +kernel
theorem dX5_rightWithRow_44 : decode cX5_rightWithRow 44 = .ok (.getfield 167, 3) := by decide +kernel
theorem dX5_rightWithRow_47 : decode cX5_rightWithRow 47 = .ok (.isub, 1) := by decide +kernel
theorem dX5_rightWithRow_48 : decode cX5_rightWithRow 48 = .ok (.ireturn, 1) := by decide +kernel
set_option maxRecDepth 20000 in
theorem ggX5_nextStampsByStep_X1_hasPeg : GoodIn wsX5_nextStampsByStep wsX1_hasPeg := goodIn_r _ [9, 10, 33, 34, 35, 36] (by decide +kernel) (by decide +kernel)
set_option maxRecDepth 20000 in
theorem gX5_nextStampsByStep_X1_hasPeg : GoodIn wsX5_nextStampsByStep (wsV RX5 142 RX1 yX1_hasPeg wsX1_hasPeg) := goodIn_app (goodIn_of _ (by decide +kernel)) ggX5_nextStampsByStep_X1_hasPeg
set_option maxRecDepth 20000 in
theorem ggX5_nextStampsByStep_X1_rowBehind : GoodIn wsX5_nextStampsByStep wsX1_rowBehind := goodIn_r _ [13] (by decide +kernel) (by decide +kernel)
set_option maxRecDepth 20000 in
theorem gX5_nextStampsByStep_X1_rowBehind : GoodIn wsX5_nextStampsByStep (va_wsS RX5 217 yX1_rowBehind wsX1_rowBehind) := goodIn_app (goodIn_of _ (by decide +kernel)) ggX5_nextStampsByStep_X1_rowBehind
theorem dX5_nextStampsByStep_0 : decode cX5_nextStampsByStep 0 = .ok (.iconst 0, 1) := by decide +kernel
theorem dX5_nextStampsByStep_1 : decode cX5_nextStampsByStep 1 = .ok (.istore_n 1, 1) := by decide +kernel
theorem dX5_nextStampsByStep_2 : decode cX5_nextStampsByStep 2 = .ok (.aload_n 0, 1) := by decide +kernel
theorem dX5_nextStampsByStep_3 : decode cX5_nextStampsByStep 3 = .ok (.getfield 10, 3) := by decide +kernel
theorem dX5_nextStampsByStep_6 : decode cX5_nextStampsByStep 6 = .ok (.getfield 62, 3) := by decide +kernel
theorem dX5_nextStampsByStep_9 : decode cX5_nextStampsByStep 9 = .ok (.getfield 103, 3) := by decide +kernel
theorem dX5_nextStampsByStep_12 : decode cX5_nextStampsByStep 12 = .ok (.istore_n 2, 1) := by decide +kernel
theorem dX5_nextStampsByStep_13 : decode cX5_nextStampsByStep 13 = .ok (.iconst 0, 1) := by decide +kernel
theorem dX5_nextStampsByStep_14 : decode cX5_nextStampsByStep 14 = .ok (.istore_n 3, 1) := by decide +kernel
theorem dX5_nextStampsByStep_15 : decode cX5_nextStampsByStep 15 = .ok (.iload_n 3, 1) := by decide +kernel
theorem dX5_nextStampsByStep_16 : decode cX5_nextStampsByStep 16 = .ok (.aload_n 0, 1) := by decide +kernel
theorem dX5_nextStampsByStep_17 : decode cX5_nextStampsByStep 17 = .ok (.getfield 10, 3) := by decide +kernel
theorem dX5_nextStampsByStep_20 : decode cX5_nextStampsByStep 20 = .ok (.getfield 52, 3) := by decide +kernel
theorem dX5_nextStampsByStep_23 : decode cX5_nextStampsByStep 23 = .ok (.iconst 0, 1) := by decide +kernel
theorem dX5_nextStampsByStep_24 : decode cX5_nextStampsByStep 24 = .ok (.iaload, 1) := by decide +kernel
theorem dX5_nextStampsByStep_25 : decode cX5_nextStampsByStep 25 = .ok (.if_icmp .ge 53, 3) := by decide +kernel
theorem dX5_nextStampsByStep_28 : decode cX5_nextStampsByStep 28 = .ok (.iconst 0, 1) := by decide +kernel
theorem dX5_nextStampsByStep_29 : decode cX5_nextStampsByStep 29 = .ok (.istore 4, 2) := by decide +kernel
theorem dX5_nextStampsByStep_31 : decode cX5_nextStampsByStep 31 = .ok (.iload 4, 2) := by decide +kernel
theorem dX5_nextStampsByStep_33 : decode cX5_nextStampsByStep 33 = .ok (.bipush 6, 2) := by decide +kernel
theorem dX5_nextStampsByStep_35 : decode cX5_nextStampsByStep 35 = .ok (.if_icmp .ge 32, 3) := by decide +kernel
theorem dX5_nextStampsByStep_38 : decode cX5_nextStampsByStep 38 = .ok (.aload_n 0, 1) := by decide +kernel
theorem dX5_nextStampsByStep_39 : decode cX5_nextStampsByStep 39 = .ok (.getfield 10, 3) := by decide +kernel
theorem dX5_nextStampsByStep_42 : decode cX5_nextStampsByStep 42 = .ok (.getfield 62, 3) := by decide +kernel
theorem dX5_nextStampsByStep_45 : decode cX5_nextStampsByStep 45 = .ok (.iload_n 2, 1) := by decide +kernel
theorem dX5_nextStampsByStep_46 : decode cX5_nextStampsByStep 46 = .ok (.iload 4, 2) := by decide +kernel
theorem dX5_nextStampsByStep_48 : decode cX5_nextStampsByStep 48 = .ok (.invokevirtual 142, 3) := by decide +kernel
theorem dX5_nextStampsByStep_51 : decode cX5_nextStampsByStep 51 = .ok (.ifCond .eq 10, 3) := by decide +kernel
theorem dX5_nextStampsByStep_54 : decode cX5_nextStampsByStep 54 = .ok (.iload_n 1, 1) := by decide +kernel
theorem dX5_nextStampsByStep_55 : decode cX5_nextStampsByStep 55 = .ok (.iconst 1, 1) := by decide +kernel
theorem dX5_nextStampsByStep_56 : decode cX5_nextStampsByStep 56 = .ok (.iload 4, 2) := by decide +kernel
theorem dX5_nextStampsByStep_58 : decode cX5_nextStampsByStep 58 = .ok (.ishl, 1) := by decide +kernel
theorem dX5_nextStampsByStep_59 : decode cX5_nextStampsByStep 59 = .ok (.ior, 1) := by decide +kernel
theorem dX5_nextStampsByStep_60 : decode cX5_nextStampsByStep 60 = .ok (.istore_n 1, 1) := by decide +kernel
theorem dX5_nextStampsByStep_61 : decode cX5_nextStampsByStep 61 = .ok (.iinc 4 1, 3) := by decide +kernel
theorem dX5_nextStampsByStep_64 : decode cX5_nextStampsByStep 64 = .ok (.goto (-33), 3) := by decide +kernel
theorem dX5_nextStampsByStep_67 : decode cX5_nextStampsByStep 67 = .ok (.iload_n 2, 1) := by decide +kernel
theorem dX5_nextStampsByStep_68 : decode cX5_nextStampsByStep 68 = .ok (.invokestatic 217, 3) := by decide +kernel
theorem dX5_nextStampsByStep_71 : decode cX5_nextStampsByStep 71 = .ok (.istore_n 2, 1) := by decide +kernel
theorem dX5_nextStampsByStep_72 : decode cX5_nextStampsByStep 72 = .ok (.iinc 3 1, 3) := by decide +kernel
theorem dX5_nextStampsByStep_75 : decode cX5_nextStampsByStep 75 = .ok (.goto (-60), 3) := by decide +kernel
theorem dX5_nextStampsByStep_78 : decode cX5_nextStampsByStep 78 = .ok (.iload_n 1, 1) := by decide +kernel
theorem dX5_nextStampsByStep_79 : decode cX5_nextStampsByStep 79 = .ok (.ireturn, 1) := by decide +kernel
set_option maxRecDepth 20000 in
theorem ggX5_nextStampsByPegs_J9_floorMod_7cf53 : GoodIn wsX5_nextStampsByPegs wsJ9_floorMod_7cf53 := goodIn_r _ [9] (by decide +kernel) (by decide +kernel)
set_option maxRecDepth 20000 in
theorem gX5_nextStampsByPegs_J9_floorMod_7cf53 : GoodIn wsX5_nextStampsByPegs (va_wsS RX5 136 yJ9_floorMod_7cf53 wsJ9_floorMod_7cf53) := goodIn_app (goodIn_of _ (by decide +kernel)) ggX5_nextStampsByPegs_J9_floorMod_7cf53
theorem dX5_nextStampsByPegs_0 : decode cX5_nextStampsByPegs 0 = .ok (.iconst 0, 1) := by decide +kernel
theorem dX5_nextStampsByPegs_1 : decode cX5_nextStampsByPegs 1 = .ok (.istore_n 1, 1) := by decide +kernel
theorem dX5_nextStampsByPegs_2 : decode cX5_nextStampsByPegs 2 = .ok (.iconst 0, 1) := by decide +kernel
theorem dX5_nextStampsByPegs_3 : decode cX5_nextStampsByPegs 3 = .ok (.istore_n 2, 1) := by decide +kernel
theorem dX5_nextStampsByPegs_4 : decode cX5_nextStampsByPegs 4 = .ok (.iload_n 2, 1) := by decide +kernel
theorem dX5_nextStampsByPegs_5 : decode cX5_nextStampsByPegs 5 = .ok (.aload_n 0, 1) := by decide +kernel
theorem dX5_nextStampsByPegs_6 : decode cX5_nextStampsByPegs 6 = .ok (.getfield 10, 3) := by decide +kernel
theorem dX5_nextStampsByPegs_9 : decode cX5_nextStampsByPegs 9 = .ok (.getfield 52, 3) := by decide +kernel
theorem dX5_nextStampsByPegs_12 : decode cX5_nextStampsByPegs 12 = .ok (.iconst 0, 1) := by decide +kernel
theorem dX5_nextStampsByPegs_13 : decode cX5_nextStampsByPegs 13 = .ok (.iaload, 1) := by decide +kernel
theorem dX5_nextStampsByPegs_14 : decode cX5_nextStampsByPegs 14 = .ok (.if_icmp .ge 40, 3) := by decide +kernel
theorem dX5_nextStampsByPegs_17 : decode cX5_nextStampsByPegs 17 = .ok (.iload_n 1, 1) := by decide +kernel
theorem dX5_nextStampsByPegs_18 : decode cX5_nextStampsByPegs 18 = .ok (.aload_n 0, 1) := by decide +kernel
theorem dX5_nextStampsByPegs_19 : decode cX5_nextStampsByPegs 19 = .ok (.getfield 10, 3) := by decide +kernel
theorem dX5_nextStampsByPegs_22 : decode cX5_nextStampsByPegs 22 = .ok (.getfield 62, 3) := by decide +kernel
theorem dX5_nextStampsByPegs_25 : decode cX5_nextStampsByPegs 25 = .ok (.getfield 66, 3) := by decide +kernel
theorem dX5_nextStampsByPegs_28 : decode cX5_nextStampsByPegs 28 = .ok (.aload_n 0, 1) := by decide +kernel
theorem dX5_nextStampsByPegs_29 : decode cX5_nextStampsByPegs 29 = .ok (.getfield 10, 3) := by decide +kernel
theorem dX5_nextStampsByPegs_32 : decode cX5_nextStampsByPegs 32 = .ok (.getfield 62, 3) := by decide +kernel
theorem dX5_nextStampsByPegs_35 : decode cX5_nextStampsByPegs 35 = .ok (.getfield 103, 3) := by decide +kernel
theorem dX5_nextStampsByPegs_38 : decode cX5_nextStampsByPegs 38 = .ok (.iload_n 2, 1) := by decide +kernel
theorem dX5_nextStampsByPegs_39 : decode cX5_nextStampsByPegs 39 = .ok (.iadd, 1) := by decide +kernel
theorem dX5_nextStampsByPegs_40 : decode cX5_nextStampsByPegs 40 = .ok (.bipush 16, 2) := by decide +kernel
theorem dX5_nextStampsByPegs_42 : decode cX5_nextStampsByPegs 42 = .ok (.invokestatic 136, 3) := by decide +kernel
theorem dX5_nextStampsByPegs_45 : decode cX5_nextStampsByPegs 45 = .ok (.iaload, 1) := by decide +kernel
theorem dX5_nextStampsByPegs_46 : decode cX5_nextStampsByPegs 46 = .ok (.ior, 1) := by decide +kernel
theorem dX5_nextStampsByPegs_47 : decode cX5_nextStampsByPegs 47 = .ok (.istore_n 1, 1) := by decide +kernel
theorem dX5_nextStampsByPegs_48 : decode cX5_nextStampsByPegs 48 = .ok (.iinc 2 1, 3) := by decide +kernel
theorem dX5_nextStampsByPegs_51 : decode cX5_nextStampsByPegs 51 = .ok (.goto (-47), 3) := by decide +kernel
theorem dX5_nextStampsByPegs_54 : decode cX5_nextStampsByPegs 54 = .ok (.iload_n 1, 1) := by decide +kernel
theorem dX5_nextStampsByPegs_55 : decode cX5_nextStampsByPegs 55 = .ok (.ireturn, 1) := by decide +kernel
theorem dJ6_bitCount_0f7a4_0 : decode cJ6_bitCount_0f7a4 0 = .ok (.iload_n 0, 1) := by decide +kernel
theorem dJ6_bitCount_0f7a4_1 : decode cJ6_bitCount_0f7a4 1 = .ok (.iload_n 0, 1) := by decide +kernel
theorem dJ6_bitCount_0f7a4_2 : decode cJ6_bitCount_0f7a4 2 = .ok (.iconst 1, 1) := by decide +kernel
theorem dJ6_bitCount_0f7a4_3 : decode cJ6_bitCount_0f7a4 3 = .ok (.iushr, 1) := by decide +kernel
theorem dJ6_bitCount_0f7a4_4 : decode cJ6_bitCount_0f7a4 4 = .ok (.ldc_w 265, 3) := by decide +kernel
theorem dJ6_bitCount_0f7a4_7 : decode cJ6_bitCount_0f7a4 7 = .ok (.iand, 1) := by decide +kernel
theorem dJ6_bitCount_0f7a4_8 : decode cJ6_bitCount_0f7a4 8 = .ok (.isub, 1) := by decide +kernel
theorem dJ6_bitCount_0f7a4_9 : decode cJ6_bitCount_0f7a4 9 = .ok (.istore_n 0, 1) := by decide +kernel
theorem dJ6_bitCount_0f7a4_10 : decode cJ6_bitCount_0f7a4 10 = .ok (.iload_n 0, 1) := by decide +kernel
theorem dJ6_bitCount_0f7a4_11 : decode cJ6_bitCount_0f7a4 11 = .ok (.ldc_w 266, 3) := by decide +kernel
theorem dJ6_bitCount_0f7a4_14 : decode cJ6_bitCount_0f7a4 14 = .ok (.iand, 1) := by decide +kernel
theorem dJ6_bitCount_0f7a4_15 : decode cJ6_bitCount_0f7a4 15 = .ok (.iload_n 0, 1) := by decide +kernel
theorem dJ6_bitCount_0f7a4_16 : decode cJ6_bitCount_0f7a4 16 = .ok (.iconst 2, 1) := by decide +kernel
theorem dJ6_bitCount_0f7a4_17 : decode cJ6_bitCount_0f7a4 17 = .ok (.iushr, 1) := by decide +kernel
theorem dJ6_bitCount_0f7a4_18 : decode cJ6_bitCount_0f7a4 18 = .ok (.ldc_w 266, 3) := by decide +kernel
theorem dJ6_bitCount_0f7a4_21 : decode cJ6_bitCount_0f7a4 21 = .ok (.iand, 1) := by decide +kernel
theorem dJ6_bitCount_0f7a4_22 : decode cJ6_bitCount_0f7a4 22 = .ok (.iadd, 1) := by decide +kernel
theorem dJ6_bitCount_0f7a4_23 : decode cJ6_bitCount_0f7a4 23 = .ok (.istore_n 0, 1) := by decide +kernel
theorem dJ6_bitCount_0f7a4_24 : decode cJ6_bitCount_0f7a4 24 = .ok (.iload_n 0, 1) := by decide +kernel
theorem dJ6_bitCount_0f7a4_25 : decode cJ6_bitCount_0f7a4 25 = .ok (.iload_n 0, 1) := by decide +kernel
theorem dJ6_bitCount_0f7a4_26 : decode cJ6_bitCount_0f7a4 26 = .ok (.iconst 4, 1) := by decide +kernel
theorem dJ6_bitCount_0f7a4_27 : decode cJ6_bitCount_0f7a4 27 = .ok (.iushr, 1) := by decide +kernel
theorem dJ6_bitCount_0f7a4_28 : decode cJ6_bitCount_0f7a4 28 = .ok (.iadd, 1) := by decide +kernel
theorem dJ6_bitCount_0f7a4_29 : decode cJ6_bitCount_0f7a4 29 = .ok (.ldc_w 267, 3) := by decide +kernel
theorem dJ6_bitCount_0f7a4_32 : decode cJ6_bitCount_0f7a4 32 = .ok (.iand, 1) := by decide +kernel
theorem dJ6_bitCount_0f7a4_33 : decode cJ6_bitCount_0f7a4 33 = .ok (.istore_n 0, 1) := by decide +kernel
theorem dJ6_bitCount_0f7a4_34 : decode cJ6_bitCount_0f7a4 34 = .ok (.iload_n 0, 1) := by decide +kernel
theorem dJ6_bitCount_0f7a4_35 : decode cJ6_bitCount_0f7a4 35 = .ok (.iload_n 0, 1) := by decide +kernel
theorem dJ6_bitCount_0f7a4_36 : decode cJ6_bitCount_0f7a4 36 = .ok (.bipush 8, 2) := by decide +kernel
theorem dJ6_bitCount_0f7a4_38 : decode cJ6_bitCount_0f7a4 38 = .ok (.iushr, 1) := by decide +kernel
theorem dJ6_bitCount_0f7a4_39 : decode cJ6_bitCount_0f7a4 39 = .ok (.iadd, 1) := by decide +kernel
theorem dJ6_bitCount_0f7a4_40 : decode cJ6_bitCount_0f7a4 40 = .ok (.istore_n 0, 1) := by decide +kernel
theorem dJ6_bitCount_0f7a4_41 : decode cJ6_bitCount_0f7a4 41 = .ok (.iload_n 0, 1) := by decide +kernel
theorem dJ6_bitCount_0f7a4_42 : decode cJ6_bitCount_0f7a4 42 = .ok (.iload_n 0, 1) := by decide +kernel
theorem dJ6_bitCount_0f7a4_43 : decode cJ6_bitCount_0f7a4 43 = .ok (.bipush 16, 2) := by decide +kernel
theorem dJ6_bitCount_0f7a4_45 : decode cJ6_bitCount_0f7a4 45 = .ok (.iushr, 1) := by decide +kernel
theorem dJ6_bitCount_0f7a4_46 : decode cJ6_bitCount_0f7a4 46 = .ok (.iadd, 1) := by decide +kernel
theorem dJ6_bitCount_0f7a4_47 : decode cJ6_bitCount_0f7a4 47 = .ok (.istore_n 0, 1) := by decide +kernel
theorem dJ6_bitCount_0f7a4_48 : decode cJ6_bitCount_0f7a4 48 = .ok (.iload_n 0, 1) := by decide +kernel
theorem dJ6_bitCount_0f7a4_49 : decode cJ6_bitCount_0f7a4 49 = .ok (.bipush 63, 2) := by decide +kernel
theorem dJ6_bitCount_0f7a4_51 : decode cJ6_bitCount_0f7a4 51 = .ok (.iand, 1) := by decide +kernel
theorem dJ6_bitCount_0f7a4_52 : decode cJ6_bitCount_0f7a4 52 = .ok (.ireturn, 1) := by decide +kernel
theorem dJ9_floorMod_7cf53_0 : decode cJ9_floorMod_7cf53 0 = .ok (.iload_n 0, 1) := by decide +kernel
theorem dJ9_floorMod_7cf53_1 : decode cJ9_floorMod_7cf53 1 = .ok (.iload_n 1, 1) := by decide +kernel
theorem dJ9_floorMod_7cf53_2 : decode cJ9_floorMod_7cf53 2 = .ok (.irem, 1) := by decide +kernel
theorem dJ9_floorMod_7cf53_3 : decode cJ9_floorMod_7cf53 3 = .ok (.istore_n 2, 1) := by decide +kernel
theorem dJ9_floorMod_7cf53_4 : decode cJ9_floorMod_7cf53 4 = .ok (.iload_n 0, 1) := by decide +kernel
theorem dJ9_floorMod_7cf53_5 : decode cJ9_floorMod_7cf53 5 = .ok (.iload_n 1, 1) := by decide +kernel
theorem dJ9_floorMod_7cf53_6 : decode cJ9_floorMod_7cf53 6 = .ok (.ixor, 1) := by decide +kernel
theorem dJ9_floorMod_7cf53_7 : decode cJ9_floorMod_7cf53 7 = .ok (.ifCond .ge 11, 3) := by decide +kernel
theorem dJ9_floorMod_7cf53_10 : decode cJ9_floorMod_7cf53 10 = .ok (.iload_n 2, 1) := by decide +kernel
theorem dJ9_floorMod_7cf53_11 : decode cJ9_floorMod_7cf53 11 = .ok (.ifCond .eq 7, 3) := by decide +kernel
theorem dJ9_floorMod_7cf53_14 : decode cJ9_floorMod_7cf53 14 = .ok (.iload_n 2, 1) := by decide +kernel
theorem dJ9_floorMod_7cf53_15 : decode cJ9_floorMod_7cf53 15 = .ok (.iload_n 1, 1) := by decide +kernel
theorem dJ9_floorMod_7cf53_16 : decode cJ9_floorMod_7cf53 16 = .ok (.iadd, 1) := by decide +kernel
theorem dJ9_floorMod_7cf53_17 : decode cJ9_floorMod_7cf53 17 = .ok (.ireturn, 1) := by decide +kernel
theorem dJ9_floorMod_7cf53_18 : decode cJ9_floorMod_7cf53 18 = .ok (.iload_n 2, 1) := by decide +kernel
theorem dJ9_floorMod_7cf53_19 : decode cJ9_floorMod_7cf53 19 = .ok (.ireturn, 1) := by decide +kernel
theorem dJ9_min_7cf53_0 : decode cJ9_min_7cf53 0 = .ok (.iload_n 0, 1) := by decide +kernel
theorem dJ9_min_7cf53_1 : decode cJ9_min_7cf53 1 = .ok (.iload_n 1, 1) := by decide +kernel
theorem dJ9_min_7cf53_2 : decode cJ9_min_7cf53 2 = .ok (.if_icmp .gt 7, 3) := by decide +kernel
theorem dJ9_min_7cf53_5 : decode cJ9_min_7cf53 5 = .ok (.iload_n 0, 1) := by decide +kernel
theorem dJ9_min_7cf53_6 : decode cJ9_min_7cf53 6 = .ok (.goto 4, 3) := by decide +kernel
theorem dJ9_min_7cf53_9 : decode cJ9_min_7cf53 9 = .ok (.iload_n 1, 1) := by decide +kernel
theorem dJ9_min_7cf53_10 : decode cJ9_min_7cf53 10 = .ok (.ireturn, 1) := by decide +kernel
