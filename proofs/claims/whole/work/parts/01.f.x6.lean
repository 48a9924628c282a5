set_option maxRecDepth 20000 in
theorem ggX6_set_X6_isSetting : GoodIn wsX6_set wsX6_isSetting := goodIn_r _ [5, 6, 7, 8, 9, 10, 11, 4, 12] (by decide +kernel) (by decide +kernel)
set_option maxRecDepth 20000 in
theorem gX6_set_X6_isSetting : GoodIn wsX6_set (va_wsS RX6 88 yX6_isSetting wsX6_isSetting) := goodIn_app (goodIn_of _ (by decide +kernel)) ggX6_set_X6_isSetting
set_option maxRecDepth 20000 in
theorem ggX6_set_X6_changes : GoodIn wsX6_set wsX6_changes := goodIn_r _ [16, 17, 18, 1, 19, 20, 21, 22, 23, 24, 25, 26, 27, 28, 29, 30] (by decide +kernel) (by decide +kernel)
set_option maxRecDepth 20000 in
theorem gX6_set_X6_changes : GoodIn wsX6_set (wsV RX6 91 RX6 yX6_changes wsX6_changes) := goodIn_app (goodIn_of _ (by decide +kernel)) ggX6_set_X6_changes
theorem dX6_set_0 : decode cX6_set 0 = .ok (.iload_n 1, 1) := by decide +kernel
theorem dX6_set_1 : decode cX6_set 1 = .ok (.iload_n 2, 1) := by decide +kernel
theorem dX6_set_2 : decode cX6_set 2 = .ok (.invokestatic 88, 3) := by decide +kernel
theorem dX6_set_5 : decode cX6_set 5 = .ok (.ifCond .ne 6, 3) := by decide +kernel
theorem dX6_set_8 : decode cX6_set 8 = .ok (.bipush (-2), 2) := by decide +kernel
theorem dX6_set_10 : decode cX6_set 10 = .ok (.ireturn, 1) := by decide +kernel
theorem dX6_set_11 : decode cX6_set 11 = .ok (.aload_n 0, 1) := by decide +kernel
theorem dX6_set_12 : decode cX6_set 12 = .ok (.invokevirtual 91, 3) := by decide +kernel
theorem dX6_set_15 : decode cX6_set 15 = .ok (.aload_n 0, 1) := by decide +kernel
theorem dX6_set_16 : decode cX6_set 16 = .ok (.getfield 7, 3) := by decide +kernel
theorem dX6_set_19 : decode cX6_set 19 = .ok (.iload_n 1, 1) := by decide +kernel
theorem dX6_set_20 : decode cX6_set 20 = .ok (.iaload, 1) := by decide +kernel
theorem dX6_set_21 : decode cX6_set 21 = .ok (.istore_n 3, 1) := by decide +kernel
theorem dX6_set_22 : decode cX6_set 22 = .ok (.aload_n 0, 1) := by decide +kernel
theorem dX6_set_23 : decode cX6_set 23 = .ok (.getfield 7, 3) := by decide +kernel
theorem dX6_set_26 : decode cX6_set 26 = .ok (.iload_n 1, 1) := by decide +kernel
theorem dX6_set_27 : decode cX6_set 27 = .ok (.iload_n 2, 1) := by decide +kernel
theorem dX6_set_28 : decode cX6_set 28 = .ok (.iastore, 1) := by decide +kernel
theorem dX6_set_29 : decode cX6_set 29 = .ok (.iload_n 3, 1) := by decide +kernel
theorem dX6_set_30 : decode cX6_set 30 = .ok (.ireturn, 1) := by decide +kernel
set_option maxRecDepth 20000 in
theorem ggX6_peg_X6_isRow : GoodIn wsX6_peg wsX6_isRow := goodIn_r _ [5, 6, 7, 8, 4, 9] (by decide +kernel) (by decide +kernel)
set_option maxRecDepth 20000 in
theorem gX6_peg_X6_isRow : GoodIn wsX6_peg (va_wsS RX6 94 yX6_isRow wsX6_isRow) := goodIn_app (goodIn_of _ (by decide +kernel)) ggX6_peg_X6_isRow
set_option maxRecDepth 20000 in
theorem ggX6_peg_X6_isPlace : GoodIn wsX6_peg wsX6_isPlace := goodIn_r _ [12, 13, 7, 8, 4, 9] (by decide +kernel) (by decide +kernel)
set_option maxRecDepth 20000 in
theorem gX6_peg_X6_isPlace : GoodIn wsX6_peg (va_wsS RX6 97 yX6_isPlace wsX6_isPlace) := goodIn_app (goodIn_of _ (by decide +kernel)) ggX6_peg_X6_isPlace
set_option maxRecDepth 20000 in
theorem ggX6_peg_X6_changes : GoodIn wsX6_peg wsX6_changes := goodIn_r _ [17, 18, 19, 1, 31, 32, 33, 34, 35, 36, 37, 38, 39, 40, 41, 42] (by decide +kernel) (by decide +kernel)
set_option maxRecDepth 20000 in
theorem gX6_peg_X6_changes : GoodIn wsX6_peg (wsV RX6 91 RX6 yX6_changes wsX6_changes) := goodIn_app (goodIn_of _ (by decide +kernel)) ggX6_peg_X6_changes
set_option maxRecDepth 20000 in
theorem ggX6_peg_X6_at : GoodIn wsX6_peg wsX6_at := goodIn_r _ [22] (by decide +kernel) (by decide +kernel)
set_option maxRecDepth 20000 in
theorem gX6_peg_X6_at : GoodIn wsX6_peg (va_wsS RX6 46 yX6_at wsX6_at) := goodIn_app (goodIn_of _ (by decide +kernel)) ggX6_peg_X6_at
set_option maxRecDepth 20000 in
theorem ggX6_peg_X6_hasPeg : GoodIn wsX6_peg wsX6_hasPeg := goodIn_r _ [26, 1, 20, 21, 4, 22, 31, 32, 33, 34, 35, 36, 37, 38, 39, 40, 41, 42] (by decide +kernel) (by decide +kernel)
set_option maxRecDepth 20000 in
theorem gX6_peg_X6_hasPeg : GoodIn wsX6_peg (wsV RX6 50 RX6 yX6_hasPeg wsX6_hasPeg) := goodIn_app (goodIn_of _ (by decide +kernel)) ggX6_peg_X6_hasPeg
set_option maxRecDepth 20000 in
theorem ggX6_peg_X6_pegsIn : GoodIn wsX6_peg wsX6_pegsIn := goodIn_r _ [30, 23, 24, 25, 4, 26, 1, 20, 21, 22, 31, 32, 33, 34, 35, 36, 37, 38, 39, 40, 41, 42] (by decide +kernel) (by decide +kernel)
set_option maxRecDepth 20000 in
theorem gX6_peg_X6_pegsIn : GoodIn wsX6_peg (wsV RX6 54 RX6 yX6_pegsIn wsX6_pegsIn) := goodIn_app (goodIn_of _ (by decide +kernel)) ggX6_peg_X6_pegsIn
theorem dX6_peg_0 : decode cX6_peg 0 = .ok (.iload_n 1, 1) := by decide +kernel
theorem dX6_peg_1 : decode cX6_peg 1 = .ok (.invokestatic 94, 3) := by decide +kernel
theorem dX6_peg_4 : decode cX6_peg 4 = .ok (.ifCond .eq 10, 3) := by decide +kernel
theorem dX6_peg_7 : decode cX6_peg 7 = .ok (.iload_n 2, 1) := by decide +kernel
theorem dX6_peg_8 : decode cX6_peg 8 = .ok (.invokestatic 97, 3) := by decide +kernel
theorem dX6_peg_11 : decode cX6_peg 11 = .ok (.ifCond .ne 5, 3) := by decide +kernel
theorem dX6_peg_14 : decode cX6_peg 14 = .ok (.iconst (-1), 1) := by decide +kernel
theorem dX6_peg_15 : decode cX6_peg 15 = .ok (.ireturn, 1) := by decide +kernel
theorem dX6_peg_16 : decode cX6_peg 16 = .ok (.aload_n 0, 1) := by decide +kernel
theorem dX6_peg_17 : decode cX6_peg 17 = .ok (.invokevirtual 91, 3) := by decide +kernel
theorem dX6_peg_20 : decode cX6_peg 20 = .ok (.aload_n 0, 1) := by decide +kernel
theorem dX6_peg_21 : decode cX6_peg 21 = .ok (.getfield 7, 3) := by decide +kernel
theorem dX6_peg_24 : decode cX6_peg 24 = .ok (.iload_n 1, 1) := by decide +kernel
theorem dX6_peg_25 : decode cX6_peg 25 = .ok (.iload_n 2, 1) := by decide +kernel
theorem dX6_peg_26 : decode cX6_peg 26 = .ok (.invokestatic 46, 3) := by decide +kernel
theorem dX6_peg_29 : decode cX6_peg 29 = .ok (.aload_n 0, 1) := by decide +kernel
theorem dX6_peg_30 : decode cX6_peg 30 = .ok (.iload_n 1, 1) := by decide +kernel
theorem dX6_peg_31 : decode cX6_peg 31 = .ok (.iload_n 2, 1) := by decide +kernel
theorem dX6_peg_32 : decode cX6_peg 32 = .ok (.invokevirtual 50, 3) := by decide +kernel
theorem dX6_peg_35 : decode cX6_peg 35 = .ok (.ifCond .eq 8, 3) := by decide +kernel
theorem dX6_peg_38 : decode cX6_peg 38 = .ok (.bipush (-6), 2) := by decide +kernel
theorem dX6_peg_40 : decode cX6_peg 40 = .ok (.goto 4, 3) := by decide +kernel
theorem dX6_peg_43 : decode cX6_peg 43 = .ok (.iconst 0, 1) := by decide +kernel
theorem dX6_peg_44 : decode cX6_peg 44 = .ok (.iastore, 1) := by decide +kernel
theorem dX6_peg_45 : decode cX6_peg 45 = .ok (.aload_n 0, 1) := by decide +kernel
theorem dX6_peg_46 : decode cX6_peg 46 = .ok (.iload_n 1, 1) := by decide +kernel
theorem dX6_peg_47 : decode cX6_peg 47 = .ok (.invokevirtual 54, 3) := by decide +kernel
theorem dX6_peg_50 : decode cX6_peg 50 = .ok (.ireturn, 1) := by decide +kernel
set_option maxRecDepth 20000 in
theorem ggX6_order_X6_in : GoodIn wsX6_order wsX6_in := goodIn_r _ [6] (by decide +kernel) (by decide +kernel)
set_option maxRecDepth 20000 in
theorem gX6_order_X6_in : GoodIn wsX6_order (va_wsS RX6 40 yX6_in wsX6_in) := goodIn_app (goodIn_of _ (by decide +kernel)) ggX6_order_X6_in
set_option maxRecDepth 20000 in
theorem ggX6_order_X6_changes : GoodIn wsX6_order wsX6_changes := goodIn_r _ [10, 11, 12, 2, 13, 14, 15, 16, 17, 18, 19, 20, 21, 22, 23, 24] (by decide +kernel) (by decide +kernel)
set_option maxRecDepth 20000 in
theorem gX6_order_X6_changes : GoodIn wsX6_order (wsV RX6 91 RX6 yX6_changes wsX6_changes) := goodIn_app (goodIn_of _ (by decide +kernel)) ggX6_order_X6_changes
theorem dX6_order_0 : decode cX6_order 0 = .ok (.iload_n 1, 1) := by decide +kernel
theorem dX6_order_1 : decode cX6_order 1 = .ok (.i2l, 1) := by decide +kernel
theorem dX6_order_2 : decode cX6_order 2 = .ok (.lconst 0, 1) := by decide +kernel
theorem dX6_order_3 : decode cX6_order 3 = .ok (.ldc2_w 100, 3) := by decide +kernel
theorem dX6_order_6 : decode cX6_order 6 = .ok (.invokestatic 40, 3) := by decide +kernel
theorem dX6_order_9 : decode cX6_order 9 = .ok (.ifCond .ne 6, 3) := by decide +kernel
theorem dX6_order_12 : decode cX6_order 12 = .ok (.bipush (-2), 2) := by decide +kernel
theorem dX6_order_14 : decode cX6_order 14 = .ok (.ireturn, 1) := by decide +kernel
theorem dX6_order_15 : decode cX6_order 15 = .ok (.aload_n 0, 1) := by decide +kernel
theorem dX6_order_16 : decode cX6_order 16 = .ok (.invokevirtual 91, 3) := by decide +kernel
theorem dX6_order_19 : decode cX6_order 19 = .ok (.aload_n 0, 1) := by decide +kernel
theorem dX6_order_20 : decode cX6_order 20 = .ok (.getfield 7, 3) := by decide +kernel
theorem dX6_order_23 : decode cX6_order 23 = .ok (.bipush 6, 2) := by decide +kernel
theorem dX6_order_25 : decode cX6_order 25 = .ok (.iaload, 1) := by decide +kernel
theorem dX6_order_26 : decode cX6_order 26 = .ok (.istore_n 2, 1) := by decide +kernel
theorem dX6_order_27 : decode cX6_order 27 = .ok (.aload_n 0, 1) := by decide +kernel
theorem dX6_order_28 : decode cX6_order 28 = .ok (.getfield 7, 3) := by decide +kernel
theorem dX6_order_31 : decode cX6_order 31 = .ok (.bipush 6, 2) := by decide +kernel
theorem dX6_order_33 : decode cX6_order 33 = .ok (.iload_n 1, 1) := by decide +kernel
theorem dX6_order_34 : decode cX6_order 34 = .ok (.iastore, 1) := by decide +kernel
theorem dX6_order_35 : decode cX6_order 35 = .ok (.iload_n 2, 1) := by decide +kernel
theorem dX6_order_36 : decode cX6_order 36 = .ok (.ireturn, 1) := by decide +kernel
set_option maxRecDepth 20000 in
theorem ggX6_ink_X6_isPlace : GoodIn wsX6_ink wsX6_isPlace := goodIn_r _ [5, 6, 7, 8, 4, 9] (by decide +kernel) (by decide +kernel)
set_option maxRecDepth 20000 in
theorem gX6_ink_X6_isPlace : GoodIn wsX6_ink (va_wsS RX6 97 yX6_isPlace wsX6_isPlace) := goodIn_app (goodIn_of _ (by decide +kernel)) ggX6_ink_X6_isPlace
set_option maxRecDepth 20000 in
theorem ggX6_ink_X6_changes : GoodIn wsX6_ink wsX6_changes := goodIn_r _ [13, 14, 15, 1, 16, 17, 18, 19, 20, 21, 22, 23, 24, 25, 26, 27] (by decide +kernel) (by decide +kernel)
set_option maxRecDepth 20000 in
theorem gX6_ink_X6_changes : GoodIn wsX6_ink (wsV RX6 91 RX6 yX6_changes wsX6_changes) := goodIn_app (goodIn_of _ (by decide +kernel)) ggX6_ink_X6_changes
theorem dX6_ink_0 : decode cX6_ink 0 = .ok (.iload_n 1, 1) := by decide +kernel
theorem dX6_ink_1 : decode cX6_ink 1 = .ok (.invokestatic 97, 3) := by decide +kernel
theorem dX6_ink_4 : decode cX6_ink 4 = .ok (.ifCond .ne 5, 3) := by decide +kernel
theorem dX6_ink_7 : decode cX6_ink 7 = .ok (.iconst (-1), 1) := by decide +kernel
theorem dX6_ink_8 : decode cX6_ink 8 = .ok (.ireturn, 1) := by decide +kernel
theorem dX6_ink_9 : decode cX6_ink 9 = .ok (.aload_n 0, 1) := by decide +kernel
theorem dX6_ink_10 : decode cX6_ink 10 = .ok (.invokevirtual 91, 3) := by decide +kernel
theorem dX6_ink_13 : decode cX6_ink 13 = .ok (.bipush 99, 2) := by decide +kernel
theorem dX6_ink_15 : decode cX6_ink 15 = .ok (.aload_n 0, 1) := by decide +kernel
theorem dX6_ink_16 : decode cX6_ink 16 = .ok (.getfield 7, 3) := by decide +kernel
theorem dX6_ink_19 : decode cX6_ink 19 = .ok (.bipush 16, 2) := by decide +kernel
theorem dX6_ink_21 : decode cX6_ink 21 = .ok (.iload_n 1, 1) := by decide +kernel
theorem dX6_ink_22 : decode cX6_ink 22 = .ok (.iadd, 1) := by decide +kernel
theorem dX6_ink_23 : decode cX6_ink 23 = .ok (.iaload, 1) := by decide +kernel
theorem dX6_ink_24 : decode cX6_ink 24 = .ok (.isub, 1) := by decide +kernel
theorem dX6_ink_25 : decode cX6_ink 25 = .ok (.istore_n 2, 1) := by decide +kernel
theorem dX6_ink_26 : decode cX6_ink 26 = .ok (.aload_n 0, 1) := by decide +kernel
theorem dX6_ink_27 : decode cX6_ink 27 = .ok (.getfield 7, 3) := by decide +kernel
theorem dX6_ink_30 : decode cX6_ink 30 = .ok (.bipush 16, 2) := by decide +kernel
theorem dX6_ink_32 : decode cX6_ink 32 = .ok (.iload_n 1, 1) := by decide +kernel
theorem dX6_ink_33 : decode cX6_ink 33 = .ok (.iadd, 1) := by decide +kernel
theorem dX6_ink_34 : decode cX6_ink 34 = .ok (.bipush 99, 2) := by decide +kernel
theorem dX6_ink_36 : decode cX6_ink 36 = .ok (.iastore, 1) := by decide +kernel
theorem dX6_ink_37 : decode cX6_ink 37 = .ok (.iload_n 2, 1) := by decide +kernel
theorem dX6_ink_38 : decode cX6_ink 38 = .ok (.ireturn, 1) := by decide +kernel
set_option maxRecDepth 20000 in
theorem ggX6_step_X6_in : GoodIn wsX6_step wsX6_in := goodIn_r _ [7] (by decide +kernel) (by decide +kernel)
set_option maxRecDepth 20000 in
theorem gX6_step_X6_in : GoodIn wsX6_step (va_wsS RX6 40 yX6_in wsX6_in) := goodIn_app (goodIn_of _ (by decide +kernel)) ggX6_step_X6_in
set_option maxRecDepth 20000 in
theorem ggX6_step_X6_changes : GoodIn wsX6_step wsX6_changes := goodIn_r _ [11, 12, 13, 2, 53, 54, 55, 56, 57, 58, 59, 60, 61, 62, 63, 64] (by decide +kernel) (by decide +kernel)
set_option maxRecDepth 20000 in
theorem gX6_step_X6_changes : GoodIn wsX6_step (wsV RX6 91 RX6 yX6_changes wsX6_changes) := goodIn_app (goodIn_of _ (by decide +kernel)) ggX6_step_X6_changes
set_option maxRecDepth 20000 in
theorem ggX6_step_X6_stepsUpTo : GoodIn wsX6_step wsX6_stepsUpTo := goodIn_r _ [17, 18, 19, 20, 6, 21, 2, 22, 23, 24, 25, 26, 27, 28, 29, 30, 31, 32, 33, 34, 35, 36, 37, 38, 39, 40, 41, 42, 43, 44, 45, 46, 47, 48, 49, 50, 51, 52, 53, 54, 55, 56, 57, 58, 59, 60, 61, 62, 63, 64] (by decide +kernel) (by decide +kernel)
set_option maxRecDepth 20000 in
theorem gX6_step_X6_stepsUpTo : GoodIn wsX6_step (wsV RX6 105 RX6 yX6_stepsUpTo wsX6_stepsUpTo) := goodIn_app (goodIn_of _ (by decide +kernel)) ggX6_step_X6_stepsUpTo
theorem dX6_step_0 : decode cX6_step 0 = .ok (.iload_n 1, 1) := by decide +kernel
theorem dX6_step_1 : decode cX6_step 1 = .ok (.i2l, 1) := by decide +kernel
theorem dX6_step_2 : decode cX6_step 2 = .ok (.lconst 1, 1) := by decide +kernel
theorem dX6_step_3 : decode cX6_step 3 = .ok (.ldc2_w 102, 3) := by decide +kernel
theorem dX6_step_6 : decode cX6_step 6 = .ok (.invokestatic 40, 3) := by decide +kernel
theorem dX6_step_9 : decode cX6_step 9 = .ok (.ifCond .ne 6, 3) := by decide +kernel
theorem dX6_step_12 : decode cX6_step 12 = .ok (.bipush (-2), 2) := by decide +kernel
theorem dX6_step_14 : decode cX6_step 14 = .ok (.ireturn, 1) := by decide +kernel
theorem dX6_step_15 : decode cX6_step 15 = .ok (.aload_n 0, 1) := by decide +kernel
theorem dX6_step_16 : decode cX6_step 16 = .ok (.getfield 7, 3) := by decide +kernel
theorem dX6_step_19 : decode cX6_step 19 = .ok (.iconst 5, 1) := by decide +kernel
theorem dX6_step_20 : decode cX6_step 20 = .ok (.iaload, 1) := by decide +kernel
theorem dX6_step_21 : decode cX6_step 21 = .ok (.iconst 1, 1) := by decide +kernel
theorem dX6_step_22 : decode cX6_step 22 = .ok (.if_icmp .ne 6, 3) := by decide +kernel
theorem dX6_step_25 : decode cX6_step 25 = .ok (.bipush (-5), 2) := by decide +kernel
theorem dX6_step_27 : decode cX6_step 27 = .ok (.ireturn, 1) := by decide +kernel
theorem dX6_step_28 : decode cX6_step 28 = .ok (.aload_n 0, 1) := by decide +kernel
theorem dX6_step_29 : decode cX6_step 29 = .ok (.getfield 7, 3) := by decide +kernel
theorem dX6_step_32 : decode cX6_step 32 = .ok (.bipush 10, 2) := by decide +kernel
theorem dX6_step_34 : decode cX6_step 34 = .ok (.iaload, 1) := by decide +kernel
theorem dX6_step_35 : decode cX6_step 35 = .ok (.iload_n 1, 1) := by decide +kernel
theorem dX6_step_36 : decode cX6_step 36 = .ok (.iadd, 1) := by decide +kernel
theorem dX6_step_37 : decode cX6_step 37 = .ok (.ldc 104, 2) := by decide +kernel
theorem dX6_step_39 : decode cX6_step 39 = .ok (.if_icmp .le 6, 3) := by decide +kernel
theorem dX6_step_42 : decode cX6_step 42 = .ok (.bipush (-4), 2) := by decide +kernel
theorem dX6_step_44 : decode cX6_step 44 = .ok (.ireturn, 1) := by decide +kernel
theorem dX6_step_45 : decode cX6_step 45 = .ok (.aload_n 0, 1) := by decide +kernel
theorem dX6_step_46 : decode cX6_step 46 = .ok (.invokevirtual 91, 3) := by decide +kernel
theorem dX6_step_49 : decode cX6_step 49 = .ok (.aload_n 0, 1) := by decide +kernel
theorem dX6_step_50 : decode cX6_step 50 = .ok (.iload_n 1, 1) := by decide +kernel
theorem dX6_step_51 : decode cX6_step 51 = .ok (.invokevirtual 105, 3) := by decide +kernel
theorem dX6_step_54 : decode cX6_step 54 = .ok (.ireturn, 1) := by decide +kernel
set_option maxRecDepth 20000 in
theorem ggX6_free_X6_changes : GoodIn wsX6_free wsX6_changes := goodIn_r _ [6, 7, 8, 1, 9, 10, 11, 12, 13, 14, 15, 16, 17, 18, 19, 20] (by decide +kernel) (by decide +kernel)
set_option maxRecDepth 20000 in
theorem gX6_free_X6_changes : GoodIn wsX6_free (wsV RX6 91 RX6 yX6_changes wsX6_changes) := goodIn_app (goodIn_of _ (by decide +kernel)) ggX6_free_X6_changes
theorem dX6_free_0 : decode cX6_free 0 = .ok (.aload_n 0, 1) := by decide +kernel
theorem dX6_free_1 : decode cX6_free 1 = .ok (.getfield 7, 3) := by decide +kernel
theorem dX6_free_4 : decode cX6_free 4 = .ok (.iconst 5, 1) := by decide +kernel
theorem dX6_free_5 : decode cX6_free 5 = .ok (.iaload, 1) := by decide +kernel
theorem dX6_free_6 : decode cX6_free 6 = .ok (.ifCond .ne 6, 3) := by decide +kernel
theorem dX6_free_9 : decode cX6_free 9 = .ok (.bipush (-5), 2) := by decide +kernel
theorem dX6_free_11 : decode cX6_free 11 = .ok (.ireturn, 1) := by decide +kernel
theorem dX6_free_12 : decode cX6_free 12 = .ok (.aload_n 0, 1) := by decide +kernel
theorem dX6_free_13 : decode cX6_free 13 = .ok (.invokevirtual 91, 3) := by decide +kernel
theorem dX6_free_16 : decode cX6_free 16 = .ok (.aload_n 0, 1) := by decide +kernel
theorem dX6_free_17 : decode cX6_free 17 = .ok (.getfield 7, 3) := by decide +kernel
theorem dX6_free_20 : decode cX6_free 20 = .ok (.iconst 4, 1) := by decide +kernel
theorem dX6_free_21 : decode cX6_free 21 = .ok (.iaload, 1) := by decide +kernel
theorem dX6_free_22 : decode cX6_free 22 = .ok (.istore_n 1, 1) := by decide +kernel
theorem dX6_free_23 : decode cX6_free 23 = .ok (.aload_n 0, 1) := by decide +kernel
theorem dX6_free_24 : decode cX6_free 24 = .ok (.getfield 7, 3) := by decide +kernel
theorem dX6_free_27 : decode cX6_free 27 = .ok (.iconst 5, 1) := by decide +kernel
theorem dX6_free_28 : decode cX6_free 28 = .ok (.iconst 0, 1) := by decide +kernel
theorem dX6_free_29 : decode cX6_free 29 = .ok (.iastore, 1) := by decide +kernel
theorem dX6_free_30 : decode cX6_free 30 = .ok (.aload_n 0, 1) := by decide +kernel
theorem dX6_free_31 : decode cX6_free 31 = .ok (.getfield 7, 3) := by decide +kernel
theorem dX6_free_34 : decode cX6_free 34 = .ok (.iconst 4, 1) := by decide +kernel
theorem dX6_free_35 : decode cX6_free 35 = .ok (.iload_n 1, 1) := by decide +kernel
theorem dX6_free_36 : decode cX6_free 36 = .ok (.iconst 1, 1) := by decide +kernel
theorem dX6_free_37 : decode cX6_free 37 = .ok (.iadd, 1) := by decide +kernel
theorem dX6_free_38 : decode cX6_free 38 = .ok (.bipush 16, 2) := by decide +kernel
theorem dX6_free_40 : decode cX6_free 40 = .ok (.irem, 1) := by decide +kernel
theorem dX6_free_41 : decode cX6_free 41 = .ok (.iastore, 1) := by decide +kernel
theorem dX6_free_42 : decode cX6_free 42 = .ok (.iload_n 1, 1) := by decide +kernel
theorem dX6_free_43 : decode cX6_free 43 = .ok (.ireturn, 1) := by decide +kernel
set_option maxRecDepth 20000 in
theorem ggX6_newForm_X6_changes : GoodIn wsX6_newForm wsX6_changes := goodIn_r _ [6, 7, 8, 1, 13, 14, 15, 16, 17, 18, 19, 20, 21, 22, 23, 24] (by decide +kernel) (by decide +kernel)
set_option maxRecDepth 20000 in
theorem gX6_newForm_X6_changes : GoodIn wsX6_newForm (wsV RX6 91 RX6 yX6_changes wsX6_changes) := goodIn_app (goodIn_of _ (by decide +kernel)) ggX6_newForm_X6_changes
set_option maxRecDepth 20000 in
theorem ggX6_newForm_X6_newOne : GoodIn wsX6_newForm wsX6_newOne := goodIn_r _ [12, 1, 13, 14, 15, 16, 17, 18, 19, 20, 21, 22, 23, 24] (by decide +kernel) (by decide +kernel)
set_option maxRecDepth 20000 in
theorem gX6_newForm_X6_newOne : GoodIn wsX6_newForm (wsV RX6 58 RX6 yX6_newOne wsX6_newOne) := goodIn_app (goodIn_of _ (by decide +kernel)) ggX6_newForm_X6_newOne
theorem dX6_newForm_0 : decode cX6_newForm 0 = .ok (.aload_n 0, 1) := by decide +kernel
theorem dX6_newForm_1 : decode cX6_newForm 1 = .ok (.invokevirtual 91, 3) := by decide +kernel
theorem dX6_newForm_4 : decode cX6_newForm 4 = .ok (.aload_n 0, 1) := by decide +kernel
theorem dX6_newForm_5 : decode cX6_newForm 5 = .ok (.getfield 7, 3) := by decide +kernel
theorem dX6_newForm_8 : decode cX6_newForm 8 = .ok (.bipush 7, 2) := by decide +kernel
theorem dX6_newForm_10 : decode cX6_newForm 10 = .ok (.iaload, 1) := by decide +kernel
theorem dX6_newForm_11 : decode cX6_newForm 11 = .ok (.istore_n 1, 1) := by decide +kernel
theorem dX6_newForm_12 : decode cX6_newForm 12 = .ok (.aload_n 0, 1) := by decide +kernel
theorem dX6_newForm_13 : decode cX6_newForm 13 = .ok (.invokevirtual 58, 3) := by decide +kernel
theorem dX6_newForm_16 : decode cX6_newForm 16 = .ok (.iload_n 1, 1) := by decide +kernel
theorem dX6_newForm_17 : decode cX6_newForm 17 = .ok (.ireturn, 1) := by decide +kernel
set_option maxRecDepth 20000 in
theorem ggX6_row_X6_isRow : GoodIn wsX6_row wsX6_isRow := goodIn_r _ [5, 6, 7, 8, 4, 9] (by decide +kernel) (by decide +kernel)
set_option maxRecDepth 20000 in
theorem gX6_row_X6_isRow : GoodIn wsX6_row (va_wsS RX6 94 yX6_isRow wsX6_isRow) := goodIn_app (goodIn_of _ (by decide +kernel)) ggX6_row_X6_isRow
set_option maxRecDepth 20000 in
theorem ggX6_row_X6_setIn : GoodIn wsX6_row wsX6_setIn := goodIn_r _ [13, 14, 15, 16, 4, 17, 1, 18, 19, 20, 29, 30, 31, 32, 33, 34, 35, 36, 37, 38, 39, 40] (by decide +kernel) (by decide +kernel)
set_option maxRecDepth 20000 in
theorem gX6_row_X6_setIn : GoodIn wsX6_row (wsV RX6 108 RX6 yX6_setIn wsX6_setIn) := goodIn_app (goodIn_of _ (by decide +kernel)) ggX6_row_X6_setIn
set_option maxRecDepth 20000 in
theorem ggX6_row_X6_pegsIn : GoodIn wsX6_row wsX6_pegsIn := goodIn_r _ [24, 14, 15, 16, 4, 17, 1, 18, 19, 20, 29, 30, 31, 32, 33, 34, 35, 36, 37, 38, 39, 40] (by decide +kernel) (by decide +kernel)
set_option maxRecDepth 20000 in
theorem gX6_row_X6_pegsIn : GoodIn wsX6_row (wsV RX6 54 RX6 yX6_pegsIn wsX6_pegsIn) := goodIn_app (goodIn_of _ (by decide +kernel)) ggX6_row_X6_pegsIn
set_option maxRecDepth 20000 in
theorem ggX6_row_X6_wouldJam : GoodIn wsX6_row wsX6_wouldJam := goodIn_r _ [28, 1, 21, 22, 23, 4, 24, 14, 15, 16, 17, 18, 19, 20, 29, 30, 31, 32, 33, 34, 35, 36, 37, 38, 39, 40] (by decide +kernel) (by decide +kernel)
set_option maxRecDepth 20000 in
theorem gX6_row_X6_wouldJam : GoodIn wsX6_row (wsV RX6 61 RX6 yX6_wouldJam wsX6_wouldJam) := goodIn_app (goodIn_of _ (by decide +kernel)) ggX6_row_X6_wouldJam
theorem dX6_row_0 : decode cX6_row 0 = .ok (.iload_n 1, 1) := by decide +kernel
theorem dX6_row_1 : decode cX6_row 1 = .ok (.invokestatic 94, 3) := by decide +kernel
theorem dX6_row_4 : decode cX6_row 4 = .ok (.ifCond .ne 5, 3) := by decide +kernel
theorem dX6_row_7 : decode cX6_row 7 = .ok (.iconst (-1), 1) := by decide +kernel
theorem dX6_row_8 : decode cX6_row 8 = .ok (.ireturn, 1) := by decide +kernel
theorem dX6_row_9 : decode cX6_row 9 = .ok (.iload_n 2, 1) := by decide +kernel
theorem dX6_row_10 : decode cX6_row 10 = .ok (.tableswitch 71 0 3 #[30, 36, 42, 56], 30) := by decide +kernel
theorem dX6_row_40 : decode cX6_row 40 = .ok (.aload_n 0, 1) := by decide +kernel
theorem dX6_row_41 : decode cX6_row 41 = .ok (.iload_n 1, 1) := by decide +kernel
theorem dX6_row_42 : decode cX6_row 42 = .ok (.invokevirtual 108, 3) := by decide +kernel
theorem dX6_row_45 : decode cX6_row 45 = .ok (.ireturn, 1) := by decide +kernel
theorem dX6_row_46 : decode cX6_row 46 = .ok (.aload_n 0, 1) := by decide +kernel
theorem dX6_row_47 : decode cX6_row 47 = .ok (.iload_n 1, 1) := by decide +kernel
theorem dX6_row_48 : decode cX6_row 48 = .ok (.invokevirtual 54, 3) := by decide +kernel
theorem dX6_row_51 : decode cX6_row 51 = .ok (.ireturn, 1) := by decide +kernel
theorem dX6_row_52 : decode cX6_row 52 = .ok (.aload_n 0, 1) := by decide +kernel
theorem dX6_row_53 : decode cX6_row 53 = .ok (.iload_n 1, 1) := by decide +kernel
theorem dX6_row_54 : decode cX6_row 54 = .ok (.invokevirtual 61, 3) := by decide +kernel
theorem dX6_row_57 : decode cX6_row 57 = .ok (.ifCond .eq 7, 3) := by decide +kernel
theorem dX6_row_60 : decode cX6_row 60 = .ok (.iconst 1, 1) := by decide +kernel
theorem dX6_row_61 : decode cX6_row 61 = .ok (.goto 4, 3) := by decide +kernel
theorem dX6_row_64 : decode cX6_row 64 = .ok (.iconst 0, 1) := by decide +kernel
theorem dX6_row_65 : decode cX6_row 65 = .ok (.ireturn, 1) := by decide +kernel
theorem dX6_row_66 : decode cX6_row 66 = .ok (.iload_n 1, 1) := by decide +kernel
theorem dX6_row_67 : decode cX6_row 67 = .ok (.bipush 16, 2) := by decide +kernel
theorem dX6_row_69 : decode cX6_row 69 = .ok (.iadd, 1) := by decide +kernel
theorem dX6_row_70 : decode cX6_row 70 = .ok (.aload_n 0, 1) := by decide +kernel
theorem dX6_row_71 : decode cX6_row 71 = .ok (.getfield 7, 3) := by decide +kernel
theorem dX6_row_74 : decode cX6_row 74 = .ok (.iconst 4, 1) := by decide +kernel
theorem dX6_row_75 : decode cX6_row 75 = .ok (.iaload, 1) := by decide +kernel
theorem dX6_row_76 : decode cX6_row 76 = .ok (.isub, 1) := by decide +kernel
theorem dX6_row_77 : decode cX6_row 77 = .ok (.bipush 16, 2) := by decide +kernel
theorem dX6_row_79 : decode cX6_row 79 = .ok (.irem, 1) := by decide +kernel
theorem dX6_row_80 : decode cX6_row 80 = .ok (.ireturn, 1) := by decide +kernel
theorem dX6_row_81 : decode cX6_row 81 = .ok (.bipush (-2), 2) := by decide +kernel
theorem dX6_row_83 : decode cX6_row 83 = .ok (.ireturn, 1) := by decide +kernel
set_option maxRecDepth 20000 in
theorem ggX6_stamped_X6_isRow : GoodIn wsX6_stamped wsX6_isRow := goodIn_r _ [5, 6, 7, 8, 4, 9] (by decide +kernel) (by decide +kernel)
set_option maxRecDepth 20000 in
theorem gX6_stamped_X6_isRow : GoodIn wsX6_stamped (va_wsS RX6 94 yX6_isRow wsX6_isRow) := goodIn_app (goodIn_of _ (by decide +kernel)) ggX6_stamped_X6_isRow
set_option maxRecDepth 20000 in
theorem ggX6_stamped_X6_isPlace : GoodIn wsX6_stamped wsX6_isPlace := goodIn_r _ [12, 13, 7, 8, 4, 9] (by decide +kernel) (by decide +kernel)
set_option maxRecDepth 20000 in
theorem gX6_stamped_X6_isPlace : GoodIn wsX6_stamped (va_wsS RX6 97 yX6_isPlace wsX6_isPlace) := goodIn_app (goodIn_of _ (by decide +kernel)) ggX6_stamped_X6_isPlace
set_option maxRecDepth 20000 in
theorem ggX6_stamped_X6_at : GoodIn wsX6_stamped wsX6_at := goodIn_r _ [16] (by decide +kernel) (by decide +kernel)
set_option maxRecDepth 20000 in
theorem gX6_stamped_X6_at : GoodIn wsX6_stamped (va_wsS RX6 46 yX6_at wsX6_at) := goodIn_app (goodIn_of _ (by decide +kernel)) ggX6_stamped_X6_at
theorem dX6_stamped_0 : decode cX6_stamped 0 = .ok (.iload_n 1, 1) := by decide +kernel
theorem dX6_stamped_1 : decode cX6_stamped 1 = .ok (.invokestatic 94, 3) := by decide +kernel
theorem dX6_stamped_4 : decode cX6_stamped 4 = .ok (.ifCond .eq 23, 3) := by decide +kernel
theorem dX6_stamped_7 : decode cX6_stamped 7 = .ok (.iload_n 2, 1) := by decide +kernel
theorem dX6_stamped_8 : decode cX6_stamped 8 = .ok (.invokestatic 97, 3) := by decide +kernel
theorem dX6_stamped_11 : decode cX6_stamped 11 = .ok (.ifCond .eq 16, 3) := by decide +kernel
theorem dX6_stamped_14 : decode cX6_stamped 14 = .ok (.aload_n 0, 1) := by decide +kernel
theorem dX6_stamped_15 : decode cX6_stamped 15 = .ok (.getfield 7, 3) := by decide +kernel
theorem dX6_stamped_18 : decode cX6_stamped 18 = .ok (.iload_n 1, 1) := by decide +kernel
theorem dX6_stamped_19 : decode cX6_stamped 19 = .ok (.iload_n 2, 1) := by decide +kernel
theorem dX6_stamped_20 : decode cX6_stamped 20 = .ok (.invokestatic 46, 3) := by decide +kernel
theorem dX6_stamped_23 : decode cX6_stamped 23 = .ok (.iaload, 1) := by decide +kernel
theorem dX6_stamped_24 : decode cX6_stamped 24 = .ok (.goto 4, 3) := by decide +kernel
theorem dX6_stamped_27 : decode cX6_stamped 27 = .ok (.iconst (-1), 1) := by decide +kernel
theorem dX6_stamped_28 : decode cX6_stamped 28 = .ok (.ireturn, 1) := by decide +kernel
set_option maxRecDepth 20000 in
theorem ggX6_pegsOf_X6_hasPeg : GoodIn wsX6_pegsOf wsX6_hasPeg := goodIn_r _ [5, 6, 7, 8, 4, 9, 10, 11, 12, 13, 14, 15, 16, 17, 18, 19, 20, 21] (by decide +kernel) (by decide +kernel)
set_option maxRecDepth 20000 in
theorem gX6_pegsOf_X6_hasPeg : GoodIn wsX6_pegsOf (wsV RX6 50 RX6 yX6_hasPeg wsX6_hasPeg) := goodIn_app (goodIn_of _ (by decide +kernel)) ggX6_pegsOf_X6_hasPeg
theorem dX6_pegsOf_0 : decode cX6_pegsOf 0 = .ok (.iconst 0, 1) := by decide +kernel
theorem dX6_pegsOf_1 : decode cX6_pegsOf 1 = .ok (.istore_n 2, 1) := by decide +kernel
theorem dX6_pegsOf_2 : decode cX6_pegsOf 2 = .ok (.iconst 0, 1) := by decide +kernel
theorem dX6_pegsOf_3 : decode cX6_pegsOf 3 = .ok (.istore_n 3, 1) := by decide +kernel
theorem dX6_pegsOf_4 : decode cX6_pegsOf 4 = .ok (.iload_n 3, 1) := by decide +kernel
theorem dX6_pegsOf_5 : decode cX6_pegsOf 5 = .ok (.bipush 16, 2) := by decide +kernel
theorem dX6_pegsOf_7 : decode cX6_pegsOf 7 = .ok (.if_icmp .ge 26, 3) := by decide +kernel
theorem dX6_pegsOf_10 : decode cX6_pegsOf 10 = .ok (.iload_n 2, 1) := by decide +kernel
theorem dX6_pegsOf_11 : decode cX6_pegsOf 11 = .ok (.aload_n 0, 1) := by decide +kernel
theorem dX6_pegsOf_12 : decode cX6_pegsOf 12 = .ok (.iload_n 3, 1) := by decide +kernel
theorem dX6_pegsOf_13 : decode cX6_pegsOf 13 = .ok (.iload_n 1, 1) := by decide +kernel
theorem dX6_pegsOf_14 : decode cX6_pegsOf 14 = .ok (.invokevirtual 50, 3) := by decide +kernel
theorem dX6_pegsOf_17 : decode cX6_pegsOf 17 = .ok (.ifCond .eq 7, 3) := by decide +kernel
theorem dX6_pegsOf_20 : decode cX6_pegsOf 20 = .ok (.iconst 1, 1) := by decide +kernel
theorem dX6_pegsOf_21 : decode cX6_pegsOf 21 = .ok (.goto 4, 3) := by decide +kernel
theorem dX6_pegsOf_24 : decode cX6_pegsOf 24 = .ok (.iconst 0, 1) := by decide +kernel
theorem dX6_pegsOf_25 : decode cX6_pegsOf 25 = .ok (.iadd, 1) := by decide +kernel
theorem dX6_pegsOf_26 : decode cX6_pegsOf 26 = .ok (.istore_n 2, 1) := by decide +kernel
theorem dX6_pegsOf_27 : decode cX6_pegsOf 27 = .ok (.iinc 3 1, 3) := by decide +kernel
theorem dX6_pegsOf_30 : decode cX6_pegsOf 30 = .ok (.goto (-26), 3) := by decide +kernel
theorem dX6_pegsOf_33 : decode cX6_pegsOf 33 = .ok (.iload_n 2, 1) := by decide +kernel
theorem dX6_pegsOf_34 : decode cX6_pegsOf 34 = .ok (.ireturn, 1) := by decide +kernel
set_option maxRecDepth 20000 in
theorem ggX6_stamp_X6_isPlace : GoodIn wsX6_stamp wsX6_isPlace := goodIn_r _ [5, 6, 7, 8, 4, 9] (by decide +kernel) (by decide +kernel)
set_option maxRecDepth 20000 in
theorem gX6_stamp_X6_isPlace : GoodIn wsX6_stamp (va_wsS RX6 97 yX6_isPlace wsX6_isPlace) := goodIn_app (goodIn_of _ (by decide +kernel)) ggX6_stamp_X6_isPlace
set_option maxRecDepth 20000 in
theorem ggX6_stamp_X6_pegsOf : GoodIn wsX6_stamp wsX6_pegsOf := goodIn_r _ [13, 14, 15, 16, 4, 17, 1, 18, 19, 20, 21, 22, 23, 24, 25, 26, 27, 28, 29, 30, 31, 32] (by decide +kernel) (by decide +kernel)
set_option maxRecDepth 20000 in
theorem gX6_stamp_X6_pegsOf : GoodIn wsX6_stamp (wsV RX6 111 RX6 yX6_pegsOf wsX6_pegsOf) := goodIn_app (goodIn_of _ (by decide +kernel)) ggX6_stamp_X6_pegsOf
theorem dX6_stamp_0 : decode cX6_stamp 0 = .ok (.iload_n 1, 1) := by decide +kernel
theorem dX6_stamp_1 : decode cX6_stamp 1 = .ok (.invokestatic 97, 3) := by decide +kernel
theorem dX6_stamp_4 : decode cX6_stamp 4 = .ok (.ifCond .ne 5, 3) := by decide +kernel
theorem dX6_stamp_7 : decode cX6_stamp 7 = .ok (.iconst (-1), 1) := by decide +kernel
theorem dX6_stamp_8 : decode cX6_stamp 8 = .ok (.ireturn, 1) := by decide +kernel
theorem dX6_stamp_9 : decode cX6_stamp 9 = .ok (.iload_n 2, 1) := by decide +kernel
theorem dX6_stamp_10 : decode cX6_stamp 10 = .ok (.tableswitch 65 0 4 #[34, 34, 34, 49, 55], 34) := by decide +kernel
theorem dX6_stamp_44 : decode cX6_stamp 44 = .ok (.aload_n 0, 1) := by decide +kernel
theorem dX6_stamp_45 : decode cX6_stamp 45 = .ok (.getfield 7, 3) := by decide +kernel
theorem dX6_stamp_48 : decode cX6_stamp 48 = .ok (.bipush 16, 2) := by decide +kernel
theorem dX6_stamp_50 : decode cX6_stamp 50 = .ok (.bipush 6, 2) := by decide +kernel
theorem dX6_stamp_52 : decode cX6_stamp 52 = .ok (.iload_n 2, 1) := by decide +kernel
theorem dX6_stamp_53 : decode cX6_stamp 53 = .ok (.imul, 1) := by decide +kernel
theorem dX6_stamp_54 : decode cX6_stamp 54 = .ok (.iadd, 1) := by decide +kernel
theorem dX6_stamp_55 : decode cX6_stamp 55 = .ok (.iload_n 1, 1) := by decide +kernel
theorem dX6_stamp_56 : decode cX6_stamp 56 = .ok (.iadd, 1) := by decide +kernel
theorem dX6_stamp_57 : decode cX6_stamp 57 = .ok (.iaload, 1) := by decide +kernel
theorem dX6_stamp_58 : decode cX6_stamp 58 = .ok (.ireturn, 1) := by decide +kernel
theorem dX6_stamp_59 : decode cX6_stamp 59 = .ok (.aload_n 0, 1) := by decide +kernel
theorem dX6_stamp_60 : decode cX6_stamp 60 = .ok (.iload_n 1, 1) := by decide +kernel
theorem dX6_stamp_61 : decode cX6_stamp 61 = .ok (.invokevirtual 111, 3) := by decide +kernel
theorem dX6_stamp_64 : decode cX6_stamp 64 = .ok (.ireturn, 1) := by decide +kernel
theorem dX6_stamp_65 : decode cX6_stamp 65 = .ok (.aload_n 0, 1) := by decide +kernel
theorem dX6_stamp_66 : decode cX6_stamp 66 = .ok (.getfield 7, 3) := by decide +kernel
theorem dX6_stamp_69 : decode cX6_stamp 69 = .ok (.bipush 34, 2) := by decide +kernel
theorem dX6_stamp_71 : decode cX6_stamp 71 = .ok (.iload_n 1, 1) := by decide +kernel
theorem dX6_stamp_72 : decode cX6_stamp 72 = .ok (.iadd, 1) := by decide +kernel
theorem dX6_stamp_73 : decode cX6_stamp 73 = .ok (.iaload, 1) := by decide +kernel
theorem dX6_stamp_74 : decode cX6_stamp 74 = .ok (.ireturn, 1) := by decide +kernel
theorem dX6_stamp_75 : decode cX6_stamp 75 = .ok (.bipush (-2), 2) := by decide +kernel
theorem dX6_stamp_77 : decode cX6_stamp 77 = .ok (.ireturn, 1) := by decide +kernel
theorem dX6_marks_0 : decode cX6_marks 0 = .ok (.iconst 0, 1) := by decide +kernel
theorem dX6_marks_1 : decode cX6_marks 1 = .ok (.istore_n 1, 1) := by decide +kernel
theorem dX6_marks_2 : decode cX6_marks 2 = .ok (.iconst 0, 1) := by decide +kernel
theorem dX6_marks_3 : decode cX6_marks 3 = .ok (.istore_n 2, 1) := by decide +kernel
theorem dX6_marks_4 : decode cX6_marks 4 = .ok (.iload_n 2, 1) := by decide +kernel
theorem dX6_marks_5 : decode cX6_marks 5 = .ok (.bipush 6, 2) := by decide +kernel
theorem dX6_marks_7 : decode cX6_marks 7 = .ok (.if_icmp .ge 21, 3) := by decide +kernel
theorem dX6_marks_10 : decode cX6_marks 10 = .ok (.iload_n 1, 1) := by decide +kernel
theorem dX6_marks_11 : decode cX6_marks 11 = .ok (.aload_n 0, 1) := by decide +kernel
theorem dX6_marks_12 : decode cX6_marks 12 = .ok (.getfield 7, 3) := by decide +kernel
theorem dX6_marks_15 : decode cX6_marks 15 = .ok (.bipush 22, 2) := by decide +kernel
theorem dX6_marks_17 : decode cX6_marks 17 = .ok (.iload_n 2, 1) := by decide +kernel
theorem dX6_marks_18 : decode cX6_marks 18 = .ok (.iadd, 1) := by decide +kernel
theorem dX6_marks_19 : decode cX6_marks 19 = .ok (.iaload, 1) := by decide +kernel
theorem dX6_marks_20 : decode cX6_marks 20 = .ok (.iadd, 1) := by decide +kernel
theorem dX6_marks_21 : decode cX6_marks 21 = .ok (.istore_n 1, 1) := by decide +kernel
theorem dX6_marks_22 : decode cX6_marks 22 = .ok (.iinc 2 1, 3) := by decide +kernel
theorem dX6_marks_25 : decode cX6_marks 25 = .ok (.goto (-21), 3) := by decide +kernel
theorem dX6_marks_28 : decode cX6_marks 28 = .ok (.iload_n 1, 1) := by decide +kernel
theorem dX6_marks_29 : decode cX6_marks 29 = .ok (.ireturn, 1) := by decide +kernel
set_option maxRecDepth 20000 in
theorem ggX6_count_X6_pegs : GoodIn wsX6_count wsX6_pegs := goodIn_r _ [9, 10, 11, 12, 8, 13, 14, 15, 16, 17, 1, 18, 19, 20, 28, 29, 30, 31, 32, 33, 34, 35, 36, 37, 38, 39] (by decide +kernel) (by decide +kernel)
set_option maxRecDepth 20000 in
theorem gX6_count_X6_pegs : GoodIn wsX6_count (wsV RX6 114 RX6 yX6_pegs wsX6_pegs) := goodIn_app (goodIn_of _ (by decide +kernel)) ggX6_count_X6_pegs
set_option maxRecDepth 20000 in
theorem ggX6_count_X6_marks : GoodIn wsX6_count wsX6_marks := goodIn_r _ [24, 1, 28, 29, 30, 31, 32, 33, 34, 35, 36, 37, 38, 39] (by decide +kernel) (by decide +kernel)
set_option maxRecDepth 20000 in
theorem gX6_count_X6_marks : GoodIn wsX6_count (wsV RX6 118 RX6 yX6_marks wsX6_marks) := goodIn_app (goodIn_of _ (by decide +kernel)) ggX6_count_X6_marks
set_option maxRecDepth 20000 in
theorem ggX6_count_X6_in : GoodIn wsX6_count wsX6_in := goodIn_r _ [27] (by decide +kernel) (by decide +kernel)
set_option maxRecDepth 20000 in
theorem gX6_count_X6_in : GoodIn wsX6_count (va_wsS RX6 40 yX6_in wsX6_in) := goodIn_app (goodIn_of _ (by decide +kernel)) ggX6_count_X6_in
theorem dX6_count_0 : decode cX6_count 0 = .ok (.iload_n 1, 1) := by decide +kernel
theorem dX6_count_1 : decode cX6_count 1 = .ok (.tableswitch 63 15 19 #[35, 40, 48, 53, 58], 35) := by decide +kernel
theorem dX6_count_36 : decode cX6_count 36 = .ok (.aload_n 0, 1) := by decide +kernel
theorem dX6_count_37 : decode cX6_count 37 = .ok (.invokevirtual 114, 3) := by decide +kernel
theorem dX6_count_40 : decode cX6_count 40 = .ok (.ireturn, 1) := by decide +kernel
theorem dX6_count_41 : decode cX6_count 41 = .ok (.aload_n 0, 1) := by decide +kernel
theorem dX6_count_42 : decode cX6_count 42 = .ok (.getfield 7, 3) := by decide +kernel
theorem dX6_count_45 : decode cX6_count 45 = .ok (.bipush 15, 2) := by decide +kernel
theorem dX6_count_47 : decode cX6_count 47 = .ok (.iaload, 1) := by decide +kernel
theorem dX6_count_48 : decode cX6_count 48 = .ok (.ireturn, 1) := by decide +kernel
theorem dX6_count_49 : decode cX6_count 49 = .ok (.aload_n 0, 1) := by decide +kernel
theorem dX6_count_50 : decode cX6_count 50 = .ok (.invokevirtual 118, 3) := by decide +kernel
theorem dX6_count_53 : decode cX6_count 53 = .ok (.ireturn, 1) := by decide +kernel
theorem dX6_count_54 : decode cX6_count 54 = .ok (.aload_n 0, 1) := by decide +kernel
theorem dX6_count_55 : decode cX6_count 55 = .ok (.getfield 121, 3) := by decide +kernel
theorem dX6_count_58 : decode cX6_count 58 = .ok (.ireturn, 1) := by decide +kernel
theorem dX6_count_59 : decode cX6_count 59 = .ok (.aload_n 0, 1) := by decide +kernel
theorem dX6_count_60 : decode cX6_count 60 = .ok (.getfield 34, 3) := by decide +kernel
theorem dX6_count_63 : decode cX6_count 63 = .ok (.ireturn, 1) := by decide +kernel
theorem dX6_count_64 : decode cX6_count 64 = .ok (.iload_n 1, 1) := by decide +kernel
theorem dX6_count_65 : decode cX6_count 65 = .ok (.i2l, 1) := by decide +kernel
theorem dX6_count_66 : decode cX6_count 66 = .ok (.lconst 0, 1) := by decide +kernel
theorem dX6_count_67 : decode cX6_count 67 = .ok (.ldc2_w 124, 3) := by decide +kernel
theorem dX6_count_70 : decode cX6_count 70 = .ok (.invokestatic 40, 3) := by decide +kernel
theorem dX6_count_73 : decode cX6_count 73 = .ok (.ifCond .eq 12, 3) := by decide +kernel
theorem dX6_count_76 : decode cX6_count 76 = .ok (.aload_n 0, 1) := by decide +kernel
theorem dX6_count_77 : decode cX6_count 77 = .ok (.getfield 7, 3) := by decide +kernel
theorem dX6_count_80 : decode cX6_count 80 = .ok (.iload_n 1, 1) := by decide +kernel
theorem dX6_count_81 : decode cX6_count 81 = .ok (.iaload, 1) := by decide +kernel
theorem dX6_count_82 : decode cX6_count 82 = .ok (.goto 5, 3) := by decide +kernel
theorem dX6_count_85 : decode cX6_count 85 = .ok (.bipush (-2), 2) := by decide +kernel
theorem dX6_count_87 : decode cX6_count 87 = .ok (.ireturn, 1) := by decide +kernel
set_option maxRecDepth 20000 in
theorem ggX6_untilJam_X6_keeps : GoodIn wsX6_untilJam wsX6_keeps := goodIn_r _ [5, 6, 7, 51, 52, 53, 54, 55, 56, 57, 58, 59, 60, 61, 62] (by decide +kernel) (by decide +kernel)
set_option maxRecDepth 20000 in
theorem gX6_untilJam_X6_keeps : GoodIn wsX6_untilJam (wsV RX6 126 RX6 yX6_keeps wsX6_keeps) := goodIn_app (goodIn_of _ (by decide +kernel)) ggX6_untilJam_X6_keeps
set_option maxRecDepth 20000 in
theorem ggX6_untilJam_X6_stepsUpTo : GoodIn wsX6_untilJam wsX6_stepsUpTo := goodIn_r _ [11, 12, 13, 14, 4, 15, 7, 16, 17, 18, 19, 20, 21, 22, 23, 24, 25, 26, 27, 28, 29, 30, 31, 32, 33, 34, 35, 36, 37, 38, 39, 40, 41, 42, 43, 44, 45, 46, 51, 52, 53, 54, 55, 56, 57, 58, 59, 60, 61, 62] (by decide +kernel) (by decide +kernel)
set_option maxRecDepth 20000 in
theorem gX6_untilJam_X6_stepsUpTo : GoodIn wsX6_untilJam (wsV RX6 105 RX6 yX6_stepsUpTo wsX6_stepsUpTo) := goodIn_app (goodIn_of _ (by decide +kernel)) ggX6_untilJam_X6_stepsUpTo
set_option maxRecDepth 20000 in
theorem ggX6_untilJam_X6_comesBack : GoodIn wsX6_untilJam wsX6_comesBack := goodIn_r _ [50, 7, 6, 51, 52, 53, 54, 55, 56, 57, 58, 59, 60, 61, 62] (by decide +kernel) (by decide +kernel)
set_option maxRecDepth 20000 in
theorem gX6_untilJam_X6_comesBack : GoodIn wsX6_untilJam (wsV RX6 129 RX6 yX6_comesBack wsX6_comesBack) := goodIn_app (goodIn_of _ (by decide +kernel)) ggX6_untilJam_X6_comesBack
theorem dX6_untilJam_0 : decode cX6_untilJam 0 = .ok (.aload_n 0, 1) := by decide +kernel
theorem dX6_untilJam_1 : decode cX6_untilJam 1 = .ok (.invokevirtual 126, 3) := by decide +kernel
theorem dX6_untilJam_4 : decode cX6_untilJam 4 = .ok (.aload_n 0, 1) := by decide +kernel
theorem dX6_untilJam_5 : decode cX6_untilJam 5 = .ok (.sipush 501, 3) := by decide +kernel
theorem dX6_untilJam_8 : decode cX6_untilJam 8 = .ok (.invokevirtual 105, 3) := by decide +kernel
theorem dX6_untilJam_11 : decode cX6_untilJam 11 = .ok (.istore_n 1, 1) := by decide +kernel
theorem dX6_untilJam_12 : decode cX6_untilJam 12 = .ok (.aload_n 0, 1) := by decide +kernel
theorem dX6_untilJam_13 : decode cX6_untilJam 13 = .ok (.invokevirtual 129, 3) := by decide +kernel
theorem dX6_untilJam_16 : decode cX6_untilJam 16 = .ok (.iload_n 1, 1) := by decide +kernel
theorem dX6_untilJam_17 : decode cX6_untilJam 17 = .ok (.sipush 500, 3) := by decide +kernel
theorem dX6_untilJam_20 : decode cX6_untilJam 20 = .ok (.if_icmp .le 8, 3) := by decide +kernel
theorem dX6_untilJam_23 : decode cX6_untilJam 23 = .ok (.bipush (-6), 2) := by decide +kernel
theorem dX6_untilJam_25 : decode cX6_untilJam 25 = .ok (.goto 4, 3) := by decide +kernel
theorem dX6_untilJam_28 : decode cX6_untilJam 28 = .ok (.iload_n 1, 1) := by decide +kernel
theorem dX6_untilJam_29 : decode cX6_untilJam 29 = .ok (.ireturn, 1) := by decide +kernel
set_option maxRecDepth 20000 in
theorem ggX6_ifStepped_X6_in : GoodIn wsX6_ifStepped wsX6_in := goodIn_r _ [8] (by decide +kernel) (by decide +kernel)
set_option maxRecDepth 20000 in
theorem gX6_ifStepped_X6_in : GoodIn wsX6_ifStepped (va_wsS RX6 40 yX6_in wsX6_in) := goodIn_app (goodIn_of _ (by decide +kernel)) ggX6_ifStepped_X6_in
set_option maxRecDepth 20000 in
theorem ggX6_ifStepped_X6_marks : GoodIn wsX6_ifStepped wsX6_marks := goodIn_r _ [12, 3, 60, 61, 62, 63, 64, 65, 66, 67, 68, 69, 70, 71] (by decide +kernel) (by decide +kernel)
set_option maxRecDepth 20000 in
theorem gX6_ifStepped_X6_marks : GoodIn wsX6_ifStepped (wsV RX6 118 RX6 yX6_marks wsX6_marks) := goodIn_app (goodIn_of _ (by decide +kernel)) ggX6_ifStepped_X6_marks
set_option maxRecDepth 20000 in
theorem ggX6_ifStepped_X6_keeps : GoodIn wsX6_ifStepped wsX6_keeps := goodIn_r _ [16, 4, 3, 60, 61, 62, 63, 64, 65, 66, 67, 68, 69, 70, 71] (by decide +kernel) (by decide +kernel)
set_option maxRecDepth 20000 in
theorem gX6_ifStepped_X6_keeps : GoodIn wsX6_ifStepped (wsV RX6 126 RX6 yX6_keeps wsX6_keeps) := goodIn_app (goodIn_of _ (by decide +kernel)) ggX6_ifStepped_X6_keeps
set_option maxRecDepth 20000 in
theorem ggX6_ifStepped_X6_stepsUpTo : GoodIn wsX6_ifStepped wsX6_stepsUpTo := goodIn_r _ [20, 21, 22, 23, 7, 24, 3, 25, 26, 27, 28, 29, 30, 31, 32, 33, 34, 35, 36, 37, 38, 39, 40, 41, 42, 43, 44, 45, 46, 47, 48, 49, 50, 51, 52, 53, 54, 55, 60, 61, 62, 63, 64, 65, 66, 67, 68, 69, 70, 71] (by decide +kernel) (by decide +kernel)
set_option maxRecDepth 20000 in
theorem gX6_ifStepped_X6_stepsUpTo : GoodIn wsX6_ifStepped (wsV RX6 105 RX6 yX6_stepsUpTo wsX6_stepsUpTo) := goodIn_app (goodIn_of _ (by decide +kernel)) ggX6_ifStepped_X6_stepsUpTo
set_option maxRecDepth 20000 in
theorem ggX6_ifStepped_X6_comesBack : GoodIn wsX6_ifStepped wsX6_comesBack := goodIn_r _ [59, 3, 4, 60, 61, 62, 63, 64, 65, 66, 67, 68, 69, 70, 71] (by decide +kernel) (by decide +kernel)
set_option maxRecDepth 20000 in
theorem gX6_ifStepped_X6_comesBack : GoodIn wsX6_ifStepped (wsV RX6 129 RX6 yX6_comesBack wsX6_comesBack) := goodIn_app (goodIn_of _ (by decide +kernel)) ggX6_ifStepped_X6_comesBack
theorem dX6_ifStepped_0 : decode cX6_ifStepped 0 = .ok (.iload_n 1, 1) := by decide +kernel
theorem dX6_ifStepped_1 : decode cX6_ifStepped 1 = .ok (.i2l, 1) := by decide +kernel
theorem dX6_ifStepped_2 : decode cX6_ifStepped 2 = .ok (.lconst 1, 1) := by decide +kernel
theorem dX6_ifStepped_3 : decode cX6_ifStepped 3 = .ok (.ldc2_w 132, 3) := by decide +kernel
theorem dX6_ifStepped_6 : decode cX6_ifStepped 6 = .ok (.invokestatic 40, 3) := by decide +kernel
theorem dX6_ifStepped_9 : decode cX6_ifStepped 9 = .ok (.ifCond .eq 15, 3) := by decide +kernel
theorem dX6_ifStepped_12 : decode cX6_ifStepped 12 = .ok (.iload_n 2, 1) := by decide +kernel
theorem dX6_ifStepped_13 : decode cX6_ifStepped 13 = .ok (.i2l, 1) := by decide +kernel
theorem dX6_ifStepped_14 : decode cX6_ifStepped 14 = .ok (.lconst 0, 1) := by decide +kernel
theorem dX6_ifStepped_15 : decode cX6_ifStepped 15 = .ok (.ldc2_w 86, 3) := by decide +kernel
theorem dX6_ifStepped_18 : decode cX6_ifStepped 18 = .ok (.invokestatic 40, 3) := by decide +kernel
theorem dX6_ifStepped_21 : decode cX6_ifStepped 21 = .ok (.ifCond .ne 6, 3) := by decide +kernel
theorem dX6_ifStepped_24 : decode cX6_ifStepped 24 = .ok (.bipush (-2), 2) := by decide +kernel
theorem dX6_ifStepped_26 : decode cX6_ifStepped 26 = .ok (.ireturn, 1) := by decide +kernel
theorem dX6_ifStepped_27 : decode cX6_ifStepped 27 = .ok (.aload_n 0, 1) := by decide +kernel
theorem dX6_ifStepped_28 : decode cX6_ifStepped 28 = .ok (.invokevirtual 118, 3) := by decide +kernel
theorem dX6_ifStepped_31 : decode cX6_ifStepped 31 = .ok (.istore_n 3, 1) := by decide +kernel
theorem dX6_ifStepped_32 : decode cX6_ifStepped 32 = .ok (.aload_n 0, 1) := by decide +kernel
theorem dX6_ifStepped_33 : decode cX6_ifStepped 33 = .ok (.invokevirtual 126, 3) := by decide +kernel
theorem dX6_ifStepped_36 : decode cX6_ifStepped 36 = .ok (.aload_n 0, 1) := by decide +kernel
theorem dX6_ifStepped_37 : decode cX6_ifStepped 37 = .ok (.iload_n 1, 1) := by decide +kernel
theorem dX6_ifStepped_38 : decode cX6_ifStepped 38 = .ok (.invokevirtual 105, 3) := by decide +kernel
theorem dX6_ifStepped_41 : decode cX6_ifStepped 41 = .ok (.istore 4, 2) := by decide +kernel
theorem dX6_ifStepped_43 : decode cX6_ifStepped 43 = .ok (.iload_n 2, 1) := by decide +kernel
theorem dX6_ifStepped_44 : decode cX6_ifStepped 44 = .ok (.ifCond .ne 8, 3) := by decide +kernel
theorem dX6_ifStepped_47 : decode cX6_ifStepped 47 = .ok (.iload 4, 2) := by decide +kernel
theorem dX6_ifStepped_49 : decode cX6_ifStepped 49 = .ok (.goto 40, 3) := by decide +kernel
theorem dX6_ifStepped_52 : decode cX6_ifStepped 52 = .ok (.iload_n 2, 1) := by decide +kernel
theorem dX6_ifStepped_53 : decode cX6_ifStepped 53 = .ok (.iconst 4, 1) := by decide +kernel
theorem dX6_ifStepped_54 : decode cX6_ifStepped 54 = .ok (.if_icmp .ne 12, 3) := by decide +kernel
theorem dX6_ifStepped_57 : decode cX6_ifStepped 57 = .ok (.aload_n 0, 1) := by decide +kernel
theorem dX6_ifStepped_58 : decode cX6_ifStepped 58 = .ok (.invokevirtual 118, 3) := by decide +kernel
theorem dX6_ifStepped_61 : decode cX6_ifStepped 61 = .ok (.iload_n 3, 1) := by decide +kernel
theorem dX6_ifStepped_62 : decode cX6_ifStepped 62 = .ok (.isub, 1) := by decide +kernel
theorem dX6_ifStepped_63 : decode cX6_ifStepped 63 = .ok (.goto 26, 3) := by decide +kernel
theorem dX6_ifStepped_66 : decode cX6_ifStepped 66 = .ok (.aload_n 0, 1) := by decide +kernel
theorem dX6_ifStepped_67 : decode cX6_ifStepped 67 = .ok (.getfield 7, 3) := by decide +kernel
theorem dX6_ifStepped_70 : decode cX6_ifStepped 70 = .ok (.bipush 11, 2) := by decide +kernel
theorem dX6_ifStepped_72 : decode cX6_ifStepped 72 = .ok (.iload_n 2, 1) := by decide +kernel
theorem dX6_ifStepped_73 : decode cX6_ifStepped 73 = .ok (.iadd, 1) := by decide +kernel
theorem dX6_ifStepped_74 : decode cX6_ifStepped 74 = .ok (.iconst 1, 1) := by decide +kernel
theorem dX6_ifStepped_75 : decode cX6_ifStepped 75 = .ok (.isub, 1) := by decide +kernel
theorem dX6_ifStepped_76 : decode cX6_ifStepped 76 = .ok (.iaload, 1) := by decide +kernel
theorem dX6_ifStepped_77 : decode cX6_ifStepped 77 = .ok (.aload_n 0, 1) := by decide +kernel
theorem dX6_ifStepped_78 : decode cX6_ifStepped 78 = .ok (.getfield 13, 3) := by decide +kernel
theorem dX6_ifStepped_81 : decode cX6_ifStepped 81 = .ok (.bipush 11, 2) := by decide +kernel
theorem dX6_ifStepped_83 : decode cX6_ifStepped 83 = .ok (.iload_n 2, 1) := by decide +kernel
theorem dX6_ifStepped_84 : decode cX6_ifStepped 84 = .ok (.iadd, 1) := by decide +kernel
theorem dX6_ifStepped_85 : decode cX6_ifStepped 85 = .ok (.iconst 1, 1) := by decide +kernel
theorem dX6_ifStepped_86 : decode cX6_ifStepped 86 = .ok (.isub, 1) := by decide +kernel
theorem dX6_ifStepped_87 : decode cX6_ifStepped 87 = .ok (.iaload, 1) := by decide +kernel
theorem dX6_ifStepped_88 : decode cX6_ifStepped 88 = .ok (.isub, 1) := by decide +kernel
theorem dX6_ifStepped_89 : decode cX6_ifStepped 89 = .ok (.istore 5, 2) := by decide +kernel
theorem dX6_ifStepped_91 : decode cX6_ifStepped 91 = .ok (.aload_n 0, 1) := by decide +kernel
theorem dX6_ifStepped_92 : decode cX6_ifStepped 92 = .ok (.invokevirtual 129, 3) := by decide +kernel
theorem dX6_ifStepped_95 : decode cX6_ifStepped 95 = .ok (.iload 5, 2) := by decide +kernel
theorem dX6_ifStepped_97 : decode cX6_ifStepped 97 = .ok (.ireturn, 1) := by decide +kernel
set_option maxRecDepth 20000 in
theorem ggX6_bestOut_X6_ifStepped : GoodIn wsX6_bestOut wsX6_ifStepped := goodIn_r _ [6, 7, 8, 1, 9, 10, 11, 5, 12, 13, 14, 15, 16, 17, 18, 19, 20, 21, 22, 23, 24, 25, 26, 27, 28, 29, 30, 31, 32, 33, 34, 35, 36, 37, 38, 39, 40, 41, 42, 43, 44, 45, 46, 47, 48, 49, 50, 51, 52, 53, 54, 55, 56, 57, 58, 59, 60, 61, 62, 63, 64, 65, 66, 67, 68, 69, 70, 71, 72, 73, 74, 75] (by decide +kernel) (by decide +kernel)
set_option maxRecDepth 20000 in
theorem gX6_bestOut_X6_ifStepped : GoodIn wsX6_bestOut (wsV RX6 134 RX6 yX6_ifStepped wsX6_ifStepped) := goodIn_app (goodIn_of _ (by decide +kernel)) ggX6_bestOut_X6_ifStepped
theorem dX6_bestOut_0 : decode cX6_bestOut 0 = .ok (.bipush (-6), 2) := by decide +kernel
theorem dX6_bestOut_2 : decode cX6_bestOut 2 = .ok (.istore_n 1, 1) := by decide +kernel
theorem dX6_bestOut_3 : decode cX6_bestOut 3 = .ok (.aload_n 0, 1) := by decide +kernel
theorem dX6_bestOut_4 : decode cX6_bestOut 4 = .ok (.bipush 64, 2) := by decide +kernel
theorem dX6_bestOut_6 : decode cX6_bestOut 6 = .ok (.iconst 1, 1) := by decide +kernel
theorem dX6_bestOut_7 : decode cX6_bestOut 7 = .ok (.invokevirtual 134, 3) := by decide +kernel
theorem dX6_bestOut_10 : decode cX6_bestOut 10 = .ok (.istore_n 2, 1) := by decide +kernel
theorem dX6_bestOut_11 : decode cX6_bestOut 11 = .ok (.iconst 0, 1) := by decide +kernel
theorem dX6_bestOut_12 : decode cX6_bestOut 12 = .ok (.istore_n 3, 1) := by decide +kernel
theorem dX6_bestOut_13 : decode cX6_bestOut 13 = .ok (.iload_n 3, 1) := by decide +kernel
theorem dX6_bestOut_14 : decode cX6_bestOut 14 = .ok (.bipush 96, 2) := by decide +kernel
theorem dX6_bestOut_16 : decode cX6_bestOut 16 = .ok (.if_icmp .ge 83, 3) := by decide +kernel
theorem dX6_bestOut_19 : decode cX6_bestOut 19 = .ok (.aload_n 0, 1) := by decide +kernel
theorem dX6_bestOut_20 : decode cX6_bestOut 20 = .ok (.getfield 7, 3) := by decide +kernel
theorem dX6_bestOut_23 : decode cX6_bestOut 23 = .ok (.bipush 40, 2) := by decide +kernel
theorem dX6_bestOut_25 : decode cX6_bestOut 25 = .ok (.iload_n 3, 1) := by decide +kernel
theorem dX6_bestOut_26 : decode cX6_bestOut 26 = .ok (.iadd, 1) := by decide +kernel
theorem dX6_bestOut_27 : decode cX6_bestOut 27 = .ok (.iaload, 1) := by decide +kernel
theorem dX6_bestOut_28 : decode cX6_bestOut 28 = .ok (.istore 4, 2) := by decide +kernel
theorem dX6_bestOut_30 : decode cX6_bestOut 30 = .ok (.iload 4, 2) := by decide +kernel
theorem dX6_bestOut_32 : decode cX6_bestOut 32 = .ok (.bipush (-6), 2) := by decide +kernel
theorem dX6_bestOut_34 : decode cX6_bestOut 34 = .ok (.if_icmp .eq 59, 3) := by decide +kernel
theorem dX6_bestOut_37 : decode cX6_bestOut 37 = .ok (.aload_n 0, 1) := by decide +kernel
theorem dX6_bestOut_38 : decode cX6_bestOut 38 = .ok (.getfield 7, 3) := by decide +kernel
theorem dX6_bestOut_41 : decode cX6_bestOut 41 = .ok (.bipush 40, 2) := by decide +kernel
theorem dX6_bestOut_43 : decode cX6_bestOut 43 = .ok (.iload_n 3, 1) := by decide +kernel
theorem dX6_bestOut_44 : decode cX6_bestOut 44 = .ok (.iadd, 1) := by decide +kernel
theorem dX6_bestOut_45 : decode cX6_bestOut 45 = .ok (.bipush (-6), 2) := by decide +kernel
theorem dX6_bestOut_47 : decode cX6_bestOut 47 = .ok (.iastore, 1) := by decide +kernel
theorem dX6_bestOut_48 : decode cX6_bestOut 48 = .ok (.aload_n 0, 1) := by decide +kernel
theorem dX6_bestOut_49 : decode cX6_bestOut 49 = .ok (.bipush 64, 2) := by decide +kernel
theorem dX6_bestOut_51 : decode cX6_bestOut 51 = .ok (.iconst 1, 1) := by decide +kernel
theorem dX6_bestOut_52 : decode cX6_bestOut 52 = .ok (.invokevirtual 134, 3) := by decide +kernel
theorem dX6_bestOut_55 : decode cX6_bestOut 55 = .ok (.istore 5, 2) := by decide +kernel
theorem dX6_bestOut_57 : decode cX6_bestOut 57 = .ok (.aload_n 0, 1) := by decide +kernel
theorem dX6_bestOut_58 : decode cX6_bestOut 58 = .ok (.getfield 7, 3) := by decide +kernel
theorem dX6_bestOut_61 : decode cX6_bestOut 61 = .ok (.bipush 40, 2) := by decide +kernel
theorem dX6_bestOut_63 : decode cX6_bestOut 63 = .ok (.iload_n 3, 1) := by decide +kernel
theorem dX6_bestOut_64 : decode cX6_bestOut 64 = .ok (.iadd, 1) := by decide +kernel
theorem dX6_bestOut_65 : decode cX6_bestOut 65 = .ok (.iload 4, 2) := by decide +kernel
theorem dX6_bestOut_67 : decode cX6_bestOut 67 = .ok (.iastore, 1) := by decide +kernel
theorem dX6_bestOut_68 : decode cX6_bestOut 68 = .ok (.iload 5, 2) := by decide +kernel
theorem dX6_bestOut_70 : decode cX6_bestOut 70 = .ok (.iload_n 2, 1) := by decide +kernel
theorem dX6_bestOut_71 : decode cX6_bestOut 71 = .ok (.if_icmp .le 7, 3) := by decide +kernel
theorem dX6_bestOut_74 : decode cX6_bestOut 74 = .ok (.iload_n 3, 1) := by decide +kernel
theorem dX6_bestOut_75 : decode cX6_bestOut 75 = .ok (.goto 4, 3) := by decide +kernel
theorem dX6_bestOut_78 : decode cX6_bestOut 78 = .ok (.iload_n 1, 1) := by decide +kernel
theorem dX6_bestOut_79 : decode cX6_bestOut 79 = .ok (.istore_n 1, 1) := by decide +kernel
theorem dX6_bestOut_80 : decode cX6_bestOut 80 = .ok (.iload 5, 2) := by decide +kernel
theorem dX6_bestOut_82 : decode cX6_bestOut 82 = .ok (.iload_n 2, 1) := by decide +kernel
theorem dX6_bestOut_83 : decode cX6_bestOut 83 = .ok (.if_icmp .le 8, 3) := by decide +kernel
theorem dX6_bestOut_86 : decode cX6_bestOut 86 = .ok (.iload 5, 2) := by decide +kernel
theorem dX6_bestOut_88 : decode cX6_bestOut 88 = .ok (.goto 4, 3) := by decide +kernel
theorem dX6_bestOut_91 : decode cX6_bestOut 91 = .ok (.iload_n 2, 1) := by decide +kernel
theorem dX6_bestOut_92 : decode cX6_bestOut 92 = .ok (.istore_n 2, 1) := by decide +kernel
theorem dX6_bestOut_93 : decode cX6_bestOut 93 = .ok (.iinc 3 1, 3) := by decide +kernel
theorem dX6_bestOut_96 : decode cX6_bestOut 96 = .ok (.goto (-83), 3) := by decide +kernel
theorem dX6_bestOut_99 : decode cX6_bestOut 99 = .ok (.iload_n 1, 1) := by decide +kernel
theorem dX6_bestOut_100 : decode cX6_bestOut 100 = .ok (.ireturn, 1) := by decide +kernel
set_option maxRecDepth 20000 in
theorem ggX6_nextStamps_X6_in : GoodIn wsX6_nextStamps wsX6_in := goodIn_r _ [5] (by decide +kernel) (by decide +kernel)
set_option maxRecDepth 20000 in
theorem gX6_nextStamps_X6_in : GoodIn wsX6_nextStamps (va_wsS RX6 40 yX6_in wsX6_in) := goodIn_app (goodIn_of _ (by decide +kernel)) ggX6_nextStamps_X6_in
set_option maxRecDepth 20000 in
theorem ggX6_nextStamps_X6_setIn : GoodIn wsX6_nextStamps wsX6_setIn := goodIn_r _ [9, 10, 11, 12, 4, 13, 1, 14, 15, 16, 17, 18, 19, 20, 21, 22, 23, 24, 25, 26, 27, 28] (by decide +kernel) (by decide +kernel)
set_option maxRecDepth 20000 in
theorem gX6_nextStamps_X6_setIn : GoodIn wsX6_nextStamps (wsV RX6 108 RX6 yX6_setIn wsX6_setIn) := goodIn_app (goodIn_of _ (by decide +kernel)) ggX6_nextStamps_X6_setIn
theorem dX6_nextStamps_0 : decode cX6_nextStamps 0 = .ok (.iload_n 1, 1) := by decide +kernel
theorem dX6_nextStamps_1 : decode cX6_nextStamps 1 = .ok (.i2l, 1) := by decide +kernel
theorem dX6_nextStamps_2 : decode cX6_nextStamps 2 = .ok (.lconst 0, 1) := by decide +kernel
theorem dX6_nextStamps_3 : decode cX6_nextStamps 3 = .ok (.lconst 1, 1) := by decide +kernel
theorem dX6_nextStamps_4 : decode cX6_nextStamps 4 = .ok (.invokestatic 40, 3) := by decide +kernel
theorem dX6_nextStamps_7 : decode cX6_nextStamps 7 = .ok (.ifCond .ne 6, 3) := by decide +kernel
theorem dX6_nextStamps_10 : decode cX6_nextStamps 10 = .ok (.bipush (-2), 2) := by decide +kernel
theorem dX6_nextStamps_12 : decode cX6_nextStamps 12 = .ok (.ireturn, 1) := by decide +kernel
theorem dX6_nextStamps_13 : decode cX6_nextStamps 13 = .ok (.iconst 0, 1) := by decide +kernel
theorem dX6_nextStamps_14 : decode cX6_nextStamps 14 = .ok (.istore_n 2, 1) := by decide +kernel
theorem dX6_nextStamps_15 : decode cX6_nextStamps 15 = .ok (.iconst 0, 1) := by decide +kernel
theorem dX6_nextStamps_16 : decode cX6_nextStamps 16 = .ok (.istore_n 3, 1) := by decide +kernel
theorem dX6_nextStamps_17 : decode cX6_nextStamps 17 = .ok (.iload_n 3, 1) := by decide +kernel
theorem dX6_nextStamps_18 : decode cX6_nextStamps 18 = .ok (.aload_n 0, 1) := by decide +kernel
theorem dX6_nextStamps_19 : decode cX6_nextStamps 19 = .ok (.getfield 7, 3) := by decide +kernel
theorem dX6_nextStamps_22 : decode cX6_nextStamps 22 = .ok (.iconst 0, 1) := by decide +kernel
theorem dX6_nextStamps_23 : decode cX6_nextStamps 23 = .ok (.iaload, 1) := by decide +kernel
theorem dX6_nextStamps_24 : decode cX6_nextStamps 24 = .ok (.if_icmp .ge 27, 3) := by decide +kernel
theorem dX6_nextStamps_27 : decode cX6_nextStamps 27 = .ok (.iload_n 2, 1) := by decide +kernel
theorem dX6_nextStamps_28 : decode cX6_nextStamps 28 = .ok (.aload_n 0, 1) := by decide +kernel
theorem dX6_nextStamps_29 : decode cX6_nextStamps 29 = .ok (.aload_n 0, 1) := by decide +kernel
theorem dX6_nextStamps_30 : decode cX6_nextStamps 30 = .ok (.getfield 7, 3) := by decide +kernel
theorem dX6_nextStamps_33 : decode cX6_nextStamps 33 = .ok (.iconst 4, 1) := by decide +kernel
theorem dX6_nextStamps_34 : decode cX6_nextStamps 34 = .ok (.iaload, 1) := by decide +kernel
theorem dX6_nextStamps_35 : decode cX6_nextStamps 35 = .ok (.iload_n 3, 1) := by decide +kernel
theorem dX6_nextStamps_36 : decode cX6_nextStamps 36 = .ok (.iadd, 1) := by decide +kernel
theorem dX6_nextStamps_37 : decode cX6_nextStamps 37 = .ok (.bipush 16, 2) := by decide +kernel
theorem dX6_nextStamps_39 : decode cX6_nextStamps 39 = .ok (.irem, 1) := by decide +kernel
theorem dX6_nextStamps_40 : decode cX6_nextStamps 40 = .ok (.invokevirtual 108, 3) := by decide +kernel
theorem dX6_nextStamps_43 : decode cX6_nextStamps 43 = .ok (.ior, 1) := by decide +kernel
theorem dX6_nextStamps_44 : decode cX6_nextStamps 44 = .ok (.istore_n 2, 1) := by decide +kernel
theorem dX6_nextStamps_45 : decode cX6_nextStamps 45 = .ok (.iinc 3 1, 3) := by decide +kernel
theorem dX6_nextStamps_48 : decode cX6_nextStamps 48 = .ok (.goto (-31), 3) := by decide +kernel
theorem dX6_nextStamps_51 : decode cX6_nextStamps 51 = .ok (.iload_n 2, 1) := by decide +kernel
theorem dX6_nextStamps_52 : decode cX6_nextStamps 52 = .ok (.ireturn, 1) := by decide +kernel
set_option maxRecDepth 20000 in
theorem ggX6_charactersOf_X6_in : GoodIn wsX6_charactersOf wsX6_in := goodIn_r _ [7] (by decide +kernel) (by decide +kernel)
set_option maxRecDepth 20000 in
theorem gX6_charactersOf_X6_in : GoodIn wsX6_charactersOf (va_wsS RX6 40 yX6_in wsX6_in) := goodIn_app (goodIn_of _ (by decide +kernel)) ggX6_charactersOf_X6_in
theorem dX6_charactersOf_0 : decode cX6_charactersOf 0 = .ok (.lload_n 0, 1) := by decide +kernel
theorem dX6_charactersOf_1 : decode cX6_charactersOf 1 = .ok (.lstore_n 2, 1) := by decide +kernel
theorem dX6_charactersOf_2 : decode cX6_charactersOf 2 = .ok (.iconst 0, 1) := by decide +kernel
theorem dX6_charactersOf_3 : decode cX6_charactersOf 3 = .ok (.istore 4, 2) := by decide +kernel
theorem dX6_charactersOf_5 : decode cX6_charactersOf 5 = .ok (.iload 4, 2) := by decide +kernel
theorem dX6_charactersOf_7 : decode cX6_charactersOf 7 = .ok (.bipush 8, 2) := by decide +kernel
theorem dX6_charactersOf_9 : decode cX6_charactersOf 9 = .ok (.if_icmp .ge 31, 3) := by decide +kernel
theorem dX6_charactersOf_12 : decode cX6_charactersOf 12 = .ok (.lload_n 2, 1) := by decide +kernel
theorem dX6_charactersOf_13 : decode cX6_charactersOf 13 = .ok (.ldc2_w 137, 3) := by decide +kernel
theorem dX6_charactersOf_16 : decode cX6_charactersOf 16 = .ok (.land, 1) := by decide +kernel
theorem dX6_charactersOf_17 : decode cX6_charactersOf 17 = .ok (.ldc2_w 139, 3) := by decide +kernel
theorem dX6_charactersOf_20 : decode cX6_charactersOf 20 = .ok (.ldc2_w 141, 3) := by decide +kernel
theorem dX6_charactersOf_23 : decode cX6_charactersOf 23 = .ok (.invokestatic 40, 3) := by decide +kernel
theorem dX6_charactersOf_26 : decode cX6_charactersOf 26 = .ok (.ifCond .eq 14, 3) := by decide +kernel
theorem dX6_charactersOf_29 : decode cX6_charactersOf 29 = .ok (.lload_n 2, 1) := by decide +kernel
theorem dX6_charactersOf_30 : decode cX6_charactersOf 30 = .ok (.bipush 8, 2) := by decide +kernel
theorem dX6_charactersOf_32 : decode cX6_charactersOf 32 = .ok (.lushr, 1) := by decide +kernel
theorem dX6_charactersOf_33 : decode cX6_charactersOf 33 = .ok (.lstore_n 2, 1) := by decide +kernel
theorem dX6_charactersOf_34 : decode cX6_charactersOf 34 = .ok (.iinc 4 1, 3) := by decide +kernel
theorem dX6_charactersOf_37 : decode cX6_charactersOf 37 = .ok (.goto (-32), 3) := by decide +kernel
theorem dX6_charactersOf_40 : decode cX6_charactersOf 40 = .ok (.lload_n 2, 1) := by decide +kernel
theorem dX6_charactersOf_41 : decode cX6_charactersOf 41 = .ok (.lconst 0, 1) := by decide +kernel
theorem dX6_charactersOf_42 : decode cX6_charactersOf 42 = .ok (.lcmp, 1) := by decide +kernel
theorem dX6_charactersOf_43 : decode cX6_charactersOf 43 = .ok (.ifCond .ne 8, 3) := by decide +kernel
theorem dX6_charactersOf_46 : decode cX6_charactersOf 46 = .ok (.iload 4, 2) := by decide +kernel
theorem dX6_charactersOf_48 : decode cX6_charactersOf 48 = .ok (.goto 4, 3) := by decide +kernel
theorem dX6_charactersOf_51 : decode cX6_charactersOf 51 = .ok (.iconst 0, 1) := by decide +kernel
theorem dX6_charactersOf_52 : decode cX6_charactersOf 52 = .ok (.ireturn, 1) := by decide +kernel
set_option maxRecDepth 20000 in
theorem ggX6_put_X6_charactersOf : GoodIn wsX6_put wsX6_charactersOf := goodIn_r _ [7, 3, 8, 9, 10, 11, 6, 12] (by decide +kernel) (by decide +kernel)
set_option maxRecDepth 20000 in
theorem gX6_put_X6_charactersOf : GoodIn wsX6_put (va_wsS RX6 143 yX6_charactersOf wsX6_charactersOf) := goodIn_app (goodIn_of _ (by decide +kernel)) ggX6_put_X6_charactersOf
theorem dX6_put_0 : decode cX6_put 0 = .ok (.lload_n 1, 1) := by decide +kernel
theorem dX6_put_1 : decode cX6_put 1 = .ok (.invokestatic 143, 3) := by decide +kernel
theorem dX6_put_4 : decode cX6_put 4 = .ok (.istore_n 3, 1) := by decide +kernel
theorem dX6_put_5 : decode cX6_put 5 = .ok (.iload_n 3, 1) := by decide +kernel
theorem dX6_put_6 : decode cX6_put 6 = .ok (.ifCond .ne 6, 3) := by decide +kernel
theorem dX6_put_9 : decode cX6_put 9 = .ok (.bipush (-2), 2) := by decide +kernel
theorem dX6_put_11 : decode cX6_put 11 = .ok (.ireturn, 1) := by decide +kernel
theorem dX6_put_12 : decode cX6_put 12 = .ok (.aload_n 0, 1) := by decide +kernel
theorem dX6_put_13 : decode cX6_put 13 = .ok (.getfield 121, 3) := by decide +kernel
theorem dX6_put_16 : decode cX6_put 16 = .ok (.iload_n 3, 1) := by decide +kernel
theorem dX6_put_17 : decode cX6_put 17 = .ok (.iadd, 1) := by decide +kernel
theorem dX6_put_18 : decode cX6_put 18 = .ok (.bipush 60, 2) := by decide +kernel
theorem dX6_put_20 : decode cX6_put 20 = .ok (.if_icmp .le 6, 3) := by decide +kernel
theorem dX6_put_23 : decode cX6_put 23 = .ok (.bipush (-4), 2) := by decide +kernel
theorem dX6_put_25 : decode cX6_put 25 = .ok (.ireturn, 1) := by decide +kernel
theorem dX6_put_26 : decode cX6_put 26 = .ok (.iconst 0, 1) := by decide +kernel
theorem dX6_put_27 : decode cX6_put 27 = .ok (.istore 4, 2) := by decide +kernel
theorem dX6_put_29 : decode cX6_put 29 = .ok (.iload 4, 2) := by decide +kernel
theorem dX6_put_31 : decode cX6_put 31 = .ok (.iload_n 3, 1) := by decide +kernel
theorem dX6_put_32 : decode cX6_put 32 = .ok (.if_icmp .ge 37, 3) := by decide +kernel
theorem dX6_put_35 : decode cX6_put 35 = .ok (.aload_n 0, 1) := by decide +kernel
theorem dX6_put_36 : decode cX6_put 36 = .ok (.getfield 25, 3) := by decide +kernel
theorem dX6_put_39 : decode cX6_put 39 = .ok (.aload_n 0, 1) := by decide +kernel
theorem dX6_put_40 : decode cX6_put 40 = .ok (.getfield 121, 3) := by decide +kernel
theorem dX6_put_43 : decode cX6_put 43 = .ok (.iload 4, 2) := by decide +kernel
theorem dX6_put_45 : decode cX6_put 45 = .ok (.iadd, 1) := by decide +kernel
theorem dX6_put_46 : decode cX6_put 46 = .ok (.lload_n 1, 1) := by decide +kernel
theorem dX6_put_47 : decode cX6_put 47 = .ok (.bipush 8, 2) := by decide +kernel
theorem dX6_put_49 : decode cX6_put 49 = .ok (.iload_n 3, 1) := by decide +kernel
theorem dX6_put_50 : decode cX6_put 50 = .ok (.iconst 1, 1) := by decide +kernel
theorem dX6_put_51 : decode cX6_put 51 = .ok (.isub, 1) := by decide +kernel
theorem dX6_put_52 : decode cX6_put 52 = .ok (.iload 4, 2) := by decide +kernel
theorem dX6_put_54 : decode cX6_put 54 = .ok (.isub, 1) := by decide +kernel
theorem dX6_put_55 : decode cX6_put 55 = .ok (.imul, 1) := by decide +kernel
theorem dX6_put_56 : decode cX6_put 56 = .ok (.lushr, 1) := by decide +kernel
theorem dX6_put_57 : decode cX6_put 57 = .ok (.ldc2_w 137, 3) := by decide +kernel
theorem dX6_put_60 : decode cX6_put 60 = .ok (.land, 1) := by decide +kernel
theorem dX6_put_61 : decode cX6_put 61 = .ok (.l2i, 1) := by decide +kernel
theorem dX6_put_62 : decode cX6_put 62 = .ok (.iastore, 1) := by decide +kernel
theorem dX6_put_63 : decode cX6_put 63 = .ok (.iinc 4 1, 3) := by decide +kernel
theorem dX6_put_66 : decode cX6_put 66 = .ok (.goto (-37), 3) := by decide +kernel
theorem dX6_put_69 : decode cX6_put 69 = .ok (.aload_n 0, 1) := by decide +kernel
theorem dX6_put_70 : decode cX6_put 70 = .ok (.dup, 1) := by decide +kernel
theorem dX6_put_71 : decode cX6_put 71 = .ok (.getfield 121, 3) := by decide +kernel
theorem dX6_put_74 : decode cX6_put 74 = .ok (.iload_n 3, 1) := by decide +kernel
theorem dX6_put_75 : decode cX6_put 75 = .ok (.iadd, 1) := by decide +kernel
theorem dX6_put_76 : decode cX6_put 76 = .ok (.putfield 121, 3) := by decide +kernel
theorem dX6_put_79 : decode cX6_put 79 = .ok (.aload_n 0, 1) := by decide +kernel
theorem dX6_put_80 : decode cX6_put 80 = .ok (.getfield 121, 3) := by decide +kernel
theorem dX6_put_83 : decode cX6_put 83 = .ok (.ireturn, 1) := by decide +kernel
theorem dX6_wipe_0 : decode cX6_wipe 0 = .ok (.aload_n 0, 1) := by decide +kernel
theorem dX6_wipe_1 : decode cX6_wipe 1 = .ok (.getfield 121, 3) := by decide +kernel
theorem dX6_wipe_4 : decode cX6_wipe 4 = .ok (.istore_n 1, 1) := by decide +kernel
theorem dX6_wipe_5 : decode cX6_wipe 5 = .ok (.aload_n 0, 1) := by decide +kernel
theorem dX6_wipe_6 : decode cX6_wipe 6 = .ok (.iconst 0, 1) := by decide +kernel
theorem dX6_wipe_7 : decode cX6_wipe 7 = .ok (.putfield 121, 3) := by decide +kernel
theorem dX6_wipe_10 : decode cX6_wipe 10 = .ok (.iload_n 1, 1) := by decide +kernel
theorem dX6_wipe_11 : decode cX6_wipe 11 = .ok (.ireturn, 1) := by decide +kernel
set_option maxRecDepth 20000 in
theorem ggX6_isHere_X6_in : GoodIn wsX6_isHere wsX6_in := goodIn_r _ [7] (by decide +kernel) (by decide +kernel)
set_option maxRecDepth 20000 in
theorem gX6_isHere_X6_in : GoodIn wsX6_isHere (va_wsS RX6 40 yX6_in wsX6_in) := goodIn_app (goodIn_of _ (by decide +kernel)) ggX6_isHere_X6_in
theorem dX6_isHere_0 : decode cX6_isHere 0 = .ok (.aload_n 0, 1) := by decide +kernel
theorem dX6_isHere_1 : decode cX6_isHere 1 = .ok (.getfield 147, 3) := by decide +kernel
theorem dX6_isHere_4 : decode cX6_isHere 4 = .ok (.aload_n 0, 1) := by decide +kernel
theorem dX6_isHere_5 : decode cX6_isHere 5 = .ok (.getfield 121, 3) := by decide +kernel
theorem dX6_isHere_8 : decode cX6_isHere 8 = .ok (.if_icmp .ge 27, 3) := by decide +kernel
theorem dX6_isHere_11 : decode cX6_isHere 11 = .ok (.aload_n 0, 1) := by decide +kernel
theorem dX6_isHere_12 : decode cX6_isHere 12 = .ok (.getfield 25, 3) := by decide +kernel
theorem dX6_isHere_15 : decode cX6_isHere 15 = .ok (.aload_n 0, 1) := by decide +kernel
theorem dX6_isHere_16 : decode cX6_isHere 16 = .ok (.getfield 147, 3) := by decide +kernel
theorem dX6_isHere_19 : decode cX6_isHere 19 = .ok (.iaload, 1) := by decide +kernel
theorem dX6_isHere_20 : decode cX6_isHere 20 = .ok (.i2l, 1) := by decide +kernel
theorem dX6_isHere_21 : decode cX6_isHere 21 = .ok (.iload_n 1, 1) := by decide +kernel
theorem dX6_isHere_22 : decode cX6_isHere 22 = .ok (.i2l, 1) := by decide +kernel
theorem dX6_isHere_23 : decode cX6_isHere 23 = .ok (.iload_n 2, 1) := by decide +kernel
theorem dX6_isHere_24 : decode cX6_isHere 24 = .ok (.i2l, 1) := by decide +kernel
theorem dX6_isHere_25 : decode cX6_isHere 25 = .ok (.invokestatic 40, 3) := by decide +kernel
theorem dX6_isHere_28 : decode cX6_isHere 28 = .ok (.ifCond .eq 7, 3) := by decide +kernel
theorem dX6_isHere_31 : decode cX6_isHere 31 = .ok (.iconst 1, 1) := by decide +kernel
theorem dX6_isHere_32 : decode cX6_isHere 32 = .ok (.goto 4, 3) := by decide +kernel
theorem dX6_isHere_35 : decode cX6_isHere 35 = .ok (.iconst 0, 1) := by decide +kernel
theorem dX6_isHere_36 : decode cX6_isHere 36 = .ok (.ireturn, 1) := by decide +kernel
set_option maxRecDepth 20000 in
theorem ggX6_takesOne_X6_isHere : GoodIn wsX6_takesOne wsX6_isHere := goodIn_r _ [6, 1, 7, 8, 9, 10, 5, 11, 12, 13, 14, 15, 16, 17, 18, 19, 20, 21, 22, 23] (by decide +kernel) (by decide +kernel)
set_option maxRecDepth 20000 in
theorem gX6_takesOne_X6_isHere : GoodIn wsX6_takesOne (wsV RX6 150 RX6 yX6_isHere wsX6_isHere) := goodIn_app (goodIn_of _ (by decide +kernel)) ggX6_takesOne_X6_isHere
theorem dX6_takesOne_0 : decode cX6_takesOne 0 = .ok (.aload_n 0, 1) := by decide +kernel
theorem dX6_takesOne_1 : decode cX6_takesOne 1 = .ok (.iload_n 1, 1) := by decide +kernel
theorem dX6_takesOne_2 : decode cX6_takesOne 2 = .ok (.iload_n 1, 1) := by decide +kernel
theorem dX6_takesOne_3 : decode cX6_takesOne 3 = .ok (.invokevirtual 150, 3) := by decide +kernel
theorem dX6_takesOne_6 : decode cX6_takesOne 6 = .ok (.istore_n 2, 1) := by decide +kernel
theorem dX6_takesOne_7 : decode cX6_takesOne 7 = .ok (.aload_n 0, 1) := by decide +kernel
theorem dX6_takesOne_8 : decode cX6_takesOne 8 = .ok (.dup, 1) := by decide +kernel
theorem dX6_takesOne_9 : decode cX6_takesOne 9 = .ok (.getfield 147, 3) := by decide +kernel
theorem dX6_takesOne_12 : decode cX6_takesOne 12 = .ok (.iload_n 2, 1) := by decide +kernel
theorem dX6_takesOne_13 : decode cX6_takesOne 13 = .ok (.ifCond .eq 7, 3) := by decide +kernel
theorem dX6_takesOne_16 : decode cX6_takesOne 16 = .ok (.iconst 1, 1) := by decide +kernel
theorem dX6_takesOne_17 : decode cX6_takesOne 17 = .ok (.goto 4, 3) := by decide +kernel
theorem dX6_takesOne_20 : decode cX6_takesOne 20 = .ok (.iconst 0, 1) := by decide +kernel
theorem dX6_takesOne_21 : decode cX6_takesOne 21 = .ok (.iadd, 1) := by decide +kernel
theorem dX6_takesOne_22 : decode cX6_takesOne 22 = .ok (.putfield 147, 3) := by decide +kernel
theorem dX6_takesOne_25 : decode cX6_takesOne 25 = .ok (.iload_n 2, 1) := by decide +kernel
theorem dX6_takesOne_26 : decode cX6_takesOne 26 = .ok (.ireturn, 1) := by decide +kernel
