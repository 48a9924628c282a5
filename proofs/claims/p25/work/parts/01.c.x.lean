set_option maxRecDepth 20000 in
theorem ggX0_init_X1_init : GoodIn wsX0_init wsX1_init := goodIn_r _ [15, 16, 2, 3, 4, 17, 18, 39, 40, 41, 42] (by decide +kernel) (by decide +kernel)
set_option maxRecDepth 20000 in
theorem gX0_init_X1_init_n17 : GoodIn wsX0_init (wsX1_init) := ggX0_init_X1_init
set_option maxRecDepth 20000 in
theorem ggX0_init_X4_init : GoodIn wsX0_init wsX4_init := goodIn_r _ [20, 21, 2, 3, 4, 22, 23, 24, 25, 43, 44, 45, 46] (by decide +kernel) (by decide +kernel)
set_option maxRecDepth 20000 in
theorem gX0_init_X4_init_n24 : GoodIn wsX0_init (wsX4_init) := ggX0_init_X4_init
theorem dX0_init_0 : decode cX0_init 0 = .ok (.aload_n 0, 1) := by decide +kernel
theorem dX0_init_1 : decode cX0_init 1 = .ok (.invokespecial 3, 3) := by decide +kernel
theorem dX0_init_4 : decode cX0_init 4 = .ok (.aload_n 0, 1) := by decide +kernel
theorem dX0_init_5 : decode cX0_init 5 = .ok (.iconst 4, 1) := by decide +kernel
theorem dX0_init_6 : decode cX0_init 6 = .ok (.newarray .int, 2) := by decide +kernel
theorem dX0_init_8 : decode cX0_init 8 = .ok (.dup, 1) := by decide +kernel
theorem dX0_init_9 : decode cX0_init 9 = .ok (.iconst 0, 1) := by decide +kernel
theorem dX0_init_10 : decode cX0_init 10 = .ok (.iconst 4, 1) := by decide +kernel
theorem dX0_init_11 : decode cX0_init 11 = .ok (.iastore, 1) := by decide +kernel
theorem dX0_init_12 : decode cX0_init 12 = .ok (.dup, 1) := by decide +kernel
theorem dX0_init_13 : decode cX0_init 13 = .ok (.iconst 1, 1) := by decide +kernel
theorem dX0_init_14 : decode cX0_init 14 = .ok (.iconst 1, 1) := by decide +kernel
theorem dX0_init_15 : decode cX0_init 15 = .ok (.iastore, 1) := by decide +kernel
theorem dX0_init_16 : decode cX0_init 16 = .ok (.dup, 1) := by decide +kernel
theorem dX0_init_17 : decode cX0_init 17 = .ok (.iconst 2, 1) := by decide +kernel
theorem dX0_init_18 : decode cX0_init 18 = .ok (.iconst 0, 1) := by decide +kernel
theorem dX0_init_19 : decode cX0_init 19 = .ok (.iastore, 1) := by decide +kernel
theorem dX0_init_20 : decode cX0_init 20 = .ok (.dup, 1) := by decide +kernel
theorem dX0_init_21 : decode cX0_init 21 = .ok (.iconst 3, 1) := by decide +kernel
theorem dX0_init_22 : decode cX0_init 22 = .ok (.iconst 1, 1) := by decide +kernel
theorem dX0_init_23 : decode cX0_init 23 = .ok (.iastore, 1) := by decide +kernel
theorem dX0_init_24 : decode cX0_init 24 = .ok (.putfield 9, 3) := by decide +kernel
theorem dX0_init_27 : decode cX0_init 27 = .ok (.aload_n 0, 1) := by decide +kernel
theorem dX0_init_28 : decode cX0_init 28 = .ok (.new 15, 3) := by decide +kernel
theorem dX0_init_31 : decode cX0_init 31 = .ok (.dup, 1) := by decide +kernel
theorem dX0_init_32 : decode cX0_init 32 = .ok (.invokespecial 17, 3) := by decide +kernel
theorem dX0_init_35 : decode cX0_init 35 = .ok (.putfield 18, 3) := by decide +kernel
theorem dX0_init_38 : decode cX0_init 38 = .ok (.aload_n 0, 1) := by decide +kernel
theorem dX0_init_39 : decode cX0_init 39 = .ok (.new 22, 3) := by decide +kernel
theorem dX0_init_42 : decode cX0_init 42 = .ok (.dup, 1) := by decide +kernel
theorem dX0_init_43 : decode cX0_init 43 = .ok (.invokespecial 24, 3) := by decide +kernel
theorem dX0_init_46 : decode cX0_init 46 = .ok (.putfield 25, 3) := by decide +kernel
theorem dX0_init_49 : decode cX0_init 49 = .ok (.return_, 1) := by decide +kernel
set_option maxRecDepth 20000 in
theorem ggX0_copyFrom_X1_copyFrom : GoodIn wsX0_copyFrom wsX1_copyFrom := goodIn_r _ [22, 23, 24, 3, 4, 5, 25, 26, 27, 51, 52, 53, 54] (by decide +kernel) (by decide +kernel)
set_option maxRecDepth 20000 in
theorem gX0_copyFrom_X1_copyFrom : GoodIn wsX0_copyFrom (wsV RX0 35 RX1 yX1_copyFrom wsX1_copyFrom) := goodIn_app (goodIn_of _ (by decide +kernel)) ggX0_copyFrom_X1_copyFrom
set_option maxRecDepth 20000 in
theorem ggX0_copyFrom_X4_copyFrom : GoodIn wsX0_copyFrom wsX4_copyFrom := goodIn_r _ [32, 33, 34, 3, 4, 5, 35, 36, 37, 55, 56, 57, 58] (by decide +kernel) (by decide +kernel)
set_option maxRecDepth 20000 in
theorem gX0_copyFrom_X4_copyFrom : GoodIn wsX0_copyFrom (wsV RX0 39 RX4 yX4_copyFrom wsX4_copyFrom) := goodIn_app (goodIn_of _ (by decide +kernel)) ggX0_copyFrom_X4_copyFrom
theorem dX0_copyFrom_0 : decode cX0_copyFrom 0 = .ok (.aload_n 1, 1) := by decide +kernel
theorem dX0_copyFrom_1 : decode cX0_copyFrom 1 = .ok (.getfield 9, 3) := by decide +kernel
theorem dX0_copyFrom_4 : decode cX0_copyFrom 4 = .ok (.iconst 0, 1) := by decide +kernel
theorem dX0_copyFrom_5 : decode cX0_copyFrom 5 = .ok (.aload_n 0, 1) := by decide +kernel
theorem dX0_copyFrom_6 : decode cX0_copyFrom 6 = .ok (.getfield 9, 3) := by decide +kernel
theorem dX0_copyFrom_9 : decode cX0_copyFrom 9 = .ok (.iconst 0, 1) := by decide +kernel
theorem dX0_copyFrom_10 : decode cX0_copyFrom 10 = .ok (.iconst 4, 1) := by decide +kernel
theorem dX0_copyFrom_11 : decode cX0_copyFrom 11 = .ok (.invokestatic 29, 3) := by decide +kernel
theorem dX0_copyFrom_14 : decode cX0_copyFrom 14 = .ok (.aload_n 0, 1) := by decide +kernel
theorem dX0_copyFrom_15 : decode cX0_copyFrom 15 = .ok (.getfield 18, 3) := by decide +kernel
theorem dX0_copyFrom_18 : decode cX0_copyFrom 18 = .ok (.aload_n 1, 1) := by decide +kernel
theorem dX0_copyFrom_19 : decode cX0_copyFrom 19 = .ok (.getfield 18, 3) := by decide +kernel
theorem dX0_copyFrom_22 : decode cX0_copyFrom 22 = .ok (.invokevirtual 35, 3) := by decide +kernel
theorem dX0_copyFrom_25 : decode cX0_copyFrom 25 = .ok (.aload_n 0, 1) := by decide +kernel
theorem dX0_copyFrom_26 : decode cX0_copyFrom 26 = .ok (.getfield 25, 3) := by decide +kernel
theorem dX0_copyFrom_29 : decode cX0_copyFrom 29 = .ok (.aload_n 1, 1) := by decide +kernel
theorem dX0_copyFrom_30 : decode cX0_copyFrom 30 = .ok (.getfield 25, 3) := by decide +kernel
theorem dX0_copyFrom_33 : decode cX0_copyFrom 33 = .ok (.invokevirtual 39, 3) := by decide +kernel
theorem dX0_copyFrom_36 : decode cX0_copyFrom 36 = .ok (.aload_n 0, 1) := by decide +kernel
theorem dX0_copyFrom_37 : decode cX0_copyFrom 37 = .ok (.aload_n 1, 1) := by decide +kernel
theorem dX0_copyFrom_38 : decode cX0_copyFrom 38 = .ok (.getfield 42, 3) := by decide +kernel
theorem dX0_copyFrom_41 : decode cX0_copyFrom 41 = .ok (.putfield 42, 3) := by decide +kernel
theorem dX0_copyFrom_44 : decode cX0_copyFrom 44 = .ok (.aload_n 0, 1) := by decide +kernel
theorem dX0_copyFrom_45 : decode cX0_copyFrom 45 = .ok (.aload_n 1, 1) := by decide +kernel
theorem dX0_copyFrom_46 : decode cX0_copyFrom 46 = .ok (.getfield 46, 3) := by decide +kernel
theorem dX0_copyFrom_49 : decode cX0_copyFrom 49 = .ok (.putfield 46, 3) := by decide +kernel
theorem dX0_copyFrom_52 : decode cX0_copyFrom 52 = .ok (.aload_n 0, 1) := by decide +kernel
theorem dX0_copyFrom_53 : decode cX0_copyFrom 53 = .ok (.aload_n 1, 1) := by decide +kernel
theorem dX0_copyFrom_54 : decode cX0_copyFrom 54 = .ok (.getfield 50, 3) := by decide +kernel
theorem dX0_copyFrom_57 : decode cX0_copyFrom 57 = .ok (.putfield 50, 3) := by decide +kernel
theorem dX0_copyFrom_60 : decode cX0_copyFrom 60 = .ok (.aload_n 0, 1) := by decide +kernel
theorem dX0_copyFrom_61 : decode cX0_copyFrom 61 = .ok (.aload_n 1, 1) := by decide +kernel
theorem dX0_copyFrom_62 : decode cX0_copyFrom 62 = .ok (.getfield 53, 3) := by decide +kernel
theorem dX0_copyFrom_65 : decode cX0_copyFrom 65 = .ok (.putfield 53, 3) := by decide +kernel
theorem dX0_copyFrom_68 : decode cX0_copyFrom 68 = .ok (.aload_n 0, 1) := by decide +kernel
theorem dX0_copyFrom_69 : decode cX0_copyFrom 69 = .ok (.aload_n 1, 1) := by decide +kernel
theorem dX0_copyFrom_70 : decode cX0_copyFrom 70 = .ok (.getfield 56, 3) := by decide +kernel
theorem dX0_copyFrom_73 : decode cX0_copyFrom 73 = .ok (.putfield 56, 3) := by decide +kernel
theorem dX0_copyFrom_76 : decode cX0_copyFrom 76 = .ok (.aload_n 0, 1) := by decide +kernel
theorem dX0_copyFrom_77 : decode cX0_copyFrom 77 = .ok (.aload_n 1, 1) := by decide +kernel
theorem dX0_copyFrom_78 : decode cX0_copyFrom 78 = .ok (.getfield 59, 3) := by decide +kernel
theorem dX0_copyFrom_81 : decode cX0_copyFrom 81 = .ok (.putfield 59, 3) := by decide +kernel
theorem dX0_copyFrom_84 : decode cX0_copyFrom 84 = .ok (.aload_n 0, 1) := by decide +kernel
theorem dX0_copyFrom_85 : decode cX0_copyFrom 85 = .ok (.aload_n 1, 1) := by decide +kernel
theorem dX0_copyFrom_86 : decode cX0_copyFrom 86 = .ok (.getfield 62, 3) := by decide +kernel
theorem dX0_copyFrom_89 : decode cX0_copyFrom 89 = .ok (.putfield 62, 3) := by decide +kernel
theorem dX0_copyFrom_92 : decode cX0_copyFrom 92 = .ok (.aload_n 0, 1) := by decide +kernel
theorem dX0_copyFrom_93 : decode cX0_copyFrom 93 = .ok (.aload_n 1, 1) := by decide +kernel
theorem dX0_copyFrom_94 : decode cX0_copyFrom 94 = .ok (.getfield 65, 3) := by decide +kernel
theorem dX0_copyFrom_97 : decode cX0_copyFrom 97 = .ok (.putfield 65, 3) := by decide +kernel
theorem dX0_copyFrom_100 : decode cX0_copyFrom 100 = .ok (.aload_n 0, 1) := by decide +kernel
theorem dX0_copyFrom_101 : decode cX0_copyFrom 101 = .ok (.aload_n 1, 1) := by decide +kernel
theorem dX0_copyFrom_102 : decode cX0_copyFrom 102 = .ok (.getfield 68, 3) := by decide +kernel
theorem dX0_copyFrom_105 : decode cX0_copyFrom 105 = .ok (.putfield 68, 3) := by decide +kernel
theorem dX0_copyFrom_108 : decode cX0_copyFrom 108 = .ok (.aload_n 0, 1) := by decide +kernel
theorem dX0_copyFrom_109 : decode cX0_copyFrom 109 = .ok (.aload_n 1, 1) := by decide +kernel
theorem dX0_copyFrom_110 : decode cX0_copyFrom 110 = .ok (.getfield 71, 3) := by decide +kernel
theorem dX0_copyFrom_113 : decode cX0_copyFrom 113 = .ok (.putfield 71, 3) := by decide +kernel
theorem dX0_copyFrom_116 : decode cX0_copyFrom 116 = .ok (.return_, 1) := by decide +kernel
set_option maxRecDepth 20000 in
theorem ggX0_wouldJamAt_X1_pegsInRow : GoodIn wsX0_wouldJamAt wsX1_pegsInRow := goodIn_r _ [7, 8, 9, 10, 11, 12, 13, 14, 15, 29, 30, 31, 32] (by decide +kernel) (by decide +kernel)
set_option maxRecDepth 20000 in
theorem gX0_wouldJamAt_X1_pegsInRow : GoodIn wsX0_wouldJamAt (wsV RX0 74 RX1 yX1_pegsInRow wsX1_pegsInRow) := goodIn_app (goodIn_of _ (by decide +kernel)) ggX0_wouldJamAt_X1_pegsInRow
theorem dX0_wouldJamAt_0 : decode cX0_wouldJamAt 0 = .ok (.aload_n 0, 1) := by decide +kernel
theorem dX0_wouldJamAt_1 : decode cX0_wouldJamAt 1 = .ok (.getfield 18, 3) := by decide +kernel
theorem dX0_wouldJamAt_4 : decode cX0_wouldJamAt 4 = .ok (.iload_n 1, 1) := by decide +kernel
theorem dX0_wouldJamAt_5 : decode cX0_wouldJamAt 5 = .ok (.invokevirtual 74, 3) := by decide +kernel
theorem dX0_wouldJamAt_8 : decode cX0_wouldJamAt 8 = .ok (.aload_n 0, 1) := by decide +kernel
theorem dX0_wouldJamAt_9 : decode cX0_wouldJamAt 9 = .ok (.getfield 9, 3) := by decide +kernel
theorem dX0_wouldJamAt_12 : decode cX0_wouldJamAt 12 = .ok (.iconst 3, 1) := by decide +kernel
theorem dX0_wouldJamAt_13 : decode cX0_wouldJamAt 13 = .ok (.iaload, 1) := by decide +kernel
theorem dX0_wouldJamAt_14 : decode cX0_wouldJamAt 14 = .ok (.if_icmp .le 7, 3) := by decide +kernel
theorem dX0_wouldJamAt_17 : decode cX0_wouldJamAt 17 = .ok (.iconst 1, 1) := by decide +kernel
theorem dX0_wouldJamAt_18 : decode cX0_wouldJamAt 18 = .ok (.goto 4, 3) := by decide +kernel
theorem dX0_wouldJamAt_21 : decode cX0_wouldJamAt 21 = .ok (.iconst 0, 1) := by decide +kernel
theorem dX0_wouldJamAt_22 : decode cX0_wouldJamAt 22 = .ok (.ireturn, 1) := by decide +kernel
set_option maxRecDepth 20000 in
theorem ggX0_makeSteps_X0_makeOneStep : GoodIn wsX0_makeSteps wsX0_makeOneStep := goodIn_r _ [5, 6, 7, 8, 9, 10, 11, 12, 13, 14, 15, 16, 4, 17, 18, 19, 20, 21, 22, 23, 24, 25, 26, 27, 28, 29, 30, 31, 32, 33, 34, 35, 36, 37, 38, 39, 40, 41, 42, 43, 44, 45, 46, 47, 48, 49, 50, 51, 52, 53, 54, 55, 56, 57, 58, 59, 60, 61, 62, 63, 64, 65, 66, 67, 68, 69, 70, 71, 72, 73, 74, 75, 76, 77, 78, 79, 80, 81, 82, 83, 84, 85, 86, 87, 88, 89, 90, 91, 92, 93, 94, 95, 96, 97] (by decide +kernel) (by decide +kernel)
set_option maxRecDepth 20000 in
theorem gX0_makeSteps_X0_makeOneStep : GoodIn wsX0_makeSteps (wsV RX0 78 RX0 yX0_makeOneStep wsX0_makeOneStep) := goodIn_app (goodIn_of _ (by decide +kernel)) ggX0_makeSteps_X0_makeOneStep
theorem dX0_makeSteps_0 : decode cX0_makeSteps 0 = .ok (.iconst 0, 1) := by decide +kernel
theorem dX0_makeSteps_1 : decode cX0_makeSteps 1 = .ok (.istore_n 2, 1) := by decide +kernel
theorem dX0_makeSteps_2 : decode cX0_makeSteps 2 = .ok (.iload_n 2, 1) := by decide +kernel
theorem dX0_makeSteps_3 : decode cX0_makeSteps 3 = .ok (.iload_n 1, 1) := by decide +kernel
theorem dX0_makeSteps_4 : decode cX0_makeSteps 4 = .ok (.if_icmp .ge 16, 3) := by decide +kernel
theorem dX0_makeSteps_7 : decode cX0_makeSteps 7 = .ok (.aload_n 0, 1) := by decide +kernel
theorem dX0_makeSteps_8 : decode cX0_makeSteps 8 = .ok (.invokevirtual 78, 3) := by decide +kernel
theorem dX0_makeSteps_11 : decode cX0_makeSteps 11 = .ok (.ifCond .eq 9, 3) := by decide +kernel
theorem dX0_makeSteps_14 : decode cX0_makeSteps 14 = .ok (.iinc 2 1, 3) := by decide +kernel
theorem dX0_makeSteps_17 : decode cX0_makeSteps 17 = .ok (.goto (-15), 3) := by decide +kernel
theorem dX0_makeSteps_20 : decode cX0_makeSteps 20 = .ok (.iload_n 2, 1) := by decide +kernel
theorem dX0_makeSteps_21 : decode cX0_makeSteps 21 = .ok (.ireturn, 1) := by decide +kernel
set_option maxRecDepth 20000 in
theorem ggX0_makeOneStep_X0_wouldJamAt : GoodIn wsX0_makeOneStep wsX0_wouldJamAt := goodIn_r _ [13, 2, 8, 14, 15, 16, 17, 18, 19, 20, 21, 22, 23, 24, 25, 26, 73, 74, 75, 76, 77, 78, 79, 80, 81, 82, 83, 84, 85, 86, 87, 88, 89] (by decide +kernel) (by decide +kernel)
set_option maxRecDepth 20000 in
theorem gX0_makeOneStep_X0_wouldJamAt : GoodIn wsX0_makeOneStep (wsV RX0 85 RX0 yX0_wouldJamAt wsX0_wouldJamAt) := goodIn_app (goodIn_of _ (by decide +kernel)) ggX0_makeOneStep_X0_wouldJamAt
set_option maxRecDepth 20000 in
theorem ggX0_makeOneStep_X0_letStampsFall : GoodIn wsX0_makeOneStep wsX0_letStampsFall := goodIn_r _ [30, 2, 3, 8, 31, 32, 33, 12, 34, 35, 36, 37, 38, 39, 40, 41, 42, 43, 44, 45, 46, 47, 48, 49, 17, 50, 51, 19, 52, 73, 74, 75, 76, 77, 78, 79, 80, 81, 82, 83, 84, 85, 86, 87, 88, 89, 90, 91, 92, 93] (by decide +kernel) (by decide +kernel)
set_option maxRecDepth 20000 in
theorem gX0_makeOneStep_X0_letStampsFall : GoodIn wsX0_makeOneStep (wsV RX0 92 RX0 yX0_letStampsFall wsX0_letStampsFall) := goodIn_app (goodIn_of _ (by decide +kernel)) ggX0_makeOneStep_X0_letStampsFall
set_option maxRecDepth 20000 in
theorem ggX0_makeOneStep_X1_goOn : GoodIn wsX0_makeOneStep wsX1_goOn := goodIn_r _ [56, 57, 58, 59, 17, 60, 86, 87, 88, 89] (by decide +kernel) (by decide +kernel)
set_option maxRecDepth 20000 in
theorem gX0_makeOneStep_X1_goOn : GoodIn wsX0_makeOneStep (wsV RX0 96 RX1 yX1_goOn wsX1_goOn) := goodIn_app (goodIn_of _ (by decide +kernel)) ggX0_makeOneStep_X1_goOn
set_option maxRecDepth 20000 in
theorem ggX0_makeOneStep_X0_finishForm : GoodIn wsX0_makeOneStep wsX0_finishForm := goodIn_r _ [64, 36, 65, 35, 66, 67, 68, 69, 70, 71, 12, 72, 7, 73, 74, 75, 76, 77, 78, 79, 80, 81, 82, 83, 84, 85] (by decide +kernel) (by decide +kernel)
set_option maxRecDepth 20000 in
theorem gX0_makeOneStep_X0_finishForm : GoodIn wsX0_makeOneStep (wsV RX0 99 RX0 yX0_finishForm wsX0_finishForm) := goodIn_app (goodIn_of _ (by decide +kernel)) ggX0_makeOneStep_X0_finishForm
theorem dX0_makeOneStep_0 : decode cX0_makeOneStep 0 = .ok (.aload_n 0, 1) := by decide +kernel
theorem dX0_makeOneStep_1 : decode cX0_makeOneStep 1 = .ok (.getfield 42, 3) := by decide +kernel
theorem dX0_makeOneStep_4 : decode cX0_makeOneStep 4 = .ok (.ifCond .eq 5, 3) := by decide +kernel
theorem dX0_makeOneStep_7 : decode cX0_makeOneStep 7 = .ok (.iconst 0, 1) := by decide +kernel
theorem dX0_makeOneStep_8 : decode cX0_makeOneStep 8 = .ok (.ireturn, 1) := by decide +kernel
theorem dX0_makeOneStep_9 : decode cX0_makeOneStep 9 = .ok (.aload_n 0, 1) := by decide +kernel
theorem dX0_makeOneStep_10 : decode cX0_makeOneStep 10 = .ok (.aload_n 0, 1) := by decide +kernel
theorem dX0_makeOneStep_11 : decode cX0_makeOneStep 11 = .ok (.getfield 18, 3) := by decide +kernel
theorem dX0_makeOneStep_14 : decode cX0_makeOneStep 14 = .ok (.getfield 82, 3) := by decide +kernel
theorem dX0_makeOneStep_17 : decode cX0_makeOneStep 17 = .ok (.invokevirtual 85, 3) := by decide +kernel
theorem dX0_makeOneStep_20 : decode cX0_makeOneStep 20 = .ok (.ifCond .eq 20, 3) := by decide +kernel
theorem dX0_makeOneStep_23 : decode cX0_makeOneStep 23 = .ok (.aload_n 0, 1) := by decide +kernel
theorem dX0_makeOneStep_24 : decode cX0_makeOneStep 24 = .ok (.iconst 1, 1) := by decide +kernel
theorem dX0_makeOneStep_25 : decode cX0_makeOneStep 25 = .ok (.putfield 42, 3) := by decide +kernel
theorem dX0_makeOneStep_28 : decode cX0_makeOneStep 28 = .ok (.aload_n 0, 1) := by decide +kernel
theorem dX0_makeOneStep_29 : decode cX0_makeOneStep 29 = .ok (.dup, 1) := by decide +kernel
theorem dX0_makeOneStep_30 : decode cX0_makeOneStep 30 = .ok (.getfield 71, 3) := by decide +kernel
theorem dX0_makeOneStep_33 : decode cX0_makeOneStep 33 = .ok (.iconst 1, 1) := by decide +kernel
theorem dX0_makeOneStep_34 : decode cX0_makeOneStep 34 = .ok (.iadd, 1) := by decide +kernel
theorem dX0_makeOneStep_35 : decode cX0_makeOneStep 35 = .ok (.putfield 71, 3) := by decide +kernel
theorem dX0_makeOneStep_38 : decode cX0_makeOneStep 38 = .ok (.iconst 0, 1) := by decide +kernel
theorem dX0_makeOneStep_39 : decode cX0_makeOneStep 39 = .ok (.ireturn, 1) := by decide +kernel
theorem dX0_makeOneStep_40 : decode cX0_makeOneStep 40 = .ok (.aload_n 0, 1) := by decide +kernel
theorem dX0_makeOneStep_41 : decode cX0_makeOneStep 41 = .ok (.aload_n 0, 1) := by decide +kernel
theorem dX0_makeOneStep_42 : decode cX0_makeOneStep 42 = .ok (.getfield 18, 3) := by decide +kernel
theorem dX0_makeOneStep_45 : decode cX0_makeOneStep 45 = .ok (.getfield 89, 3) := by decide +kernel
theorem dX0_makeOneStep_48 : decode cX0_makeOneStep 48 = .ok (.aload_n 0, 1) := by decide +kernel
theorem dX0_makeOneStep_49 : decode cX0_makeOneStep 49 = .ok (.getfield 18, 3) := by decide +kernel
theorem dX0_makeOneStep_52 : decode cX0_makeOneStep 52 = .ok (.getfield 82, 3) := by decide +kernel
theorem dX0_makeOneStep_55 : decode cX0_makeOneStep 55 = .ok (.iaload, 1) := by decide +kernel
theorem dX0_makeOneStep_56 : decode cX0_makeOneStep 56 = .ok (.invokevirtual 92, 3) := by decide +kernel
theorem dX0_makeOneStep_59 : decode cX0_makeOneStep 59 = .ok (.aload_n 0, 1) := by decide +kernel
theorem dX0_makeOneStep_60 : decode cX0_makeOneStep 60 = .ok (.getfield 18, 3) := by decide +kernel
theorem dX0_makeOneStep_63 : decode cX0_makeOneStep 63 = .ok (.invokevirtual 96, 3) := by decide +kernel
theorem dX0_makeOneStep_66 : decode cX0_makeOneStep 66 = .ok (.aload_n 0, 1) := by decide +kernel
theorem dX0_makeOneStep_67 : decode cX0_makeOneStep 67 = .ok (.dup, 1) := by decide +kernel
theorem dX0_makeOneStep_68 : decode cX0_makeOneStep 68 = .ok (.getfield 59, 3) := by decide +kernel
theorem dX0_makeOneStep_71 : decode cX0_makeOneStep 71 = .ok (.iconst 1, 1) := by decide +kernel
theorem dX0_makeOneStep_72 : decode cX0_makeOneStep 72 = .ok (.iadd, 1) := by decide +kernel
theorem dX0_makeOneStep_73 : decode cX0_makeOneStep 73 = .ok (.putfield 59, 3) := by decide +kernel
theorem dX0_makeOneStep_76 : decode cX0_makeOneStep 76 = .ok (.aload_n 0, 1) := by decide +kernel
theorem dX0_makeOneStep_77 : decode cX0_makeOneStep 77 = .ok (.dup, 1) := by decide +kernel
theorem dX0_makeOneStep_78 : decode cX0_makeOneStep 78 = .ok (.getfield 56, 3) := by decide +kernel
theorem dX0_makeOneStep_81 : decode cX0_makeOneStep 81 = .ok (.iconst 1, 1) := by decide +kernel
theorem dX0_makeOneStep_82 : decode cX0_makeOneStep 82 = .ok (.iadd, 1) := by decide +kernel
theorem dX0_makeOneStep_83 : decode cX0_makeOneStep 83 = .ok (.putfield 56, 3) := by decide +kernel
theorem dX0_makeOneStep_86 : decode cX0_makeOneStep 86 = .ok (.aload_n 0, 1) := by decide +kernel
theorem dX0_makeOneStep_87 : decode cX0_makeOneStep 87 = .ok (.getfield 56, 3) := by decide +kernel
theorem dX0_makeOneStep_90 : decode cX0_makeOneStep 90 = .ok (.aload_n 0, 1) := by decide +kernel
theorem dX0_makeOneStep_91 : decode cX0_makeOneStep 91 = .ok (.getfield 9, 3) := by decide +kernel
theorem dX0_makeOneStep_94 : decode cX0_makeOneStep 94 = .ok (.iconst 0, 1) := by decide +kernel
theorem dX0_makeOneStep_95 : decode cX0_makeOneStep 95 = .ok (.iaload, 1) := by decide +kernel
theorem dX0_makeOneStep_96 : decode cX0_makeOneStep 96 = .ok (.if_icmp .lt 7, 3) := by decide +kernel
theorem dX0_makeOneStep_99 : decode cX0_makeOneStep 99 = .ok (.aload_n 0, 1) := by decide +kernel
theorem dX0_makeOneStep_100 : decode cX0_makeOneStep 100 = .ok (.invokevirtual 99, 3) := by decide +kernel
theorem dX0_makeOneStep_103 : decode cX0_makeOneStep 103 = .ok (.iconst 1, 1) := by decide +kernel
theorem dX0_makeOneStep_104 : decode cX0_makeOneStep 104 = .ok (.ireturn, 1) := by decide +kernel
set_option maxRecDepth 20000 in
theorem ggX0_letStampsFall_X0_letStampFall : GoodIn wsX0_letStampsFall wsX0_letStampFall := goodIn_r _ [8, 9, 10, 11, 12, 3, 13, 14, 15, 16, 17, 18, 19, 20, 29, 30, 31, 32, 33, 34, 35, 36, 37, 38, 39, 40, 41, 46, 47, 48, 49] (by decide +kernel) (by decide +kernel)
set_option maxRecDepth 20000 in
theorem gX0_letStampsFall_X0_letStampFall : GoodIn wsX0_letStampsFall (wsV RX0 102 RX0 yX0_letStampFall wsX0_letStampFall) := goodIn_app (goodIn_of _ (by decide +kernel)) ggX0_letStampsFall_X0_letStampFall
set_option maxRecDepth 20000 in
theorem ggX0_letStampsFall_X1_wearPeg : GoodIn wsX0_letStampsFall wsX1_wearPeg := goodIn_r _ [25, 26, 27, 28, 42, 43, 44, 45] (by decide +kernel) (by decide +kernel)
set_option maxRecDepth 20000 in
theorem gX0_letStampsFall_X1_wearPeg : GoodIn wsX0_letStampsFall (wsV RX0 105 RX1 yX1_wearPeg wsX1_wearPeg) := goodIn_app (goodIn_of _ (by decide +kernel)) ggX0_letStampsFall_X1_wearPeg
theorem dX0_letStampsFall_0 : decode cX0_letStampsFall 0 = .ok (.iconst 0, 1) := by decide +kernel
theorem dX0_letStampsFall_1 : decode cX0_letStampsFall 1 = .ok (.istore_n 2, 1) := by decide +kernel
theorem dX0_letStampsFall_2 : decode cX0_letStampsFall 2 = .ok (.iload_n 2, 1) := by decide +kernel
theorem dX0_letStampsFall_3 : decode cX0_letStampsFall 3 = .ok (.bipush 6, 2) := by decide +kernel
theorem dX0_letStampsFall_5 : decode cX0_letStampsFall 5 = .ok (.if_icmp .ge 43, 3) := by decide +kernel
theorem dX0_letStampsFall_8 : decode cX0_letStampsFall 8 = .ok (.iload_n 1, 1) := by decide +kernel
theorem dX0_letStampsFall_9 : decode cX0_letStampsFall 9 = .ok (.iload_n 2, 1) := by decide +kernel
theorem dX0_letStampsFall_10 : decode cX0_letStampsFall 10 = .ok (.ishr, 1) := by decide +kernel
theorem dX0_letStampsFall_11 : decode cX0_letStampsFall 11 = .ok (.iconst 1, 1) := by decide +kernel
theorem dX0_letStampsFall_12 : decode cX0_letStampsFall 12 = .ok (.iand, 1) := by decide +kernel
theorem dX0_letStampsFall_13 : decode cX0_letStampsFall 13 = .ok (.ifCond .eq 29, 3) := by decide +kernel
theorem dX0_letStampsFall_16 : decode cX0_letStampsFall 16 = .ok (.aload_n 0, 1) := by decide +kernel
theorem dX0_letStampsFall_17 : decode cX0_letStampsFall 17 = .ok (.iload_n 2, 1) := by decide +kernel
theorem dX0_letStampsFall_18 : decode cX0_letStampsFall 18 = .ok (.invokevirtual 102, 3) := by decide +kernel
theorem dX0_letStampsFall_21 : decode cX0_letStampsFall 21 = .ok (.aload_n 0, 1) := by decide +kernel
theorem dX0_letStampsFall_22 : decode cX0_letStampsFall 22 = .ok (.getfield 18, 3) := by decide +kernel
theorem dX0_letStampsFall_25 : decode cX0_letStampsFall 25 = .ok (.aload_n 0, 1) := by decide +kernel
theorem dX0_letStampsFall_26 : decode cX0_letStampsFall 26 = .ok (.getfield 18, 3) := by decide +kernel
theorem dX0_letStampsFall_29 : decode cX0_letStampsFall 29 = .ok (.getfield 82, 3) := by decide +kernel
theorem dX0_letStampsFall_32 : decode cX0_letStampsFall 32 = .ok (.iload_n 2, 1) := by decide +kernel
theorem dX0_letStampsFall_33 : decode cX0_letStampsFall 33 = .ok (.aload_n 0, 1) := by decide +kernel
theorem dX0_letStampsFall_34 : decode cX0_letStampsFall 34 = .ok (.getfield 9, 3) := by decide +kernel
theorem dX0_letStampsFall_37 : decode cX0_letStampsFall 37 = .ok (.iconst 2, 1) := by decide +kernel
theorem dX0_letStampsFall_38 : decode cX0_letStampsFall 38 = .ok (.iaload, 1) := by decide +kernel
theorem dX0_letStampsFall_39 : decode cX0_letStampsFall 39 = .ok (.invokevirtual 105, 3) := by decide +kernel
theorem dX0_letStampsFall_42 : decode cX0_letStampsFall 42 = .ok (.iinc 2 1, 3) := by decide +kernel
theorem dX0_letStampsFall_45 : decode cX0_letStampsFall 45 = .ok (.goto (-43), 3) := by decide +kernel
theorem dX0_letStampsFall_48 : decode cX0_letStampsFall 48 = .ok (.return_, 1) := by decide +kernel
set_option maxRecDepth 20000 in
theorem ggX0_letStampFall_X4_leavesMark : GoodIn wsX0_letStampFall wsX4_leavesMark := goodIn_r _ [10, 11, 12, 13, 27, 28, 29, 30] (by decide +kernel) (by decide +kernel)
set_option maxRecDepth 20000 in
theorem gX0_letStampFall_X4_leavesMark : GoodIn wsX0_letStampFall (wsV RX0 112 RX4 yX4_leavesMark wsX4_leavesMark) := goodIn_app (goodIn_of _ (by decide +kernel)) ggX0_letStampFall_X4_leavesMark
theorem dX0_letStampFall_0 : decode cX0_letStampFall 0 = .ok (.aload_n 0, 1) := by decide +kernel
theorem dX0_letStampFall_1 : decode cX0_letStampFall 1 = .ok (.getfield 50, 3) := by decide +kernel
theorem dX0_letStampFall_4 : decode cX0_letStampFall 4 = .ok (.iload_n 1, 1) := by decide +kernel
theorem dX0_letStampFall_5 : decode cX0_letStampFall 5 = .ok (.ishr, 1) := by decide +kernel
theorem dX0_letStampFall_6 : decode cX0_letStampFall 6 = .ok (.iconst 1, 1) := by decide +kernel
theorem dX0_letStampFall_7 : decode cX0_letStampFall 7 = .ok (.iand, 1) := by decide +kernel
theorem dX0_letStampFall_8 : decode cX0_letStampFall 8 = .ok (.ifCond .eq 21, 3) := by decide +kernel
theorem dX0_letStampFall_11 : decode cX0_letStampFall 11 = .ok (.aload_n 0, 1) := by decide +kernel
theorem dX0_letStampFall_12 : decode cX0_letStampFall 12 = .ok (.iconst 1, 1) := by decide +kernel
theorem dX0_letStampFall_13 : decode cX0_letStampFall 13 = .ok (.putfield 53, 3) := by decide +kernel
theorem dX0_letStampFall_16 : decode cX0_letStampFall 16 = .ok (.aload_n 0, 1) := by decide +kernel
theorem dX0_letStampFall_17 : decode cX0_letStampFall 17 = .ok (.getfield 25, 3) := by decide +kernel
theorem dX0_letStampFall_20 : decode cX0_letStampFall 20 = .ok (.getfield 109, 3) := by decide +kernel
theorem dX0_letStampFall_23 : decode cX0_letStampFall 23 = .ok (.iload_n 1, 1) := by decide +kernel
theorem dX0_letStampFall_24 : decode cX0_letStampFall 24 = .ok (.dup2, 1) := by decide +kernel
theorem dX0_letStampFall_25 : decode cX0_letStampFall 25 = .ok (.iaload, 1) := by decide +kernel
theorem dX0_letStampFall_26 : decode cX0_letStampFall 26 = .ok (.iconst 1, 1) := by decide +kernel
theorem dX0_letStampFall_27 : decode cX0_letStampFall 27 = .ok (.iadd, 1) := by decide +kernel
theorem dX0_letStampFall_28 : decode cX0_letStampFall 28 = .ok (.iastore, 1) := by decide +kernel
theorem dX0_letStampFall_29 : decode cX0_letStampFall 29 = .ok (.aload_n 0, 1) := by decide +kernel
theorem dX0_letStampFall_30 : decode cX0_letStampFall 30 = .ok (.getfield 25, 3) := by decide +kernel
theorem dX0_letStampFall_33 : decode cX0_letStampFall 33 = .ok (.iload_n 1, 1) := by decide +kernel
theorem dX0_letStampFall_34 : decode cX0_letStampFall 34 = .ok (.aload_n 0, 1) := by decide +kernel
theorem dX0_letStampFall_35 : decode cX0_letStampFall 35 = .ok (.getfield 9, 3) := by decide +kernel
theorem dX0_letStampFall_38 : decode cX0_letStampFall 38 = .ok (.iconst 1, 1) := by decide +kernel
theorem dX0_letStampFall_39 : decode cX0_letStampFall 39 = .ok (.iaload, 1) := by decide +kernel
theorem dX0_letStampFall_40 : decode cX0_letStampFall 40 = .ok (.invokevirtual 112, 3) := by decide +kernel
theorem dX0_letStampFall_43 : decode cX0_letStampFall 43 = .ok (.ifCond .eq 15, 3) := by decide +kernel
theorem dX0_letStampFall_46 : decode cX0_letStampFall 46 = .ok (.aload_n 0, 1) := by decide +kernel
theorem dX0_letStampFall_47 : decode cX0_letStampFall 47 = .ok (.dup, 1) := by decide +kernel
theorem dX0_letStampFall_48 : decode cX0_letStampFall 48 = .ok (.getfield 50, 3) := by decide +kernel
theorem dX0_letStampFall_51 : decode cX0_letStampFall 51 = .ok (.iconst 1, 1) := by decide +kernel
theorem dX0_letStampFall_52 : decode cX0_letStampFall 52 = .ok (.iload_n 1, 1) := by decide +kernel
theorem dX0_letStampFall_53 : decode cX0_letStampFall 53 = .ok (.ishl, 1) := by decide +kernel
theorem dX0_letStampFall_54 : decode cX0_letStampFall 54 = .ok (.ior, 1) := by decide +kernel
theorem dX0_letStampFall_55 : decode cX0_letStampFall 55 = .ok (.putfield 50, 3) := by decide +kernel
theorem dX0_letStampFall_58 : decode cX0_letStampFall 58 = .ok (.return_, 1) := by decide +kernel
set_option maxRecDepth 20000 in
theorem ggX0_finishForm_X0_layForm : GoodIn wsX0_finishForm wsX0_layForm := goodIn_r _ [11, 3, 1, 12, 13, 14, 15, 16, 17, 18, 19, 20, 21, 22, 23, 24, 25] (by decide +kernel) (by decide +kernel)
set_option maxRecDepth 20000 in
theorem gX0_finishForm_X0_layForm : GoodIn wsX0_finishForm (wsV RX0 116 RX0 yX0_layForm wsX0_layForm) := goodIn_app (goodIn_of _ (by decide +kernel)) ggX0_finishForm_X0_layForm
theorem dX0_finishForm_0 : decode cX0_finishForm 0 = .ok (.aload_n 0, 1) := by decide +kernel
theorem dX0_finishForm_1 : decode cX0_finishForm 1 = .ok (.getfield 53, 3) := by decide +kernel
theorem dX0_finishForm_4 : decode cX0_finishForm 4 = .ok (.ifCond .eq 16, 3) := by decide +kernel
theorem dX0_finishForm_7 : decode cX0_finishForm 7 = .ok (.aload_n 0, 1) := by decide +kernel
theorem dX0_finishForm_8 : decode cX0_finishForm 8 = .ok (.dup, 1) := by decide +kernel
theorem dX0_finishForm_9 : decode cX0_finishForm 9 = .ok (.getfield 68, 3) := by decide +kernel
theorem dX0_finishForm_12 : decode cX0_finishForm 12 = .ok (.iconst 1, 1) := by decide +kernel
theorem dX0_finishForm_13 : decode cX0_finishForm 13 = .ok (.iadd, 1) := by decide +kernel
theorem dX0_finishForm_14 : decode cX0_finishForm 14 = .ok (.putfield 68, 3) := by decide +kernel
theorem dX0_finishForm_17 : decode cX0_finishForm 17 = .ok (.goto 37, 3) := by decide +kernel
theorem dX0_finishForm_20 : decode cX0_finishForm 20 = .ok (.aload_n 0, 1) := by decide +kernel
theorem dX0_finishForm_21 : decode cX0_finishForm 21 = .ok (.getfield 50, 3) := by decide +kernel
theorem dX0_finishForm_24 : decode cX0_finishForm 24 = .ok (.aload_n 0, 1) := by decide +kernel
theorem dX0_finishForm_25 : decode cX0_finishForm 25 = .ok (.getfield 46, 3) := by decide +kernel
theorem dX0_finishForm_28 : decode cX0_finishForm 28 = .ok (.if_icmp .ne 16, 3) := by decide +kernel
theorem dX0_finishForm_31 : decode cX0_finishForm 31 = .ok (.aload_n 0, 1) := by decide +kernel
theorem dX0_finishForm_32 : decode cX0_finishForm 32 = .ok (.dup, 1) := by decide +kernel
theorem dX0_finishForm_33 : decode cX0_finishForm 33 = .ok (.getfield 62, 3) := by decide +kernel
theorem dX0_finishForm_36 : decode cX0_finishForm 36 = .ok (.iconst 1, 1) := by decide +kernel
theorem dX0_finishForm_37 : decode cX0_finishForm 37 = .ok (.iadd, 1) := by decide +kernel
theorem dX0_finishForm_38 : decode cX0_finishForm 38 = .ok (.putfield 62, 3) := by decide +kernel
theorem dX0_finishForm_41 : decode cX0_finishForm 41 = .ok (.goto 13, 3) := by decide +kernel
theorem dX0_finishForm_44 : decode cX0_finishForm 44 = .ok (.aload_n 0, 1) := by decide +kernel
theorem dX0_finishForm_45 : decode cX0_finishForm 45 = .ok (.dup, 1) := by decide +kernel
theorem dX0_finishForm_46 : decode cX0_finishForm 46 = .ok (.getfield 65, 3) := by decide +kernel
theorem dX0_finishForm_49 : decode cX0_finishForm 49 = .ok (.iconst 1, 1) := by decide +kernel
theorem dX0_finishForm_50 : decode cX0_finishForm 50 = .ok (.iadd, 1) := by decide +kernel
theorem dX0_finishForm_51 : decode cX0_finishForm 51 = .ok (.putfield 65, 3) := by decide +kernel
theorem dX0_finishForm_54 : decode cX0_finishForm 54 = .ok (.aload_n 0, 1) := by decide +kernel
theorem dX0_finishForm_55 : decode cX0_finishForm 55 = .ok (.invokevirtual 116, 3) := by decide +kernel
theorem dX0_finishForm_58 : decode cX0_finishForm 58 = .ok (.return_, 1) := by decide +kernel
theorem dX0_layForm_0 : decode cX0_layForm 0 = .ok (.aload_n 0, 1) := by decide +kernel
theorem dX0_layForm_1 : decode cX0_layForm 1 = .ok (.iconst 0, 1) := by decide +kernel
theorem dX0_layForm_2 : decode cX0_layForm 2 = .ok (.putfield 50, 3) := by decide +kernel
theorem dX0_layForm_5 : decode cX0_layForm 5 = .ok (.aload_n 0, 1) := by decide +kernel
theorem dX0_layForm_6 : decode cX0_layForm 6 = .ok (.iconst 0, 1) := by decide +kernel
theorem dX0_layForm_7 : decode cX0_layForm 7 = .ok (.putfield 53, 3) := by decide +kernel
theorem dX0_layForm_10 : decode cX0_layForm 10 = .ok (.aload_n 0, 1) := by decide +kernel
theorem dX0_layForm_11 : decode cX0_layForm 11 = .ok (.iconst 0, 1) := by decide +kernel
theorem dX0_layForm_12 : decode cX0_layForm 12 = .ok (.putfield 56, 3) := by decide +kernel
theorem dX0_layForm_15 : decode cX0_layForm 15 = .ok (.return_, 1) := by decide +kernel
theorem dX1_init_0 : decode cX1_init 0 = .ok (.aload_n 0, 1) := by decide +kernel
theorem dX1_init_1 : decode cX1_init 1 = .ok (.invokespecial 3, 3) := by decide +kernel
theorem dX1_init_4 : decode cX1_init 4 = .ok (.aload_n 0, 1) := by decide +kernel
theorem dX1_init_5 : decode cX1_init 5 = .ok (.bipush 16, 2) := by decide +kernel
theorem dX1_init_7 : decode cX1_init 7 = .ok (.newarray .int, 2) := by decide +kernel
theorem dX1_init_9 : decode cX1_init 9 = .ok (.putfield 9, 3) := by decide +kernel
theorem dX1_init_12 : decode cX1_init 12 = .ok (.aload_n 0, 1) := by decide +kernel
theorem dX1_init_13 : decode cX1_init 13 = .ok (.bipush 96, 2) := by decide +kernel
theorem dX1_init_15 : decode cX1_init 15 = .ok (.newarray .int, 2) := by decide +kernel
theorem dX1_init_17 : decode cX1_init 17 = .ok (.putfield 15, 3) := by decide +kernel
theorem dX1_init_20 : decode cX1_init 20 = .ok (.return_, 1) := by decide +kernel
theorem dX1_copyFrom_0 : decode cX1_copyFrom 0 = .ok (.aload_n 1, 1) := by decide +kernel
theorem dX1_copyFrom_1 : decode cX1_copyFrom 1 = .ok (.getfield 9, 3) := by decide +kernel
theorem dX1_copyFrom_4 : decode cX1_copyFrom 4 = .ok (.iconst 0, 1) := by decide +kernel
theorem dX1_copyFrom_5 : decode cX1_copyFrom 5 = .ok (.aload_n 0, 1) := by decide +kernel
theorem dX1_copyFrom_6 : decode cX1_copyFrom 6 = .ok (.getfield 9, 3) := by decide +kernel
theorem dX1_copyFrom_9 : decode cX1_copyFrom 9 = .ok (.iconst 0, 1) := by decide +kernel
theorem dX1_copyFrom_10 : decode cX1_copyFrom 10 = .ok (.bipush 16, 2) := by decide +kernel
theorem dX1_copyFrom_12 : decode cX1_copyFrom 12 = .ok (.invokestatic 18, 3) := by decide +kernel
theorem dX1_copyFrom_15 : decode cX1_copyFrom 15 = .ok (.aload_n 1, 1) := by decide +kernel
theorem dX1_copyFrom_16 : decode cX1_copyFrom 16 = .ok (.getfield 15, 3) := by decide +kernel
theorem dX1_copyFrom_19 : decode cX1_copyFrom 19 = .ok (.iconst 0, 1) := by decide +kernel
theorem dX1_copyFrom_20 : decode cX1_copyFrom 20 = .ok (.aload_n 0, 1) := by decide +kernel
theorem dX1_copyFrom_21 : decode cX1_copyFrom 21 = .ok (.getfield 15, 3) := by decide +kernel
theorem dX1_copyFrom_24 : decode cX1_copyFrom 24 = .ok (.iconst 0, 1) := by decide +kernel
theorem dX1_copyFrom_25 : decode cX1_copyFrom 25 = .ok (.bipush 96, 2) := by decide +kernel
theorem dX1_copyFrom_27 : decode cX1_copyFrom 27 = .ok (.invokestatic 18, 3) := by decide +kernel
theorem dX1_copyFrom_30 : decode cX1_copyFrom 30 = .ok (.aload_n 0, 1) := by decide +kernel
theorem dX1_copyFrom_31 : decode cX1_copyFrom 31 = .ok (.aload_n 1, 1) := by decide +kernel
theorem dX1_copyFrom_32 : decode cX1_copyFrom 32 = .ok (.getfield 24, 3) := by decide +kernel
theorem dX1_copyFrom_35 : decode cX1_copyFrom 35 = .ok (.putfield 24, 3) := by decide +kernel
theorem dX1_copyFrom_38 : decode cX1_copyFrom 38 = .ok (.aload_n 0, 1) := by decide +kernel
theorem dX1_copyFrom_39 : decode cX1_copyFrom 39 = .ok (.aload_n 1, 1) := by decide +kernel
theorem dX1_copyFrom_40 : decode cX1_copyFrom 40 = .ok (.getfield 28, 3) := by decide +kernel
theorem dX1_copyFrom_43 : decode cX1_copyFrom 43 = .ok (.putfield 28, 3) := by decide +kernel
theorem dX1_copyFrom_46 : decode cX1_copyFrom 46 = .ok (.return_, 1) := by decide +kernel
theorem dX1_rowBehind_0 : decode cX1_rowBehind 0 = .ok (.iload_n 0, 1) := by decide +kernel
theorem dX1_rowBehind_1 : decode cX1_rowBehind 1 = .ok (.bipush 15, 2) := by decide +kernel
theorem dX1_rowBehind_3 : decode cX1_rowBehind 3 = .ok (.if_icmp .lt 7, 3) := by decide +kernel
theorem dX1_rowBehind_6 : decode cX1_rowBehind 6 = .ok (.iconst 0, 1) := by decide +kernel
theorem dX1_rowBehind_7 : decode cX1_rowBehind 7 = .ok (.goto 6, 3) := by decide +kernel
theorem dX1_rowBehind_10 : decode cX1_rowBehind 10 = .ok (.iload_n 0, 1) := by decide +kernel
theorem dX1_rowBehind_11 : decode cX1_rowBehind 11 = .ok (.iconst 1, 1) := by decide +kernel
theorem dX1_rowBehind_12 : decode cX1_rowBehind 12 = .ok (.iadd, 1) := by decide +kernel
theorem dX1_rowBehind_13 : decode cX1_rowBehind 13 = .ok (.ireturn, 1) := by decide +kernel
set_option maxRecDepth 20000 in
theorem ggX1_goOn_X1_rowBehind : GoodIn wsX1_goOn wsX1_rowBehind := goodIn_r _ [5] (by decide +kernel) (by decide +kernel)
set_option maxRecDepth 20000 in
theorem gX1_goOn_X1_rowBehind : GoodIn wsX1_goOn (va_wsS RX1 31 yX1_rowBehind wsX1_rowBehind) := goodIn_app (goodIn_of _ (by decide +kernel)) ggX1_goOn_X1_rowBehind
theorem dX1_goOn_0 : decode cX1_goOn 0 = .ok (.aload_n 0, 1) := by decide +kernel
theorem dX1_goOn_1 : decode cX1_goOn 1 = .ok (.aload_n 0, 1) := by decide +kernel
theorem dX1_goOn_2 : decode cX1_goOn 2 = .ok (.getfield 24, 3) := by decide +kernel
theorem dX1_goOn_5 : decode cX1_goOn 5 = .ok (.invokestatic 31, 3) := by decide +kernel
theorem dX1_goOn_8 : decode cX1_goOn 8 = .ok (.putfield 24, 3) := by decide +kernel
theorem dX1_goOn_11 : decode cX1_goOn 11 = .ok (.return_, 1) := by decide +kernel
theorem dX1_hasPeg_0 : decode cX1_hasPeg 0 = .ok (.aload_n 0, 1) := by decide +kernel
theorem dX1_hasPeg_1 : decode cX1_hasPeg 1 = .ok (.getfield 9, 3) := by decide +kernel
theorem dX1_hasPeg_4 : decode cX1_hasPeg 4 = .ok (.iload_n 1, 1) := by decide +kernel
theorem dX1_hasPeg_5 : decode cX1_hasPeg 5 = .ok (.iaload, 1) := by decide +kernel
theorem dX1_hasPeg_6 : decode cX1_hasPeg 6 = .ok (.iload_n 2, 1) := by decide +kernel
theorem dX1_hasPeg_7 : decode cX1_hasPeg 7 = .ok (.ishr, 1) := by decide +kernel
theorem dX1_hasPeg_8 : decode cX1_hasPeg 8 = .ok (.iconst 1, 1) := by decide +kernel
theorem dX1_hasPeg_9 : decode cX1_hasPeg 9 = .ok (.iand, 1) := by decide +kernel
theorem dX1_hasPeg_10 : decode cX1_hasPeg 10 = .ok (.ifCond .eq 7, 3) := by decide +kernel
theorem dX1_hasPeg_13 : decode cX1_hasPeg 13 = .ok (.iconst 1, 1) := by decide +kernel
theorem dX1_hasPeg_14 : decode cX1_hasPeg 14 = .ok (.goto 4, 3) := by decide +kernel
theorem dX1_hasPeg_17 : decode cX1_hasPeg 17 = .ok (.iconst 0, 1) := by decide +kernel
theorem dX1_hasPeg_18 : decode cX1_hasPeg 18 = .ok (.ireturn, 1) := by decide +kernel
set_option maxRecDepth 20000 in
theorem ggX1_pegsInRow_J6_bitCount_0f7a4 : GoodIn wsX1_pegsInRow wsJ6_bitCount_0f7a4 := goodIn_r _ [5, 6, 7, 8] (by decide +kernel) (by decide +kernel)
set_option maxRecDepth 20000 in
theorem gX1_pegsInRow_J6_bitCount_0f7a4 : GoodIn wsX1_pegsInRow (va_wsS RX1 35 yJ6_bitCount_0f7a4 wsJ6_bitCount_0f7a4) := goodIn_app (goodIn_of _ (by decide +kernel)) ggX1_pegsInRow_J6_bitCount_0f7a4
theorem dX1_pegsInRow_0 : decode cX1_pegsInRow 0 = .ok (.aload_n 0, 1) := by decide +kernel
theorem dX1_pegsInRow_1 : decode cX1_pegsInRow 1 = .ok (.getfield 9, 3) := by decide +kernel
theorem dX1_pegsInRow_4 : decode cX1_pegsInRow 4 = .ok (.iload_n 1, 1) := by decide +kernel
theorem dX1_pegsInRow_5 : decode cX1_pegsInRow 5 = .ok (.iaload, 1) := by decide +kernel
theorem dX1_pegsInRow_6 : decode cX1_pegsInRow 6 = .ok (.invokestatic 35, 3) := by decide +kernel
theorem dX1_pegsInRow_9 : decode cX1_pegsInRow 9 = .ok (.ireturn, 1) := by decide +kernel
set_option maxRecDepth 20000 in
theorem ggX1_pegsAtPlace_X1_hasPeg : GoodIn wsX1_pegsAtPlace wsX1_hasPeg := goodIn_r _ [5, 6, 7, 8, 9, 10] (by decide +kernel) (by decide +kernel)
set_option maxRecDepth 20000 in
theorem gX1_pegsAtPlace_X1_hasPeg : GoodIn wsX1_pegsAtPlace (wsV RX1 40 RX1 yX1_hasPeg wsX1_hasPeg) := goodIn_app (goodIn_of _ (by decide +kernel)) ggX1_pegsAtPlace_X1_hasPeg
theorem dX1_pegsAtPlace_0 : decode cX1_pegsAtPlace 0 = .ok (.iconst 0, 1) := by decide +kernel
theorem dX1_pegsAtPlace_1 : decode cX1_pegsAtPlace 1 = .ok (.istore_n 2, 1) := by decide +kernel
theorem dX1_pegsAtPlace_2 : decode cX1_pegsAtPlace 2 = .ok (.iconst 0, 1) := by decide +kernel
theorem dX1_pegsAtPlace_3 : decode cX1_pegsAtPlace 3 = .ok (.istore_n 3, 1) := by decide +kernel
theorem dX1_pegsAtPlace_4 : decode cX1_pegsAtPlace 4 = .ok (.iload_n 3, 1) := by decide +kernel
theorem dX1_pegsAtPlace_5 : decode cX1_pegsAtPlace 5 = .ok (.bipush 16, 2) := by decide +kernel
theorem dX1_pegsAtPlace_7 : decode cX1_pegsAtPlace 7 = .ok (.if_icmp .ge 21, 3) := by decide +kernel
theorem dX1_pegsAtPlace_10 : decode cX1_pegsAtPlace 10 = .ok (.aload_n 0, 1) := by decide +kernel
theorem dX1_pegsAtPlace_11 : decode cX1_pegsAtPlace 11 = .ok (.iload_n 3, 1) := by decide +kernel
theorem dX1_pegsAtPlace_12 : decode cX1_pegsAtPlace 12 = .ok (.iload_n 1, 1) := by decide +kernel
theorem dX1_pegsAtPlace_13 : decode cX1_pegsAtPlace 13 = .ok (.invokevirtual 40, 3) := by decide +kernel
theorem dX1_pegsAtPlace_16 : decode cX1_pegsAtPlace 16 = .ok (.ifCond .eq 6, 3) := by decide +kernel
theorem dX1_pegsAtPlace_19 : decode cX1_pegsAtPlace 19 = .ok (.iinc 2 1, 3) := by decide +kernel
theorem dX1_pegsAtPlace_22 : decode cX1_pegsAtPlace 22 = .ok (.iinc 3 1, 3) := by decide +kernel
theorem dX1_pegsAtPlace_25 : decode cX1_pegsAtPlace 25 = .ok (.goto (-21), 3) := by decide +kernel
theorem dX1_pegsAtPlace_28 : decode cX1_pegsAtPlace 28 = .ok (.iload_n 2, 1) := by decide +kernel
theorem dX1_pegsAtPlace_29 : decode cX1_pegsAtPlace 29 = .ok (.ireturn, 1) := by decide +kernel
set_option maxRecDepth 20000 in
theorem ggX1_allPegs_X1_pegsInRow : GoodIn wsX1_allPegs wsX1_pegsInRow := goodIn_r _ [5, 6, 7, 8, 9, 10, 11, 12, 13, 14, 15, 16, 17] (by decide +kernel) (by decide +kernel)
set_option maxRecDepth 20000 in
theorem gX1_allPegs_X1_pegsInRow : GoodIn wsX1_allPegs (wsV RX1 44 RX1 yX1_pegsInRow wsX1_pegsInRow) := goodIn_app (goodIn_of _ (by decide +kernel)) ggX1_allPegs_X1_pegsInRow
theorem dX1_allPegs_0 : decode cX1_allPegs 0 = .ok (.iconst 0, 1) := by decide +kernel
theorem dX1_allPegs_1 : decode cX1_allPegs 1 = .ok (.istore_n 1, 1) := by decide +kernel
theorem dX1_allPegs_2 : decode cX1_allPegs 2 = .ok (.iconst 0, 1) := by decide +kernel
theorem dX1_allPegs_3 : decode cX1_allPegs 3 = .ok (.istore_n 2, 1) := by decide +kernel
theorem dX1_allPegs_4 : decode cX1_allPegs 4 = .ok (.iload_n 2, 1) := by decide +kernel
theorem dX1_allPegs_5 : decode cX1_allPegs 5 = .ok (.bipush 16, 2) := by decide +kernel
theorem dX1_allPegs_7 : decode cX1_allPegs 7 = .ok (.if_icmp .ge 17, 3) := by decide +kernel
theorem dX1_allPegs_10 : decode cX1_allPegs 10 = .ok (.iload_n 1, 1) := by decide +kernel
theorem dX1_allPegs_11 : decode cX1_allPegs 11 = .ok (.aload_n 0, 1) := by decide +kernel
theorem dX1_allPegs_12 : decode cX1_allPegs 12 = .ok (.iload_n 2, 1) := by decide +kernel
theorem dX1_allPegs_13 : decode cX1_allPegs 13 = .ok (.invokevirtual 44, 3) := by decide +kernel
theorem dX1_allPegs_16 : decode cX1_allPegs 16 = .ok (.iadd, 1) := by decide +kernel
theorem dX1_allPegs_17 : decode cX1_allPegs 17 = .ok (.istore_n 1, 1) := by decide +kernel
theorem dX1_allPegs_18 : decode cX1_allPegs 18 = .ok (.iinc 2 1, 3) := by decide +kernel
theorem dX1_allPegs_21 : decode cX1_allPegs 21 = .ok (.goto (-17), 3) := by decide +kernel
theorem dX1_allPegs_24 : decode cX1_allPegs 24 = .ok (.iload_n 1, 1) := by decide +kernel
theorem dX1_allPegs_25 : decode cX1_allPegs 25 = .ok (.ireturn, 1) := by decide +kernel
set_option maxRecDepth 20000 in
theorem ggX1_giveRow_X1_hasPeg : GoodIn wsX1_giveRow wsX1_hasPeg := goodIn_r _ [7, 2, 8, 9, 10, 11] (by decide +kernel) (by decide +kernel)
set_option maxRecDepth 20000 in
theorem gX1_giveRow_X1_hasPeg : GoodIn wsX1_giveRow (wsV RX1 40 RX1 yX1_hasPeg wsX1_hasPeg) := goodIn_app (goodIn_of _ (by decide +kernel)) ggX1_giveRow_X1_hasPeg
theorem dX1_giveRow_0 : decode cX1_giveRow 0 = .ok (.iconst 0, 1) := by decide +kernel
theorem dX1_giveRow_1 : decode cX1_giveRow 1 = .ok (.istore_n 3, 1) := by decide +kernel
theorem dX1_giveRow_2 : decode cX1_giveRow 2 = .ok (.iload_n 3, 1) := by decide +kernel
theorem dX1_giveRow_3 : decode cX1_giveRow 3 = .ok (.bipush 6, 2) := by decide +kernel
theorem dX1_giveRow_5 : decode cX1_giveRow 5 = .ok (.if_icmp .ge 30, 3) := by decide +kernel
theorem dX1_giveRow_8 : decode cX1_giveRow 8 = .ok (.aload_n 0, 1) := by decide +kernel
theorem dX1_giveRow_9 : decode cX1_giveRow 9 = .ok (.iload_n 1, 1) := by decide +kernel
theorem dX1_giveRow_10 : decode cX1_giveRow 10 = .ok (.iload_n 3, 1) := by decide +kernel
theorem dX1_giveRow_11 : decode cX1_giveRow 11 = .ok (.invokevirtual 40, 3) := by decide +kernel
theorem dX1_giveRow_14 : decode cX1_giveRow 14 = .ok (.ifCond .ne 15, 3) := by decide +kernel
theorem dX1_giveRow_17 : decode cX1_giveRow 17 = .ok (.aload_n 0, 1) := by decide +kernel
theorem dX1_giveRow_18 : decode cX1_giveRow 18 = .ok (.getfield 15, 3) := by decide +kernel
theorem dX1_giveRow_21 : decode cX1_giveRow 21 = .ok (.iload_n 1, 1) := by decide +kernel
theorem dX1_giveRow_22 : decode cX1_giveRow 22 = .ok (.bipush 6, 2) := by decide +kernel
theorem dX1_giveRow_24 : decode cX1_giveRow 24 = .ok (.imul, 1) := by decide +kernel
theorem dX1_giveRow_25 : decode cX1_giveRow 25 = .ok (.iload_n 3, 1) := by decide +kernel
theorem dX1_giveRow_26 : decode cX1_giveRow 26 = .ok (.iadd, 1) := by decide +kernel
theorem dX1_giveRow_27 : decode cX1_giveRow 27 = .ok (.iconst 0, 1) := by decide +kernel
theorem dX1_giveRow_28 : decode cX1_giveRow 28 = .ok (.iastore, 1) := by decide +kernel
theorem dX1_giveRow_29 : decode cX1_giveRow 29 = .ok (.iinc 3 1, 3) := by decide +kernel
theorem dX1_giveRow_32 : decode cX1_giveRow 32 = .ok (.goto (-30), 3) := by decide +kernel
theorem dX1_giveRow_35 : decode cX1_giveRow 35 = .ok (.aload_n 0, 1) := by decide +kernel
theorem dX1_giveRow_36 : decode cX1_giveRow 36 = .ok (.getfield 9, 3) := by decide +kernel
theorem dX1_giveRow_39 : decode cX1_giveRow 39 = .ok (.iload_n 1, 1) := by decide +kernel
theorem dX1_giveRow_40 : decode cX1_giveRow 40 = .ok (.iload_n 2, 1) := by decide +kernel
theorem dX1_giveRow_41 : decode cX1_giveRow 41 = .ok (.iastore, 1) := by decide +kernel
theorem dX1_giveRow_42 : decode cX1_giveRow 42 = .ok (.return_, 1) := by decide +kernel
theorem dX1_wearPeg_0 : decode cX1_wearPeg 0 = .ok (.iload_n 1, 1) := by decide +kernel
theorem dX1_wearPeg_1 : decode cX1_wearPeg 1 = .ok (.bipush 6, 2) := by decide +kernel
theorem dX1_wearPeg_3 : decode cX1_wearPeg 3 = .ok (.imul, 1) := by decide +kernel
theorem dX1_wearPeg_4 : decode cX1_wearPeg 4 = .ok (.iload_n 2, 1) := by decide +kernel
theorem dX1_wearPeg_5 : decode cX1_wearPeg 5 = .ok (.iadd, 1) := by decide +kernel
theorem dX1_wearPeg_6 : decode cX1_wearPeg 6 = .ok (.istore 4, 2) := by decide +kernel
theorem dX1_wearPeg_8 : decode cX1_wearPeg 8 = .ok (.aload_n 0, 1) := by decide +kernel
theorem dX1_wearPeg_9 : decode cX1_wearPeg 9 = .ok (.getfield 15, 3) := by decide +kernel
theorem dX1_wearPeg_12 : decode cX1_wearPeg 12 = .ok (.iload 4, 2) := by decide +kernel
theorem dX1_wearPeg_14 : decode cX1_wearPeg 14 = .ok (.dup2, 1) := by decide +kernel
theorem dX1_wearPeg_15 : decode cX1_wearPeg 15 = .ok (.iaload, 1) := by decide +kernel
theorem dX1_wearPeg_16 : decode cX1_wearPeg 16 = .ok (.iconst 1, 1) := by decide +kernel
theorem dX1_wearPeg_17 : decode cX1_wearPeg 17 = .ok (.iadd, 1) := by decide +kernel
theorem dX1_wearPeg_18 : decode cX1_wearPeg 18 = .ok (.iastore, 1) := by decide +kernel
theorem dX1_wearPeg_19 : decode cX1_wearPeg 19 = .ok (.iload_n 3, 1) := by decide +kernel
theorem dX1_wearPeg_20 : decode cX1_wearPeg 20 = .ok (.ifCond .eq 38, 3) := by decide +kernel
theorem dX1_wearPeg_23 : decode cX1_wearPeg 23 = .ok (.aload_n 0, 1) := by decide +kernel
theorem dX1_wearPeg_24 : decode cX1_wearPeg 24 = .ok (.getfield 15, 3) := by decide +kernel
theorem dX1_wearPeg_27 : decode cX1_wearPeg 27 = .ok (.iload 4, 2) := by decide +kernel
theorem dX1_wearPeg_29 : decode cX1_wearPeg 29 = .ok (.iaload, 1) := by decide +kernel
theorem dX1_wearPeg_30 : decode cX1_wearPeg 30 = .ok (.iload_n 3, 1) := by decide +kernel
theorem dX1_wearPeg_31 : decode cX1_wearPeg 31 = .ok (.if_icmp .lt 27, 3) := by decide +kernel
theorem dX1_wearPeg_34 : decode cX1_wearPeg 34 = .ok (.aload_n 0, 1) := by decide +kernel
theorem dX1_wearPeg_35 : decode cX1_wearPeg 35 = .ok (.getfield 9, 3) := by decide +kernel
theorem dX1_wearPeg_38 : decode cX1_wearPeg 38 = .ok (.iload_n 1, 1) := by decide +kernel
theorem dX1_wearPeg_39 : decode cX1_wearPeg 39 = .ok (.dup2, 1) := by decide +kernel
theorem dX1_wearPeg_40 : decode cX1_wearPeg 40 = .ok (.iaload, 1) := by decide +kernel
theorem dX1_wearPeg_41 : decode cX1_wearPeg 41 = .ok (.iconst 1, 1) := by decide +kernel
theorem dX1_wearPeg_42 : decode cX1_wearPeg 42 = .ok (.iload_n 2, 1) := by decide +kernel
theorem dX1_wearPeg_43 : decode cX1_wearPeg 43 = .ok (.ishl, 1) := by decide +kernel
theorem dX1_wearPeg_44 : decode cX1_wearPeg 44 = .ok (.iconst (-1), 1) := by decide +kernel
theorem dX1_wearPeg_45 : decode cX1_wearPeg 45 = .ok (.ixor, 1) := by decide +kernel
theorem dX1_wearPeg_46 : decode cX1_wearPeg 46 = .ok (.iand, 1) := by decide +kernel
theorem dX1_wearPeg_47 : decode cX1_wearPeg 47 = .ok (.iastore, 1) := by decide +kernel
theorem dX1_wearPeg_48 : decode cX1_wearPeg 48 = .ok (.aload_n 0, 1) := by decide +kernel
theorem dX1_wearPeg_49 : decode cX1_wearPeg 49 = .ok (.dup, 1) := by decide +kernel
theorem dX1_wearPeg_50 : decode cX1_wearPeg 50 = .ok (.getfield 28, 3) := by decide +kernel
theorem dX1_wearPeg_53 : decode cX1_wearPeg 53 = .ok (.iconst 1, 1) := by decide +kernel
theorem dX1_wearPeg_54 : decode cX1_wearPeg 54 = .ok (.iadd, 1) := by decide +kernel
theorem dX1_wearPeg_55 : decode cX1_wearPeg 55 = .ok (.putfield 28, 3) := by decide +kernel
theorem dX1_wearPeg_58 : decode cX1_wearPeg 58 = .ok (.return_, 1) := by decide +kernel
set_option maxRecDepth 20000 in
theorem ggX2_init_X0_init : GoodIn wsX2_init wsX0_init := goodIn_r _ [9, 10, 2, 3, 11, 12, 13, 14, 15, 16, 17, 18, 19, 20, 21, 22, 23, 24, 25, 26, 27, 28, 29, 30, 31, 32, 33, 34, 35, 36, 37, 38, 39, 40, 41, 42, 43, 44, 45, 49, 50, 51, 52, 53, 54, 55, 56] (by decide +kernel) (by decide +kernel)
set_option maxRecDepth 20000 in
theorem gX2_init_X0_init_n9 : GoodIn wsX2_init (wsX0_init) := ggX2_init_X0_init
theorem dX2_init_0 : decode cX2_init 0 = .ok (.aload_n 0, 1) := by decide +kernel
theorem dX2_init_1 : decode cX2_init 1 = .ok (.invokespecial 1, 3) := by decide +kernel
theorem dX2_init_4 : decode cX2_init 4 = .ok (.aload_n 0, 1) := by decide +kernel
theorem dX2_init_5 : decode cX2_init 5 = .ok (.bipush 6, 2) := by decide +kernel
theorem dX2_init_7 : decode cX2_init 7 = .ok (.anewarray 7, 3) := by decide +kernel
theorem dX2_init_10 : decode cX2_init 10 = .ok (.dup, 1) := by decide +kernel
theorem dX2_init_11 : decode cX2_init 11 = .ok (.iconst 0, 1) := by decide +kernel
theorem dX2_init_12 : decode cX2_init 12 = .ok (.new 7, 3) := by decide +kernel
theorem dX2_init_15 : decode cX2_init 15 = .ok (.dup, 1) := by decide +kernel
theorem dX2_init_16 : decode cX2_init 16 = .ok (.invokespecial 9, 3) := by decide +kernel
theorem dX2_init_19 : decode cX2_init 19 = .ok (.aastore, 1) := by decide +kernel
theorem dX2_init_20 : decode cX2_init 20 = .ok (.dup, 1) := by decide +kernel
theorem dX2_init_21 : decode cX2_init 21 = .ok (.iconst 1, 1) := by decide +kernel
theorem dX2_init_22 : decode cX2_init 22 = .ok (.new 7, 3) := by decide +kernel
theorem dX2_init_25 : decode cX2_init 25 = .ok (.dup, 1) := by decide +kernel
theorem dX2_init_26 : decode cX2_init 26 = .ok (.invokespecial 9, 3) := by decide +kernel
theorem dX2_init_29 : decode cX2_init 29 = .ok (.aastore, 1) := by decide +kernel
theorem dX2_init_30 : decode cX2_init 30 = .ok (.dup, 1) := by decide +kernel
theorem dX2_init_31 : decode cX2_init 31 = .ok (.iconst 2, 1) := by decide +kernel
theorem dX2_init_32 : decode cX2_init 32 = .ok (.new 7, 3) := by decide +kernel
theorem dX2_init_35 : decode cX2_init 35 = .ok (.dup, 1) := by decide +kernel
theorem dX2_init_36 : decode cX2_init 36 = .ok (.invokespecial 9, 3) := by decide +kernel
theorem dX2_init_39 : decode cX2_init 39 = .ok (.aastore, 1) := by decide +kernel
theorem dX2_init_40 : decode cX2_init 40 = .ok (.dup, 1) := by decide +kernel
theorem dX2_init_41 : decode cX2_init 41 = .ok (.iconst 3, 1) := by decide +kernel
theorem dX2_init_42 : decode cX2_init 42 = .ok (.new 7, 3) := by decide +kernel
theorem dX2_init_45 : decode cX2_init 45 = .ok (.dup, 1) := by decide +kernel
theorem dX2_init_46 : decode cX2_init 46 = .ok (.invokespecial 9, 3) := by decide +kernel
theorem dX2_init_49 : decode cX2_init 49 = .ok (.aastore, 1) := by decide +kernel
theorem dX2_init_50 : decode cX2_init 50 = .ok (.dup, 1) := by decide +kernel
theorem dX2_init_51 : decode cX2_init 51 = .ok (.iconst 4, 1) := by decide +kernel
theorem dX2_init_52 : decode cX2_init 52 = .ok (.new 7, 3) := by decide +kernel
theorem dX2_init_55 : decode cX2_init 55 = .ok (.dup, 1) := by decide +kernel
theorem dX2_init_56 : decode cX2_init 56 = .ok (.invokespecial 9, 3) := by decide +kernel
theorem dX2_init_59 : decode cX2_init 59 = .ok (.aastore, 1) := by decide +kernel
theorem dX2_init_60 : decode cX2_init 60 = .ok (.dup, 1) := by decide +kernel
theorem dX2_init_61 : decode cX2_init 61 = .ok (.iconst 5, 1) := by decide +kernel
theorem dX2_init_62 : decode cX2_init 62 = .ok (.new 7, 3) := by decide +kernel
theorem dX2_init_65 : decode cX2_init 65 = .ok (.dup, 1) := by decide +kernel
theorem dX2_init_66 : decode cX2_init 66 = .ok (.invokespecial 9, 3) := by decide +kernel
theorem dX2_init_69 : decode cX2_init 69 = .ok (.aastore, 1) := by decide +kernel
theorem dX2_init_70 : decode cX2_init 70 = .ok (.putfield 10, 3) := by decide +kernel
theorem dX2_init_73 : decode cX2_init 73 = .ok (.return_, 1) := by decide +kernel
set_option maxRecDepth 20000 in
theorem ggX2_keep_X0_copyFrom : GoodIn wsX2_keep wsX0_copyFrom := goodIn_r _ [12, 13, 14, 15, 16, 17, 18, 19, 20, 21, 22, 23, 24, 25, 26, 27, 28, 29, 30, 31, 32, 33, 34, 35, 36, 37, 38, 39, 40, 41, 42, 43, 44, 45, 46, 47, 48, 49, 53, 54, 55, 56, 57, 58, 59, 60, 61, 62, 63, 64, 65, 66, 67, 68, 69, 70, 71, 72, 73] (by decide +kernel) (by decide +kernel)
set_option maxRecDepth 20000 in
theorem gX2_keep_X0_copyFrom : GoodIn wsX2_keep (wsV RX2 20 RX0 yX0_copyFrom wsX0_copyFrom) := goodIn_app (goodIn_of _ (by decide +kernel)) ggX2_keep_X0_copyFrom
theorem dX2_keep_0 : decode cX2_keep 0 = .ok (.aload_n 0, 1) := by decide +kernel
theorem dX2_keep_1 : decode cX2_keep 1 = .ok (.getfield 10, 3) := by decide +kernel
theorem dX2_keep_4 : decode cX2_keep 4 = .ok (.aload_n 0, 1) := by decide +kernel
theorem dX2_keep_5 : decode cX2_keep 5 = .ok (.getfield 16, 3) := by decide +kernel
theorem dX2_keep_8 : decode cX2_keep 8 = .ok (.aaload, 1) := by decide +kernel
theorem dX2_keep_9 : decode cX2_keep 9 = .ok (.aload_n 1, 1) := by decide +kernel
theorem dX2_keep_10 : decode cX2_keep 10 = .ok (.invokevirtual 20, 3) := by decide +kernel
theorem dX2_keep_13 : decode cX2_keep 13 = .ok (.aload_n 0, 1) := by decide +kernel
theorem dX2_keep_14 : decode cX2_keep 14 = .ok (.aload_n 0, 1) := by decide +kernel
theorem dX2_keep_15 : decode cX2_keep 15 = .ok (.getfield 16, 3) := by decide +kernel
theorem dX2_keep_18 : decode cX2_keep 18 = .ok (.iconst 5, 1) := by decide +kernel
theorem dX2_keep_19 : decode cX2_keep 19 = .ok (.if_icmp .lt 7, 3) := by decide +kernel
theorem dX2_keep_22 : decode cX2_keep 22 = .ok (.iconst 0, 1) := by decide +kernel
theorem dX2_keep_23 : decode cX2_keep 23 = .ok (.goto 9, 3) := by decide +kernel
theorem dX2_keep_26 : decode cX2_keep 26 = .ok (.aload_n 0, 1) := by decide +kernel
theorem dX2_keep_27 : decode cX2_keep 27 = .ok (.getfield 16, 3) := by decide +kernel
theorem dX2_keep_30 : decode cX2_keep 30 = .ok (.iconst 1, 1) := by decide +kernel
theorem dX2_keep_31 : decode cX2_keep 31 = .ok (.iadd, 1) := by decide +kernel
theorem dX2_keep_32 : decode cX2_keep 32 = .ok (.putfield 16, 3) := by decide +kernel
theorem dX2_keep_35 : decode cX2_keep 35 = .ok (.aload_n 0, 1) := by decide +kernel
theorem dX2_keep_36 : decode cX2_keep 36 = .ok (.aload_n 0, 1) := by decide +kernel
theorem dX2_keep_37 : decode cX2_keep 37 = .ok (.getfield 24, 3) := by decide +kernel
theorem dX2_keep_40 : decode cX2_keep 40 = .ok (.iconst 1, 1) := by decide +kernel
theorem dX2_keep_41 : decode cX2_keep 41 = .ok (.iadd, 1) := by decide +kernel
theorem dX2_keep_42 : decode cX2_keep 42 = .ok (.bipush 6, 2) := by decide +kernel
theorem dX2_keep_44 : decode cX2_keep 44 = .ok (.invokestatic 27, 3) := by decide +kernel
theorem dX2_keep_47 : decode cX2_keep 47 = .ok (.putfield 24, 3) := by decide +kernel
theorem dX2_keep_50 : decode cX2_keep 50 = .ok (.return_, 1) := by decide +kernel
theorem dX3_init_0 : decode cX3_init 0 = .ok (.aload_n 0, 1) := by decide +kernel
theorem dX3_init_1 : decode cX3_init 1 = .ok (.invokespecial 3, 3) := by decide +kernel
theorem dX3_init_4 : decode cX3_init 4 = .ok (.aload_n 0, 1) := by decide +kernel
theorem dX3_init_5 : decode cX3_init 5 = .ok (.bipush 60, 2) := by decide +kernel
theorem dX3_init_7 : decode cX3_init 7 = .ok (.newarray .char, 2) := by decide +kernel
theorem dX3_init_9 : decode cX3_init 9 = .ok (.putfield 11, 3) := by decide +kernel
theorem dX3_init_12 : decode cX3_init 12 = .ok (.return_, 1) := by decide +kernel
theorem dX3_charactersIn_0 : decode cX3_charactersIn 0 = .ok (.lload_n 0, 1) := by decide +kernel
theorem dX3_charactersIn_1 : decode cX3_charactersIn 1 = .ok (.lstore_n 2, 1) := by decide +kernel
theorem dX3_charactersIn_2 : decode cX3_charactersIn 2 = .ok (.iconst 0, 1) := by decide +kernel
theorem dX3_charactersIn_3 : decode cX3_charactersIn 3 = .ok (.istore 4, 2) := by decide +kernel
theorem dX3_charactersIn_5 : decode cX3_charactersIn 5 = .ok (.iload 4, 2) := by decide +kernel
theorem dX3_charactersIn_7 : decode cX3_charactersIn 7 = .ok (.bipush 8, 2) := by decide +kernel
theorem dX3_charactersIn_9 : decode cX3_charactersIn 9 = .ok (.if_icmp .ge 48, 3) := by decide +kernel
theorem dX3_charactersIn_12 : decode cX3_charactersIn 12 = .ok (.lload_n 2, 1) := by decide +kernel
theorem dX3_charactersIn_13 : decode cX3_charactersIn 13 = .ok (.ldc2_w 15, 3) := by decide +kernel
theorem dX3_charactersIn_16 : decode cX3_charactersIn 16 = .ok (.land, 1) := by decide +kernel
theorem dX3_charactersIn_17 : decode cX3_charactersIn 17 = .ok (.lconst 0, 1) := by decide +kernel
theorem dX3_charactersIn_18 : decode cX3_charactersIn 18 = .ok (.lcmp, 1) := by decide +kernel
theorem dX3_charactersIn_19 : decode cX3_charactersIn 19 = .ok (.ifCond .eq 38, 3) := by decide +kernel
theorem dX3_charactersIn_22 : decode cX3_charactersIn 22 = .ok (.lload_n 2, 1) := by decide +kernel
theorem dX3_charactersIn_23 : decode cX3_charactersIn 23 = .ok (.ldc2_w 15, 3) := by decide +kernel
theorem dX3_charactersIn_26 : decode cX3_charactersIn 26 = .ok (.land, 1) := by decide +kernel
theorem dX3_charactersIn_27 : decode cX3_charactersIn 27 = .ok (.l2i, 1) := by decide +kernel
theorem dX3_charactersIn_28 : decode cX3_charactersIn 28 = .ok (.istore 5, 2) := by decide +kernel
theorem dX3_charactersIn_30 : decode cX3_charactersIn 30 = .ok (.iload 5, 2) := by decide +kernel
theorem dX3_charactersIn_32 : decode cX3_charactersIn 32 = .ok (.bipush 33, 2) := by decide +kernel
theorem dX3_charactersIn_34 : decode cX3_charactersIn 34 = .ok (.if_icmp .lt 10, 3) := by decide +kernel
theorem dX3_charactersIn_37 : decode cX3_charactersIn 37 = .ok (.iload 5, 2) := by decide +kernel
theorem dX3_charactersIn_39 : decode cX3_charactersIn 39 = .ok (.bipush 126, 2) := by decide +kernel
theorem dX3_charactersIn_41 : decode cX3_charactersIn 41 = .ok (.if_icmp .le 5, 3) := by decide +kernel
theorem dX3_charactersIn_44 : decode cX3_charactersIn 44 = .ok (.iconst 0, 1) := by decide +kernel
theorem dX3_charactersIn_45 : decode cX3_charactersIn 45 = .ok (.ireturn, 1) := by decide +kernel
theorem dX3_charactersIn_46 : decode cX3_charactersIn 46 = .ok (.lload_n 2, 1) := by decide +kernel
theorem dX3_charactersIn_47 : decode cX3_charactersIn 47 = .ok (.bipush 8, 2) := by decide +kernel
theorem dX3_charactersIn_49 : decode cX3_charactersIn 49 = .ok (.lushr, 1) := by decide +kernel
theorem dX3_charactersIn_50 : decode cX3_charactersIn 50 = .ok (.lstore_n 2, 1) := by decide +kernel
theorem dX3_charactersIn_51 : decode cX3_charactersIn 51 = .ok (.iinc 4 1, 3) := by decide +kernel
theorem dX3_charactersIn_54 : decode cX3_charactersIn 54 = .ok (.goto (-49), 3) := by decide +kernel
theorem dX3_charactersIn_57 : decode cX3_charactersIn 57 = .ok (.lload_n 2, 1) := by decide +kernel
theorem dX3_charactersIn_58 : decode cX3_charactersIn 58 = .ok (.lconst 0, 1) := by decide +kernel
theorem dX3_charactersIn_59 : decode cX3_charactersIn 59 = .ok (.lcmp, 1) := by decide +kernel
theorem dX3_charactersIn_60 : decode cX3_charactersIn 60 = .ok (.ifCond .ne 8, 3) := by decide +kernel
theorem dX3_charactersIn_63 : decode cX3_charactersIn 63 = .ok (.iload 4, 2) := by decide +kernel
theorem dX3_charactersIn_65 : decode cX3_charactersIn 65 = .ok (.goto 4, 3) := by decide +kernel
theorem dX3_charactersIn_68 : decode cX3_charactersIn 68 = .ok (.iconst 0, 1) := by decide +kernel
theorem dX3_charactersIn_69 : decode cX3_charactersIn 69 = .ok (.ireturn, 1) := by decide +kernel
theorem dX3_append_0 : decode cX3_append 0 = .ok (.iconst 0, 1) := by decide +kernel
theorem dX3_append_1 : decode cX3_append 1 = .ok (.istore 4, 2) := by decide +kernel
theorem dX3_append_3 : decode cX3_append 3 = .ok (.iload 4, 2) := by decide +kernel
theorem dX3_append_5 : decode cX3_append 5 = .ok (.iload_n 3, 1) := by decide +kernel
theorem dX3_append_6 : decode cX3_append 6 = .ok (.if_icmp .ge 38, 3) := by decide +kernel
theorem dX3_append_9 : decode cX3_append 9 = .ok (.aload_n 0, 1) := by decide +kernel
theorem dX3_append_10 : decode cX3_append 10 = .ok (.getfield 11, 3) := by decide +kernel
theorem dX3_append_13 : decode cX3_append 13 = .ok (.aload_n 0, 1) := by decide +kernel
theorem dX3_append_14 : decode cX3_append 14 = .ok (.getfield 17, 3) := by decide +kernel
theorem dX3_append_17 : decode cX3_append 17 = .ok (.iload_n 3, 1) := by decide +kernel
theorem dX3_append_18 : decode cX3_append 18 = .ok (.iadd, 1) := by decide +kernel
theorem dX3_append_19 : decode cX3_append 19 = .ok (.iconst 1, 1) := by decide +kernel
theorem dX3_append_20 : decode cX3_append 20 = .ok (.isub, 1) := by decide +kernel
theorem dX3_append_21 : decode cX3_append 21 = .ok (.iload 4, 2) := by decide +kernel
theorem dX3_append_23 : decode cX3_append 23 = .ok (.isub, 1) := by decide +kernel
theorem dX3_append_24 : decode cX3_append 24 = .ok (.lload_n 1, 1) := by decide +kernel
theorem dX3_append_25 : decode cX3_append 25 = .ok (.bipush 8, 2) := by decide +kernel
theorem dX3_append_27 : decode cX3_append 27 = .ok (.iload 4, 2) := by decide +kernel
theorem dX3_append_29 : decode cX3_append 29 = .ok (.imul, 1) := by decide +kernel
theorem dX3_append_30 : decode cX3_append 30 = .ok (.lushr, 1) := by decide +kernel
theorem dX3_append_31 : decode cX3_append 31 = .ok (.ldc2_w 15, 3) := by decide +kernel
theorem dX3_append_34 : decode cX3_append 34 = .ok (.land, 1) := by decide +kernel
theorem dX3_append_35 : decode cX3_append 35 = .ok (.l2i, 1) := by decide +kernel
theorem dX3_append_36 : decode cX3_append 36 = .ok (.i2c, 1) := by decide +kernel
theorem dX3_append_37 : decode cX3_append 37 = .ok (.castore, 1) := by decide +kernel
theorem dX3_append_38 : decode cX3_append 38 = .ok (.iinc 4 1, 3) := by decide +kernel
theorem dX3_append_41 : decode cX3_append 41 = .ok (.goto (-38), 3) := by decide +kernel
theorem dX3_append_44 : decode cX3_append 44 = .ok (.aload_n 0, 1) := by decide +kernel
theorem dX3_append_45 : decode cX3_append 45 = .ok (.dup, 1) := by decide +kernel
theorem dX3_append_46 : decode cX3_append 46 = .ok (.getfield 17, 3) := by decide +kernel
theorem dX3_append_49 : decode cX3_append 49 = .ok (.iload_n 3, 1) := by decide +kernel
theorem dX3_append_50 : decode cX3_append 50 = .ok (.iadd, 1) := by decide +kernel
theorem dX3_append_51 : decode cX3_append 51 = .ok (.putfield 17, 3) := by decide +kernel
theorem dX3_append_54 : decode cX3_append 54 = .ok (.return_, 1) := by decide +kernel
theorem dX3_empty_0 : decode cX3_empty 0 = .ok (.aload_n 0, 1) := by decide +kernel
theorem dX3_empty_1 : decode cX3_empty 1 = .ok (.iconst 0, 1) := by decide +kernel
theorem dX3_empty_2 : decode cX3_empty 2 = .ok (.putfield 17, 3) := by decide +kernel
theorem dX3_empty_5 : decode cX3_empty 5 = .ok (.return_, 1) := by decide +kernel
set_option maxRecDepth 20000 in
theorem ggX3_firstFault_X3_dueBehind : GoodIn wsX3_firstFault wsX3_dueBehind := goodIn_r _ [6, 7, 8, 5, 9, 10, 11, 12] (by decide +kernel) (by decide +kernel)
set_option maxRecDepth 20000 in
theorem gX3_firstFault_X3_dueBehind : GoodIn wsX3_firstFault (va_wsS RX3 21 yX3_dueBehind wsX3_dueBehind) := goodIn_app (goodIn_of _ (by decide +kernel)) ggX3_firstFault_X3_dueBehind
theorem dX3_firstFault_0 : decode cX3_firstFault 0 = .ok (.iconst 0, 1) := by decide +kernel
theorem dX3_firstFault_1 : decode cX3_firstFault 1 = .ok (.istore_n 1, 1) := by decide +kernel
theorem dX3_firstFault_2 : decode cX3_firstFault 2 = .ok (.iconst 0, 1) := by decide +kernel
theorem dX3_firstFault_3 : decode cX3_firstFault 3 = .ok (.istore_n 2, 1) := by decide +kernel
theorem dX3_firstFault_4 : decode cX3_firstFault 4 = .ok (.iload_n 2, 1) := by decide +kernel
theorem dX3_firstFault_5 : decode cX3_firstFault 5 = .ok (.aload_n 0, 1) := by decide +kernel
theorem dX3_firstFault_6 : decode cX3_firstFault 6 = .ok (.getfield 17, 3) := by decide +kernel
theorem dX3_firstFault_9 : decode cX3_firstFault 9 = .ok (.if_icmp .ge 27, 3) := by decide +kernel
theorem dX3_firstFault_12 : decode cX3_firstFault 12 = .ok (.iload_n 1, 1) := by decide +kernel
theorem dX3_firstFault_13 : decode cX3_firstFault 13 = .ok (.aload_n 0, 1) := by decide +kernel
theorem dX3_firstFault_14 : decode cX3_firstFault 14 = .ok (.getfield 11, 3) := by decide +kernel
theorem dX3_firstFault_17 : decode cX3_firstFault 17 = .ok (.iload_n 2, 1) := by decide +kernel
theorem dX3_firstFault_18 : decode cX3_firstFault 18 = .ok (.caload, 1) := by decide +kernel
theorem dX3_firstFault_19 : decode cX3_firstFault 19 = .ok (.invokestatic 21, 3) := by decide +kernel
theorem dX3_firstFault_22 : decode cX3_firstFault 22 = .ok (.istore_n 1, 1) := by decide +kernel
theorem dX3_firstFault_23 : decode cX3_firstFault 23 = .ok (.iload_n 1, 1) := by decide +kernel
theorem dX3_firstFault_24 : decode cX3_firstFault 24 = .ok (.iconst (-1), 1) := by decide +kernel
theorem dX3_firstFault_25 : decode cX3_firstFault 25 = .ok (.if_icmp .ne 5, 3) := by decide +kernel
theorem dX3_firstFault_28 : decode cX3_firstFault 28 = .ok (.iload_n 2, 1) := by decide +kernel
theorem dX3_firstFault_29 : decode cX3_firstFault 29 = .ok (.ireturn, 1) := by decide +kernel
theorem dX3_firstFault_30 : decode cX3_firstFault 30 = .ok (.iinc 2 1, 3) := by decide +kernel
theorem dX3_firstFault_33 : decode cX3_firstFault 33 = .ok (.goto (-29), 3) := by decide +kernel
theorem dX3_firstFault_36 : decode cX3_firstFault 36 = .ok (.iload_n 1, 1) := by decide +kernel
theorem dX3_firstFault_37 : decode cX3_firstFault 37 = .ok (.iconst 3, 1) := by decide +kernel
theorem dX3_firstFault_38 : decode cX3_firstFault 38 = .ok (.if_icmp .lt 8, 3) := by decide +kernel
theorem dX3_firstFault_41 : decode cX3_firstFault 41 = .ok (.bipush (-6), 2) := by decide +kernel
theorem dX3_firstFault_43 : decode cX3_firstFault 43 = .ok (.goto 7, 3) := by decide +kernel
theorem dX3_firstFault_46 : decode cX3_firstFault 46 = .ok (.aload_n 0, 1) := by decide +kernel
theorem dX3_firstFault_47 : decode cX3_firstFault 47 = .ok (.getfield 17, 3) := by decide +kernel
theorem dX3_firstFault_50 : decode cX3_firstFault 50 = .ok (.ireturn, 1) := by decide +kernel
set_option maxRecDepth 20000 in
theorem ggX3_dueBehind_X3_dueBehindPlaces : GoodIn wsX3_dueBehind wsX3_dueBehindPlaces := goodIn_r _ [4, 5, 6, 7] (by decide +kernel) (by decide +kernel)
set_option maxRecDepth 20000 in
theorem gX3_dueBehind_X3_dueBehindPlaces : GoodIn wsX3_dueBehind (va_wsS RX3 25 yX3_dueBehindPlaces wsX3_dueBehindPlaces) := goodIn_app (goodIn_of _ (by decide +kernel)) ggX3_dueBehind_X3_dueBehindPlaces
theorem dX3_dueBehind_0 : decode cX3_dueBehind 0 = .ok (.iload_n 0, 1) := by decide +kernel
theorem dX3_dueBehind_1 : decode cX3_dueBehind 1 = .ok (.tableswitch 91 0 2 #[27, 53, 79], 27) := by decide +kernel
theorem dX3_dueBehind_28 : decode cX3_dueBehind 28 = .ok (.iload_n 1, 1) := by decide +kernel
theorem dX3_dueBehind_29 : decode cX3_dueBehind 29 = .ok (.bipush 49, 2) := by decide +kernel
theorem dX3_dueBehind_31 : decode cX3_dueBehind 31 = .ok (.if_icmp .ne 5, 3) := by decide +kernel
theorem dX3_dueBehind_34 : decode cX3_dueBehind 34 = .ok (.iconst 1, 1) := by decide +kernel
theorem dX3_dueBehind_35 : decode cX3_dueBehind 35 = .ok (.ireturn, 1) := by decide +kernel
theorem dX3_dueBehind_36 : decode cX3_dueBehind 36 = .ok (.iload_n 1, 1) := by decide +kernel
theorem dX3_dueBehind_37 : decode cX3_dueBehind 37 = .ok (.bipush 48, 2) := by decide +kernel
theorem dX3_dueBehind_39 : decode cX3_dueBehind 39 = .ok (.if_icmp .lt 13, 3) := by decide +kernel
theorem dX3_dueBehind_42 : decode cX3_dueBehind 42 = .ok (.iload_n 1, 1) := by decide +kernel
theorem dX3_dueBehind_43 : decode cX3_dueBehind 43 = .ok (.bipush 57, 2) := by decide +kernel
theorem dX3_dueBehind_45 : decode cX3_dueBehind 45 = .ok (.if_icmp .gt 7, 3) := by decide +kernel
theorem dX3_dueBehind_48 : decode cX3_dueBehind 48 = .ok (.iconst 2, 1) := by decide +kernel
theorem dX3_dueBehind_49 : decode cX3_dueBehind 49 = .ok (.goto 4, 3) := by decide +kernel
theorem dX3_dueBehind_52 : decode cX3_dueBehind 52 = .ok (.iconst (-1), 1) := by decide +kernel
theorem dX3_dueBehind_53 : decode cX3_dueBehind 53 = .ok (.ireturn, 1) := by decide +kernel
theorem dX3_dueBehind_54 : decode cX3_dueBehind 54 = .ok (.iload_n 1, 1) := by decide +kernel
theorem dX3_dueBehind_55 : decode cX3_dueBehind 55 = .ok (.bipush 48, 2) := by decide +kernel
theorem dX3_dueBehind_57 : decode cX3_dueBehind 57 = .ok (.if_icmp .lt 11, 3) := by decide +kernel
theorem dX3_dueBehind_60 : decode cX3_dueBehind 60 = .ok (.iload_n 1, 1) := by decide +kernel
theorem dX3_dueBehind_61 : decode cX3_dueBehind 61 = .ok (.bipush 53, 2) := by decide +kernel
theorem dX3_dueBehind_63 : decode cX3_dueBehind 63 = .ok (.if_icmp .gt 5, 3) := by decide +kernel
theorem dX3_dueBehind_66 : decode cX3_dueBehind 66 = .ok (.iconst 2, 1) := by decide +kernel
theorem dX3_dueBehind_67 : decode cX3_dueBehind 67 = .ok (.ireturn, 1) := by decide +kernel
theorem dX3_dueBehind_68 : decode cX3_dueBehind 68 = .ok (.iload_n 1, 1) := by decide +kernel
theorem dX3_dueBehind_69 : decode cX3_dueBehind 69 = .ok (.bipush 58, 2) := by decide +kernel
theorem dX3_dueBehind_71 : decode cX3_dueBehind 71 = .ok (.if_icmp .ne 7, 3) := by decide +kernel
theorem dX3_dueBehind_74 : decode cX3_dueBehind 74 = .ok (.iconst 3, 1) := by decide +kernel
theorem dX3_dueBehind_75 : decode cX3_dueBehind 75 = .ok (.goto 4, 3) := by decide +kernel
theorem dX3_dueBehind_78 : decode cX3_dueBehind 78 = .ok (.iconst (-1), 1) := by decide +kernel
theorem dX3_dueBehind_79 : decode cX3_dueBehind 79 = .ok (.ireturn, 1) := by decide +kernel
theorem dX3_dueBehind_80 : decode cX3_dueBehind 80 = .ok (.iload_n 1, 1) := by decide +kernel
theorem dX3_dueBehind_81 : decode cX3_dueBehind 81 = .ok (.bipush 58, 2) := by decide +kernel
theorem dX3_dueBehind_83 : decode cX3_dueBehind 83 = .ok (.if_icmp .ne 7, 3) := by decide +kernel
theorem dX3_dueBehind_86 : decode cX3_dueBehind 86 = .ok (.iconst 3, 1) := by decide +kernel
theorem dX3_dueBehind_87 : decode cX3_dueBehind 87 = .ok (.goto 4, 3) := by decide +kernel
theorem dX3_dueBehind_90 : decode cX3_dueBehind 90 = .ok (.iconst (-1), 1) := by decide +kernel
theorem dX3_dueBehind_91 : decode cX3_dueBehind 91 = .ok (.ireturn, 1) := by decide +kernel
theorem dX3_dueBehind_92 : decode cX3_dueBehind 92 = .ok (.iload_n 0, 1) := by decide +kernel
theorem dX3_dueBehind_93 : decode cX3_dueBehind 93 = .ok (.iconst 3, 1) := by decide +kernel
theorem dX3_dueBehind_94 : decode cX3_dueBehind 94 = .ok (.isub, 1) := by decide +kernel
theorem dX3_dueBehind_95 : decode cX3_dueBehind 95 = .ok (.iload_n 1, 1) := by decide +kernel
theorem dX3_dueBehind_96 : decode cX3_dueBehind 96 = .ok (.invokestatic 25, 3) := by decide +kernel
theorem dX3_dueBehind_99 : decode cX3_dueBehind 99 = .ok (.ireturn, 1) := by decide +kernel
set_option maxRecDepth 20000 in
theorem ggX3_dueBehindPlaces_X5_isPlace : GoodIn wsX3_dueBehindPlaces wsX5_isPlace := goodIn_r _ [3] (by decide +kernel) (by decide +kernel)
set_option maxRecDepth 20000 in
theorem gX3_dueBehindPlaces_X5_isPlace_n28 : GoodIn wsX3_dueBehindPlaces (wsX5_isPlace) := ggX3_dueBehindPlaces_X5_isPlace
theorem dX3_dueBehindPlaces_0 : decode cX3_dueBehindPlaces 0 = .ok (.iload_n 1, 1) := by decide +kernel
theorem dX3_dueBehindPlaces_1 : decode cX3_dueBehindPlaces 1 = .ok (.bipush 59, 2) := by decide +kernel
theorem dX3_dueBehindPlaces_3 : decode cX3_dueBehindPlaces 3 = .ok (.if_icmp .ne 5, 3) := by decide +kernel
theorem dX3_dueBehindPlaces_6 : decode cX3_dueBehindPlaces 6 = .ok (.iconst 0, 1) := by decide +kernel
theorem dX3_dueBehindPlaces_7 : decode cX3_dueBehindPlaces 7 = .ok (.ireturn, 1) := by decide +kernel
theorem dX3_dueBehindPlaces_8 : decode cX3_dueBehindPlaces 8 = .ok (.iload_n 1, 1) := by decide +kernel
theorem dX3_dueBehindPlaces_9 : decode cX3_dueBehindPlaces 9 = .ok (.bipush 48, 2) := by decide +kernel
theorem dX3_dueBehindPlaces_11 : decode cX3_dueBehindPlaces 11 = .ok (.isub, 1) := by decide +kernel
theorem dX3_dueBehindPlaces_12 : decode cX3_dueBehindPlaces 12 = .ok (.istore_n 2, 1) := by decide +kernel
theorem dX3_dueBehindPlaces_13 : decode cX3_dueBehindPlaces 13 = .ok (.iload_n 2, 1) := by decide +kernel
theorem dX3_dueBehindPlaces_14 : decode cX3_dueBehindPlaces 14 = .ok (.invokestatic 28, 3) := by decide +kernel
theorem dX3_dueBehindPlaces_17 : decode cX3_dueBehindPlaces 17 = .ok (.ifCond .eq 16, 3) := by decide +kernel
theorem dX3_dueBehindPlaces_20 : decode cX3_dueBehindPlaces 20 = .ok (.iload_n 2, 1) := by decide +kernel
theorem dX3_dueBehindPlaces_21 : decode cX3_dueBehindPlaces 21 = .ok (.iload_n 0, 1) := by decide +kernel
theorem dX3_dueBehindPlaces_22 : decode cX3_dueBehindPlaces 22 = .ok (.if_icmp .lt 11, 3) := by decide +kernel
theorem dX3_dueBehindPlaces_25 : decode cX3_dueBehindPlaces 25 = .ok (.iconst 3, 1) := by decide +kernel
theorem dX3_dueBehindPlaces_26 : decode cX3_dueBehindPlaces 26 = .ok (.iload_n 2, 1) := by decide +kernel
theorem dX3_dueBehindPlaces_27 : decode cX3_dueBehindPlaces 27 = .ok (.iadd, 1) := by decide +kernel
theorem dX3_dueBehindPlaces_28 : decode cX3_dueBehindPlaces 28 = .ok (.iconst 1, 1) := by decide +kernel
theorem dX3_dueBehindPlaces_29 : decode cX3_dueBehindPlaces 29 = .ok (.iadd, 1) := by decide +kernel
theorem dX3_dueBehindPlaces_30 : decode cX3_dueBehindPlaces 30 = .ok (.goto 4, 3) := by decide +kernel
theorem dX3_dueBehindPlaces_33 : decode cX3_dueBehindPlaces 33 = .ok (.iconst (-1), 1) := by decide +kernel
theorem dX3_dueBehindPlaces_34 : decode cX3_dueBehindPlaces 34 = .ok (.ireturn, 1) := by decide +kernel
set_option maxRecDepth 20000 in
theorem ggX3_changeRows_X5_isRow : GoodIn wsX3_changeRows wsX5_isRow := goodIn_r _ [5] (by decide +kernel) (by decide +kernel)
set_option maxRecDepth 20000 in
theorem gX3_changeRows_X5_isRow_n32 : GoodIn wsX3_changeRows (wsX5_isRow) := ggX3_changeRows_X5_isRow
set_option maxRecDepth 20000 in
theorem ggX3_changeRows_X1_giveRow : GoodIn wsX3_changeRows wsX1_giveRow := goodIn_r _ [10, 11, 12, 13, 14, 15, 9, 16, 19, 20, 21, 22] (by decide +kernel) (by decide +kernel)
set_option maxRecDepth 20000 in
theorem gX3_changeRows_X1_giveRow : GoodIn wsX3_changeRows (wsV RX3 35 RX1 yX1_giveRow wsX1_giveRow) := goodIn_app (goodIn_of _ (by decide +kernel)) ggX3_changeRows_X1_giveRow
theorem dX3_changeRows_0 : decode cX3_changeRows 0 = .ok (.iconst 0, 1) := by decide +kernel
theorem dX3_changeRows_1 : decode cX3_changeRows 1 = .ok (.istore_n 2, 1) := by decide +kernel
theorem dX3_changeRows_2 : decode cX3_changeRows 2 = .ok (.iconst 0, 1) := by decide +kernel
theorem dX3_changeRows_3 : decode cX3_changeRows 3 = .ok (.istore_n 3, 1) := by decide +kernel
theorem dX3_changeRows_4 : decode cX3_changeRows 4 = .ok (.iconst 0, 1) := by decide +kernel
theorem dX3_changeRows_5 : decode cX3_changeRows 5 = .ok (.istore 4, 2) := by decide +kernel
theorem dX3_changeRows_7 : decode cX3_changeRows 7 = .ok (.iconst 0, 1) := by decide +kernel
theorem dX3_changeRows_8 : decode cX3_changeRows 8 = .ok (.istore 5, 2) := by decide +kernel
theorem dX3_changeRows_10 : decode cX3_changeRows 10 = .ok (.iload 5, 2) := by decide +kernel
theorem dX3_changeRows_12 : decode cX3_changeRows 12 = .ok (.aload_n 0, 1) := by decide +kernel
theorem dX3_changeRows_13 : decode cX3_changeRows 13 = .ok (.getfield 17, 3) := by decide +kernel
theorem dX3_changeRows_16 : decode cX3_changeRows 16 = .ok (.if_icmp .gt 110, 3) := by decide +kernel
theorem dX3_changeRows_19 : decode cX3_changeRows 19 = .ok (.iload 5, 2) := by decide +kernel
theorem dX3_changeRows_21 : decode cX3_changeRows 21 = .ok (.aload_n 0, 1) := by decide +kernel
theorem dX3_changeRows_22 : decode cX3_changeRows 22 = .ok (.getfield 17, 3) := by decide +kernel
theorem dX3_changeRows_25 : decode cX3_changeRows 25 = .ok (.if_icmp .eq 15, 3) := by decide +kernel
theorem dX3_changeRows_28 : decode cX3_changeRows 28 = .ok (.aload_n 0, 1) := by decide +kernel
theorem dX3_changeRows_29 : decode cX3_changeRows 29 = .ok (.getfield 11, 3) := by decide +kernel
theorem dX3_changeRows_32 : decode cX3_changeRows 32 = .ok (.iload 5, 2) := by decide +kernel
theorem dX3_changeRows_34 : decode cX3_changeRows 34 = .ok (.caload, 1) := by decide +kernel
theorem dX3_changeRows_35 : decode cX3_changeRows 35 = .ok (.bipush 59, 2) := by decide +kernel
theorem dX3_changeRows_37 : decode cX3_changeRows 37 = .ok (.if_icmp .ne 26, 3) := by decide +kernel
theorem dX3_changeRows_40 : decode cX3_changeRows 40 = .ok (.iload_n 2, 1) := by decide +kernel
theorem dX3_changeRows_41 : decode cX3_changeRows 41 = .ok (.invokestatic 32, 3) := by decide +kernel
theorem dX3_changeRows_44 : decode cX3_changeRows 44 = .ok (.ifCond .eq 9, 3) := by decide +kernel
theorem dX3_changeRows_47 : decode cX3_changeRows 47 = .ok (.aload_n 1, 1) := by decide +kernel
theorem dX3_changeRows_48 : decode cX3_changeRows 48 = .ok (.iload_n 2, 1) := by decide +kernel
theorem dX3_changeRows_49 : decode cX3_changeRows 49 = .ok (.iload_n 3, 1) := by decide +kernel
theorem dX3_changeRows_50 : decode cX3_changeRows 50 = .ok (.invokevirtual 35, 3) := by decide +kernel
theorem dX3_changeRows_53 : decode cX3_changeRows 53 = .ok (.iconst 0, 1) := by decide +kernel
theorem dX3_changeRows_54 : decode cX3_changeRows 54 = .ok (.istore_n 2, 1) := by decide +kernel
theorem dX3_changeRows_55 : decode cX3_changeRows 55 = .ok (.iconst 0, 1) := by decide +kernel
theorem dX3_changeRows_56 : decode cX3_changeRows 56 = .ok (.istore_n 3, 1) := by decide +kernel
theorem dX3_changeRows_57 : decode cX3_changeRows 57 = .ok (.iconst 0, 1) := by decide +kernel
theorem dX3_changeRows_58 : decode cX3_changeRows 58 = .ok (.istore 4, 2) := by decide +kernel
theorem dX3_changeRows_60 : decode cX3_changeRows 60 = .ok (.goto 60, 3) := by decide +kernel
theorem dX3_changeRows_63 : decode cX3_changeRows 63 = .ok (.aload_n 0, 1) := by decide +kernel
theorem dX3_changeRows_64 : decode cX3_changeRows 64 = .ok (.getfield 11, 3) := by decide +kernel
theorem dX3_changeRows_67 : decode cX3_changeRows 67 = .ok (.iload 5, 2) := by decide +kernel
theorem dX3_changeRows_69 : decode cX3_changeRows 69 = .ok (.caload, 1) := by decide +kernel
theorem dX3_changeRows_70 : decode cX3_changeRows 70 = .ok (.bipush 58, 2) := by decide +kernel
theorem dX3_changeRows_72 : decode cX3_changeRows 72 = .ok (.if_icmp .ne 9, 3) := by decide +kernel
theorem dX3_changeRows_75 : decode cX3_changeRows 75 = .ok (.iconst 1, 1) := by decide +kernel
theorem dX3_changeRows_76 : decode cX3_changeRows 76 = .ok (.istore 4, 2) := by decide +kernel
theorem dX3_changeRows_78 : decode cX3_changeRows 78 = .ok (.goto 42, 3) := by decide +kernel
theorem dX3_changeRows_81 : decode cX3_changeRows 81 = .ok (.iload 4, 2) := by decide +kernel
theorem dX3_changeRows_83 : decode cX3_changeRows 83 = .ok (.ifCond .eq 21, 3) := by decide +kernel
theorem dX3_changeRows_86 : decode cX3_changeRows 86 = .ok (.iload_n 3, 1) := by decide +kernel
theorem dX3_changeRows_87 : decode cX3_changeRows 87 = .ok (.iconst 1, 1) := by decide +kernel
theorem dX3_changeRows_88 : decode cX3_changeRows 88 = .ok (.aload_n 0, 1) := by decide +kernel
theorem dX3_changeRows_89 : decode cX3_changeRows 89 = .ok (.getfield 11, 3) := by decide +kernel
theorem dX3_changeRows_92 : decode cX3_changeRows 92 = .ok (.iload 5, 2) := by decide +kernel
theorem dX3_changeRows_94 : decode cX3_changeRows 94 = .ok (.caload, 1) := by decide +kernel
theorem dX3_changeRows_95 : decode cX3_changeRows 95 = .ok (.bipush 48, 2) := by decide +kernel
theorem dX3_changeRows_97 : decode cX3_changeRows 97 = .ok (.isub, 1) := by decide +kernel
theorem dX3_changeRows_98 : decode cX3_changeRows 98 = .ok (.ishl, 1) := by decide +kernel
theorem dX3_changeRows_99 : decode cX3_changeRows 99 = .ok (.ior, 1) := by decide +kernel
theorem dX3_changeRows_100 : decode cX3_changeRows 100 = .ok (.istore_n 3, 1) := by decide +kernel
theorem dX3_changeRows_101 : decode cX3_changeRows 101 = .ok (.goto 19, 3) := by decide +kernel
theorem dX3_changeRows_104 : decode cX3_changeRows 104 = .ok (.iload_n 2, 1) := by decide +kernel
theorem dX3_changeRows_105 : decode cX3_changeRows 105 = .ok (.bipush 10, 2) := by decide +kernel
theorem dX3_changeRows_107 : decode cX3_changeRows 107 = .ok (.imul, 1) := by decide +kernel
theorem dX3_changeRows_108 : decode cX3_changeRows 108 = .ok (.aload_n 0, 1) := by decide +kernel
theorem dX3_changeRows_109 : decode cX3_changeRows 109 = .ok (.getfield 11, 3) := by decide +kernel
theorem dX3_changeRows_112 : decode cX3_changeRows 112 = .ok (.iload 5, 2) := by decide +kernel
theorem dX3_changeRows_114 : decode cX3_changeRows 114 = .ok (.caload, 1) := by decide +kernel
theorem dX3_changeRows_115 : decode cX3_changeRows 115 = .ok (.iadd, 1) := by decide +kernel
theorem dX3_changeRows_116 : decode cX3_changeRows 116 = .ok (.bipush 48, 2) := by decide +kernel
theorem dX3_changeRows_118 : decode cX3_changeRows 118 = .ok (.isub, 1) := by decide +kernel
theorem dX3_changeRows_119 : decode cX3_changeRows 119 = .ok (.istore_n 2, 1) := by decide +kernel
theorem dX3_changeRows_120 : decode cX3_changeRows 120 = .ok (.iinc 5 1, 3) := by decide +kernel
theorem dX3_changeRows_123 : decode cX3_changeRows 123 = .ok (.goto (-113), 3) := by decide +kernel
theorem dX3_changeRows_126 : decode cX3_changeRows 126 = .ok (.return_, 1) := by decide +kernel
theorem dX4_init_0 : decode cX4_init 0 = .ok (.aload_n 0, 1) := by decide +kernel
theorem dX4_init_1 : decode cX4_init 1 = .ok (.invokespecial 3, 3) := by decide +kernel
theorem dX4_init_4 : decode cX4_init 4 = .ok (.aload_n 0, 1) := by decide +kernel
theorem dX4_init_5 : decode cX4_init 5 = .ok (.bipush 6, 2) := by decide +kernel
theorem dX4_init_7 : decode cX4_init 7 = .ok (.newarray .int, 2) := by decide +kernel
theorem dX4_init_9 : decode cX4_init 9 = .ok (.dup, 1) := by decide +kernel
theorem dX4_init_10 : decode cX4_init 10 = .ok (.iconst 0, 1) := by decide +kernel
theorem dX4_init_11 : decode cX4_init 11 = .ok (.bipush 50, 2) := by decide +kernel
theorem dX4_init_13 : decode cX4_init 13 = .ok (.iastore, 1) := by decide +kernel
theorem dX4_init_14 : decode cX4_init 14 = .ok (.dup, 1) := by decide +kernel
theorem dX4_init_15 : decode cX4_init 15 = .ok (.iconst 1, 1) := by decide +kernel
theorem dX4_init_16 : decode cX4_init 16 = .ok (.bipush 50, 2) := by decide +kernel
theorem dX4_init_18 : decode cX4_init 18 = .ok (.iastore, 1) := by decide +kernel
theorem dX4_init_19 : decode cX4_init 19 = .ok (.dup, 1) := by decide +kernel
theorem dX4_init_20 : decode cX4_init 20 = .ok (.iconst 2, 1) := by decide +kernel
theorem dX4_init_21 : decode cX4_init 21 = .ok (.bipush 50, 2) := by decide +kernel
theorem dX4_init_23 : decode cX4_init 23 = .ok (.iastore, 1) := by decide +kernel
theorem dX4_init_24 : decode cX4_init 24 = .ok (.dup, 1) := by decide +kernel
theorem dX4_init_25 : decode cX4_init 25 = .ok (.iconst 3, 1) := by decide +kernel
theorem dX4_init_26 : decode cX4_init 26 = .ok (.bipush 50, 2) := by decide +kernel
theorem dX4_init_28 : decode cX4_init 28 = .ok (.iastore, 1) := by decide +kernel
theorem dX4_init_29 : decode cX4_init 29 = .ok (.dup, 1) := by decide +kernel
theorem dX4_init_30 : decode cX4_init 30 = .ok (.iconst 4, 1) := by decide +kernel
theorem dX4_init_31 : decode cX4_init 31 = .ok (.bipush 50, 2) := by decide +kernel
theorem dX4_init_33 : decode cX4_init 33 = .ok (.iastore, 1) := by decide +kernel
theorem dX4_init_34 : decode cX4_init 34 = .ok (.dup, 1) := by decide +kernel
theorem dX4_init_35 : decode cX4_init 35 = .ok (.iconst 5, 1) := by decide +kernel
theorem dX4_init_36 : decode cX4_init 36 = .ok (.bipush 50, 2) := by decide +kernel
theorem dX4_init_38 : decode cX4_init 38 = .ok (.iastore, 1) := by decide +kernel
theorem dX4_init_39 : decode cX4_init 39 = .ok (.putfield 9, 3) := by decide +kernel
theorem dX4_init_42 : decode cX4_init 42 = .ok (.aload_n 0, 1) := by decide +kernel
theorem dX4_init_43 : decode cX4_init 43 = .ok (.bipush 6, 2) := by decide +kernel
theorem dX4_init_45 : decode cX4_init 45 = .ok (.newarray .int, 2) := by decide +kernel
theorem dX4_init_47 : decode cX4_init 47 = .ok (.putfield 15, 3) := by decide +kernel
theorem dX4_init_50 : decode cX4_init 50 = .ok (.aload_n 0, 1) := by decide +kernel
theorem dX4_init_51 : decode cX4_init 51 = .ok (.bipush 6, 2) := by decide +kernel
theorem dX4_init_53 : decode cX4_init 53 = .ok (.newarray .int, 2) := by decide +kernel
theorem dX4_init_55 : decode cX4_init 55 = .ok (.putfield 18, 3) := by decide +kernel
theorem dX4_init_58 : decode cX4_init 58 = .ok (.aload_n 0, 1) := by decide +kernel
theorem dX4_init_59 : decode cX4_init 59 = .ok (.bipush 6, 2) := by decide +kernel
theorem dX4_init_61 : decode cX4_init 61 = .ok (.newarray .int, 2) := by decide +kernel
theorem dX4_init_63 : decode cX4_init 63 = .ok (.putfield 21, 3) := by decide +kernel
theorem dX4_init_66 : decode cX4_init 66 = .ok (.return_, 1) := by decide +kernel
theorem dX4_copyFrom_0 : decode cX4_copyFrom 0 = .ok (.aload_n 1, 1) := by decide +kernel
theorem dX4_copyFrom_1 : decode cX4_copyFrom 1 = .ok (.getfield 9, 3) := by decide +kernel
theorem dX4_copyFrom_4 : decode cX4_copyFrom 4 = .ok (.iconst 0, 1) := by decide +kernel
theorem dX4_copyFrom_5 : decode cX4_copyFrom 5 = .ok (.aload_n 0, 1) := by decide +kernel
theorem dX4_copyFrom_6 : decode cX4_copyFrom 6 = .ok (.getfield 9, 3) := by decide +kernel
theorem dX4_copyFrom_9 : decode cX4_copyFrom 9 = .ok (.iconst 0, 1) := by decide +kernel
theorem dX4_copyFrom_10 : decode cX4_copyFrom 10 = .ok (.bipush 6, 2) := by decide +kernel
theorem dX4_copyFrom_12 : decode cX4_copyFrom 12 = .ok (.invokestatic 24, 3) := by decide +kernel
theorem dX4_copyFrom_15 : decode cX4_copyFrom 15 = .ok (.aload_n 1, 1) := by decide +kernel
theorem dX4_copyFrom_16 : decode cX4_copyFrom 16 = .ok (.getfield 15, 3) := by decide +kernel
theorem dX4_copyFrom_19 : decode cX4_copyFrom 19 = .ok (.iconst 0, 1) := by decide +kernel
theorem dX4_copyFrom_20 : decode cX4_copyFrom 20 = .ok (.aload_n 0, 1) := by decide +kernel
theorem dX4_copyFrom_21 : decode cX4_copyFrom 21 = .ok (.getfield 15, 3) := by decide +kernel
theorem dX4_copyFrom_24 : decode cX4_copyFrom 24 = .ok (.iconst 0, 1) := by decide +kernel
theorem dX4_copyFrom_25 : decode cX4_copyFrom 25 = .ok (.bipush 6, 2) := by decide +kernel
theorem dX4_copyFrom_27 : decode cX4_copyFrom 27 = .ok (.invokestatic 24, 3) := by decide +kernel
theorem dX4_copyFrom_30 : decode cX4_copyFrom 30 = .ok (.aload_n 1, 1) := by decide +kernel
theorem dX4_copyFrom_31 : decode cX4_copyFrom 31 = .ok (.getfield 18, 3) := by decide +kernel
theorem dX4_copyFrom_34 : decode cX4_copyFrom 34 = .ok (.iconst 0, 1) := by decide +kernel
theorem dX4_copyFrom_35 : decode cX4_copyFrom 35 = .ok (.aload_n 0, 1) := by decide +kernel
theorem dX4_copyFrom_36 : decode cX4_copyFrom 36 = .ok (.getfield 18, 3) := by decide +kernel
theorem dX4_copyFrom_39 : decode cX4_copyFrom 39 = .ok (.iconst 0, 1) := by decide +kernel
theorem dX4_copyFrom_40 : decode cX4_copyFrom 40 = .ok (.bipush 6, 2) := by decide +kernel
theorem dX4_copyFrom_42 : decode cX4_copyFrom 42 = .ok (.invokestatic 24, 3) := by decide +kernel
theorem dX4_copyFrom_45 : decode cX4_copyFrom 45 = .ok (.aload_n 1, 1) := by decide +kernel
theorem dX4_copyFrom_46 : decode cX4_copyFrom 46 = .ok (.getfield 21, 3) := by decide +kernel
theorem dX4_copyFrom_49 : decode cX4_copyFrom 49 = .ok (.iconst 0, 1) := by decide +kernel
theorem dX4_copyFrom_50 : decode cX4_copyFrom 50 = .ok (.aload_n 0, 1) := by decide +kernel
theorem dX4_copyFrom_51 : decode cX4_copyFrom 51 = .ok (.getfield 21, 3) := by decide +kernel
theorem dX4_copyFrom_54 : decode cX4_copyFrom 54 = .ok (.iconst 0, 1) := by decide +kernel
theorem dX4_copyFrom_55 : decode cX4_copyFrom 55 = .ok (.bipush 6, 2) := by decide +kernel
theorem dX4_copyFrom_57 : decode cX4_copyFrom 57 = .ok (.invokestatic 24, 3) := by decide +kernel
theorem dX4_copyFrom_60 : decode cX4_copyFrom 60 = .ok (.return_, 1) := by decide +kernel
theorem dX4_leavesMark_0 : decode cX4_leavesMark 0 = .ok (.aload_n 0, 1) := by decide +kernel
theorem dX4_leavesMark_1 : decode cX4_leavesMark 1 = .ok (.getfield 9, 3) := by decide +kernel
theorem dX4_leavesMark_4 : decode cX4_leavesMark 4 = .ok (.iload_n 1, 1) := by decide +kernel
theorem dX4_leavesMark_5 : decode cX4_leavesMark 5 = .ok (.iaload, 1) := by decide +kernel
theorem dX4_leavesMark_6 : decode cX4_leavesMark 6 = .ok (.iload_n 2, 1) := by decide +kernel
theorem dX4_leavesMark_7 : decode cX4_leavesMark 7 = .ok (.if_icmp .ge 15, 3) := by decide +kernel
theorem dX4_leavesMark_10 : decode cX4_leavesMark 10 = .ok (.aload_n 0, 1) := by decide +kernel
theorem dX4_leavesMark_11 : decode cX4_leavesMark 11 = .ok (.getfield 18, 3) := by decide +kernel
theorem dX4_leavesMark_14 : decode cX4_leavesMark 14 = .ok (.iload_n 1, 1) := by decide +kernel
theorem dX4_leavesMark_15 : decode cX4_leavesMark 15 = .ok (.dup2, 1) := by decide +kernel
theorem dX4_leavesMark_16 : decode cX4_leavesMark 16 = .ok (.iaload, 1) := by decide +kernel
theorem dX4_leavesMark_17 : decode cX4_leavesMark 17 = .ok (.iconst 1, 1) := by decide +kernel
theorem dX4_leavesMark_18 : decode cX4_leavesMark 18 = .ok (.iadd, 1) := by decide +kernel
theorem dX4_leavesMark_19 : decode cX4_leavesMark 19 = .ok (.iastore, 1) := by decide +kernel
theorem dX4_leavesMark_20 : decode cX4_leavesMark 20 = .ok (.iconst 0, 1) := by decide +kernel
theorem dX4_leavesMark_21 : decode cX4_leavesMark 21 = .ok (.ireturn, 1) := by decide +kernel
theorem dX4_leavesMark_22 : decode cX4_leavesMark 22 = .ok (.aload_n 0, 1) := by decide +kernel
theorem dX4_leavesMark_23 : decode cX4_leavesMark 23 = .ok (.getfield 9, 3) := by decide +kernel
theorem dX4_leavesMark_26 : decode cX4_leavesMark 26 = .ok (.iload_n 1, 1) := by decide +kernel
theorem dX4_leavesMark_27 : decode cX4_leavesMark 27 = .ok (.dup2, 1) := by decide +kernel
theorem dX4_leavesMark_28 : decode cX4_leavesMark 28 = .ok (.iaload, 1) := by decide +kernel
theorem dX4_leavesMark_29 : decode cX4_leavesMark 29 = .ok (.iload_n 2, 1) := by decide +kernel
theorem dX4_leavesMark_30 : decode cX4_leavesMark 30 = .ok (.isub, 1) := by decide +kernel
theorem dX4_leavesMark_31 : decode cX4_leavesMark 31 = .ok (.iastore, 1) := by decide +kernel
theorem dX4_leavesMark_32 : decode cX4_leavesMark 32 = .ok (.aload_n 0, 1) := by decide +kernel
theorem dX4_leavesMark_33 : decode cX4_leavesMark 33 = .ok (.getfield 15, 3) := by decide +kernel
theorem dX4_leavesMark_36 : decode cX4_leavesMark 36 = .ok (.iload_n 1, 1) := by decide +kernel
theorem dX4_leavesMark_37 : decode cX4_leavesMark 37 = .ok (.dup2, 1) := by decide +kernel
theorem dX4_leavesMark_38 : decode cX4_leavesMark 38 = .ok (.iaload, 1) := by decide +kernel
theorem dX4_leavesMark_39 : decode cX4_leavesMark 39 = .ok (.iconst 1, 1) := by decide +kernel
theorem dX4_leavesMark_40 : decode cX4_leavesMark 40 = .ok (.iadd, 1) := by decide +kernel
theorem dX4_leavesMark_41 : decode cX4_leavesMark 41 = .ok (.iastore, 1) := by decide +kernel
theorem dX4_leavesMark_42 : decode cX4_leavesMark 42 = .ok (.iconst 1, 1) := by decide +kernel
theorem dX4_leavesMark_43 : decode cX4_leavesMark 43 = .ok (.ireturn, 1) := by decide +kernel
theorem dX4_allMarks_0 : decode cX4_allMarks 0 = .ok (.iconst 0, 1) := by decide +kernel
theorem dX4_allMarks_1 : decode cX4_allMarks 1 = .ok (.istore_n 1, 1) := by decide +kernel
theorem dX4_allMarks_2 : decode cX4_allMarks 2 = .ok (.iconst 0, 1) := by decide +kernel
theorem dX4_allMarks_3 : decode cX4_allMarks 3 = .ok (.istore_n 2, 1) := by decide +kernel
theorem dX4_allMarks_4 : decode cX4_allMarks 4 = .ok (.iload_n 2, 1) := by decide +kernel
theorem dX4_allMarks_5 : decode cX4_allMarks 5 = .ok (.bipush 6, 2) := by decide +kernel
theorem dX4_allMarks_7 : decode cX4_allMarks 7 = .ok (.if_icmp .ge 18, 3) := by decide +kernel
theorem dX4_allMarks_10 : decode cX4_allMarks 10 = .ok (.iload_n 1, 1) := by decide +kernel
theorem dX4_allMarks_11 : decode cX4_allMarks 11 = .ok (.aload_n 0, 1) := by decide +kernel
theorem dX4_allMarks_12 : decode cX4_allMarks 12 = .ok (.getfield 15, 3) := by decide +kernel
theorem dX4_allMarks_15 : decode cX4_allMarks 15 = .ok (.iload_n 2, 1) := by decide +kernel
theorem dX4_allMarks_16 : decode cX4_allMarks 16 = .ok (.iaload, 1) := by decide +kernel
theorem dX4_allMarks_17 : decode cX4_allMarks 17 = .ok (.iadd, 1) := by decide +kernel
theorem dX4_allMarks_18 : decode cX4_allMarks 18 = .ok (.istore_n 1, 1) := by decide +kernel
theorem dX4_allMarks_19 : decode cX4_allMarks 19 = .ok (.iinc 2 1, 3) := by decide +kernel
theorem dX4_allMarks_22 : decode cX4_allMarks 22 = .ok (.goto (-18), 3) := by decide +kernel
theorem dX4_allMarks_25 : decode cX4_allMarks 25 = .ok (.iload_n 1, 1) := by decide +kernel
theorem dX4_allMarks_26 : decode cX4_allMarks 26 = .ok (.ireturn, 1) := by decide +kernel
