set_option maxRecDepth 20000 in
theorem ggX1_init_X4_init : GoodIn wsX1_init wsX4_init := goodIn_r _ [16, 17, 2, 3, 18, 19, 20, 21, 22, 23, 24, 25, 26, 27, 44, 42, 43] (by decide +kernel) (by decide +kernel)
set_option maxRecDepth 20000 in
theorem gX1_init_X4_init : GoodIn wsX1_init (wsX4_init) := ggX1_init_X4_init
theorem dX1_init_0 : decode cX1_init 0 = .ok (.aload_n 0, 1) := by decide +kernel
theorem dX1_init_1 : decode cX1_init 1 = .ok (.invokespecial 3, 3) := by decide +kernel
theorem dX1_init_4 : decode cX1_init 4 = .ok (.aload_n 0, 1) := by decide +kernel
theorem dX1_init_5 : decode cX1_init 5 = .ok (.iload_n 2, 1) := by decide +kernel
theorem dX1_init_6 : decode cX1_init 6 = .ok (.putfield 9, 3) := by decide +kernel
theorem dX1_init_9 : decode cX1_init 9 = .ok (.aload_n 0, 1) := by decide +kernel
theorem dX1_init_10 : decode cX1_init 10 = .ok (.iload_n 3, 1) := by decide +kernel
theorem dX1_init_11 : decode cX1_init 11 = .ok (.putfield 15, 3) := by decide +kernel
theorem dX1_init_14 : decode cX1_init 14 = .ok (.aload_n 0, 1) := by decide +kernel
theorem dX1_init_15 : decode cX1_init 15 = .ok (.iload 4, 2) := by decide +kernel
theorem dX1_init_17 : decode cX1_init 17 = .ok (.putfield 18, 3) := by decide +kernel
theorem dX1_init_20 : decode cX1_init 20 = .ok (.aload_n 0, 1) := by decide +kernel
theorem dX1_init_21 : decode cX1_init 21 = .ok (.new 21, 3) := by decide +kernel
theorem dX1_init_24 : decode cX1_init 24 = .ok (.dup, 1) := by decide +kernel
theorem dX1_init_25 : decode cX1_init 25 = .ok (.invokespecial 23, 3) := by decide +kernel
theorem dX1_init_28 : decode cX1_init 28 = .ok (.putfield 24, 3) := by decide +kernel
theorem dX1_init_31 : decode cX1_init 31 = .ok (.aload_n 0, 1) := by decide +kernel
theorem dX1_init_32 : decode cX1_init 32 = .ok (.iload_n 1, 1) := by decide +kernel
theorem dX1_init_33 : decode cX1_init 33 = .ok (.putfield 28, 3) := by decide +kernel
theorem dX1_init_36 : decode cX1_init 36 = .ok (.aload_n 0, 1) := by decide +kernel
theorem dX1_init_37 : decode cX1_init 37 = .ok (.iconst (-1), 1) := by decide +kernel
theorem dX1_init_38 : decode cX1_init 38 = .ok (.putfield 31, 3) := by decide +kernel
theorem dX1_init_41 : decode cX1_init 41 = .ok (.aload_n 0, 1) := by decide +kernel
theorem dX1_init_42 : decode cX1_init 42 = .ok (.bipush 117, 2) := by decide +kernel
theorem dX1_init_44 : decode cX1_init 44 = .ok (.putfield 34, 3) := by decide +kernel
theorem dX1_init_47 : decode cX1_init 47 = .ok (.return_, 1) := by decide +kernel
set_option maxRecDepth 20000 in
theorem ggX2_init_X3_init : GoodIn wsX2_init wsX3_init := goodIn_r _ [18, 19, 2, 3, 20, 21, 22] (by decide +kernel) (by decide +kernel)
set_option maxRecDepth 20000 in
theorem gX2_init_X3_init : GoodIn wsX2_init (wsX3_init) := ggX2_init_X3_init
theorem dX2_init_0 : decode cX2_init 0 = .ok (.aload_n 0, 1) := by decide +kernel
theorem dX2_init_1 : decode cX2_init 1 = .ok (.invokespecial 3, 3) := by decide +kernel
theorem dX2_init_4 : decode cX2_init 4 = .ok (.aload_n 0, 1) := by decide +kernel
theorem dX2_init_5 : decode cX2_init 5 = .ok (.new 9, 3) := by decide +kernel
theorem dX2_init_8 : decode cX2_init 8 = .ok (.dup, 1) := by decide +kernel
theorem dX2_init_9 : decode cX2_init 9 = .ok (.iconst 3, 1) := by decide +kernel
theorem dX2_init_10 : decode cX2_init 10 = .ok (.invokespecial 11, 3) := by decide +kernel
theorem dX2_init_13 : decode cX2_init 13 = .ok (.putfield 14, 3) := by decide +kernel
theorem dX2_init_16 : decode cX2_init 16 = .ok (.aload_n 0, 1) := by decide +kernel
theorem dX2_init_17 : decode cX2_init 17 = .ok (.new 9, 3) := by decide +kernel
theorem dX2_init_20 : decode cX2_init 20 = .ok (.dup, 1) := by decide +kernel
theorem dX2_init_21 : decode cX2_init 21 = .ok (.sipush 2197, 3) := by decide +kernel
theorem dX2_init_24 : decode cX2_init 24 = .ok (.invokespecial 11, 3) := by decide +kernel
theorem dX2_init_27 : decode cX2_init 27 = .ok (.putfield 20, 3) := by decide +kernel
theorem dX2_init_30 : decode cX2_init 30 = .ok (.aload_n 0, 1) := by decide +kernel
theorem dX2_init_31 : decode cX2_init 31 = .ok (.new 9, 3) := by decide +kernel
theorem dX2_init_34 : decode cX2_init 34 = .ok (.dup, 1) := by decide +kernel
theorem dX2_init_35 : decode cX2_init 35 = .ok (.sipush 469, 3) := by decide +kernel
theorem dX2_init_38 : decode cX2_init 38 = .ok (.invokespecial 11, 3) := by decide +kernel
theorem dX2_init_41 : decode cX2_init 41 = .ok (.putfield 23, 3) := by decide +kernel
theorem dX2_init_44 : decode cX2_init 44 = .ok (.aload_n 0, 1) := by decide +kernel
theorem dX2_init_45 : decode cX2_init 45 = .ok (.new 9, 3) := by decide +kernel
theorem dX2_init_48 : decode cX2_init 48 = .ok (.dup, 1) := by decide +kernel
theorem dX2_init_49 : decode cX2_init 49 = .ok (.sipush 469, 3) := by decide +kernel
theorem dX2_init_52 : decode cX2_init 52 = .ok (.invokespecial 11, 3) := by decide +kernel
theorem dX2_init_55 : decode cX2_init 55 = .ok (.putfield 26, 3) := by decide +kernel
theorem dX2_init_58 : decode cX2_init 58 = .ok (.aload_n 0, 1) := by decide +kernel
theorem dX2_init_59 : decode cX2_init 59 = .ok (.new 9, 3) := by decide +kernel
theorem dX2_init_62 : decode cX2_init 62 = .ok (.dup, 1) := by decide +kernel
theorem dX2_init_63 : decode cX2_init 63 = .ok (.sipush 3752, 3) := by decide +kernel
theorem dX2_init_66 : decode cX2_init 66 = .ok (.invokespecial 11, 3) := by decide +kernel
theorem dX2_init_69 : decode cX2_init 69 = .ok (.putfield 29, 3) := by decide +kernel
theorem dX2_init_72 : decode cX2_init 72 = .ok (.aload_n 0, 1) := by decide +kernel
theorem dX2_init_73 : decode cX2_init 73 = .ok (.new 9, 3) := by decide +kernel
theorem dX2_init_76 : decode cX2_init 76 = .ok (.dup, 1) := by decide +kernel
theorem dX2_init_77 : decode cX2_init 77 = .ok (.sipush 3752, 3) := by decide +kernel
theorem dX2_init_80 : decode cX2_init 80 = .ok (.invokespecial 11, 3) := by decide +kernel
theorem dX2_init_83 : decode cX2_init 83 = .ok (.putfield 32, 3) := by decide +kernel
theorem dX2_init_86 : decode cX2_init 86 = .ok (.aload_n 0, 1) := by decide +kernel
theorem dX2_init_87 : decode cX2_init 87 = .ok (.new 9, 3) := by decide +kernel
theorem dX2_init_90 : decode cX2_init 90 = .ok (.dup, 1) := by decide +kernel
theorem dX2_init_91 : decode cX2_init 91 = .ok (.sipush 19229, 3) := by decide +kernel
theorem dX2_init_94 : decode cX2_init 94 = .ok (.invokespecial 11, 3) := by decide +kernel
theorem dX2_init_97 : decode cX2_init 97 = .ok (.putfield 35, 3) := by decide +kernel
theorem dX2_init_100 : decode cX2_init 100 = .ok (.aload_n 0, 1) := by decide +kernel
theorem dX2_init_101 : decode cX2_init 101 = .ok (.new 9, 3) := by decide +kernel
theorem dX2_init_104 : decode cX2_init 104 = .ok (.dup, 1) := by decide +kernel
theorem dX2_init_105 : decode cX2_init 105 = .ok (.bipush 40, 2) := by decide +kernel
theorem dX2_init_107 : decode cX2_init 107 = .ok (.invokespecial 11, 3) := by decide +kernel
theorem dX2_init_110 : decode cX2_init 110 = .ok (.putfield 38, 3) := by decide +kernel
theorem dX2_init_113 : decode cX2_init 113 = .ok (.aload_n 0, 1) := by decide +kernel
theorem dX2_init_114 : decode cX2_init 114 = .ok (.new 9, 3) := by decide +kernel
theorem dX2_init_117 : decode cX2_init 117 = .ok (.dup, 1) := by decide +kernel
theorem dX2_init_118 : decode cX2_init 118 = .ok (.bipush 40, 2) := by decide +kernel
theorem dX2_init_120 : decode cX2_init 120 = .ok (.invokespecial 11, 3) := by decide +kernel
theorem dX2_init_123 : decode cX2_init 123 = .ok (.putfield 41, 3) := by decide +kernel
theorem dX2_init_126 : decode cX2_init 126 = .ok (.return_, 1) := by decide +kernel
set_option maxRecDepth 20000 in
theorem ggX2_add_X3_set : GoodIn wsX2_add wsX3_set := goodIn_r _ [7, 8, 21] (by decide +kernel) (by decide +kernel)
set_option maxRecDepth 20000 in
theorem gX2_add_X3_set : GoodIn wsX2_add (wsV RX2 48 RX3 yX3_set wsX3_set) := goodIn_app (goodIn_of _ (by decide +kernel)) ggX2_add_X3_set
theorem dX2_add_0 : decode cX2_add 0 = .ok (.aload_n 0, 1) := by decide +kernel
theorem dX2_add_1 : decode cX2_add 1 = .ok (.getfield 14, 3) := by decide +kernel
theorem dX2_add_4 : decode cX2_add 4 = .ok (.aload_n 0, 1) := by decide +kernel
theorem dX2_add_5 : decode cX2_add 5 = .ok (.getfield 44, 3) := by decide +kernel
theorem dX2_add_8 : decode cX2_add 8 = .ok (.iload_n 1, 1) := by decide +kernel
theorem dX2_add_9 : decode cX2_add 9 = .ok (.invokevirtual 48, 3) := by decide +kernel
theorem dX2_add_12 : decode cX2_add 12 = .ok (.aload_n 0, 1) := by decide +kernel
theorem dX2_add_13 : decode cX2_add 13 = .ok (.dup, 1) := by decide +kernel
theorem dX2_add_14 : decode cX2_add 14 = .ok (.getfield 44, 3) := by decide +kernel
theorem dX2_add_17 : decode cX2_add 17 = .ok (.iconst 1, 1) := by decide +kernel
theorem dX2_add_18 : decode cX2_add 18 = .ok (.iadd, 1) := by decide +kernel
theorem dX2_add_19 : decode cX2_add 19 = .ok (.putfield 44, 3) := by decide +kernel
theorem dX2_add_22 : decode cX2_add 22 = .ok (.return_, 1) := by decide +kernel
theorem dX2_clear_0 : decode cX2_clear 0 = .ok (.aload_n 0, 1) := by decide +kernel
theorem dX2_clear_1 : decode cX2_clear 1 = .ok (.iconst 0, 1) := by decide +kernel
theorem dX2_clear_2 : decode cX2_clear 2 = .ok (.putfield 44, 3) := by decide +kernel
theorem dX2_clear_5 : decode cX2_clear 5 = .ok (.return_, 1) := by decide +kernel
set_option maxRecDepth 20000 in
theorem ggX2_solve_X2_findStates : GoodIn wsX2_solve wsX2_findStates := goodIn_r _ [5, 6, 7, 8, 9, 10, 11, 12, 13, 14, 15, 16, 17, 4, 18, 19, 20, 21, 22, 23, 24, 25, 26, 27, 28, 29, 30, 31, 32, 33, 34, 35, 36, 37, 38, 39, 40, 41, 42, 43, 44, 45, 46, 47, 48, 49, 50, 51, 52, 53, 54, 55, 56, 81, 82, 83, 84, 85, 86, 87, 88, 89, 90, 91, 92, 93] (by decide +kernel) (by decide +kernel)
set_option maxRecDepth 20000 in
theorem gX2_solve_X2_findStates : GoodIn wsX2_solve (wsV RX2 52 RX2 yX2_findStates wsX2_findStates) := goodIn_app (goodIn_of _ (by decide +kernel)) ggX2_solve_X2_findStates
set_option maxRecDepth 20000 in
theorem ggX2_solve_X2_countTurns : GoodIn wsX2_solve wsX2_countTurns := goodIn_r _ [60, 7, 61, 62, 63, 64, 4, 65, 8, 33, 54, 55, 48, 56, 20, 21, 22, 12, 23, 14, 66, 67, 68, 69, 32, 50, 70, 71, 72, 73, 74, 75, 76, 77, 78, 79, 80, 24, 25, 26, 27, 81, 82, 83, 84, 85, 86, 87, 88, 89, 90, 91, 92, 93] (by decide +kernel) (by decide +kernel)
set_option maxRecDepth 20000 in
theorem gX2_solve_X2_countTurns : GoodIn wsX2_solve (wsV RX2 55 RX2 yX2_countTurns wsX2_countTurns) := goodIn_app (goodIn_of _ (by decide +kernel)) ggX2_solve_X2_countTurns
theorem dX2_solve_0 : decode cX2_solve 0 = .ok (.aload_n 0, 1) := by decide +kernel
theorem dX2_solve_1 : decode cX2_solve 1 = .ok (.invokevirtual 52, 3) := by decide +kernel
theorem dX2_solve_4 : decode cX2_solve 4 = .ok (.aload_n 0, 1) := by decide +kernel
theorem dX2_solve_5 : decode cX2_solve 5 = .ok (.invokevirtual 55, 3) := by decide +kernel
theorem dX2_solve_8 : decode cX2_solve 8 = .ok (.return_, 1) := by decide +kernel
set_option maxRecDepth 20000 in
theorem ggX2_reaches_X2_turnsFor : GoodIn wsX2_reaches wsX2_turnsFor := goodIn_r _ [5, 6, 7, 8, 4, 9, 10, 11, 12, 13, 14, 15, 16, 17, 18, 19, 20, 21, 22, 23, 24, 25, 26, 27, 28, 29] (by decide +kernel) (by decide +kernel)
set_option maxRecDepth 20000 in
theorem gX2_reaches_X2_turnsFor : GoodIn wsX2_reaches (wsV RX2 58 RX2 yX2_turnsFor wsX2_turnsFor) := goodIn_app (goodIn_of _ (by decide +kernel)) ggX2_reaches_X2_turnsFor
theorem dX2_reaches_0 : decode cX2_reaches 0 = .ok (.aload_n 0, 1) := by decide +kernel
theorem dX2_reaches_1 : decode cX2_reaches 1 = .ok (.iload_n 1, 1) := by decide +kernel
theorem dX2_reaches_2 : decode cX2_reaches 2 = .ok (.invokevirtual 58, 3) := by decide +kernel
theorem dX2_reaches_5 : decode cX2_reaches 5 = .ok (.sipush 1000, 3) := by decide +kernel
theorem dX2_reaches_8 : decode cX2_reaches 8 = .ok (.if_icmp .ge 7, 3) := by decide +kernel
theorem dX2_reaches_11 : decode cX2_reaches 11 = .ok (.iconst 1, 1) := by decide +kernel
theorem dX2_reaches_12 : decode cX2_reaches 12 = .ok (.goto 4, 3) := by decide +kernel
theorem dX2_reaches_15 : decode cX2_reaches 15 = .ok (.iconst 0, 1) := by decide +kernel
theorem dX2_reaches_16 : decode cX2_reaches 16 = .ok (.ireturn, 1) := by decide +kernel
set_option maxRecDepth 20000 in
theorem ggX2_turnsFor_X2_fewestFrom : GoodIn wsX2_turnsFor wsX2_fewestFrom := goodIn_r _ [5, 6, 7, 8, 9, 10, 11, 12, 13, 14, 15, 16, 17, 18, 19, 20, 21, 22, 23, 24, 25] (by decide +kernel) (by decide +kernel)
set_option maxRecDepth 20000 in
theorem gX2_turnsFor_X2_fewestFrom : GoodIn wsX2_turnsFor (wsV RX2 62 RX2 yX2_fewestFrom wsX2_fewestFrom) := goodIn_app (goodIn_of _ (by decide +kernel)) ggX2_turnsFor_X2_fewestFrom
theorem dX2_turnsFor_0 : decode cX2_turnsFor 0 = .ok (.aload_n 0, 1) := by decide +kernel
theorem dX2_turnsFor_1 : decode cX2_turnsFor 1 = .ok (.iconst 0, 1) := by decide +kernel
theorem dX2_turnsFor_2 : decode cX2_turnsFor 2 = .ok (.iload_n 1, 1) := by decide +kernel
theorem dX2_turnsFor_3 : decode cX2_turnsFor 3 = .ok (.invokevirtual 62, 3) := by decide +kernel
theorem dX2_turnsFor_6 : decode cX2_turnsFor 6 = .ok (.ireturn, 1) := by decide +kernel
set_option maxRecDepth 20000 in
theorem ggX2_stretches_X2_fewestFrom : GoodIn wsX2_stretches wsX2_fewestFrom := goodIn_r _ [6, 7, 8, 9, 10, 11, 12, 13, 14, 15, 16, 17, 18, 19, 20, 21, 22, 23, 24, 25, 26] (by decide +kernel) (by decide +kernel)
set_option maxRecDepth 20000 in
theorem gX2_stretches_X2_fewestFrom : GoodIn wsX2_stretches (wsV RX2 62 RX2 yX2_fewestFrom wsX2_fewestFrom) := goodIn_app (goodIn_of _ (by decide +kernel)) ggX2_stretches_X2_fewestFrom
theorem dX2_stretches_0 : decode cX2_stretches 0 = .ok (.iconst 0, 1) := by decide +kernel
theorem dX2_stretches_1 : decode cX2_stretches 1 = .ok (.istore_n 2, 1) := by decide +kernel
theorem dX2_stretches_2 : decode cX2_stretches 2 = .ok (.iload_n 2, 1) := by decide +kernel
theorem dX2_stretches_3 : decode cX2_stretches 3 = .ok (.aload_n 0, 1) := by decide +kernel
theorem dX2_stretches_4 : decode cX2_stretches 4 = .ok (.getfield 66, 3) := by decide +kernel
theorem dX2_stretches_7 : decode cX2_stretches 7 = .ok (.if_icmp .ge 23, 3) := by decide +kernel
theorem dX2_stretches_10 : decode cX2_stretches 10 = .ok (.aload_n 0, 1) := by decide +kernel
theorem dX2_stretches_11 : decode cX2_stretches 11 = .ok (.iload_n 2, 1) := by decide +kernel
theorem dX2_stretches_12 : decode cX2_stretches 12 = .ok (.iload_n 1, 1) := by decide +kernel
theorem dX2_stretches_13 : decode cX2_stretches 13 = .ok (.invokevirtual 62, 3) := by decide +kernel
theorem dX2_stretches_16 : decode cX2_stretches 16 = .ok (.sipush 1000, 3) := by decide +kernel
theorem dX2_stretches_19 : decode cX2_stretches 19 = .ok (.if_icmp .ge 5, 3) := by decide +kernel
theorem dX2_stretches_22 : decode cX2_stretches 22 = .ok (.iconst 1, 1) := by decide +kernel
theorem dX2_stretches_23 : decode cX2_stretches 23 = .ok (.ireturn, 1) := by decide +kernel
theorem dX2_stretches_24 : decode cX2_stretches 24 = .ok (.iinc 2 1, 3) := by decide +kernel
theorem dX2_stretches_27 : decode cX2_stretches 27 = .ok (.goto (-25), 3) := by decide +kernel
theorem dX2_stretches_30 : decode cX2_stretches 30 = .ok (.iconst 0, 1) := by decide +kernel
theorem dX2_stretches_31 : decode cX2_stretches 31 = .ok (.ireturn, 1) := by decide +kernel
set_option maxRecDepth 20000 in
theorem ggX2_commonDivisor_X2_dividesAll : GoodIn wsX2_commonDivisor wsX2_dividesAll := goodIn_r _ [6, 1, 7, 8, 9, 10, 11, 12, 13, 14, 15, 16, 17, 18, 19, 20, 21, 22, 23, 24, 25, 26] (by decide +kernel) (by decide +kernel)
set_option maxRecDepth 20000 in
theorem gX2_commonDivisor_X2_dividesAll : GoodIn wsX2_commonDivisor (wsV RX2 69 RX2 yX2_dividesAll wsX2_dividesAll) := goodIn_app (goodIn_of _ (by decide +kernel)) ggX2_commonDivisor_X2_dividesAll
theorem dX2_commonDivisor_0 : decode cX2_commonDivisor 0 = .ok (.aload_n 0, 1) := by decide +kernel
theorem dX2_commonDivisor_1 : decode cX2_commonDivisor 1 = .ok (.getfield 44, 3) := by decide +kernel
theorem dX2_commonDivisor_4 : decode cX2_commonDivisor 4 = .ok (.ifCond .le 8, 3) := by decide +kernel
theorem dX2_commonDivisor_7 : decode cX2_commonDivisor 7 = .ok (.bipush 12, 2) := by decide +kernel
theorem dX2_commonDivisor_9 : decode cX2_commonDivisor 9 = .ok (.goto 4, 3) := by decide +kernel
theorem dX2_commonDivisor_12 : decode cX2_commonDivisor 12 = .ok (.iconst 0, 1) := by decide +kernel
theorem dX2_commonDivisor_13 : decode cX2_commonDivisor 13 = .ok (.istore_n 1, 1) := by decide +kernel
theorem dX2_commonDivisor_14 : decode cX2_commonDivisor 14 = .ok (.iload_n 1, 1) := by decide +kernel
theorem dX2_commonDivisor_15 : decode cX2_commonDivisor 15 = .ok (.ifCond .le 19, 3) := by decide +kernel
theorem dX2_commonDivisor_18 : decode cX2_commonDivisor 18 = .ok (.aload_n 0, 1) := by decide +kernel
theorem dX2_commonDivisor_19 : decode cX2_commonDivisor 19 = .ok (.iload_n 1, 1) := by decide +kernel
theorem dX2_commonDivisor_20 : decode cX2_commonDivisor 20 = .ok (.invokevirtual 69, 3) := by decide +kernel
theorem dX2_commonDivisor_23 : decode cX2_commonDivisor 23 = .ok (.ifCond .eq 5, 3) := by decide +kernel
theorem dX2_commonDivisor_26 : decode cX2_commonDivisor 26 = .ok (.iload_n 1, 1) := by decide +kernel
theorem dX2_commonDivisor_27 : decode cX2_commonDivisor 27 = .ok (.ireturn, 1) := by decide +kernel
theorem dX2_commonDivisor_28 : decode cX2_commonDivisor 28 = .ok (.iinc 1 (-1), 3) := by decide +kernel
theorem dX2_commonDivisor_31 : decode cX2_commonDivisor 31 = .ok (.goto (-17), 3) := by decide +kernel
theorem dX2_commonDivisor_34 : decode cX2_commonDivisor 34 = .ok (.iconst 0, 1) := by decide +kernel
theorem dX2_commonDivisor_35 : decode cX2_commonDivisor 35 = .ok (.ireturn, 1) := by decide +kernel
set_option maxRecDepth 20000 in
theorem ggX2_isDivided_X2_commonDivisor : GoodIn wsX2_isDivided wsX2_commonDivisor := goodIn_r _ [5, 6, 7, 8, 9, 4, 10, 11, 12, 13, 14, 15, 16, 17, 31, 32, 33, 34, 35, 36, 37, 38, 39, 40, 41, 42, 43] (by decide +kernel) (by decide +kernel)
set_option maxRecDepth 20000 in
theorem gX2_isDivided_X2_commonDivisor : GoodIn wsX2_isDivided (wsV RX2 73 RX2 yX2_commonDivisor wsX2_commonDivisor) := goodIn_app (goodIn_of _ (by decide +kernel)) ggX2_isDivided_X2_commonDivisor
set_option maxRecDepth 20000 in
theorem ggX2_isDivided_X2_reaches : GoodIn wsX2_isDivided wsX2_reaches := goodIn_r _ [21, 22, 23, 24, 4, 25, 26, 27, 28, 29, 30, 12, 13, 14, 15, 16, 17, 31, 32, 33, 34, 35, 36, 37, 38, 39, 40, 41, 42, 43] (by decide +kernel) (by decide +kernel)
set_option maxRecDepth 20000 in
theorem gX2_isDivided_X2_reaches : GoodIn wsX2_isDivided (wsV RX2 77 RX2 yX2_reaches wsX2_reaches) := goodIn_app (goodIn_of _ (by decide +kernel)) ggX2_isDivided_X2_reaches
theorem dX2_isDivided_0 : decode cX2_isDivided 0 = .ok (.aload_n 0, 1) := by decide +kernel
theorem dX2_isDivided_1 : decode cX2_isDivided 1 = .ok (.invokevirtual 73, 3) := by decide +kernel
theorem dX2_isDivided_4 : decode cX2_isDivided 4 = .ok (.istore_n 1, 1) := by decide +kernel
theorem dX2_isDivided_5 : decode cX2_isDivided 5 = .ok (.iconst 1, 1) := by decide +kernel
theorem dX2_isDivided_6 : decode cX2_isDivided 6 = .ok (.istore_n 2, 1) := by decide +kernel
theorem dX2_isDivided_7 : decode cX2_isDivided 7 = .ok (.iload_n 2, 1) := by decide +kernel
theorem dX2_isDivided_8 : decode cX2_isDivided 8 = .ok (.bipush 40, 2) := by decide +kernel
theorem dX2_isDivided_10 : decode cX2_isDivided 10 = .ok (.if_icmp .gt 29, 3) := by decide +kernel
theorem dX2_isDivided_13 : decode cX2_isDivided 13 = .ok (.aload_n 0, 1) := by decide +kernel
theorem dX2_isDivided_14 : decode cX2_isDivided 14 = .ok (.iload_n 2, 1) := by decide +kernel
theorem dX2_isDivided_15 : decode cX2_isDivided 15 = .ok (.invokevirtual 77, 3) := by decide +kernel
theorem dX2_isDivided_18 : decode cX2_isDivided 18 = .ok (.ifCond .eq 15, 3) := by decide +kernel
theorem dX2_isDivided_21 : decode cX2_isDivided 21 = .ok (.iload_n 1, 1) := by decide +kernel
theorem dX2_isDivided_22 : decode cX2_isDivided 22 = .ok (.ifCond .eq 9, 3) := by decide +kernel
theorem dX2_isDivided_25 : decode cX2_isDivided 25 = .ok (.iload_n 2, 1) := by decide +kernel
theorem dX2_isDivided_26 : decode cX2_isDivided 26 = .ok (.iload_n 1, 1) := by decide +kernel
theorem dX2_isDivided_27 : decode cX2_isDivided 27 = .ok (.irem, 1) := by decide +kernel
theorem dX2_isDivided_28 : decode cX2_isDivided 28 = .ok (.ifCond .eq 5, 3) := by decide +kernel
theorem dX2_isDivided_31 : decode cX2_isDivided 31 = .ok (.iconst 0, 1) := by decide +kernel
theorem dX2_isDivided_32 : decode cX2_isDivided 32 = .ok (.ireturn, 1) := by decide +kernel
theorem dX2_isDivided_33 : decode cX2_isDivided 33 = .ok (.iinc 2 1, 3) := by decide +kernel
theorem dX2_isDivided_36 : decode cX2_isDivided 36 = .ok (.goto (-29), 3) := by decide +kernel
theorem dX2_isDivided_39 : decode cX2_isDivided 39 = .ok (.iconst 1, 1) := by decide +kernel
theorem dX2_isDivided_40 : decode cX2_isDivided 40 = .ok (.ireturn, 1) := by decide +kernel
set_option maxRecDepth 20000 in
theorem ggX2_findStates_X3_wipe : GoodIn wsX2_findStates wsX3_wipe := goodIn_r _ [8, 9, 65] (by decide +kernel) (by decide +kernel)
set_option maxRecDepth 20000 in
theorem gX2_findStates_X3_wipe : GoodIn wsX2_findStates (wsV RX2 89 RX3 yX3_wipe wsX3_wipe) := goodIn_app (goodIn_of _ (by decide +kernel)) ggX2_findStates_X3_wipe
set_option maxRecDepth 20000 in
theorem ggX2_findStates_X2_reach : GoodIn wsX2_findStates wsX2_reach := goodIn_r _ [14, 1, 2, 15, 3, 16, 17, 18, 7, 19, 9, 20, 21, 22, 23, 53, 54, 55, 56, 57, 58, 59, 60, 61, 62, 63, 64, 65] (by decide +kernel) (by decide +kernel)
set_option maxRecDepth 20000 in
theorem gX2_findStates_X2_reach : GoodIn wsX2_findStates (wsV RX2 92 RX2 yX2_reach wsX2_reach) := goodIn_app (goodIn_of _ (by decide +kernel)) ggX2_findStates_X2_reach
set_option maxRecDepth 20000 in
theorem ggX2_findStates_X3_get : GoodIn wsX2_findStates wsX3_get := goodIn_r _ [19, 9, 65] (by decide +kernel) (by decide +kernel)
set_option maxRecDepth 20000 in
theorem gX2_findStates_X3_get : GoodIn wsX2_findStates (wsV RX2 86 RX3 yX3_get wsX3_get) := goodIn_app (goodIn_of _ (by decide +kernel)) ggX2_findStates_X3_get
set_option maxRecDepth 20000 in
theorem ggX2_findStates_X2_leave : GoodIn wsX2_findStates wsX2_leave := goodIn_r _ [27, 15, 28, 29, 16, 17, 18, 7, 19, 9, 20, 21, 22, 23, 30, 31, 32, 13, 33, 34, 35, 36, 37, 38, 39, 40, 41, 42, 43, 44, 45, 46, 47, 48, 49, 50, 51, 52, 10, 11, 12, 14, 1, 2, 3, 53, 54, 55, 56, 57, 58, 59, 60, 61, 62, 63, 64, 65] (by decide +kernel) (by decide +kernel)
set_option maxRecDepth 20000 in
theorem gX2_findStates_X2_leave : GoodIn wsX2_findStates (wsV RX2 95 RX2 yX2_leave wsX2_leave) := goodIn_app (goodIn_of _ (by decide +kernel)) ggX2_findStates_X2_leave
theorem dX2_findStates_0 : decode cX2_findStates 0 = .ok (.aload_n 0, 1) := by decide +kernel
theorem dX2_findStates_1 : decode cX2_findStates 1 = .ok (.getfield 20, 3) := by decide +kernel
theorem dX2_findStates_4 : decode cX2_findStates 4 = .ok (.invokevirtual 89, 3) := by decide +kernel
theorem dX2_findStates_7 : decode cX2_findStates 7 = .ok (.aload_n 0, 1) := by decide +kernel
theorem dX2_findStates_8 : decode cX2_findStates 8 = .ok (.iconst 0, 1) := by decide +kernel
theorem dX2_findStates_9 : decode cX2_findStates 9 = .ok (.putfield 66, 3) := by decide +kernel
theorem dX2_findStates_12 : decode cX2_findStates 12 = .ok (.aload_n 0, 1) := by decide +kernel
theorem dX2_findStates_13 : decode cX2_findStates 13 = .ok (.iconst 0, 1) := by decide +kernel
theorem dX2_findStates_14 : decode cX2_findStates 14 = .ok (.iconst 0, 1) := by decide +kernel
theorem dX2_findStates_15 : decode cX2_findStates 15 = .ok (.invokevirtual 92, 3) := by decide +kernel
theorem dX2_findStates_18 : decode cX2_findStates 18 = .ok (.pop, 1) := by decide +kernel
theorem dX2_findStates_19 : decode cX2_findStates 19 = .ok (.iconst 0, 1) := by decide +kernel
theorem dX2_findStates_20 : decode cX2_findStates 20 = .ok (.istore_n 1, 1) := by decide +kernel
theorem dX2_findStates_21 : decode cX2_findStates 21 = .ok (.iload_n 1, 1) := by decide +kernel
theorem dX2_findStates_22 : decode cX2_findStates 22 = .ok (.bipush 40, 2) := by decide +kernel
theorem dX2_findStates_24 : decode cX2_findStates 24 = .ok (.if_icmp .gt 50, 3) := by decide +kernel
theorem dX2_findStates_27 : decode cX2_findStates 27 = .ok (.iconst 0, 1) := by decide +kernel
theorem dX2_findStates_28 : decode cX2_findStates 28 = .ok (.istore_n 2, 1) := by decide +kernel
theorem dX2_findStates_29 : decode cX2_findStates 29 = .ok (.iload_n 2, 1) := by decide +kernel
theorem dX2_findStates_30 : decode cX2_findStates 30 = .ok (.aload_n 0, 1) := by decide +kernel
theorem dX2_findStates_31 : decode cX2_findStates 31 = .ok (.getfield 66, 3) := by decide +kernel
theorem dX2_findStates_34 : decode cX2_findStates 34 = .ok (.if_icmp .ge 34, 3) := by decide +kernel
theorem dX2_findStates_37 : decode cX2_findStates 37 = .ok (.iload_n 2, 1) := by decide +kernel
theorem dX2_findStates_38 : decode cX2_findStates 38 = .ok (.sipush 469, 3) := by decide +kernel
theorem dX2_findStates_41 : decode cX2_findStates 41 = .ok (.if_icmp .ge 27, 3) := by decide +kernel
theorem dX2_findStates_44 : decode cX2_findStates 44 = .ok (.aload_n 0, 1) := by decide +kernel
theorem dX2_findStates_45 : decode cX2_findStates 45 = .ok (.getfield 26, 3) := by decide +kernel
theorem dX2_findStates_48 : decode cX2_findStates 48 = .ok (.iload_n 2, 1) := by decide +kernel
theorem dX2_findStates_49 : decode cX2_findStates 49 = .ok (.invokevirtual 86, 3) := by decide +kernel
theorem dX2_findStates_52 : decode cX2_findStates 52 = .ok (.iload_n 1, 1) := by decide +kernel
theorem dX2_findStates_53 : decode cX2_findStates 53 = .ok (.if_icmp .ne 9, 3) := by decide +kernel
theorem dX2_findStates_56 : decode cX2_findStates 56 = .ok (.aload_n 0, 1) := by decide +kernel
theorem dX2_findStates_57 : decode cX2_findStates 57 = .ok (.iload_n 2, 1) := by decide +kernel
theorem dX2_findStates_58 : decode cX2_findStates 58 = .ok (.iload_n 1, 1) := by decide +kernel
theorem dX2_findStates_59 : decode cX2_findStates 59 = .ok (.invokevirtual 95, 3) := by decide +kernel
theorem dX2_findStates_62 : decode cX2_findStates 62 = .ok (.iinc 2 1, 3) := by decide +kernel
theorem dX2_findStates_65 : decode cX2_findStates 65 = .ok (.goto (-36), 3) := by decide +kernel
theorem dX2_findStates_68 : decode cX2_findStates 68 = .ok (.iinc 1 1, 3) := by decide +kernel
theorem dX2_findStates_71 : decode cX2_findStates 71 = .ok (.goto (-50), 3) := by decide +kernel
theorem dX2_findStates_74 : decode cX2_findStates 74 = .ok (.return_, 1) := by decide +kernel
set_option maxRecDepth 20000 in
theorem ggX2_leave_X3_get : GoodIn wsX2_leave wsX3_get := goodIn_r _ [8, 9, 57] (by decide +kernel) (by decide +kernel)
set_option maxRecDepth 20000 in
theorem gX2_leave_X3_get : GoodIn wsX2_leave (wsV RX2 86 RX3 yX3_get wsX3_get) := goodIn_app (goodIn_of _ (by decide +kernel)) ggX2_leave_X3_get
set_option maxRecDepth 20000 in
theorem ggX2_leave_X3_set : GoodIn wsX2_leave wsX3_set := goodIn_r _ [13, 9, 57] (by decide +kernel) (by decide +kernel)
set_option maxRecDepth 20000 in
theorem gX2_leave_X3_set : GoodIn wsX2_leave (wsV RX2 48 RX3 yX3_set wsX3_set) := goodIn_app (goodIn_of _ (by decide +kernel)) ggX2_leave_X3_set
set_option maxRecDepth 20000 in
theorem ggX2_leave_X2_chosen : GoodIn wsX2_leave wsX2_chosen := goodIn_r _ [18, 19, 4, 5, 6, 7, 8, 9, 20, 21, 17, 22, 45, 46, 47, 48, 49, 50, 51, 52, 53, 54, 55, 56, 57] (by decide +kernel) (by decide +kernel)
set_option maxRecDepth 20000 in
theorem gX2_leave_X2_chosen : GoodIn wsX2_leave (wsV RX2 98 RX2 yX2_chosen wsX2_chosen) := goodIn_app (goodIn_of _ (by decide +kernel)) ggX2_leave_X2_chosen
set_option maxRecDepth 20000 in
theorem ggX2_leave_X2_go : GoodIn wsX2_leave wsX2_go := goodIn_r _ [26, 27, 28, 29, 30, 31, 2, 32, 33, 17, 34, 35, 36, 37, 20, 21, 22, 38, 39, 40, 41, 42, 43, 1, 44, 4, 5, 6, 7, 8, 9, 10, 11, 12, 13, 45, 46, 47, 48, 49, 50, 51, 52, 53, 54, 55, 56, 57] (by decide +kernel) (by decide +kernel)
set_option maxRecDepth 20000 in
theorem gX2_leave_X2_go : GoodIn wsX2_leave (wsV RX2 101 RX2 yX2_go wsX2_go) := goodIn_app (goodIn_of _ (by decide +kernel)) ggX2_leave_X2_go
theorem dX2_leave_0 : decode cX2_leave 0 = .ok (.aload_n 0, 1) := by decide +kernel
theorem dX2_leave_1 : decode cX2_leave 1 = .ok (.getfield 23, 3) := by decide +kernel
theorem dX2_leave_4 : decode cX2_leave 4 = .ok (.iload_n 1, 1) := by decide +kernel
theorem dX2_leave_5 : decode cX2_leave 5 = .ok (.invokevirtual 86, 3) := by decide +kernel
theorem dX2_leave_8 : decode cX2_leave 8 = .ok (.istore_n 3, 1) := by decide +kernel
theorem dX2_leave_9 : decode cX2_leave 9 = .ok (.iconst 0, 1) := by decide +kernel
theorem dX2_leave_10 : decode cX2_leave 10 = .ok (.istore 4, 2) := by decide +kernel
theorem dX2_leave_12 : decode cX2_leave 12 = .ok (.iload 4, 2) := by decide +kernel
theorem dX2_leave_14 : decode cX2_leave 14 = .ok (.bipush 8, 2) := by decide +kernel
theorem dX2_leave_16 : decode cX2_leave 16 = .ok (.if_icmp .ge 53, 3) := by decide +kernel
theorem dX2_leave_19 : decode cX2_leave 19 = .ok (.iload_n 1, 1) := by decide +kernel
theorem dX2_leave_20 : decode cX2_leave 20 = .ok (.bipush 8, 2) := by decide +kernel
theorem dX2_leave_22 : decode cX2_leave 22 = .ok (.imul, 1) := by decide +kernel
theorem dX2_leave_23 : decode cX2_leave 23 = .ok (.iload 4, 2) := by decide +kernel
theorem dX2_leave_25 : decode cX2_leave 25 = .ok (.iadd, 1) := by decide +kernel
theorem dX2_leave_26 : decode cX2_leave 26 = .ok (.istore 5, 2) := by decide +kernel
theorem dX2_leave_28 : decode cX2_leave 28 = .ok (.aload_n 0, 1) := by decide +kernel
theorem dX2_leave_29 : decode cX2_leave 29 = .ok (.getfield 32, 3) := by decide +kernel
theorem dX2_leave_32 : decode cX2_leave 32 = .ok (.iload 5, 2) := by decide +kernel
theorem dX2_leave_34 : decode cX2_leave 34 = .ok (.iconst 0, 1) := by decide +kernel
theorem dX2_leave_35 : decode cX2_leave 35 = .ok (.invokevirtual 48, 3) := by decide +kernel
theorem dX2_leave_38 : decode cX2_leave 38 = .ok (.iload 4, 2) := by decide +kernel
theorem dX2_leave_40 : decode cX2_leave 40 = .ok (.iconst 1, 1) := by decide +kernel
theorem dX2_leave_41 : decode cX2_leave 41 = .ok (.aload_n 0, 1) := by decide +kernel
theorem dX2_leave_42 : decode cX2_leave 42 = .ok (.getfield 44, 3) := by decide +kernel
theorem dX2_leave_45 : decode cX2_leave 45 = .ok (.ishl, 1) := by decide +kernel
theorem dX2_leave_46 : decode cX2_leave 46 = .ok (.if_icmp .ge 17, 3) := by decide +kernel
theorem dX2_leave_49 : decode cX2_leave 49 = .ok (.aload_n 0, 1) := by decide +kernel
theorem dX2_leave_50 : decode cX2_leave 50 = .ok (.iload 5, 2) := by decide +kernel
theorem dX2_leave_52 : decode cX2_leave 52 = .ok (.iload_n 2, 1) := by decide +kernel
theorem dX2_leave_53 : decode cX2_leave 53 = .ok (.aload_n 0, 1) := by decide +kernel
theorem dX2_leave_54 : decode cX2_leave 54 = .ok (.iload_n 3, 1) := by decide +kernel
theorem dX2_leave_55 : decode cX2_leave 55 = .ok (.iload 4, 2) := by decide +kernel
theorem dX2_leave_57 : decode cX2_leave 57 = .ok (.invokevirtual 98, 3) := by decide +kernel
theorem dX2_leave_60 : decode cX2_leave 60 = .ok (.invokevirtual 101, 3) := by decide +kernel
theorem dX2_leave_63 : decode cX2_leave 63 = .ok (.iinc 4 1, 3) := by decide +kernel
theorem dX2_leave_66 : decode cX2_leave 66 = .ok (.goto (-54), 3) := by decide +kernel
theorem dX2_leave_69 : decode cX2_leave 69 = .ok (.return_, 1) := by decide +kernel
set_option maxRecDepth 20000 in
theorem ggX2_go_X2_leastAboveZero : GoodIn wsX2_go wsX2_leastAboveZero := goodIn_r _ [10, 1, 2, 3, 4, 11, 12, 13] (by decide +kernel) (by decide +kernel)
set_option maxRecDepth 20000 in
theorem gX2_go_X2_leastAboveZero : GoodIn wsX2_go (va_wsS RX2 105 yX2_leastAboveZero wsX2_leastAboveZero) := goodIn_app (goodIn_of _ (by decide +kernel)) ggX2_go_X2_leastAboveZero
set_option maxRecDepth 20000 in
theorem ggX2_go_X2_levels : GoodIn wsX2_go wsX2_levels := goodIn_r _ [16] (by decide +kernel) (by decide +kernel)
set_option maxRecDepth 20000 in
theorem gX2_go_X2_levels : GoodIn wsX2_go (va_wsS RX2 113 yX2_levels wsX2_levels) := goodIn_app (goodIn_of _ (by decide +kernel)) ggX2_go_X2_levels
set_option maxRecDepth 20000 in
theorem ggX2_go_X2_reach : GoodIn wsX2_go wsX2_reach := goodIn_r _ [20, 21, 22, 23, 24, 25, 26, 27, 28, 29, 30, 31, 32, 33, 34, 35, 36, 37, 38, 39, 40, 41, 42, 43, 44, 45, 46, 47] (by decide +kernel) (by decide +kernel)
set_option maxRecDepth 20000 in
theorem gX2_go_X2_reach : GoodIn wsX2_go (wsV RX2 92 RX2 yX2_reach wsX2_reach) := goodIn_app (goodIn_of _ (by decide +kernel)) ggX2_go_X2_reach
set_option maxRecDepth 20000 in
theorem ggX2_go_X3_set : GoodIn wsX2_go wsX3_set := goodIn_r _ [34, 30, 47] (by decide +kernel) (by decide +kernel)
set_option maxRecDepth 20000 in
theorem gX2_go_X3_set : GoodIn wsX2_go (wsV RX2 48 RX3 yX3_set wsX3_set) := goodIn_app (goodIn_of _ (by decide +kernel)) ggX2_go_X3_set
theorem dX2_go_0 : decode cX2_go 0 = .ok (.iload_n 3, 1) := by decide +kernel
theorem dX2_go_1 : decode cX2_go 1 = .ok (.sipush 169, 3) := by decide +kernel
theorem dX2_go_4 : decode cX2_go 4 = .ok (.idiv, 1) := by decide +kernel
theorem dX2_go_5 : decode cX2_go 5 = .ok (.istore 4, 2) := by decide +kernel
theorem dX2_go_7 : decode cX2_go 7 = .ok (.iload_n 3, 1) := by decide +kernel
theorem dX2_go_8 : decode cX2_go 8 = .ok (.bipush 13, 2) := by decide +kernel
theorem dX2_go_10 : decode cX2_go 10 = .ok (.idiv, 1) := by decide +kernel
theorem dX2_go_11 : decode cX2_go 11 = .ok (.bipush 13, 2) := by decide +kernel
theorem dX2_go_13 : decode cX2_go 13 = .ok (.irem, 1) := by decide +kernel
theorem dX2_go_14 : decode cX2_go 14 = .ok (.istore 5, 2) := by decide +kernel
theorem dX2_go_16 : decode cX2_go 16 = .ok (.iload_n 3, 1) := by decide +kernel
theorem dX2_go_17 : decode cX2_go 17 = .ok (.bipush 13, 2) := by decide +kernel
theorem dX2_go_19 : decode cX2_go 19 = .ok (.irem, 1) := by decide +kernel
theorem dX2_go_20 : decode cX2_go 20 = .ok (.istore 6, 2) := by decide +kernel
theorem dX2_go_22 : decode cX2_go 22 = .ok (.iload 4, 2) := by decide +kernel
theorem dX2_go_24 : decode cX2_go 24 = .ok (.iload 5, 2) := by decide +kernel
theorem dX2_go_26 : decode cX2_go 26 = .ok (.invokestatic 105, 3) := by decide +kernel
theorem dX2_go_29 : decode cX2_go 29 = .ok (.iload 6, 2) := by decide +kernel
theorem dX2_go_31 : decode cX2_go 31 = .ok (.invokestatic 105, 3) := by decide +kernel
theorem dX2_go_34 : decode cX2_go 34 = .ok (.istore 7, 2) := by decide +kernel
theorem dX2_go_36 : decode cX2_go 36 = .ok (.iload 7, 2) := by decide +kernel
theorem dX2_go_38 : decode cX2_go 38 = .ok (.ifCond .le 72, 3) := by decide +kernel
theorem dX2_go_41 : decode cX2_go 41 = .ok (.iload_n 2, 1) := by decide +kernel
theorem dX2_go_42 : decode cX2_go 42 = .ok (.iload 7, 2) := by decide +kernel
theorem dX2_go_44 : decode cX2_go 44 = .ok (.iadd, 1) := by decide +kernel
theorem dX2_go_45 : decode cX2_go 45 = .ok (.bipush 40, 2) := by decide +kernel
theorem dX2_go_47 : decode cX2_go 47 = .ok (.if_icmp .gt 63, 3) := by decide +kernel
theorem dX2_go_50 : decode cX2_go 50 = .ok (.iload 4, 2) := by decide +kernel
theorem dX2_go_52 : decode cX2_go 52 = .ok (.iload 7, 2) := by decide +kernel
theorem dX2_go_54 : decode cX2_go 54 = .ok (.isub, 1) := by decide +kernel
theorem dX2_go_55 : decode cX2_go 55 = .ok (.iconst 0, 1) := by decide +kernel
theorem dX2_go_56 : decode cX2_go 56 = .ok (.invokestatic 108, 3) := by decide +kernel
theorem dX2_go_59 : decode cX2_go 59 = .ok (.iload 5, 2) := by decide +kernel
theorem dX2_go_61 : decode cX2_go 61 = .ok (.iload 7, 2) := by decide +kernel
theorem dX2_go_63 : decode cX2_go 63 = .ok (.isub, 1) := by decide +kernel
theorem dX2_go_64 : decode cX2_go 64 = .ok (.iconst 0, 1) := by decide +kernel
theorem dX2_go_65 : decode cX2_go 65 = .ok (.invokestatic 108, 3) := by decide +kernel
theorem dX2_go_68 : decode cX2_go 68 = .ok (.iload 6, 2) := by decide +kernel
theorem dX2_go_70 : decode cX2_go 70 = .ok (.iload 7, 2) := by decide +kernel
theorem dX2_go_72 : decode cX2_go 72 = .ok (.isub, 1) := by decide +kernel
theorem dX2_go_73 : decode cX2_go 73 = .ok (.iconst 0, 1) := by decide +kernel
theorem dX2_go_74 : decode cX2_go 74 = .ok (.invokestatic 108, 3) := by decide +kernel
theorem dX2_go_77 : decode cX2_go 77 = .ok (.invokestatic 113, 3) := by decide +kernel
theorem dX2_go_80 : decode cX2_go 80 = .ok (.istore 8, 2) := by decide +kernel
theorem dX2_go_82 : decode cX2_go 82 = .ok (.aload_n 0, 1) := by decide +kernel
theorem dX2_go_83 : decode cX2_go 83 = .ok (.getfield 29, 3) := by decide +kernel
theorem dX2_go_86 : decode cX2_go 86 = .ok (.iload_n 1, 1) := by decide +kernel
theorem dX2_go_87 : decode cX2_go 87 = .ok (.aload_n 0, 1) := by decide +kernel
theorem dX2_go_88 : decode cX2_go 88 = .ok (.iload 8, 2) := by decide +kernel
theorem dX2_go_90 : decode cX2_go 90 = .ok (.iload_n 2, 1) := by decide +kernel
theorem dX2_go_91 : decode cX2_go 91 = .ok (.iload 7, 2) := by decide +kernel
theorem dX2_go_93 : decode cX2_go 93 = .ok (.iadd, 1) := by decide +kernel
theorem dX2_go_94 : decode cX2_go 94 = .ok (.invokevirtual 92, 3) := by decide +kernel
theorem dX2_go_97 : decode cX2_go 97 = .ok (.invokevirtual 48, 3) := by decide +kernel
theorem dX2_go_100 : decode cX2_go 100 = .ok (.aload_n 0, 1) := by decide +kernel
theorem dX2_go_101 : decode cX2_go 101 = .ok (.getfield 32, 3) := by decide +kernel
theorem dX2_go_104 : decode cX2_go 104 = .ok (.iload_n 1, 1) := by decide +kernel
theorem dX2_go_105 : decode cX2_go 105 = .ok (.iload 7, 2) := by decide +kernel
theorem dX2_go_107 : decode cX2_go 107 = .ok (.invokevirtual 48, 3) := by decide +kernel
theorem dX2_go_110 : decode cX2_go 110 = .ok (.return_, 1) := by decide +kernel
set_option maxRecDepth 20000 in
theorem ggX2_chosen_X3_get : GoodIn wsX2_chosen wsX3_get := goodIn_r _ [6, 7, 24] (by decide +kernel) (by decide +kernel)
set_option maxRecDepth 20000 in
theorem gX2_chosen_X3_get : GoodIn wsX2_chosen (wsV RX2 86 RX3 yX3_get wsX3_get) := goodIn_app (goodIn_of _ (by decide +kernel)) ggX2_chosen_X3_get
set_option maxRecDepth 20000 in
theorem ggX2_chosen_X2_levels : GoodIn wsX2_chosen wsX2_levels := goodIn_r _ [11] (by decide +kernel) (by decide +kernel)
set_option maxRecDepth 20000 in
theorem gX2_chosen_X2_levels : GoodIn wsX2_chosen (va_wsS RX2 113 yX2_levels wsX2_levels) := goodIn_app (goodIn_of _ (by decide +kernel)) ggX2_chosen_X2_levels
theorem dX2_chosen_0 : decode cX2_chosen 0 = .ok (.iload_n 1, 1) := by decide +kernel
theorem dX2_chosen_1 : decode cX2_chosen 1 = .ok (.sipush 169, 3) := by decide +kernel
theorem dX2_chosen_4 : decode cX2_chosen 4 = .ok (.idiv, 1) := by decide +kernel
theorem dX2_chosen_5 : decode cX2_chosen 5 = .ok (.istore_n 3, 1) := by decide +kernel
theorem dX2_chosen_6 : decode cX2_chosen 6 = .ok (.iload_n 1, 1) := by decide +kernel
theorem dX2_chosen_7 : decode cX2_chosen 7 = .ok (.bipush 13, 2) := by decide +kernel
theorem dX2_chosen_9 : decode cX2_chosen 9 = .ok (.idiv, 1) := by decide +kernel
theorem dX2_chosen_10 : decode cX2_chosen 10 = .ok (.bipush 13, 2) := by decide +kernel
theorem dX2_chosen_12 : decode cX2_chosen 12 = .ok (.irem, 1) := by decide +kernel
theorem dX2_chosen_13 : decode cX2_chosen 13 = .ok (.istore 4, 2) := by decide +kernel
theorem dX2_chosen_15 : decode cX2_chosen 15 = .ok (.iload_n 1, 1) := by decide +kernel
theorem dX2_chosen_16 : decode cX2_chosen 16 = .ok (.bipush 13, 2) := by decide +kernel
theorem dX2_chosen_18 : decode cX2_chosen 18 = .ok (.irem, 1) := by decide +kernel
theorem dX2_chosen_19 : decode cX2_chosen 19 = .ok (.istore 5, 2) := by decide +kernel
theorem dX2_chosen_21 : decode cX2_chosen 21 = .ok (.iload_n 2, 1) := by decide +kernel
theorem dX2_chosen_22 : decode cX2_chosen 22 = .ok (.iconst 1, 1) := by decide +kernel
theorem dX2_chosen_23 : decode cX2_chosen 23 = .ok (.iand, 1) := by decide +kernel
theorem dX2_chosen_24 : decode cX2_chosen 24 = .ok (.ifCond .eq 16, 3) := by decide +kernel
theorem dX2_chosen_27 : decode cX2_chosen 27 = .ok (.aload_n 0, 1) := by decide +kernel
theorem dX2_chosen_28 : decode cX2_chosen 28 = .ok (.getfield 14, 3) := by decide +kernel
theorem dX2_chosen_31 : decode cX2_chosen 31 = .ok (.iconst 0, 1) := by decide +kernel
theorem dX2_chosen_32 : decode cX2_chosen 32 = .ok (.invokevirtual 86, 3) := by decide +kernel
theorem dX2_chosen_35 : decode cX2_chosen 35 = .ok (.iload_n 3, 1) := by decide +kernel
theorem dX2_chosen_36 : decode cX2_chosen 36 = .ok (.isub, 1) := by decide +kernel
theorem dX2_chosen_37 : decode cX2_chosen 37 = .ok (.goto 4, 3) := by decide +kernel
theorem dX2_chosen_40 : decode cX2_chosen 40 = .ok (.iload_n 3, 1) := by decide +kernel
theorem dX2_chosen_41 : decode cX2_chosen 41 = .ok (.iload_n 2, 1) := by decide +kernel
theorem dX2_chosen_42 : decode cX2_chosen 42 = .ok (.iconst 2, 1) := by decide +kernel
theorem dX2_chosen_43 : decode cX2_chosen 43 = .ok (.iand, 1) := by decide +kernel
theorem dX2_chosen_44 : decode cX2_chosen 44 = .ok (.ifCond .eq 17, 3) := by decide +kernel
theorem dX2_chosen_47 : decode cX2_chosen 47 = .ok (.aload_n 0, 1) := by decide +kernel
theorem dX2_chosen_48 : decode cX2_chosen 48 = .ok (.getfield 14, 3) := by decide +kernel
theorem dX2_chosen_51 : decode cX2_chosen 51 = .ok (.iconst 1, 1) := by decide +kernel
theorem dX2_chosen_52 : decode cX2_chosen 52 = .ok (.invokevirtual 86, 3) := by decide +kernel
theorem dX2_chosen_55 : decode cX2_chosen 55 = .ok (.iload 4, 2) := by decide +kernel
theorem dX2_chosen_57 : decode cX2_chosen 57 = .ok (.isub, 1) := by decide +kernel
theorem dX2_chosen_58 : decode cX2_chosen 58 = .ok (.goto 5, 3) := by decide +kernel
theorem dX2_chosen_61 : decode cX2_chosen 61 = .ok (.iload 4, 2) := by decide +kernel
theorem dX2_chosen_63 : decode cX2_chosen 63 = .ok (.iload_n 2, 1) := by decide +kernel
theorem dX2_chosen_64 : decode cX2_chosen 64 = .ok (.iconst 4, 1) := by decide +kernel
theorem dX2_chosen_65 : decode cX2_chosen 65 = .ok (.iand, 1) := by decide +kernel
theorem dX2_chosen_66 : decode cX2_chosen 66 = .ok (.ifCond .eq 17, 3) := by decide +kernel
theorem dX2_chosen_69 : decode cX2_chosen 69 = .ok (.aload_n 0, 1) := by decide +kernel
theorem dX2_chosen_70 : decode cX2_chosen 70 = .ok (.getfield 14, 3) := by decide +kernel
theorem dX2_chosen_73 : decode cX2_chosen 73 = .ok (.iconst 2, 1) := by decide +kernel
theorem dX2_chosen_74 : decode cX2_chosen 74 = .ok (.invokevirtual 86, 3) := by decide +kernel
theorem dX2_chosen_77 : decode cX2_chosen 77 = .ok (.iload 5, 2) := by decide +kernel
theorem dX2_chosen_79 : decode cX2_chosen 79 = .ok (.isub, 1) := by decide +kernel
theorem dX2_chosen_80 : decode cX2_chosen 80 = .ok (.goto 5, 3) := by decide +kernel
theorem dX2_chosen_83 : decode cX2_chosen 83 = .ok (.iload 5, 2) := by decide +kernel
theorem dX2_chosen_85 : decode cX2_chosen 85 = .ok (.invokestatic 113, 3) := by decide +kernel
theorem dX2_chosen_88 : decode cX2_chosen 88 = .ok (.ireturn, 1) := by decide +kernel
set_option maxRecDepth 20000 in
theorem ggX2_reach_X3_get : GoodIn wsX2_reach wsX3_get := goodIn_r _ [9, 10, 27] (by decide +kernel) (by decide +kernel)
set_option maxRecDepth 20000 in
theorem gX2_reach_X3_get : GoodIn wsX2_reach (wsV RX2 86 RX3 yX3_get wsX3_get) := goodIn_app (goodIn_of _ (by decide +kernel)) ggX2_reach_X3_get
set_option maxRecDepth 20000 in
theorem ggX2_reach_X3_set : GoodIn wsX2_reach wsX3_set := goodIn_r _ [14, 10, 27] (by decide +kernel) (by decide +kernel)
set_option maxRecDepth 20000 in
theorem gX2_reach_X3_set : GoodIn wsX2_reach (wsV RX2 48 RX3 yX3_set wsX3_set) := goodIn_app (goodIn_of _ (by decide +kernel)) ggX2_reach_X3_set
theorem dX2_reach_0 : decode cX2_reach 0 = .ok (.aload_n 0, 1) := by decide +kernel
theorem dX2_reach_1 : decode cX2_reach 1 = .ok (.getfield 20, 3) := by decide +kernel
theorem dX2_reach_4 : decode cX2_reach 4 = .ok (.iload_n 1, 1) := by decide +kernel
theorem dX2_reach_5 : decode cX2_reach 5 = .ok (.invokevirtual 86, 3) := by decide +kernel
theorem dX2_reach_8 : decode cX2_reach 8 = .ok (.iconst 1, 1) := by decide +kernel
theorem dX2_reach_9 : decode cX2_reach 9 = .ok (.isub, 1) := by decide +kernel
theorem dX2_reach_10 : decode cX2_reach 10 = .ok (.istore_n 3, 1) := by decide +kernel
theorem dX2_reach_11 : decode cX2_reach 11 = .ok (.iload_n 3, 1) := by decide +kernel
theorem dX2_reach_12 : decode cX2_reach 12 = .ok (.ifCond .ge 50, 3) := by decide +kernel
theorem dX2_reach_15 : decode cX2_reach 15 = .ok (.aload_n 0, 1) := by decide +kernel
theorem dX2_reach_16 : decode cX2_reach 16 = .ok (.getfield 66, 3) := by decide +kernel
theorem dX2_reach_19 : decode cX2_reach 19 = .ok (.istore_n 3, 1) := by decide +kernel
theorem dX2_reach_20 : decode cX2_reach 20 = .ok (.aload_n 0, 1) := by decide +kernel
theorem dX2_reach_21 : decode cX2_reach 21 = .ok (.dup, 1) := by decide +kernel
theorem dX2_reach_22 : decode cX2_reach 22 = .ok (.getfield 66, 3) := by decide +kernel
theorem dX2_reach_25 : decode cX2_reach 25 = .ok (.iconst 1, 1) := by decide +kernel
theorem dX2_reach_26 : decode cX2_reach 26 = .ok (.iadd, 1) := by decide +kernel
theorem dX2_reach_27 : decode cX2_reach 27 = .ok (.putfield 66, 3) := by decide +kernel
theorem dX2_reach_30 : decode cX2_reach 30 = .ok (.aload_n 0, 1) := by decide +kernel
theorem dX2_reach_31 : decode cX2_reach 31 = .ok (.getfield 20, 3) := by decide +kernel
theorem dX2_reach_34 : decode cX2_reach 34 = .ok (.iload_n 1, 1) := by decide +kernel
theorem dX2_reach_35 : decode cX2_reach 35 = .ok (.iload_n 3, 1) := by decide +kernel
theorem dX2_reach_36 : decode cX2_reach 36 = .ok (.iconst 1, 1) := by decide +kernel
theorem dX2_reach_37 : decode cX2_reach 37 = .ok (.iadd, 1) := by decide +kernel
theorem dX2_reach_38 : decode cX2_reach 38 = .ok (.invokevirtual 48, 3) := by decide +kernel
theorem dX2_reach_41 : decode cX2_reach 41 = .ok (.aload_n 0, 1) := by decide +kernel
theorem dX2_reach_42 : decode cX2_reach 42 = .ok (.getfield 23, 3) := by decide +kernel
theorem dX2_reach_45 : decode cX2_reach 45 = .ok (.iload_n 3, 1) := by decide +kernel
theorem dX2_reach_46 : decode cX2_reach 46 = .ok (.iload_n 1, 1) := by decide +kernel
theorem dX2_reach_47 : decode cX2_reach 47 = .ok (.invokevirtual 48, 3) := by decide +kernel
theorem dX2_reach_50 : decode cX2_reach 50 = .ok (.aload_n 0, 1) := by decide +kernel
theorem dX2_reach_51 : decode cX2_reach 51 = .ok (.getfield 26, 3) := by decide +kernel
theorem dX2_reach_54 : decode cX2_reach 54 = .ok (.iload_n 3, 1) := by decide +kernel
theorem dX2_reach_55 : decode cX2_reach 55 = .ok (.iload_n 2, 1) := by decide +kernel
theorem dX2_reach_56 : decode cX2_reach 56 = .ok (.invokevirtual 48, 3) := by decide +kernel
theorem dX2_reach_59 : decode cX2_reach 59 = .ok (.goto 24, 3) := by decide +kernel
theorem dX2_reach_62 : decode cX2_reach 62 = .ok (.iload_n 2, 1) := by decide +kernel
theorem dX2_reach_63 : decode cX2_reach 63 = .ok (.aload_n 0, 1) := by decide +kernel
theorem dX2_reach_64 : decode cX2_reach 64 = .ok (.getfield 26, 3) := by decide +kernel
theorem dX2_reach_67 : decode cX2_reach 67 = .ok (.iload_n 3, 1) := by decide +kernel
theorem dX2_reach_68 : decode cX2_reach 68 = .ok (.invokevirtual 86, 3) := by decide +kernel
theorem dX2_reach_71 : decode cX2_reach 71 = .ok (.if_icmp .ge 12, 3) := by decide +kernel
theorem dX2_reach_74 : decode cX2_reach 74 = .ok (.aload_n 0, 1) := by decide +kernel
theorem dX2_reach_75 : decode cX2_reach 75 = .ok (.getfield 26, 3) := by decide +kernel
theorem dX2_reach_78 : decode cX2_reach 78 = .ok (.iload_n 3, 1) := by decide +kernel
theorem dX2_reach_79 : decode cX2_reach 79 = .ok (.iload_n 2, 1) := by decide +kernel
theorem dX2_reach_80 : decode cX2_reach 80 = .ok (.invokevirtual 48, 3) := by decide +kernel
theorem dX2_reach_83 : decode cX2_reach 83 = .ok (.iload_n 3, 1) := by decide +kernel
theorem dX2_reach_84 : decode cX2_reach 84 = .ok (.ireturn, 1) := by decide +kernel
set_option maxRecDepth 20000 in
theorem ggX2_countTurns_X2_leastTurns : GoodIn wsX2_countTurns wsX2_leastTurns := goodIn_r _ [7, 8, 9, 10, 11, 12, 13, 14, 15, 16, 17, 18, 19, 20, 21, 22, 6, 23, 24, 25, 26, 27, 28, 29, 30, 31, 32, 33, 34, 35, 36, 2, 41, 42, 43, 44, 45, 46, 47, 48, 49, 50, 51, 52, 53] (by decide +kernel) (by decide +kernel)
set_option maxRecDepth 20000 in
theorem gX2_countTurns_X2_leastTurns : GoodIn wsX2_countTurns (wsV RX2 117 RX2 yX2_leastTurns wsX2_leastTurns) := goodIn_app (goodIn_of _ (by decide +kernel)) ggX2_countTurns_X2_leastTurns
set_option maxRecDepth 20000 in
theorem ggX2_countTurns_X3_set : GoodIn wsX2_countTurns wsX3_set := goodIn_r _ [40, 19, 53] (by decide +kernel) (by decide +kernel)
set_option maxRecDepth 20000 in
theorem gX2_countTurns_X3_set : GoodIn wsX2_countTurns (wsV RX2 48 RX3 yX3_set wsX3_set) := goodIn_app (goodIn_of _ (by decide +kernel)) ggX2_countTurns_X3_set
theorem dX2_countTurns_0 : decode cX2_countTurns 0 = .ok (.iconst 1, 1) := by decide +kernel
theorem dX2_countTurns_1 : decode cX2_countTurns 1 = .ok (.istore_n 1, 1) := by decide +kernel
theorem dX2_countTurns_2 : decode cX2_countTurns 2 = .ok (.iload_n 1, 1) := by decide +kernel
theorem dX2_countTurns_3 : decode cX2_countTurns 3 = .ok (.bipush 40, 2) := by decide +kernel
theorem dX2_countTurns_5 : decode cX2_countTurns 5 = .ok (.if_icmp .gt 45, 3) := by decide +kernel
theorem dX2_countTurns_8 : decode cX2_countTurns 8 = .ok (.iconst 0, 1) := by decide +kernel
theorem dX2_countTurns_9 : decode cX2_countTurns 9 = .ok (.istore_n 2, 1) := by decide +kernel
theorem dX2_countTurns_10 : decode cX2_countTurns 10 = .ok (.iload_n 2, 1) := by decide +kernel
theorem dX2_countTurns_11 : decode cX2_countTurns 11 = .ok (.aload_n 0, 1) := by decide +kernel
theorem dX2_countTurns_12 : decode cX2_countTurns 12 = .ok (.getfield 66, 3) := by decide +kernel
theorem dX2_countTurns_15 : decode cX2_countTurns 15 = .ok (.if_icmp .ge 29, 3) := by decide +kernel
theorem dX2_countTurns_18 : decode cX2_countTurns 18 = .ok (.aload_n 0, 1) := by decide +kernel
theorem dX2_countTurns_19 : decode cX2_countTurns 19 = .ok (.getfield 35, 3) := by decide +kernel
theorem dX2_countTurns_22 : decode cX2_countTurns 22 = .ok (.iload_n 1, 1) := by decide +kernel
theorem dX2_countTurns_23 : decode cX2_countTurns 23 = .ok (.sipush 469, 3) := by decide +kernel
theorem dX2_countTurns_26 : decode cX2_countTurns 26 = .ok (.imul, 1) := by decide +kernel
theorem dX2_countTurns_27 : decode cX2_countTurns 27 = .ok (.iload_n 2, 1) := by decide +kernel
theorem dX2_countTurns_28 : decode cX2_countTurns 28 = .ok (.iadd, 1) := by decide +kernel
theorem dX2_countTurns_29 : decode cX2_countTurns 29 = .ok (.aload_n 0, 1) := by decide +kernel
theorem dX2_countTurns_30 : decode cX2_countTurns 30 = .ok (.iload_n 2, 1) := by decide +kernel
theorem dX2_countTurns_31 : decode cX2_countTurns 31 = .ok (.iload_n 1, 1) := by decide +kernel
theorem dX2_countTurns_32 : decode cX2_countTurns 32 = .ok (.invokevirtual 117, 3) := by decide +kernel
theorem dX2_countTurns_35 : decode cX2_countTurns 35 = .ok (.invokevirtual 48, 3) := by decide +kernel
theorem dX2_countTurns_38 : decode cX2_countTurns 38 = .ok (.iinc 2 1, 3) := by decide +kernel
theorem dX2_countTurns_41 : decode cX2_countTurns 41 = .ok (.goto (-31), 3) := by decide +kernel
theorem dX2_countTurns_44 : decode cX2_countTurns 44 = .ok (.iinc 1 1, 3) := by decide +kernel
theorem dX2_countTurns_47 : decode cX2_countTurns 47 = .ok (.goto (-45), 3) := by decide +kernel
theorem dX2_countTurns_50 : decode cX2_countTurns 50 = .ok (.return_, 1) := by decide +kernel
set_option maxRecDepth 20000 in
theorem ggX2_leastTurns_X3_get : GoodIn wsX2_leastTurns wsX3_get := goodIn_r _ [11, 12, 44] (by decide +kernel) (by decide +kernel)
set_option maxRecDepth 20000 in
theorem gX2_leastTurns_X3_get : GoodIn wsX2_leastTurns (wsV RX2 86 RX3 yX3_get wsX3_get) := goodIn_app (goodIn_of _ (by decide +kernel)) ggX2_leastTurns_X3_get
set_option maxRecDepth 20000 in
theorem ggX2_leastTurns_X2_turnsBy : GoodIn wsX2_leastTurns wsX2_turnsBy := goodIn_r _ [17, 18, 19, 7, 8, 9, 10, 11, 12, 20, 21, 22, 23, 24, 25, 26, 27, 28, 29, 16, 30, 31, 32, 33, 34, 35, 36, 37, 38, 39, 40, 41, 42, 43, 44] (by decide +kernel) (by decide +kernel)
set_option maxRecDepth 20000 in
theorem gX2_leastTurns_X2_turnsBy : GoodIn wsX2_leastTurns (wsV RX2 120 RX2 yX2_turnsBy wsX2_turnsBy) := goodIn_app (goodIn_of _ (by decide +kernel)) ggX2_leastTurns_X2_turnsBy
theorem dX2_leastTurns_0 : decode cX2_leastTurns 0 = .ok (.aload_n 0, 1) := by decide +kernel
theorem dX2_leastTurns_1 : decode cX2_leastTurns 1 = .ok (.getfield 26, 3) := by decide +kernel
theorem dX2_leastTurns_4 : decode cX2_leastTurns 4 = .ok (.iload_n 1, 1) := by decide +kernel
theorem dX2_leastTurns_5 : decode cX2_leastTurns 5 = .ok (.invokevirtual 86, 3) := by decide +kernel
theorem dX2_leastTurns_8 : decode cX2_leastTurns 8 = .ok (.iload_n 2, 1) := by decide +kernel
theorem dX2_leastTurns_9 : decode cX2_leastTurns 9 = .ok (.iadd, 1) := by decide +kernel
theorem dX2_leastTurns_10 : decode cX2_leastTurns 10 = .ok (.bipush 40, 2) := by decide +kernel
theorem dX2_leastTurns_12 : decode cX2_leastTurns 12 = .ok (.if_icmp .le 7, 3) := by decide +kernel
theorem dX2_leastTurns_15 : decode cX2_leastTurns 15 = .ok (.sipush 1000, 3) := by decide +kernel
theorem dX2_leastTurns_18 : decode cX2_leastTurns 18 = .ok (.ireturn, 1) := by decide +kernel
theorem dX2_leastTurns_19 : decode cX2_leastTurns 19 = .ok (.sipush 1000, 3) := by decide +kernel
theorem dX2_leastTurns_22 : decode cX2_leastTurns 22 = .ok (.istore_n 3, 1) := by decide +kernel
theorem dX2_leastTurns_23 : decode cX2_leastTurns 23 = .ok (.iconst 0, 1) := by decide +kernel
theorem dX2_leastTurns_24 : decode cX2_leastTurns 24 = .ok (.istore 4, 2) := by decide +kernel
theorem dX2_leastTurns_26 : decode cX2_leastTurns 26 = .ok (.iload 4, 2) := by decide +kernel
theorem dX2_leastTurns_28 : decode cX2_leastTurns 28 = .ok (.iconst 1, 1) := by decide +kernel
theorem dX2_leastTurns_29 : decode cX2_leastTurns 29 = .ok (.aload_n 0, 1) := by decide +kernel
theorem dX2_leastTurns_30 : decode cX2_leastTurns 30 = .ok (.getfield 44, 3) := by decide +kernel
theorem dX2_leastTurns_33 : decode cX2_leastTurns 33 = .ok (.ishl, 1) := by decide +kernel
theorem dX2_leastTurns_34 : decode cX2_leastTurns 34 = .ok (.if_icmp .ge 22, 3) := by decide +kernel
theorem dX2_leastTurns_37 : decode cX2_leastTurns 37 = .ok (.iload_n 3, 1) := by decide +kernel
theorem dX2_leastTurns_38 : decode cX2_leastTurns 38 = .ok (.aload_n 0, 1) := by decide +kernel
theorem dX2_leastTurns_39 : decode cX2_leastTurns 39 = .ok (.iload_n 1, 1) := by decide +kernel
theorem dX2_leastTurns_40 : decode cX2_leastTurns 40 = .ok (.iload 4, 2) := by decide +kernel
theorem dX2_leastTurns_42 : decode cX2_leastTurns 42 = .ok (.iload_n 2, 1) := by decide +kernel
theorem dX2_leastTurns_43 : decode cX2_leastTurns 43 = .ok (.invokevirtual 120, 3) := by decide +kernel
theorem dX2_leastTurns_46 : decode cX2_leastTurns 46 = .ok (.invokestatic 123, 3) := by decide +kernel
theorem dX2_leastTurns_49 : decode cX2_leastTurns 49 = .ok (.istore_n 3, 1) := by decide +kernel
theorem dX2_leastTurns_50 : decode cX2_leastTurns 50 = .ok (.iinc 4 1, 3) := by decide +kernel
theorem dX2_leastTurns_53 : decode cX2_leastTurns 53 = .ok (.goto (-27), 3) := by decide +kernel
theorem dX2_leastTurns_56 : decode cX2_leastTurns 56 = .ok (.iload_n 3, 1) := by decide +kernel
theorem dX2_leastTurns_57 : decode cX2_leastTurns 57 = .ok (.ireturn, 1) := by decide +kernel
set_option maxRecDepth 20000 in
theorem ggX2_turnsBy_X3_get : GoodIn wsX2_turnsBy wsX3_get := goodIn_r _ [7, 8, 34] (by decide +kernel) (by decide +kernel)
set_option maxRecDepth 20000 in
theorem gX2_turnsBy_X3_get : GoodIn wsX2_turnsBy (wsV RX2 86 RX3 yX3_get wsX3_get) := goodIn_app (goodIn_of _ (by decide +kernel)) ggX2_turnsBy_X3_get
set_option maxRecDepth 20000 in
theorem ggX2_turnsBy_J6_bitCount_0f7a4 : GoodIn wsX2_turnsBy wsJ6_bitCount_0f7a4 := goodIn_r _ [12, 13, 14, 15] (by decide +kernel) (by decide +kernel)
set_option maxRecDepth 20000 in
theorem gX2_turnsBy_J6_bitCount_0f7a4 : GoodIn wsX2_turnsBy (va_wsS RX2 126 yJ6_bitCount_0f7a4 wsJ6_bitCount_0f7a4) := goodIn_app (goodIn_of _ (by decide +kernel)) ggX2_turnsBy_J6_bitCount_0f7a4
set_option maxRecDepth 20000 in
theorem ggX2_turnsBy_X2_fewestFrom : GoodIn wsX2_turnsBy wsX2_fewestFrom := goodIn_r _ [20, 21, 3, 4, 5, 6, 7, 8, 22, 23, 24, 25, 26, 27, 28, 29, 30, 31, 32, 33, 34] (by decide +kernel) (by decide +kernel)
set_option maxRecDepth 20000 in
theorem gX2_turnsBy_X2_fewestFrom : GoodIn wsX2_turnsBy (wsV RX2 62 RX2 yX2_fewestFrom wsX2_fewestFrom) := goodIn_app (goodIn_of _ (by decide +kernel)) ggX2_turnsBy_X2_fewestFrom
theorem dX2_turnsBy_0 : decode cX2_turnsBy 0 = .ok (.iload_n 1, 1) := by decide +kernel
theorem dX2_turnsBy_1 : decode cX2_turnsBy 1 = .ok (.bipush 8, 2) := by decide +kernel
theorem dX2_turnsBy_3 : decode cX2_turnsBy 3 = .ok (.imul, 1) := by decide +kernel
theorem dX2_turnsBy_4 : decode cX2_turnsBy 4 = .ok (.iload_n 2, 1) := by decide +kernel
theorem dX2_turnsBy_5 : decode cX2_turnsBy 5 = .ok (.iadd, 1) := by decide +kernel
theorem dX2_turnsBy_6 : decode cX2_turnsBy 6 = .ok (.istore 4, 2) := by decide +kernel
theorem dX2_turnsBy_8 : decode cX2_turnsBy 8 = .ok (.aload_n 0, 1) := by decide +kernel
theorem dX2_turnsBy_9 : decode cX2_turnsBy 9 = .ok (.getfield 32, 3) := by decide +kernel
theorem dX2_turnsBy_12 : decode cX2_turnsBy 12 = .ok (.iload 4, 2) := by decide +kernel
theorem dX2_turnsBy_14 : decode cX2_turnsBy 14 = .ok (.invokevirtual 86, 3) := by decide +kernel
theorem dX2_turnsBy_17 : decode cX2_turnsBy 17 = .ok (.istore 5, 2) := by decide +kernel
theorem dX2_turnsBy_19 : decode cX2_turnsBy 19 = .ok (.iload 5, 2) := by decide +kernel
theorem dX2_turnsBy_21 : decode cX2_turnsBy 21 = .ok (.ifCond .eq 9, 3) := by decide +kernel
theorem dX2_turnsBy_24 : decode cX2_turnsBy 24 = .ok (.iload 5, 2) := by decide +kernel
theorem dX2_turnsBy_26 : decode cX2_turnsBy 26 = .ok (.iload_n 3, 1) := by decide +kernel
theorem dX2_turnsBy_27 : decode cX2_turnsBy 27 = .ok (.if_icmp .le 7, 3) := by decide +kernel
theorem dX2_turnsBy_30 : decode cX2_turnsBy 30 = .ok (.sipush 1000, 3) := by decide +kernel
theorem dX2_turnsBy_33 : decode cX2_turnsBy 33 = .ok (.ireturn, 1) := by decide +kernel
theorem dX2_turnsBy_34 : decode cX2_turnsBy 34 = .ok (.iload_n 2, 1) := by decide +kernel
theorem dX2_turnsBy_35 : decode cX2_turnsBy 35 = .ok (.invokestatic 126, 3) := by decide +kernel
theorem dX2_turnsBy_38 : decode cX2_turnsBy 38 = .ok (.aload_n 0, 1) := by decide +kernel
theorem dX2_turnsBy_39 : decode cX2_turnsBy 39 = .ok (.aload_n 0, 1) := by decide +kernel
theorem dX2_turnsBy_40 : decode cX2_turnsBy 40 = .ok (.getfield 29, 3) := by decide +kernel
theorem dX2_turnsBy_43 : decode cX2_turnsBy 43 = .ok (.iload 4, 2) := by decide +kernel
theorem dX2_turnsBy_45 : decode cX2_turnsBy 45 = .ok (.invokevirtual 86, 3) := by decide +kernel
theorem dX2_turnsBy_48 : decode cX2_turnsBy 48 = .ok (.iload_n 3, 1) := by decide +kernel
theorem dX2_turnsBy_49 : decode cX2_turnsBy 49 = .ok (.iload 5, 2) := by decide +kernel
theorem dX2_turnsBy_51 : decode cX2_turnsBy 51 = .ok (.isub, 1) := by decide +kernel
theorem dX2_turnsBy_52 : decode cX2_turnsBy 52 = .ok (.invokevirtual 62, 3) := by decide +kernel
theorem dX2_turnsBy_55 : decode cX2_turnsBy 55 = .ok (.iadd, 1) := by decide +kernel
theorem dX2_turnsBy_56 : decode cX2_turnsBy 56 = .ok (.ireturn, 1) := by decide +kernel
set_option maxRecDepth 20000 in
theorem ggX2_fewestFrom_X3_get : GoodIn wsX2_fewestFrom wsX3_get := goodIn_r _ [6, 7, 20] (by decide +kernel) (by decide +kernel)
set_option maxRecDepth 20000 in
theorem gX2_fewestFrom_X3_get : GoodIn wsX2_fewestFrom (wsV RX2 86 RX3 yX3_get wsX3_get) := goodIn_app (goodIn_of _ (by decide +kernel)) ggX2_fewestFrom_X3_get
theorem dX2_fewestFrom_0 : decode cX2_fewestFrom 0 = .ok (.aload_n 0, 1) := by decide +kernel
theorem dX2_fewestFrom_1 : decode cX2_fewestFrom 1 = .ok (.getfield 35, 3) := by decide +kernel
theorem dX2_fewestFrom_4 : decode cX2_fewestFrom 4 = .ok (.iload_n 2, 1) := by decide +kernel
theorem dX2_fewestFrom_5 : decode cX2_fewestFrom 5 = .ok (.sipush 469, 3) := by decide +kernel
theorem dX2_fewestFrom_8 : decode cX2_fewestFrom 8 = .ok (.imul, 1) := by decide +kernel
theorem dX2_fewestFrom_9 : decode cX2_fewestFrom 9 = .ok (.iload_n 1, 1) := by decide +kernel
theorem dX2_fewestFrom_10 : decode cX2_fewestFrom 10 = .ok (.iadd, 1) := by decide +kernel
theorem dX2_fewestFrom_11 : decode cX2_fewestFrom 11 = .ok (.invokevirtual 86, 3) := by decide +kernel
theorem dX2_fewestFrom_14 : decode cX2_fewestFrom 14 = .ok (.ireturn, 1) := by decide +kernel
theorem dX2_levels_0 : decode cX2_levels 0 = .ok (.iload_n 0, 1) := by decide +kernel
theorem dX2_levels_1 : decode cX2_levels 1 = .ok (.bipush 13, 2) := by decide +kernel
theorem dX2_levels_3 : decode cX2_levels 3 = .ok (.imul, 1) := by decide +kernel
theorem dX2_levels_4 : decode cX2_levels 4 = .ok (.iload_n 1, 1) := by decide +kernel
theorem dX2_levels_5 : decode cX2_levels 5 = .ok (.iadd, 1) := by decide +kernel
theorem dX2_levels_6 : decode cX2_levels 6 = .ok (.bipush 13, 2) := by decide +kernel
theorem dX2_levels_8 : decode cX2_levels 8 = .ok (.imul, 1) := by decide +kernel
theorem dX2_levels_9 : decode cX2_levels 9 = .ok (.iload_n 2, 1) := by decide +kernel
theorem dX2_levels_10 : decode cX2_levels 10 = .ok (.iadd, 1) := by decide +kernel
theorem dX2_levels_11 : decode cX2_levels 11 = .ok (.ireturn, 1) := by decide +kernel
theorem dX2_leastAboveZero_0 : decode cX2_leastAboveZero 0 = .ok (.iload_n 0, 1) := by decide +kernel
theorem dX2_leastAboveZero_1 : decode cX2_leastAboveZero 1 = .ok (.ifCond .le 7, 3) := by decide +kernel
theorem dX2_leastAboveZero_4 : decode cX2_leastAboveZero 4 = .ok (.iload_n 1, 1) := by decide +kernel
theorem dX2_leastAboveZero_5 : decode cX2_leastAboveZero 5 = .ok (.ifCond .gt 9, 3) := by decide +kernel
theorem dX2_leastAboveZero_8 : decode cX2_leastAboveZero 8 = .ok (.iload_n 0, 1) := by decide +kernel
theorem dX2_leastAboveZero_9 : decode cX2_leastAboveZero 9 = .ok (.iload_n 1, 1) := by decide +kernel
theorem dX2_leastAboveZero_10 : decode cX2_leastAboveZero 10 = .ok (.invokestatic 108, 3) := by decide +kernel
theorem dX2_leastAboveZero_13 : decode cX2_leastAboveZero 13 = .ok (.ireturn, 1) := by decide +kernel
theorem dX2_leastAboveZero_14 : decode cX2_leastAboveZero 14 = .ok (.iload_n 0, 1) := by decide +kernel
theorem dX2_leastAboveZero_15 : decode cX2_leastAboveZero 15 = .ok (.iload_n 1, 1) := by decide +kernel
theorem dX2_leastAboveZero_16 : decode cX2_leastAboveZero 16 = .ok (.invokestatic 123, 3) := by decide +kernel
theorem dX2_leastAboveZero_19 : decode cX2_leastAboveZero 19 = .ok (.ireturn, 1) := by decide +kernel
theorem dX3_init_0 : decode cX3_init 0 = .ok (.aload_n 0, 1) := by decide +kernel
theorem dX3_init_1 : decode cX3_init 1 = .ok (.invokespecial 1, 3) := by decide +kernel
theorem dX3_init_4 : decode cX3_init 4 = .ok (.aload_n 0, 1) := by decide +kernel
theorem dX3_init_5 : decode cX3_init 5 = .ok (.iload_n 1, 1) := by decide +kernel
theorem dX3_init_6 : decode cX3_init 6 = .ok (.ifCond .ge 7, 3) := by decide +kernel
theorem dX3_init_9 : decode cX3_init 9 = .ok (.iconst 0, 1) := by decide +kernel
theorem dX3_init_10 : decode cX3_init 10 = .ok (.goto 4, 3) := by decide +kernel
theorem dX3_init_13 : decode cX3_init 13 = .ok (.iload_n 1, 1) := by decide +kernel
theorem dX3_init_14 : decode cX3_init 14 = .ok (.newarray .int, 2) := by decide +kernel
theorem dX3_init_16 : decode cX3_init 16 = .ok (.putfield 7, 3) := by decide +kernel
theorem dX3_init_19 : decode cX3_init 19 = .ok (.return_, 1) := by decide +kernel
theorem dX3_get_0 : decode cX3_get 0 = .ok (.iload_n 1, 1) := by decide +kernel
theorem dX3_get_1 : decode cX3_get 1 = .ok (.ifCond .lt 21, 3) := by decide +kernel
theorem dX3_get_4 : decode cX3_get 4 = .ok (.iload_n 1, 1) := by decide +kernel
theorem dX3_get_5 : decode cX3_get 5 = .ok (.aload_n 0, 1) := by decide +kernel
theorem dX3_get_6 : decode cX3_get 6 = .ok (.getfield 7, 3) := by decide +kernel
theorem dX3_get_9 : decode cX3_get 9 = .ok (.arraylength, 1) := by decide +kernel
theorem dX3_get_10 : decode cX3_get 10 = .ok (.if_icmp .ge 12, 3) := by decide +kernel
theorem dX3_get_13 : decode cX3_get 13 = .ok (.aload_n 0, 1) := by decide +kernel
theorem dX3_get_14 : decode cX3_get 14 = .ok (.getfield 7, 3) := by decide +kernel
theorem dX3_get_17 : decode cX3_get 17 = .ok (.iload_n 1, 1) := by decide +kernel
theorem dX3_get_18 : decode cX3_get 18 = .ok (.iaload, 1) := by decide +kernel
theorem dX3_get_19 : decode cX3_get 19 = .ok (.goto 4, 3) := by decide +kernel
theorem dX3_get_22 : decode cX3_get 22 = .ok (.iconst 0, 1) := by decide +kernel
theorem dX3_get_23 : decode cX3_get 23 = .ok (.ireturn, 1) := by decide +kernel
theorem dX3_set_0 : decode cX3_set 0 = .ok (.iload_n 1, 1) := by decide +kernel
theorem dX3_set_1 : decode cX3_set 1 = .ok (.ifCond .lt 19, 3) := by decide +kernel
theorem dX3_set_4 : decode cX3_set 4 = .ok (.iload_n 1, 1) := by decide +kernel
theorem dX3_set_5 : decode cX3_set 5 = .ok (.aload_n 0, 1) := by decide +kernel
theorem dX3_set_6 : decode cX3_set 6 = .ok (.getfield 7, 3) := by decide +kernel
theorem dX3_set_9 : decode cX3_set 9 = .ok (.arraylength, 1) := by decide +kernel
theorem dX3_set_10 : decode cX3_set 10 = .ok (.if_icmp .ge 10, 3) := by decide +kernel
theorem dX3_set_13 : decode cX3_set 13 = .ok (.aload_n 0, 1) := by decide +kernel
theorem dX3_set_14 : decode cX3_set 14 = .ok (.getfield 7, 3) := by decide +kernel
theorem dX3_set_17 : decode cX3_set 17 = .ok (.iload_n 1, 1) := by decide +kernel
theorem dX3_set_18 : decode cX3_set 18 = .ok (.iload_n 2, 1) := by decide +kernel
theorem dX3_set_19 : decode cX3_set 19 = .ok (.iastore, 1) := by decide +kernel
theorem dX3_set_20 : decode cX3_set 20 = .ok (.return_, 1) := by decide +kernel
theorem dX3_wipe_0 : decode cX3_wipe 0 = .ok (.iconst 0, 1) := by decide +kernel
theorem dX3_wipe_1 : decode cX3_wipe 1 = .ok (.istore_n 1, 1) := by decide +kernel
theorem dX3_wipe_2 : decode cX3_wipe 2 = .ok (.iload_n 1, 1) := by decide +kernel
theorem dX3_wipe_3 : decode cX3_wipe 3 = .ok (.aload_n 0, 1) := by decide +kernel
theorem dX3_wipe_4 : decode cX3_wipe 4 = .ok (.getfield 7, 3) := by decide +kernel
theorem dX3_wipe_7 : decode cX3_wipe 7 = .ok (.arraylength, 1) := by decide +kernel
theorem dX3_wipe_8 : decode cX3_wipe 8 = .ok (.if_icmp .ge 16, 3) := by decide +kernel
theorem dX3_wipe_11 : decode cX3_wipe 11 = .ok (.aload_n 0, 1) := by decide +kernel
theorem dX3_wipe_12 : decode cX3_wipe 12 = .ok (.getfield 7, 3) := by decide +kernel
theorem dX3_wipe_15 : decode cX3_wipe 15 = .ok (.iload_n 1, 1) := by decide +kernel
theorem dX3_wipe_16 : decode cX3_wipe 16 = .ok (.iconst 0, 1) := by decide +kernel
theorem dX3_wipe_17 : decode cX3_wipe 17 = .ok (.iastore, 1) := by decide +kernel
theorem dX3_wipe_18 : decode cX3_wipe 18 = .ok (.iinc 1 1, 3) := by decide +kernel
theorem dX3_wipe_21 : decode cX3_wipe 21 = .ok (.goto (-19), 3) := by decide +kernel
theorem dX3_wipe_24 : decode cX3_wipe 24 = .ok (.return_, 1) := by decide +kernel
set_option maxRecDepth 20000 in
theorem ggX4_init_X3_init : GoodIn wsX4_init wsX3_init := goodIn_r _ [10, 11, 2, 3, 12, 13, 14] (by decide +kernel) (by decide +kernel)
set_option maxRecDepth 20000 in
theorem gX4_init_X3_init : GoodIn wsX4_init (wsX3_init) := ggX4_init_X3_init
theorem dX4_init_0 : decode cX4_init 0 = .ok (.aload_n 0, 1) := by decide +kernel
theorem dX4_init_1 : decode cX4_init 1 = .ok (.invokespecial 3, 3) := by decide +kernel
theorem dX4_init_4 : decode cX4_init 4 = .ok (.aload_n 0, 1) := by decide +kernel
theorem dX4_init_5 : decode cX4_init 5 = .ok (.new 9, 3) := by decide +kernel
theorem dX4_init_8 : decode cX4_init 8 = .ok (.dup, 1) := by decide +kernel
theorem dX4_init_9 : decode cX4_init 9 = .ok (.bipush 10, 2) := by decide +kernel
theorem dX4_init_11 : decode cX4_init 11 = .ok (.invokespecial 11, 3) := by decide +kernel
theorem dX4_init_14 : decode cX4_init 14 = .ok (.putfield 14, 3) := by decide +kernel
theorem dX4_init_17 : decode cX4_init 17 = .ok (.return_, 1) := by decide +kernel
theorem dX5_init_0 : decode cX5_init 0 = .ok (.aload_n 0, 1) := by decide +kernel
theorem dX5_init_1 : decode cX5_init 1 = .ok (.invokespecial 3, 3) := by decide +kernel
theorem dX5_init_4 : decode cX5_init 4 = .ok (.aload_n 0, 1) := by decide +kernel
theorem dX5_init_5 : decode cX5_init 5 = .ok (.iconst (-1), 1) := by decide +kernel
theorem dX5_init_6 : decode cX5_init 6 = .ok (.putfield 9, 3) := by decide +kernel
theorem dX5_init_9 : decode cX5_init 9 = .ok (.return_, 1) := by decide +kernel
set_option maxRecDepth 20000 in
theorem ggX6_init_Jx4a65c_init_da8c8 : GoodIn wsX6_init wsJx4a65c_init_da8c8 := goodIn_r _ [20, 21, 22, 23, 24, 25, 26, 27, 28, 29, 30, 31, 32, 2, 3, 134, 135, 136] (by decide +kernel) (by decide +kernel)
set_option maxRecDepth 20000 in
theorem gX6_init_Jx4a65c_init_da8c8 : GoodIn wsX6_init (wsJx4a65c_init_da8c8) := ggX6_init_Jx4a65c_init_da8c8
set_option maxRecDepth 20000 in
theorem ggX6_init_X2_init : GoodIn wsX6_init wsX2_init := goodIn_r _ [35, 36, 2, 3, 37, 38, 39, 40, 41, 42, 43, 44, 45, 46, 47, 48, 49, 50, 51, 52, 53, 54, 159, 144, 145, 146, 147, 148, 149, 150, 151, 152, 153, 154, 155] (by decide +kernel) (by decide +kernel)
set_option maxRecDepth 20000 in
theorem gX6_init_X2_init : GoodIn wsX6_init (wsX2_init) := ggX6_init_X2_init
set_option maxRecDepth 20000 in
theorem ggX6_init_X2_solve : GoodIn wsX6_init wsX2_solve := goodIn_r _ [58, 59, 60, 61, 11, 62, 41, 63, 43, 64, 65, 66, 39, 67, 54, 68, 69, 70, 71, 42, 72, 73, 74, 75, 76, 77, 78, 79, 80, 81, 82, 83, 45, 84, 85, 86, 87, 88, 40, 89, 90, 91, 92, 93, 94, 95, 96, 97, 98, 99, 44, 100, 101, 102, 103, 104, 105, 106, 107, 108, 109, 46, 110, 111, 112, 113, 114, 115, 116, 117, 118, 119, 120, 121, 122, 123, 124, 125, 126, 127, 128, 144, 145, 146, 147, 148, 149, 150, 151, 152, 153, 154, 155, 159] (by decide +kernel) (by decide +kernel)
set_option maxRecDepth 20000 in
theorem gX6_init_X2_solve : GoodIn wsX6_init (wsV RX6 26 RX2 yX2_solve wsX2_solve) := goodIn_app (goodIn_of _ (by decide +kernel)) ggX6_init_X2_solve
set_option maxRecDepth 20000 in
theorem ggX6_init_X5_init : GoodIn wsX6_init wsX5_init := goodIn_r _ [131, 132, 2, 3, 133, 156, 157, 158] (by decide +kernel) (by decide +kernel)
set_option maxRecDepth 20000 in
theorem gX6_init_X5_init : GoodIn wsX6_init (wsX5_init) := ggX6_init_X5_init
theorem dX6_init_0 : decode cX6_init 0 = .ok (.aload_n 0, 1) := by decide +kernel
theorem dX6_init_1 : decode cX6_init 1 = .ok (.invokespecial 3, 3) := by decide +kernel
theorem dX6_init_4 : decode cX6_init 4 = .ok (.aload_n 0, 1) := by decide +kernel
theorem dX6_init_5 : decode cX6_init 5 = .ok (.new 9, 3) := by decide +kernel
theorem dX6_init_8 : decode cX6_init 8 = .ok (.dup, 1) := by decide +kernel
theorem dX6_init_9 : decode cX6_init 9 = .ok (.invokespecial 11, 3) := by decide +kernel
theorem dX6_init_12 : decode cX6_init 12 = .ok (.putfield 12, 3) := by decide +kernel
theorem dX6_init_15 : decode cX6_init 15 = .ok (.aload_n 0, 1) := by decide +kernel
theorem dX6_init_16 : decode cX6_init 16 = .ok (.new 9, 3) := by decide +kernel
theorem dX6_init_19 : decode cX6_init 19 = .ok (.dup, 1) := by decide +kernel
theorem dX6_init_20 : decode cX6_init 20 = .ok (.invokespecial 11, 3) := by decide +kernel
theorem dX6_init_23 : decode cX6_init 23 = .ok (.putfield 16, 3) := by decide +kernel
theorem dX6_init_26 : decode cX6_init 26 = .ok (.aload_n 0, 1) := by decide +kernel
theorem dX6_init_27 : decode cX6_init 27 = .ok (.new 19, 3) := by decide +kernel
theorem dX6_init_30 : decode cX6_init 30 = .ok (.dup, 1) := by decide +kernel
theorem dX6_init_31 : decode cX6_init 31 = .ok (.invokespecial 21, 3) := by decide +kernel
theorem dX6_init_34 : decode cX6_init 34 = .ok (.putfield 22, 3) := by decide +kernel
theorem dX6_init_37 : decode cX6_init 37 = .ok (.aload_n 0, 1) := by decide +kernel
theorem dX6_init_38 : decode cX6_init 38 = .ok (.getfield 22, 3) := by decide +kernel
theorem dX6_init_41 : decode cX6_init 41 = .ok (.invokevirtual 26, 3) := by decide +kernel
theorem dX6_init_44 : decode cX6_init 44 = .ok (.aload_n 0, 1) := by decide +kernel
theorem dX6_init_45 : decode cX6_init 45 = .ok (.new 29, 3) := by decide +kernel
theorem dX6_init_48 : decode cX6_init 48 = .ok (.dup, 1) := by decide +kernel
theorem dX6_init_49 : decode cX6_init 49 = .ok (.invokespecial 31, 3) := by decide +kernel
theorem dX6_init_52 : decode cX6_init 52 = .ok (.putfield 32, 3) := by decide +kernel
theorem dX6_init_55 : decode cX6_init 55 = .ok (.aload_n 0, 1) := by decide +kernel
theorem dX6_init_56 : decode cX6_init 56 = .ok (.iconst 1, 1) := by decide +kernel
theorem dX6_init_57 : decode cX6_init 57 = .ok (.putfield 36, 3) := by decide +kernel
theorem dX6_init_60 : decode cX6_init 60 = .ok (.return_, 1) := by decide +kernel
set_option maxRecDepth 20000 in
theorem ggX6_addGlass_X6_requireRange : GoodIn wsX6_addGlass wsX6_requireRange := goodIn_ca (goodIn_r _ [9, 10, 11] (by decide +kernel) (by decide +kernel)) (goodIn_sub (fun _ h => List.mem_cons_of_mem _ (List.mem_append_left _ (List.mem_append_right _ h))) (by decide +kernel))
set_option maxRecDepth 20000 in
theorem gX6_addGlass_X6_requireRange : GoodIn wsX6_addGlass (va_wsS RX6 40 yX6_requireRange wsX6_requireRange) := goodIn_app (goodIn_of _ (by decide +kernel)) ggX6_addGlass_X6_requireRange
set_option maxRecDepth 20000 in
theorem ggX6_addGlass_Jx4a65c_size_8abf5 : GoodIn wsX6_addGlass wsJx4a65c_size_8abf5 := goodIn_r _ [16, 17, 131, 132, 133] (by decide +kernel) (by decide +kernel)
set_option maxRecDepth 20000 in
theorem gX6_addGlass_Jx4a65c_size_8abf5 : GoodIn wsX6_addGlass (wsV RX6 44 RJx4a65c yJx4a65c_size_8abf5 wsJx4a65c_size_8abf5) := goodIn_app (goodIn_of _ (by decide +kernel)) ggX6_addGlass_Jx4a65c_size_8abf5
set_option maxRecDepth 20000 in
theorem ggX6_addGlass_X6_requireRoom : GoodIn wsX6_addGlass wsX6_requireRoom := goodIn_ca (goodIn_r _ [20, 21, 22] (by decide +kernel) (by decide +kernel)) (goodIn_sub (fun _ h => List.mem_cons_of_mem _ (List.mem_append_right _ h)) (by decide +kernel))
set_option maxRecDepth 20000 in
theorem gX6_addGlass_X6_requireRoom : GoodIn wsX6_addGlass (va_wsS RX6 48 yX6_requireRoom wsX6_requireRoom) := goodIn_app (goodIn_of _ (by decide +kernel)) ggX6_addGlass_X6_requireRoom
set_option maxRecDepth 20000 in
theorem ggX6_addGlass_X1_init : GoodIn wsX6_addGlass wsX1_init := goodIn_r _ [25, 26, 27, 28, 29, 30, 31, 32, 33, 34, 35, 36, 37, 38, 39, 40, 41, 42, 43, 44, 45, 46, 47, 48, 49, 50, 51, 52, 117, 118, 119, 120, 121, 122, 123, 124, 125, 126, 127, 128, 129, 130, 134, 135, 136] (by decide +kernel) (by decide +kernel)
set_option maxRecDepth 20000 in
theorem gX6_addGlass_X1_init : GoodIn wsX6_addGlass (wsX1_init) := ggX6_addGlass_X1_init
set_option maxRecDepth 20000 in
theorem ggX6_addGlass_Jx4a65c_add_9ea2d : GoodIn wsX6_addGlass wsJx4a65c_add_9ea2d := goodIn_r _ [56, 57, 58, 59, 17, 60, 61, 62, 15, 63, 64, 65, 66, 67, 68, 69, 70, 71, 72, 73, 74, 75, 76, 77, 78, 79, 80, 81, 82, 83, 84, 85, 86, 87, 88, 89, 90, 91, 92, 93, 94, 95, 96, 97, 98, 99, 100, 101, 102, 103, 104, 105, 106, 107, 108, 109, 131, 132, 133, 137, 138, 139, 140] (by decide +kernel) (by decide +kernel)
set_option maxRecDepth 20000 in
theorem gX6_addGlass_Jx4a65c_add_9ea2d : GoodIn wsX6_addGlass (wsV RX6 57 RJx4a65c yJx4a65c_add_9ea2d wsJx4a65c_add_9ea2d) := goodIn_app (goodIn_of _ (by decide +kernel)) ggX6_addGlass_Jx4a65c_add_9ea2d
theorem dX6_addGlass_0 : decode cX6_addGlass 0 = .ok (.iload_n 1, 1) := by decide +kernel
theorem dX6_addGlass_1 : decode cX6_addGlass 1 = .ok (.iconst 1, 1) := by decide +kernel
theorem dX6_addGlass_2 : decode cX6_addGlass 2 = .ok (.sipush 9999, 3) := by decide +kernel
theorem dX6_addGlass_5 : decode cX6_addGlass 5 = .ok (.invokestatic 40, 3) := by decide +kernel
theorem dX6_addGlass_8 : decode cX6_addGlass 8 = .ok (.iload_n 2, 1) := by decide +kernel
theorem dX6_addGlass_9 : decode cX6_addGlass 9 = .ok (.iconst 1, 1) := by decide +kernel
theorem dX6_addGlass_10 : decode cX6_addGlass 10 = .ok (.bipush 50, 2) := by decide +kernel
theorem dX6_addGlass_12 : decode cX6_addGlass 12 = .ok (.invokestatic 40, 3) := by decide +kernel
theorem dX6_addGlass_15 : decode cX6_addGlass 15 = .ok (.iload_n 3, 1) := by decide +kernel
theorem dX6_addGlass_16 : decode cX6_addGlass 16 = .ok (.iconst 1, 1) := by decide +kernel
theorem dX6_addGlass_17 : decode cX6_addGlass 17 = .ok (.bipush 50, 2) := by decide +kernel
theorem dX6_addGlass_19 : decode cX6_addGlass 19 = .ok (.invokestatic 40, 3) := by decide +kernel
theorem dX6_addGlass_22 : decode cX6_addGlass 22 = .ok (.iload 4, 2) := by decide +kernel
theorem dX6_addGlass_24 : decode cX6_addGlass 24 = .ok (.iconst 0, 1) := by decide +kernel
theorem dX6_addGlass_25 : decode cX6_addGlass 25 = .ok (.bipush 99, 2) := by decide +kernel
theorem dX6_addGlass_27 : decode cX6_addGlass 27 = .ok (.invokestatic 40, 3) := by decide +kernel
theorem dX6_addGlass_30 : decode cX6_addGlass 30 = .ok (.aload_n 0, 1) := by decide +kernel
theorem dX6_addGlass_31 : decode cX6_addGlass 31 = .ok (.getfield 12, 3) := by decide +kernel
theorem dX6_addGlass_34 : decode cX6_addGlass 34 = .ok (.invokevirtual 44, 3) := by decide +kernel
theorem dX6_addGlass_37 : decode cX6_addGlass 37 = .ok (.bipush 8, 2) := by decide +kernel
theorem dX6_addGlass_39 : decode cX6_addGlass 39 = .ok (.invokestatic 48, 3) := by decide +kernel
theorem dX6_addGlass_42 : decode cX6_addGlass 42 = .ok (.aload_n 0, 1) := by decide +kernel
theorem dX6_addGlass_43 : decode cX6_addGlass 43 = .ok (.getfield 12, 3) := by decide +kernel
theorem dX6_addGlass_46 : decode cX6_addGlass 46 = .ok (.new 52, 3) := by decide +kernel
theorem dX6_addGlass_49 : decode cX6_addGlass 49 = .ok (.dup, 1) := by decide +kernel
theorem dX6_addGlass_50 : decode cX6_addGlass 50 = .ok (.iload_n 1, 1) := by decide +kernel
theorem dX6_addGlass_51 : decode cX6_addGlass 51 = .ok (.iload_n 2, 1) := by decide +kernel
theorem dX6_addGlass_52 : decode cX6_addGlass 52 = .ok (.iload_n 3, 1) := by decide +kernel
theorem dX6_addGlass_53 : decode cX6_addGlass 53 = .ok (.iload 4, 2) := by decide +kernel
theorem dX6_addGlass_55 : decode cX6_addGlass 55 = .ok (.invokespecial 54, 3) := by decide +kernel
theorem dX6_addGlass_58 : decode cX6_addGlass 58 = .ok (.invokevirtual 57, 3) := by decide +kernel
theorem dX6_addGlass_61 : decode cX6_addGlass 61 = .ok (.pop, 1) := by decide +kernel
theorem dX6_addGlass_62 : decode cX6_addGlass 62 = .ok (.aload_n 0, 1) := by decide +kernel
theorem dX6_addGlass_63 : decode cX6_addGlass 63 = .ok (.dup, 1) := by decide +kernel
theorem dX6_addGlass_64 : decode cX6_addGlass 64 = .ok (.getfield 61, 3) := by decide +kernel
theorem dX6_addGlass_67 : decode cX6_addGlass 67 = .ok (.iload_n 1, 1) := by decide +kernel
theorem dX6_addGlass_68 : decode cX6_addGlass 68 = .ok (.iadd, 1) := by decide +kernel
theorem dX6_addGlass_69 : decode cX6_addGlass 69 = .ok (.putfield 61, 3) := by decide +kernel
theorem dX6_addGlass_72 : decode cX6_addGlass 72 = .ok (.aload_n 0, 1) := by decide +kernel
theorem dX6_addGlass_73 : decode cX6_addGlass 73 = .ok (.getfield 12, 3) := by decide +kernel
theorem dX6_addGlass_76 : decode cX6_addGlass 76 = .ok (.invokevirtual 44, 3) := by decide +kernel
theorem dX6_addGlass_79 : decode cX6_addGlass 79 = .ok (.iconst 1, 1) := by decide +kernel
theorem dX6_addGlass_80 : decode cX6_addGlass 80 = .ok (.isub, 1) := by decide +kernel
theorem dX6_addGlass_81 : decode cX6_addGlass 81 = .ok (.ireturn, 1) := by decide +kernel
set_option maxRecDepth 20000 in
theorem ggX6_above_X6_theGlass : GoodIn wsX6_above wsX6_theGlass := goodIn_ca (goodIn_r _ [5, 6, 7, 8, 9, 10, 4, 11, 12, 13, 14, 15, 16, 17, 18, 19, 20, 21, 22, 23, 24, 25, 26, 27, 28, 29, 30, 31, 32, 33, 34, 35, 36, 37, 38, 39, 40, 55, 56, 57, 58, 59, 60, 61, 62, 63, 64] (by decide +kernel) (by decide +kernel)) (goodIn_sub (fun _ h => List.mem_cons_of_mem _ (List.mem_append_right _ h)) (by decide +kernel))
set_option maxRecDepth 20000 in
theorem gX6_above_X6_theGlass : GoodIn wsX6_above (wsV RX6 64 RX6 yX6_theGlass wsX6_theGlass) := goodIn_app (goodIn_of _ (by decide +kernel)) ggX6_above_X6_theGlass
theorem dX6_above_0 : decode cX6_above 0 = .ok (.aload_n 0, 1) := by decide +kernel
theorem dX6_above_1 : decode cX6_above 1 = .ok (.iload_n 1, 1) := by decide +kernel
theorem dX6_above_2 : decode cX6_above 2 = .ok (.invokevirtual 64, 3) := by decide +kernel
theorem dX6_above_5 : decode cX6_above 5 = .ok (.getfield 68, 3) := by decide +kernel
theorem dX6_above_8 : decode cX6_above 8 = .ok (.ireturn, 1) := by decide +kernel
set_option maxRecDepth 20000 in
theorem ggX6_below_X6_theGlass : GoodIn wsX6_below wsX6_theGlass := goodIn_ca (goodIn_r _ [5, 6, 7, 8, 9, 10, 4, 11, 12, 13, 14, 15, 16, 17, 18, 19, 20, 21, 22, 23, 24, 25, 26, 27, 28, 29, 30, 31, 32, 33, 34, 35, 36, 37, 38, 39, 40, 55, 56, 57, 58, 59, 60, 61, 62, 63, 64] (by decide +kernel) (by decide +kernel)) (goodIn_sub (fun _ h => List.mem_cons_of_mem _ (List.mem_append_right _ h)) (by decide +kernel))
set_option maxRecDepth 20000 in
theorem gX6_below_X6_theGlass : GoodIn wsX6_below (wsV RX6 64 RX6 yX6_theGlass wsX6_theGlass) := goodIn_app (goodIn_of _ (by decide +kernel)) ggX6_below_X6_theGlass
theorem dX6_below_0 : decode cX6_below 0 = .ok (.aload_n 0, 1) := by decide +kernel
theorem dX6_below_1 : decode cX6_below 1 = .ok (.iload_n 1, 1) := by decide +kernel
theorem dX6_below_2 : decode cX6_below 2 = .ok (.invokevirtual 64, 3) := by decide +kernel
theorem dX6_below_5 : decode cX6_below 5 = .ok (.getfield 71, 3) := by decide +kernel
theorem dX6_below_8 : decode cX6_below 8 = .ok (.ireturn, 1) := by decide +kernel
set_option maxRecDepth 20000 in
theorem ggX6_state_X6_theGlass : GoodIn wsX6_state wsX6_theGlass := goodIn_ca (goodIn_r _ [5, 6, 7, 8, 9, 10, 4, 11, 12, 13, 14, 15, 16, 17, 18, 19, 20, 21, 22, 23, 24, 25, 26, 27, 28, 29, 30, 31, 32, 33, 34, 35, 36, 37, 38, 39, 40, 53, 54, 55, 56, 57, 58, 59, 60, 61, 62] (by decide +kernel) (by decide +kernel)) (goodIn_sub (fun _ h => List.mem_cons_of_mem _ (List.mem_append_right _ h)) (by decide +kernel))
set_option maxRecDepth 20000 in
theorem gX6_state_X6_theGlass : GoodIn wsX6_state (wsV RX6 64 RX6 yX6_theGlass wsX6_theGlass) := goodIn_app (goodIn_of _ (by decide +kernel)) ggX6_state_X6_theGlass
set_option maxRecDepth 20000 in
theorem ggX6_state_X1_sign : GoodIn wsX6_state wsX1_sign := goodIn_r _ [45, 46, 47, 48, 49, 50, 44, 51, 52, 63, 64, 65, 66, 67, 68, 69, 70, 71, 72, 73, 74, 75, 76] (by decide +kernel) (by decide +kernel)
set_option maxRecDepth 20000 in
theorem gX6_state_X1_sign : GoodIn wsX6_state (wsV RX6 74 RX1 yX1_sign wsX1_sign) := goodIn_app (goodIn_of _ (by decide +kernel)) ggX6_state_X1_sign
theorem dX6_state_0 : decode cX6_state 0 = .ok (.aload_n 0, 1) := by decide +kernel
theorem dX6_state_1 : decode cX6_state 1 = .ok (.iload_n 1, 1) := by decide +kernel
theorem dX6_state_2 : decode cX6_state 2 = .ok (.invokevirtual 64, 3) := by decide +kernel
theorem dX6_state_5 : decode cX6_state 5 = .ok (.invokevirtual 74, 3) := by decide +kernel
theorem dX6_state_8 : decode cX6_state 8 = .ok (.ireturn, 1) := by decide +kernel
set_option maxRecDepth 20000 in
theorem ggX6_turn_X6_theGlass : GoodIn wsX6_turn wsX6_theGlass := goodIn_ca (goodIn_r _ [6, 7, 8, 9, 10, 11, 5, 12, 13, 14, 15, 16, 17, 18, 19, 20, 21, 22, 23, 24, 25, 26, 27, 28, 29, 30, 31, 32, 33, 34, 35, 36, 37, 38, 39, 40, 41, 53, 54, 55, 56, 57, 58, 59, 74, 75, 76] (by decide +kernel) (by decide +kernel)) (goodIn_sub (fun _ h => List.mem_cons_of_mem _ (List.mem_append_right _ h)) (by decide +kernel))
set_option maxRecDepth 20000 in
theorem gX6_turn_X6_theGlass : GoodIn wsX6_turn (wsV RX6 64 RX6 yX6_theGlass wsX6_theGlass) := goodIn_app (goodIn_of _ (by decide +kernel)) ggX6_turn_X6_theGlass
set_option maxRecDepth 20000 in
theorem ggX6_turn_X1_flip : GoodIn wsX6_turn wsX1_flip := goodIn_r _ [46, 47, 48, 49, 50, 51, 52, 60, 61, 62, 63, 64, 65, 66, 67, 68, 69, 70, 71, 72, 73] (by decide +kernel) (by decide +kernel)
set_option maxRecDepth 20000 in
theorem gX6_turn_X1_flip : GoodIn wsX6_turn (wsV RX6 81 RX1 yX1_flip wsX1_flip) := goodIn_app (goodIn_of _ (by decide +kernel)) ggX6_turn_X1_flip
theorem dX6_turn_0 : decode cX6_turn 0 = .ok (.aload_n 0, 1) := by decide +kernel
theorem dX6_turn_1 : decode cX6_turn 1 = .ok (.iload_n 1, 1) := by decide +kernel
theorem dX6_turn_2 : decode cX6_turn 2 = .ok (.invokevirtual 64, 3) := by decide +kernel
theorem dX6_turn_5 : decode cX6_turn 5 = .ok (.astore_n 2, 1) := by decide +kernel
theorem dX6_turn_6 : decode cX6_turn 6 = .ok (.aload_n 2, 1) := by decide +kernel
theorem dX6_turn_7 : decode cX6_turn 7 = .ok (.aload_n 0, 1) := by decide +kernel
theorem dX6_turn_8 : decode cX6_turn 8 = .ok (.getfield 78, 3) := by decide +kernel
theorem dX6_turn_11 : decode cX6_turn 11 = .ok (.invokevirtual 81, 3) := by decide +kernel
theorem dX6_turn_14 : decode cX6_turn 14 = .ok (.aload_n 2, 1) := by decide +kernel
theorem dX6_turn_15 : decode cX6_turn 15 = .ok (.getfield 68, 3) := by decide +kernel
theorem dX6_turn_18 : decode cX6_turn 18 = .ok (.ireturn, 1) := by decide +kernel
set_option maxRecDepth 20000 in
theorem ggX6_timesTurned_X6_theGlass : GoodIn wsX6_timesTurned wsX6_theGlass := goodIn_ca (goodIn_r _ [5, 6, 7, 8, 9, 10, 4, 11, 12, 13, 14, 15, 16, 17, 18, 19, 20, 21, 22, 23, 24, 25, 26, 27, 28, 29, 30, 31, 32, 33, 34, 35, 36, 37, 38, 39, 40, 55, 56, 57, 58, 59, 60, 61, 62, 63, 64] (by decide +kernel) (by decide +kernel)) (goodIn_sub (fun _ h => List.mem_cons_of_mem _ (List.mem_append_right _ h)) (by decide +kernel))
set_option maxRecDepth 20000 in
theorem gX6_timesTurned_X6_theGlass : GoodIn wsX6_timesTurned (wsV RX6 64 RX6 yX6_theGlass wsX6_theGlass) := goodIn_app (goodIn_of _ (by decide +kernel)) ggX6_timesTurned_X6_theGlass
theorem dX6_timesTurned_0 : decode cX6_timesTurned 0 = .ok (.aload_n 0, 1) := by decide +kernel
theorem dX6_timesTurned_1 : decode cX6_timesTurned 1 = .ok (.iload_n 1, 1) := by decide +kernel
theorem dX6_timesTurned_2 : decode cX6_timesTurned 2 = .ok (.invokevirtual 64, 3) := by decide +kernel
theorem dX6_timesTurned_5 : decode cX6_timesTurned 5 = .ok (.getfield 85, 3) := by decide +kernel
theorem dX6_timesTurned_8 : decode cX6_timesTurned 8 = .ok (.ireturn, 1) := by decide +kernel
set_option maxRecDepth 20000 in
theorem ggX6_stand_X6_theGlass : GoodIn wsX6_stand wsX6_theGlass := goodIn_ca (goodIn_r _ [7, 8, 9, 10, 11, 12, 6, 13, 14, 15, 16, 17, 18, 19, 20, 21, 22, 23, 24, 25, 26, 27, 28, 29, 30, 31, 32, 33, 34, 35, 36, 37, 38, 39, 40, 41, 42, 57, 58, 59, 60, 61, 62, 63, 64, 65, 66] (by decide +kernel) (by decide +kernel)) (goodIn_sub (fun _ h => List.mem_cons_of_mem _ (List.mem_append_right _ h)) (by decide +kernel))
set_option maxRecDepth 20000 in
theorem gX6_stand_X6_theGlass : GoodIn wsX6_stand (wsV RX6 64 RX6 yX6_theGlass wsX6_theGlass) := goodIn_app (goodIn_of _ (by decide +kernel)) ggX6_stand_X6_theGlass
theorem dX6_stand_0 : decode cX6_stand 0 = .ok (.aload_n 0, 1) := by decide +kernel
theorem dX6_stand_1 : decode cX6_stand 1 = .ok (.iload_n 1, 1) := by decide +kernel
theorem dX6_stand_2 : decode cX6_stand 2 = .ok (.invokevirtual 64, 3) := by decide +kernel
theorem dX6_stand_5 : decode cX6_stand 5 = .ok (.astore_n 3, 1) := by decide +kernel
theorem dX6_stand_6 : decode cX6_stand 6 = .ok (.iload_n 2, 1) := by decide +kernel
theorem dX6_stand_7 : decode cX6_stand 7 = .ok (.bipush 117, 2) := by decide +kernel
theorem dX6_stand_9 : decode cX6_stand 9 = .ok (.if_icmp .eq 25, 3) := by decide +kernel
theorem dX6_stand_12 : decode cX6_stand 12 = .ok (.iload_n 2, 1) := by decide +kernel
theorem dX6_stand_13 : decode cX6_stand 13 = .ok (.bipush 116, 2) := by decide +kernel
theorem dX6_stand_15 : decode cX6_stand 15 = .ok (.if_icmp .eq 19, 3) := by decide +kernel
theorem dX6_stand_18 : decode cX6_stand 18 = .ok (.iload_n 2, 1) := by decide +kernel
theorem dX6_stand_19 : decode cX6_stand 19 = .ok (.bipush 108, 2) := by decide +kernel
theorem dX6_stand_21 : decode cX6_stand 21 = .ok (.if_icmp .eq 13, 3) := by decide +kernel
theorem dX6_stand_24 : decode cX6_stand 24 = .ok (.new 88, 3) := by decide +kernel
theorem dX6_stand_27 : decode cX6_stand 27 = .ok (.dup, 1) := by decide +kernel
theorem dX6_stand_28 : decode cX6_stand 28 = .ok (.ldc 90, 2) := by decide +kernel
theorem dX6_stand_30 : decode cX6_stand 30 = .ok (.invokespecial 92, 3) := by decide +kernel
theorem dX6_stand_33 : decode cX6_stand 33 = .ok (.athrow, 1) := by decide +kernel
theorem dX6_stand_34 : decode cX6_stand 34 = .ok (.aload_n 3, 1) := by decide +kernel
theorem dX6_stand_35 : decode cX6_stand 35 = .ok (.getfield 95, 3) := by decide +kernel
theorem dX6_stand_38 : decode cX6_stand 38 = .ok (.istore 4, 2) := by decide +kernel
theorem dX6_stand_40 : decode cX6_stand 40 = .ok (.aload_n 3, 1) := by decide +kernel
theorem dX6_stand_41 : decode cX6_stand 41 = .ok (.iload_n 2, 1) := by decide +kernel
theorem dX6_stand_42 : decode cX6_stand 42 = .ok (.putfield 95, 3) := by decide +kernel
theorem dX6_stand_45 : decode cX6_stand 45 = .ok (.iload 4, 2) := by decide +kernel
theorem dX6_stand_47 : decode cX6_stand 47 = .ok (.ireturn, 1) := by decide +kernel
set_option maxRecDepth 20000 in
theorem ggX6_setJam_X6_theGlass : GoodIn wsX6_setJam wsX6_theGlass := goodIn_ca (goodIn_r _ [5, 6, 7, 8, 9, 10, 4, 11, 12, 13, 14, 15, 16, 17, 18, 19, 20, 21, 22, 23, 24, 25, 26, 27, 28, 29, 30, 31, 32, 33, 34, 35, 36, 37, 38, 39, 40, 60, 61, 62, 63, 64, 65, 66, 67, 68, 69] (by decide +kernel) (by decide +kernel)) (goodIn_sub (fun _ h => List.mem_cons_of_mem _ (List.mem_append_left _ (List.mem_append_right _ h))) (by decide +kernel))
set_option maxRecDepth 20000 in
theorem gX6_setJam_X6_theGlass : GoodIn wsX6_setJam (wsV RX6 64 RX6 yX6_theGlass wsX6_theGlass) := goodIn_app (goodIn_of _ (by decide +kernel)) ggX6_setJam_X6_theGlass
set_option maxRecDepth 20000 in
theorem ggX6_setJam_X6_requireRange : GoodIn wsX6_setJam wsX6_requireRange := goodIn_ca (goodIn_r _ [43, 44, 45] (by decide +kernel) (by decide +kernel)) (goodIn_sub (fun _ h => List.mem_cons_of_mem _ (List.mem_append_right _ h)) (by decide +kernel))
set_option maxRecDepth 20000 in
theorem gX6_setJam_X6_requireRange : GoodIn wsX6_setJam (va_wsS RX6 40 yX6_requireRange wsX6_requireRange) := goodIn_app (goodIn_of _ (by decide +kernel)) ggX6_setJam_X6_requireRange
theorem dX6_setJam_0 : decode cX6_setJam 0 = .ok (.aload_n 0, 1) := by decide +kernel
theorem dX6_setJam_1 : decode cX6_setJam 1 = .ok (.iload_n 1, 1) := by decide +kernel
theorem dX6_setJam_2 : decode cX6_setJam 2 = .ok (.invokevirtual 64, 3) := by decide +kernel
theorem dX6_setJam_5 : decode cX6_setJam 5 = .ok (.astore_n 3, 1) := by decide +kernel
theorem dX6_setJam_6 : decode cX6_setJam 6 = .ok (.iload_n 2, 1) := by decide +kernel
theorem dX6_setJam_7 : decode cX6_setJam 7 = .ok (.iconst 0, 1) := by decide +kernel
theorem dX6_setJam_8 : decode cX6_setJam 8 = .ok (.sipush 999, 3) := by decide +kernel
theorem dX6_setJam_11 : decode cX6_setJam 11 = .ok (.invokestatic 40, 3) := by decide +kernel
theorem dX6_setJam_14 : decode cX6_setJam 14 = .ok (.aload_n 3, 1) := by decide +kernel
theorem dX6_setJam_15 : decode cX6_setJam 15 = .ok (.getfield 99, 3) := by decide +kernel
theorem dX6_setJam_18 : decode cX6_setJam 18 = .ok (.istore 4, 2) := by decide +kernel
theorem dX6_setJam_20 : decode cX6_setJam 20 = .ok (.aload_n 3, 1) := by decide +kernel
theorem dX6_setJam_21 : decode cX6_setJam 21 = .ok (.iload_n 2, 1) := by decide +kernel
theorem dX6_setJam_22 : decode cX6_setJam 22 = .ok (.putfield 99, 3) := by decide +kernel
theorem dX6_setJam_25 : decode cX6_setJam 25 = .ok (.iload 4, 2) := by decide +kernel
theorem dX6_setJam_27 : decode cX6_setJam 27 = .ok (.ireturn, 1) := by decide +kernel
set_option maxRecDepth 20000 in
theorem ggX6_tap_X6_theGlass : GoodIn wsX6_tap wsX6_theGlass := goodIn_ca (goodIn_r _ [5, 6, 7, 8, 9, 10, 4, 11, 12, 13, 14, 15, 16, 17, 18, 19, 20, 21, 22, 23, 24, 25, 26, 27, 28, 29, 30, 31, 32, 33, 34, 35, 36, 37, 38, 39, 40, 55, 56, 57, 58, 59, 60, 61, 62, 63, 64] (by decide +kernel) (by decide +kernel)) (goodIn_sub (fun _ h => List.mem_cons_of_mem _ (List.mem_append_right _ h)) (by decide +kernel))
set_option maxRecDepth 20000 in
theorem gX6_tap_X6_theGlass : GoodIn wsX6_tap (wsV RX6 64 RX6 yX6_theGlass wsX6_theGlass) := goodIn_app (goodIn_of _ (by decide +kernel)) ggX6_tap_X6_theGlass
theorem dX6_tap_0 : decode cX6_tap 0 = .ok (.aload_n 0, 1) := by decide +kernel
theorem dX6_tap_1 : decode cX6_tap 1 = .ok (.iload_n 1, 1) := by decide +kernel
theorem dX6_tap_2 : decode cX6_tap 2 = .ok (.invokevirtual 64, 3) := by decide +kernel
theorem dX6_tap_5 : decode cX6_tap 5 = .ok (.astore_n 2, 1) := by decide +kernel
theorem dX6_tap_6 : decode cX6_tap 6 = .ok (.aload_n 2, 1) := by decide +kernel
theorem dX6_tap_7 : decode cX6_tap 7 = .ok (.getfield 102, 3) := by decide +kernel
theorem dX6_tap_10 : decode cX6_tap 10 = .ok (.istore_n 3, 1) := by decide +kernel
theorem dX6_tap_11 : decode cX6_tap 11 = .ok (.aload_n 2, 1) := by decide +kernel
theorem dX6_tap_12 : decode cX6_tap 12 = .ok (.iconst 0, 1) := by decide +kernel
theorem dX6_tap_13 : decode cX6_tap 13 = .ok (.putfield 102, 3) := by decide +kernel
theorem dX6_tap_16 : decode cX6_tap 16 = .ok (.iload_n 3, 1) := by decide +kernel
theorem dX6_tap_17 : decode cX6_tap 17 = .ok (.ireturn, 1) := by decide +kernel
set_option maxRecDepth 20000 in
theorem ggX6_pour_X6_theGlass : GoodIn wsX6_pour wsX6_theGlass := goodIn_ca (goodIn_r _ [8, 9, 10, 11, 12, 13, 7, 14, 15, 16, 17, 18, 19, 20, 21, 22, 23, 24, 25, 26, 27, 28, 29, 30, 31, 32, 33, 34, 35, 36, 37, 38, 39, 40, 41, 42, 43, 70, 71, 72, 73, 74, 75, 76, 77, 78, 79] (by decide +kernel) (by decide +kernel)) (goodIn_sub (fun _ h => List.mem_cons_of_mem _ (List.mem_append_left _ (List.mem_append_right _ h))) (by decide +kernel))
set_option maxRecDepth 20000 in
theorem gX6_pour_X6_theGlass : GoodIn wsX6_pour (wsV RX6 64 RX6 yX6_theGlass wsX6_theGlass) := goodIn_app (goodIn_of _ (by decide +kernel)) ggX6_pour_X6_theGlass
set_option maxRecDepth 20000 in
theorem ggX6_pour_X6_requireRange : GoodIn wsX6_pour wsX6_requireRange := goodIn_ca (goodIn_r _ [46, 47, 48] (by decide +kernel) (by decide +kernel)) (goodIn_sub (fun _ h => List.mem_cons_of_mem _ (List.mem_append_right _ h)) (by decide +kernel))
set_option maxRecDepth 20000 in
theorem gX6_pour_X6_requireRange : GoodIn wsX6_pour (va_wsS RX6 40 yX6_requireRange wsX6_requireRange) := goodIn_app (goodIn_of _ (by decide +kernel)) ggX6_pour_X6_requireRange
set_option maxRecDepth 20000 in
theorem ggX6_pour_X1_held : GoodIn wsX6_pour wsX1_held := goodIn_r _ [53, 54, 55, 56, 57, 58, 59, 60, 61, 62, 63, 64, 65, 66, 67, 68, 69] (by decide +kernel) (by decide +kernel)
set_option maxRecDepth 20000 in
theorem gX6_pour_X1_held : GoodIn wsX6_pour (wsV RX6 106 RX1 yX1_held wsX1_held) := goodIn_app (goodIn_of _ (by decide +kernel)) ggX6_pour_X1_held
theorem dX6_pour_0 : decode cX6_pour 0 = .ok (.aload_n 0, 1) := by decide +kernel
theorem dX6_pour_1 : decode cX6_pour 1 = .ok (.iload_n 1, 1) := by decide +kernel
theorem dX6_pour_2 : decode cX6_pour 2 = .ok (.invokevirtual 64, 3) := by decide +kernel
theorem dX6_pour_5 : decode cX6_pour 5 = .ok (.astore_n 3, 1) := by decide +kernel
theorem dX6_pour_6 : decode cX6_pour 6 = .ok (.iload_n 2, 1) := by decide +kernel
theorem dX6_pour_7 : decode cX6_pour 7 = .ok (.iconst 1, 1) := by decide +kernel
theorem dX6_pour_8 : decode cX6_pour 8 = .ok (.sipush 999, 3) := by decide +kernel
theorem dX6_pour_11 : decode cX6_pour 11 = .ok (.invokestatic 40, 3) := by decide +kernel
theorem dX6_pour_14 : decode cX6_pour 14 = .ok (.aload_n 3, 1) := by decide +kernel
theorem dX6_pour_15 : decode cX6_pour 15 = .ok (.invokevirtual 106, 3) := by decide +kernel
theorem dX6_pour_18 : decode cX6_pour 18 = .ok (.iload_n 2, 1) := by decide +kernel
theorem dX6_pour_19 : decode cX6_pour 19 = .ok (.iadd, 1) := by decide +kernel
theorem dX6_pour_20 : decode cX6_pour 20 = .ok (.sipush 19999, 3) := by decide +kernel
theorem dX6_pour_23 : decode cX6_pour 23 = .ok (.if_icmp .le 13, 3) := by decide +kernel
theorem dX6_pour_26 : decode cX6_pour 26 = .ok (.new 109, 3) := by decide +kernel
theorem dX6_pour_29 : decode cX6_pour 29 = .ok (.dup, 1) := by decide +kernel
theorem dX6_pour_30 : decode cX6_pour 30 = .ok (.ldc 111, 2) := by decide +kernel
theorem dX6_pour_32 : decode cX6_pour 32 = .ok (.invokespecial 113, 3) := by decide +kernel
theorem dX6_pour_35 : decode cX6_pour 35 = .ok (.athrow, 1) := by decide +kernel
theorem dX6_pour_36 : decode cX6_pour 36 = .ok (.aload_n 3, 1) := by decide +kernel
theorem dX6_pour_37 : decode cX6_pour 37 = .ok (.dup, 1) := by decide +kernel
theorem dX6_pour_38 : decode cX6_pour 38 = .ok (.getfield 68, 3) := by decide +kernel
theorem dX6_pour_41 : decode cX6_pour 41 = .ok (.iload_n 2, 1) := by decide +kernel
theorem dX6_pour_42 : decode cX6_pour 42 = .ok (.iadd, 1) := by decide +kernel
theorem dX6_pour_43 : decode cX6_pour 43 = .ok (.putfield 68, 3) := by decide +kernel
theorem dX6_pour_46 : decode cX6_pour 46 = .ok (.aload_n 0, 1) := by decide +kernel
theorem dX6_pour_47 : decode cX6_pour 47 = .ok (.dup, 1) := by decide +kernel
theorem dX6_pour_48 : decode cX6_pour 48 = .ok (.getfield 61, 3) := by decide +kernel
theorem dX6_pour_51 : decode cX6_pour 51 = .ok (.iload_n 2, 1) := by decide +kernel
theorem dX6_pour_52 : decode cX6_pour 52 = .ok (.iadd, 1) := by decide +kernel
theorem dX6_pour_53 : decode cX6_pour 53 = .ok (.putfield 61, 3) := by decide +kernel
theorem dX6_pour_56 : decode cX6_pour 56 = .ok (.aload_n 3, 1) := by decide +kernel
theorem dX6_pour_57 : decode cX6_pour 57 = .ok (.getfield 68, 3) := by decide +kernel
theorem dX6_pour_60 : decode cX6_pour 60 = .ok (.ireturn, 1) := by decide +kernel
set_option maxRecDepth 20000 in
theorem ggX6_falls_X6_theGlass : GoodIn wsX6_falls wsX6_theGlass := goodIn_ca (goodIn_r _ [5, 6, 7, 8, 9, 10, 4, 11, 12, 13, 14, 15, 16, 17, 18, 19, 20, 21, 22, 23, 24, 25, 26, 27, 28, 29, 30, 31, 32, 33, 34, 35, 36, 37, 38, 39, 40, 68, 69, 70, 71, 72, 73, 74, 75, 76, 77] (by decide +kernel) (by decide +kernel)) (goodIn_sub (fun _ h => List.mem_cons_of_mem _ (List.mem_append_right _ h)) (by decide +kernel))
set_option maxRecDepth 20000 in
theorem gX6_falls_X6_theGlass : GoodIn wsX6_falls (wsV RX6 64 RX6 yX6_theGlass wsX6_theGlass) := goodIn_app (goodIn_of _ (by decide +kernel)) ggX6_falls_X6_theGlass
set_option maxRecDepth 20000 in
theorem ggX6_falls_X1_fallNow : GoodIn wsX6_falls wsX1_fallNow := goodIn_r _ [45, 46, 47, 48, 49, 50, 51, 52, 53, 44, 54, 55, 56, 57, 58, 59, 60, 61, 62, 63, 64, 65, 66, 67, 78, 79, 80, 81, 82, 83, 84, 85, 86, 87, 88, 89, 90, 91] (by decide +kernel) (by decide +kernel)
set_option maxRecDepth 20000 in
theorem gX6_falls_X1_fallNow : GoodIn wsX6_falls (wsV RX6 114 RX1 yX1_fallNow wsX1_fallNow) := goodIn_app (goodIn_of _ (by decide +kernel)) ggX6_falls_X1_fallNow
theorem dX6_falls_0 : decode cX6_falls 0 = .ok (.aload_n 0, 1) := by decide +kernel
theorem dX6_falls_1 : decode cX6_falls 1 = .ok (.iload_n 1, 1) := by decide +kernel
theorem dX6_falls_2 : decode cX6_falls 2 = .ok (.invokevirtual 64, 3) := by decide +kernel
theorem dX6_falls_5 : decode cX6_falls 5 = .ok (.invokevirtual 114, 3) := by decide +kernel
theorem dX6_falls_8 : decode cX6_falls 8 = .ok (.ireturn, 1) := by decide +kernel
set_option maxRecDepth 20000 in
theorem ggX6_runTime_X6_theGlass : GoodIn wsX6_runTime wsX6_theGlass := goodIn_ca (goodIn_r _ [7, 8, 9, 10, 11, 12, 6, 13, 14, 15, 16, 17, 18, 19, 20, 21, 22, 23, 24, 25, 26, 27, 28, 29, 30, 31, 32, 33, 34, 35, 36, 37, 38, 39, 40, 41, 42, 69, 70, 71, 72, 73, 74, 75, 76, 77, 78] (by decide +kernel) (by decide +kernel)) (goodIn_sub (fun _ h => List.mem_cons_of_mem _ (List.mem_append_right _ h)) (by decide +kernel))
set_option maxRecDepth 20000 in
theorem gX6_runTime_X6_theGlass : GoodIn wsX6_runTime (wsV RX6 64 RX6 yX6_theGlass wsX6_theGlass) := goodIn_app (goodIn_of _ (by decide +kernel)) ggX6_runTime_X6_theGlass
set_option maxRecDepth 20000 in
theorem ggX6_runTime_X1_lies : GoodIn wsX6_runTime wsX1_lies := goodIn_r _ [47, 48, 79, 80, 81, 82, 83, 84, 85, 86, 87, 88, 89, 90, 91, 92] (by decide +kernel) (by decide +kernel)
set_option maxRecDepth 20000 in
theorem gX6_runTime_X1_lies : GoodIn wsX6_runTime (wsV RX6 117 RX1 yX1_lies wsX1_lies) := goodIn_app (goodIn_of _ (by decide +kernel)) ggX6_runTime_X1_lies
set_option maxRecDepth 20000 in
theorem ggX6_runTime_X1_secondsLeft : GoodIn wsX6_runTime wsX1_secondsLeft := goodIn_r _ [52, 53, 54, 55, 56, 57, 46, 58, 59, 60, 61, 62, 48, 63, 64, 65, 66, 67, 68, 79, 80, 81, 82, 83, 84, 85, 86, 87, 88, 89, 90, 91, 92] (by decide +kernel) (by decide +kernel)
set_option maxRecDepth 20000 in
theorem gX6_runTime_X1_secondsLeft : GoodIn wsX6_runTime (wsV RX6 126 RX1 yX1_secondsLeft wsX1_secondsLeft) := goodIn_app (goodIn_of _ (by decide +kernel)) ggX6_runTime_X1_secondsLeft
theorem dX6_runTime_0 : decode cX6_runTime 0 = .ok (.aload_n 0, 1) := by decide +kernel
theorem dX6_runTime_1 : decode cX6_runTime 1 = .ok (.iload_n 1, 1) := by decide +kernel
theorem dX6_runTime_2 : decode cX6_runTime 2 = .ok (.invokevirtual 64, 3) := by decide +kernel
theorem dX6_runTime_5 : decode cX6_runTime 5 = .ok (.astore_n 2, 1) := by decide +kernel
theorem dX6_runTime_6 : decode cX6_runTime 6 = .ok (.aload_n 2, 1) := by decide +kernel
theorem dX6_runTime_7 : decode cX6_runTime 7 = .ok (.invokevirtual 117, 3) := by decide +kernel
theorem dX6_runTime_10 : decode cX6_runTime 10 = .ok (.ifCond .eq 13, 3) := by decide +kernel
theorem dX6_runTime_13 : decode cX6_runTime 13 = .ok (.new 121, 3) := by decide +kernel
theorem dX6_runTime_16 : decode cX6_runTime 16 = .ok (.dup, 1) := by decide +kernel
theorem dX6_runTime_17 : decode cX6_runTime 17 = .ok (.ldc 123, 2) := by decide +kernel
theorem dX6_runTime_19 : decode cX6_runTime 19 = .ok (.invokespecial 125, 3) := by decide +kernel
theorem dX6_runTime_22 : decode cX6_runTime 22 = .ok (.athrow, 1) := by decide +kernel
theorem dX6_runTime_23 : decode cX6_runTime 23 = .ok (.aload_n 2, 1) := by decide +kernel
theorem dX6_runTime_24 : decode cX6_runTime 24 = .ok (.invokevirtual 126, 3) := by decide +kernel
theorem dX6_runTime_27 : decode cX6_runTime 27 = .ok (.ireturn, 1) := by decide +kernel
set_option maxRecDepth 20000 in
theorem ggX6_feed_X6_theGlass : GoodIn wsX6_feed wsX6_theGlass := goodIn_ca (goodIn_r _ [5, 6, 7, 8, 9, 10, 4, 11, 12, 13, 14, 15, 16, 17, 18, 19, 20, 21, 22, 23, 24, 25, 26, 27, 28, 29, 30, 31, 32, 33, 34, 35, 36, 37, 38, 39, 40, 60, 61, 62, 63, 64, 65, 66, 67, 68, 69] (by decide +kernel) (by decide +kernel)) (goodIn_sub (fun _ h => List.mem_cons_of_mem _ (List.mem_append_left _ (List.mem_append_right _ h))) (by decide +kernel))
set_option maxRecDepth 20000 in
theorem gX6_feed_X6_theGlass : GoodIn wsX6_feed (wsV RX6 64 RX6 yX6_theGlass wsX6_theGlass) := goodIn_app (goodIn_of _ (by decide +kernel)) ggX6_feed_X6_theGlass
set_option maxRecDepth 20000 in
theorem ggX6_feed_X6_requireGlass : GoodIn wsX6_feed wsX6_requireGlass := goodIn_ca (goodIn_r _ [11, 12, 13, 14, 15, 16, 4, 17, 6, 18, 19, 20, 21, 22, 23, 60, 61, 62, 63, 64, 65, 66, 67, 68, 69] (by decide +kernel) (by decide +kernel)) (goodIn_sub (fun _ h => List.mem_cons_of_mem _ (List.mem_append_left _ (List.mem_append_right _ h))) (by decide +kernel))
set_option maxRecDepth 20000 in
theorem gX6_feed_X6_requireGlass : GoodIn wsX6_feed (wsV RX6 129 RX6 yX6_requireGlass wsX6_requireGlass) := goodIn_app (goodIn_of _ (by decide +kernel)) ggX6_feed_X6_requireGlass
set_option maxRecDepth 20000 in
theorem ggX6_feed_X6_requireHigher : GoodIn wsX6_feed wsX6_requireHigher := goodIn_ca (goodIn_r _ [43, 44, 45] (by decide +kernel) (by decide +kernel)) (goodIn_sub (fun _ h => List.mem_cons_of_mem _ (List.mem_append_right _ h)) (by decide +kernel))
set_option maxRecDepth 20000 in
theorem gX6_feed_X6_requireHigher : GoodIn wsX6_feed (va_wsS RX6 132 yX6_requireHigher wsX6_requireHigher) := goodIn_app (goodIn_of _ (by decide +kernel)) ggX6_feed_X6_requireHigher
theorem dX6_feed_0 : decode cX6_feed 0 = .ok (.aload_n 0, 1) := by decide +kernel
theorem dX6_feed_1 : decode cX6_feed 1 = .ok (.iload_n 1, 1) := by decide +kernel
theorem dX6_feed_2 : decode cX6_feed 2 = .ok (.invokevirtual 64, 3) := by decide +kernel
theorem dX6_feed_5 : decode cX6_feed 5 = .ok (.astore_n 3, 1) := by decide +kernel
theorem dX6_feed_6 : decode cX6_feed 6 = .ok (.iload_n 2, 1) := by decide +kernel
theorem dX6_feed_7 : decode cX6_feed 7 = .ok (.iconst (-1), 1) := by decide +kernel
theorem dX6_feed_8 : decode cX6_feed 8 = .ok (.if_icmp .eq 13, 3) := by decide +kernel
theorem dX6_feed_11 : decode cX6_feed 11 = .ok (.aload_n 0, 1) := by decide +kernel
theorem dX6_feed_12 : decode cX6_feed 12 = .ok (.iload_n 2, 1) := by decide +kernel
theorem dX6_feed_13 : decode cX6_feed 13 = .ok (.invokevirtual 129, 3) := by decide +kernel
theorem dX6_feed_16 : decode cX6_feed 16 = .ok (.iload_n 2, 1) := by decide +kernel
theorem dX6_feed_17 : decode cX6_feed 17 = .ok (.iload_n 1, 1) := by decide +kernel
theorem dX6_feed_18 : decode cX6_feed 18 = .ok (.invokestatic 132, 3) := by decide +kernel
theorem dX6_feed_21 : decode cX6_feed 21 = .ok (.aload_n 3, 1) := by decide +kernel
theorem dX6_feed_22 : decode cX6_feed 22 = .ok (.getfield 135, 3) := by decide +kernel
theorem dX6_feed_25 : decode cX6_feed 25 = .ok (.istore 4, 2) := by decide +kernel
theorem dX6_feed_27 : decode cX6_feed 27 = .ok (.aload_n 3, 1) := by decide +kernel
theorem dX6_feed_28 : decode cX6_feed 28 = .ok (.iload_n 2, 1) := by decide +kernel
theorem dX6_feed_29 : decode cX6_feed 29 = .ok (.putfield 135, 3) := by decide +kernel
theorem dX6_feed_32 : decode cX6_feed 32 = .ok (.iload 4, 2) := by decide +kernel
theorem dX6_feed_34 : decode cX6_feed 34 = .ok (.ireturn, 1) := by decide +kernel
set_option maxRecDepth 20000 in
theorem ggX6_grains_Jx4a65c_size_8abf5 : GoodIn wsX6_grains wsJx4a65c_size_8abf5 := goodIn_r _ [7, 8, 40, 41, 42] (by decide +kernel) (by decide +kernel)
set_option maxRecDepth 20000 in
theorem gX6_grains_Jx4a65c_size_8abf5 : GoodIn wsX6_grains (wsV RX6 44 RJx4a65c yJx4a65c_size_8abf5 wsJx4a65c_size_8abf5) := goodIn_app (goodIn_of _ (by decide +kernel)) ggX6_grains_Jx4a65c_size_8abf5
set_option maxRecDepth 20000 in
theorem ggX6_grains_Jx4a65c_get_915e3 : GoodIn wsX6_grains wsJx4a65c_get_915e3 := goodIn_r _ [12, 8, 13, 14, 15, 16, 17, 18, 19, 20, 21, 22, 23, 6, 24, 25, 40, 41, 42] (by decide +kernel) (by decide +kernel)
set_option maxRecDepth 20000 in
theorem gX6_grains_Jx4a65c_get_915e3 : GoodIn wsX6_grains (wsV RX6 138 RJx4a65c yJx4a65c_get_915e3 wsJx4a65c_get_915e3) := goodIn_app (goodIn_of _ (by decide +kernel)) ggX6_grains_Jx4a65c_get_915e3
set_option maxRecDepth 20000 in
theorem ggX6_grains_X1_held : GoodIn wsX6_grains wsX1_held := goodIn_r _ [30, 31, 32, 43, 44, 45, 46, 47, 48, 49, 50, 51, 52, 53, 54, 55, 56] (by decide +kernel) (by decide +kernel)
set_option maxRecDepth 20000 in
theorem gX6_grains_X1_held : GoodIn wsX6_grains (wsV RX6 106 RX1 yX1_held wsX1_held) := goodIn_app (goodIn_of _ (by decide +kernel)) ggX6_grains_X1_held
theorem dX6_grains_0 : decode cX6_grains 0 = .ok (.iconst 0, 1) := by decide +kernel
theorem dX6_grains_1 : decode cX6_grains 1 = .ok (.istore_n 1, 1) := by decide +kernel
theorem dX6_grains_2 : decode cX6_grains 2 = .ok (.iconst 0, 1) := by decide +kernel
theorem dX6_grains_3 : decode cX6_grains 3 = .ok (.istore_n 2, 1) := by decide +kernel
theorem dX6_grains_4 : decode cX6_grains 4 = .ok (.iload_n 2, 1) := by decide +kernel
theorem dX6_grains_5 : decode cX6_grains 5 = .ok (.aload_n 0, 1) := by decide +kernel
theorem dX6_grains_6 : decode cX6_grains 6 = .ok (.getfield 12, 3) := by decide +kernel
theorem dX6_grains_9 : decode cX6_grains 9 = .ok (.invokevirtual 44, 3) := by decide +kernel
theorem dX6_grains_12 : decode cX6_grains 12 = .ok (.if_icmp .ge 26, 3) := by decide +kernel
theorem dX6_grains_15 : decode cX6_grains 15 = .ok (.iload_n 1, 1) := by decide +kernel
theorem dX6_grains_16 : decode cX6_grains 16 = .ok (.aload_n 0, 1) := by decide +kernel
theorem dX6_grains_17 : decode cX6_grains 17 = .ok (.getfield 12, 3) := by decide +kernel
theorem dX6_grains_20 : decode cX6_grains 20 = .ok (.iload_n 2, 1) := by decide +kernel
theorem dX6_grains_21 : decode cX6_grains 21 = .ok (.invokevirtual 138, 3) := by decide +kernel
theorem dX6_grains_24 : decode cX6_grains 24 = .ok (.checkcast 52, 3) := by decide +kernel
theorem dX6_grains_27 : decode cX6_grains 27 = .ok (.invokevirtual 106, 3) := by decide +kernel
theorem dX6_grains_30 : decode cX6_grains 30 = .ok (.iadd, 1) := by decide +kernel
theorem dX6_grains_31 : decode cX6_grains 31 = .ok (.istore_n 1, 1) := by decide +kernel
theorem dX6_grains_32 : decode cX6_grains 32 = .ok (.iinc 2 1, 3) := by decide +kernel
theorem dX6_grains_35 : decode cX6_grains 35 = .ok (.goto (-31), 3) := by decide +kernel
theorem dX6_grains_38 : decode cX6_grains 38 = .ok (.iload_n 1, 1) := by decide +kernel
theorem dX6_grains_39 : decode cX6_grains 39 = .ok (.ireturn, 1) := by decide +kernel
set_option maxRecDepth 20000 in
theorem ggX6_pass_X6_requireRange : GoodIn wsX6_pass wsX6_requireRange := goodIn_ca (goodIn_r _ [7, 8, 9] (by decide +kernel) (by decide +kernel)) (goodIn_sub (fun _ h => List.mem_cons_of_mem _ (List.mem_append_right _ h)) (by decide +kernel))
set_option maxRecDepth 20000 in
theorem gX6_pass_X6_requireRange : GoodIn wsX6_pass (va_wsS RX6 40 yX6_requireRange wsX6_requireRange) := goodIn_app (goodIn_of _ (by decide +kernel)) ggX6_pass_X6_requireRange
set_option maxRecDepth 20000 in
theorem ggX6_pass_X6_letSecondGoBy : GoodIn wsX6_pass wsX6_letSecondGoBy := goodIn_r _ [13, 14, 15, 3, 16, 17, 18, 19, 20, 21, 22, 23, 24, 25, 26, 27, 28, 29, 30, 31, 32, 33, 34, 35, 36, 37, 38, 39, 40, 41, 6, 42, 43, 44, 45, 46, 47, 48, 49, 50, 51, 52, 53, 54, 55, 56, 57, 58, 59, 60, 61, 62, 63, 64, 65, 66, 67, 68, 69, 70, 71, 72, 73, 74, 75, 76, 77, 78, 79, 80, 81, 82, 83, 84, 85, 86, 87, 88, 89, 90, 91, 92, 93, 94, 95, 96, 97, 98, 99, 100, 101, 102, 103, 104, 105, 106, 107, 108, 109, 110, 111, 112, 113, 114, 115, 116, 117, 118, 119, 120, 121, 122, 123, 124, 125, 126, 127, 128, 129, 130, 131, 132, 133, 134, 135, 136, 137, 138, 139, 140, 141, 142, 143, 144, 145, 146, 147, 148, 149, 150, 151, 152, 153, 154, 155, 156, 157, 158, 159, 160, 161, 162, 163, 164, 165] (by decide +kernel) (by decide +kernel)
set_option maxRecDepth 20000 in
theorem gX6_pass_X6_letSecondGoBy : GoodIn wsX6_pass (wsV RX6 144 RX6 yX6_letSecondGoBy wsX6_letSecondGoBy) := goodIn_app (goodIn_of _ (by decide +kernel)) ggX6_pass_X6_letSecondGoBy
theorem dX6_pass_0 : decode cX6_pass 0 = .ok (.iload_n 1, 1) := by decide +kernel
theorem dX6_pass_1 : decode cX6_pass 1 = .ok (.iconst 1, 1) := by decide +kernel
theorem dX6_pass_2 : decode cX6_pass 2 = .ok (.sipush 600, 3) := by decide +kernel
theorem dX6_pass_5 : decode cX6_pass 5 = .ok (.invokestatic 40, 3) := by decide +kernel
theorem dX6_pass_8 : decode cX6_pass 8 = .ok (.aload_n 0, 1) := by decide +kernel
theorem dX6_pass_9 : decode cX6_pass 9 = .ok (.getfield 78, 3) := by decide +kernel
theorem dX6_pass_12 : decode cX6_pass 12 = .ok (.iload_n 1, 1) := by decide +kernel
theorem dX6_pass_13 : decode cX6_pass 13 = .ok (.iadd, 1) := by decide +kernel
theorem dX6_pass_14 : decode cX6_pass 14 = .ok (.sipush 19999, 3) := by decide +kernel
theorem dX6_pass_17 : decode cX6_pass 17 = .ok (.if_icmp .le 13, 3) := by decide +kernel
theorem dX6_pass_20 : decode cX6_pass 20 = .ok (.new 109, 3) := by decide +kernel
theorem dX6_pass_23 : decode cX6_pass 23 = .ok (.dup, 1) := by decide +kernel
theorem dX6_pass_24 : decode cX6_pass 24 = .ok (.ldc 142, 2) := by decide +kernel
theorem dX6_pass_26 : decode cX6_pass 26 = .ok (.invokespecial 113, 3) := by decide +kernel
theorem dX6_pass_29 : decode cX6_pass 29 = .ok (.athrow, 1) := by decide +kernel
theorem dX6_pass_30 : decode cX6_pass 30 = .ok (.iconst 0, 1) := by decide +kernel
theorem dX6_pass_31 : decode cX6_pass 31 = .ok (.istore_n 2, 1) := by decide +kernel
theorem dX6_pass_32 : decode cX6_pass 32 = .ok (.iload_n 2, 1) := by decide +kernel
theorem dX6_pass_33 : decode cX6_pass 33 = .ok (.iload_n 1, 1) := by decide +kernel
theorem dX6_pass_34 : decode cX6_pass 34 = .ok (.if_icmp .ge 13, 3) := by decide +kernel
theorem dX6_pass_37 : decode cX6_pass 37 = .ok (.aload_n 0, 1) := by decide +kernel
theorem dX6_pass_38 : decode cX6_pass 38 = .ok (.invokevirtual 144, 3) := by decide +kernel
theorem dX6_pass_41 : decode cX6_pass 41 = .ok (.iinc 2 1, 3) := by decide +kernel
theorem dX6_pass_44 : decode cX6_pass 44 = .ok (.goto (-12), 3) := by decide +kernel
theorem dX6_pass_47 : decode cX6_pass 47 = .ok (.aload_n 0, 1) := by decide +kernel
theorem dX6_pass_48 : decode cX6_pass 48 = .ok (.getfield 78, 3) := by decide +kernel
theorem dX6_pass_51 : decode cX6_pass 51 = .ok (.ireturn, 1) := by decide +kernel
theorem dX6_time_0 : decode cX6_time 0 = .ok (.aload_n 0, 1) := by decide +kernel
theorem dX6_time_1 : decode cX6_time 1 = .ok (.getfield 78, 3) := by decide +kernel
theorem dX6_time_4 : decode cX6_time 4 = .ok (.ireturn, 1) := by decide +kernel
set_option maxRecDepth 20000 in
theorem ggX6_seed_X6_requireRange : GoodIn wsX6_seed wsX6_requireRange := goodIn_ca (goodIn_r _ [6, 7, 8] (by decide +kernel) (by decide +kernel)) (goodIn_sub (fun _ h => List.mem_cons_of_mem _ (List.mem_append_right _ h)) (by decide +kernel))
set_option maxRecDepth 20000 in
theorem gX6_seed_X6_requireRange : GoodIn wsX6_seed (va_wsS RX6 40 yX6_requireRange wsX6_requireRange) := goodIn_app (goodIn_of _ (by decide +kernel)) ggX6_seed_X6_requireRange
theorem dX6_seed_0 : decode cX6_seed 0 = .ok (.iload_n 1, 1) := by decide +kernel
theorem dX6_seed_1 : decode cX6_seed 1 = .ok (.iconst 1, 1) := by decide +kernel
theorem dX6_seed_2 : decode cX6_seed 2 = .ok (.ldc 147, 2) := by decide +kernel
theorem dX6_seed_4 : decode cX6_seed 4 = .ok (.invokestatic 40, 3) := by decide +kernel
theorem dX6_seed_7 : decode cX6_seed 7 = .ok (.aload_n 0, 1) := by decide +kernel
theorem dX6_seed_8 : decode cX6_seed 8 = .ok (.getfield 36, 3) := by decide +kernel
theorem dX6_seed_11 : decode cX6_seed 11 = .ok (.istore_n 2, 1) := by decide +kernel
theorem dX6_seed_12 : decode cX6_seed 12 = .ok (.aload_n 0, 1) := by decide +kernel
theorem dX6_seed_13 : decode cX6_seed 13 = .ok (.iload_n 1, 1) := by decide +kernel
theorem dX6_seed_14 : decode cX6_seed 14 = .ok (.putfield 36, 3) := by decide +kernel
theorem dX6_seed_17 : decode cX6_seed 17 = .ok (.iload_n 2, 1) := by decide +kernel
theorem dX6_seed_18 : decode cX6_seed 18 = .ok (.ireturn, 1) := by decide +kernel
set_option maxRecDepth 20000 in
theorem ggX6_gateAt_X6_requireGlass : GoodIn wsX6_gateAt wsX6_requireGlass := goodIn_ca (goodIn_r _ [5, 6, 7, 8, 9, 10, 4, 11, 12, 13, 14, 15, 16, 17, 18, 103, 104, 105, 106, 107, 108, 109, 110, 111, 112] (by decide +kernel) (by decide +kernel)) (goodIn_sub (fun _ h => List.mem_cons_of_mem _ (List.mem_append_left _ (List.mem_append_left _ (List.mem_append_right _ h)))) (by decide +kernel))
set_option maxRecDepth 20000 in
theorem gX6_gateAt_X6_requireGlass : GoodIn wsX6_gateAt (wsV RX6 129 RX6 yX6_requireGlass wsX6_requireGlass) := goodIn_app (goodIn_of _ (by decide +kernel)) ggX6_gateAt_X6_requireGlass
set_option maxRecDepth 20000 in
theorem ggX6_gateAt_X6_addGate : GoodIn wsX6_gateAt wsX6_addGate := goodIn_ca (goodIn_ca (goodIn_r _ [22, 23, 24, 25, 26, 27, 28, 4, 29, 30, 31, 13, 14, 15, 16, 17, 18, 32, 33, 34, 35, 36, 37, 38, 39, 40, 41, 42, 43, 44, 45, 46, 47, 48, 49, 50, 51, 52, 53, 54, 55, 56, 57, 58, 59, 60, 61, 62, 63, 64, 65, 66, 67, 68, 69, 70, 71, 72, 73, 74, 75, 76, 77, 78, 79, 80, 81, 82, 83, 84, 85, 86, 87, 88, 89, 90, 91, 92, 93, 94, 95, 96, 97, 98, 99, 100, 101, 102, 103, 104, 105, 106, 107, 108, 109, 113, 114, 115, 116, 117, 118, 110, 111, 112, 119, 120, 121, 122] (by decide +kernel) (by decide +kernel)) (goodIn_sub (fun _ h => List.mem_cons_of_mem _ (List.mem_append_left _ (List.mem_append_right _ h))) (by decide +kernel))) (goodIn_sub (fun _ h => List.mem_cons_of_mem _ (List.mem_append_right _ h)) (by decide +kernel))
set_option maxRecDepth 20000 in
theorem gX6_gateAt_X6_addGate : GoodIn wsX6_gateAt (wsV RX6 148 RX6 yX6_addGate wsX6_addGate) := goodIn_app (goodIn_of _ (by decide +kernel)) ggX6_gateAt_X6_addGate
theorem dX6_gateAt_0 : decode cX6_gateAt 0 = .ok (.aload_n 0, 1) := by decide +kernel
theorem dX6_gateAt_1 : decode cX6_gateAt 1 = .ok (.iload_n 1, 1) := by decide +kernel
theorem dX6_gateAt_2 : decode cX6_gateAt 2 = .ok (.invokevirtual 129, 3) := by decide +kernel
theorem dX6_gateAt_5 : decode cX6_gateAt 5 = .ok (.aload_n 0, 1) := by decide +kernel
theorem dX6_gateAt_6 : decode cX6_gateAt 6 = .ok (.iconst 0, 1) := by decide +kernel
theorem dX6_gateAt_7 : decode cX6_gateAt 7 = .ok (.iload_n 1, 1) := by decide +kernel
theorem dX6_gateAt_8 : decode cX6_gateAt 8 = .ok (.iload_n 2, 1) := by decide +kernel
theorem dX6_gateAt_9 : decode cX6_gateAt 9 = .ok (.invokevirtual 148, 3) := by decide +kernel
theorem dX6_gateAt_12 : decode cX6_gateAt 12 = .ok (.ireturn, 1) := by decide +kernel
set_option maxRecDepth 20000 in
theorem ggX6_gateBehind_X6_requireGate : GoodIn wsX6_gateBehind wsX6_requireGate := goodIn_ca (goodIn_r _ [5, 6, 7, 8, 9, 10, 4, 11, 12, 13, 14, 15, 16, 17, 18, 102, 103, 104, 105, 106, 107, 108, 109, 110, 111] (by decide +kernel) (by decide +kernel)) (goodIn_sub (fun _ h => List.mem_cons_of_mem _ (List.mem_append_left _ (List.mem_append_left _ (List.mem_append_right _ h)))) (by decide +kernel))
set_option maxRecDepth 20000 in
theorem gX6_gateBehind_X6_requireGate : GoodIn wsX6_gateBehind (wsV RX6 152 RX6 yX6_requireGate wsX6_requireGate) := goodIn_app (goodIn_of _ (by decide +kernel)) ggX6_gateBehind_X6_requireGate
set_option maxRecDepth 20000 in
theorem ggX6_gateBehind_X6_addGate : GoodIn wsX6_gateBehind wsX6_addGate := goodIn_ca (goodIn_ca (goodIn_r _ [22, 12, 23, 24, 25, 26, 27, 4, 28, 29, 30, 13, 14, 15, 16, 17, 18, 31, 32, 33, 34, 35, 36, 37, 38, 39, 40, 41, 42, 43, 44, 45, 46, 47, 48, 49, 50, 51, 52, 53, 54, 55, 56, 57, 58, 59, 60, 61, 62, 63, 64, 65, 66, 67, 68, 69, 70, 71, 72, 73, 74, 75, 76, 77, 78, 79, 80, 81, 82, 83, 84, 85, 86, 87, 88, 89, 90, 91, 92, 93, 94, 95, 96, 97, 98, 99, 100, 101, 102, 103, 104, 105, 106, 107, 108, 112, 113, 114, 115, 116, 117, 109, 110, 111, 118, 119, 120, 121] (by decide +kernel) (by decide +kernel)) (goodIn_sub (fun _ h => List.mem_cons_of_mem _ (List.mem_append_left _ (List.mem_append_right _ h))) (by decide +kernel))) (goodIn_sub (fun _ h => List.mem_cons_of_mem _ (List.mem_append_right _ h)) (by decide +kernel))
set_option maxRecDepth 20000 in
theorem gX6_gateBehind_X6_addGate : GoodIn wsX6_gateBehind (wsV RX6 148 RX6 yX6_addGate wsX6_addGate) := goodIn_app (goodIn_of _ (by decide +kernel)) ggX6_gateBehind_X6_addGate
theorem dX6_gateBehind_0 : decode cX6_gateBehind 0 = .ok (.aload_n 0, 1) := by decide +kernel
theorem dX6_gateBehind_1 : decode cX6_gateBehind 1 = .ok (.iload_n 1, 1) := by decide +kernel
theorem dX6_gateBehind_2 : decode cX6_gateBehind 2 = .ok (.invokevirtual 152, 3) := by decide +kernel
theorem dX6_gateBehind_5 : decode cX6_gateBehind 5 = .ok (.aload_n 0, 1) := by decide +kernel
theorem dX6_gateBehind_6 : decode cX6_gateBehind 6 = .ok (.iconst 1, 1) := by decide +kernel
theorem dX6_gateBehind_7 : decode cX6_gateBehind 7 = .ok (.iload_n 1, 1) := by decide +kernel
theorem dX6_gateBehind_8 : decode cX6_gateBehind 8 = .ok (.iload_n 2, 1) := by decide +kernel
theorem dX6_gateBehind_9 : decode cX6_gateBehind 9 = .ok (.invokevirtual 148, 3) := by decide +kernel
theorem dX6_gateBehind_12 : decode cX6_gateBehind 12 = .ok (.ireturn, 1) := by decide +kernel
set_option maxRecDepth 20000 in
theorem ggX6_tips_X6_theGate : GoodIn wsX6_tips wsX6_theGate := goodIn_ca (goodIn_r _ [5, 6, 7, 8, 9, 10, 4, 11, 12, 13, 14, 15, 16, 17, 18, 19, 20, 21, 22, 23, 24, 25, 26, 27, 28, 29, 30, 31, 32, 33, 34, 35, 36, 37, 38, 39, 40, 47, 48, 49, 50, 51, 52, 53, 54, 55, 56] (by decide +kernel) (by decide +kernel)) (goodIn_sub (fun _ h => List.mem_cons_of_mem _ (List.mem_append_right _ h)) (by decide +kernel))
set_option maxRecDepth 20000 in
theorem gX6_tips_X6_theGate : GoodIn wsX6_tips (wsV RX6 155 RX6 yX6_theGate wsX6_theGate) := goodIn_app (goodIn_of _ (by decide +kernel)) ggX6_tips_X6_theGate
theorem dX6_tips_0 : decode cX6_tips 0 = .ok (.aload_n 0, 1) := by decide +kernel
theorem dX6_tips_1 : decode cX6_tips 1 = .ok (.iload_n 1, 1) := by decide +kernel
theorem dX6_tips_2 : decode cX6_tips 2 = .ok (.invokevirtual 155, 3) := by decide +kernel
theorem dX6_tips_5 : decode cX6_tips 5 = .ok (.getfield 159, 3) := by decide +kernel
theorem dX6_tips_8 : decode cX6_tips 8 = .ok (.ireturn, 1) := by decide +kernel
set_option maxRecDepth 20000 in
theorem ggX6_filled_X6_theGate : GoodIn wsX6_filled wsX6_theGate := goodIn_ca (goodIn_r _ [5, 6, 7, 8, 9, 10, 4, 11, 12, 13, 14, 15, 16, 17, 18, 19, 20, 21, 22, 23, 24, 25, 26, 27, 28, 29, 30, 31, 32, 33, 34, 35, 36, 37, 38, 39, 40, 47, 48, 49, 50, 51, 52, 53, 54, 55, 56] (by decide +kernel) (by decide +kernel)) (goodIn_sub (fun _ h => List.mem_cons_of_mem _ (List.mem_append_right _ h)) (by decide +kernel))
set_option maxRecDepth 20000 in
theorem gX6_filled_X6_theGate : GoodIn wsX6_filled (wsV RX6 155 RX6 yX6_theGate wsX6_theGate) := goodIn_app (goodIn_of _ (by decide +kernel)) ggX6_filled_X6_theGate
theorem dX6_filled_0 : decode cX6_filled 0 = .ok (.aload_n 0, 1) := by decide +kernel
theorem dX6_filled_1 : decode cX6_filled 1 = .ok (.iload_n 1, 1) := by decide +kernel
theorem dX6_filled_2 : decode cX6_filled 2 = .ok (.invokevirtual 155, 3) := by decide +kernel
theorem dX6_filled_5 : decode cX6_filled 5 = .ok (.getfield 164, 3) := by decide +kernel
theorem dX6_filled_8 : decode cX6_filled 8 = .ok (.ireturn, 1) := by decide +kernel
set_option maxRecDepth 20000 in
theorem ggX6_runs_X6_theGlass : GoodIn wsX6_runs wsX6_theGlass := goodIn_ca (goodIn_r _ [5, 6, 7, 8, 9, 10, 4, 11, 12, 13, 14, 15, 16, 17, 18, 19, 20, 21, 22, 23, 24, 25, 26, 27, 28, 29, 30, 31, 32, 33, 34, 35, 36, 37, 38, 39, 40, 57, 58, 59, 60, 61, 62, 63, 64, 65, 66] (by decide +kernel) (by decide +kernel)) (goodIn_sub (fun _ h => List.mem_cons_of_mem _ (List.mem_append_right _ h)) (by decide +kernel))
set_option maxRecDepth 20000 in
theorem gX6_runs_X6_theGlass : GoodIn wsX6_runs (wsV RX6 64 RX6 yX6_theGlass wsX6_theGlass) := goodIn_app (goodIn_of _ (by decide +kernel)) ggX6_runs_X6_theGlass
theorem dX6_runs_0 : decode cX6_runs 0 = .ok (.aload_n 0, 1) := by decide +kernel
theorem dX6_runs_1 : decode cX6_runs 1 = .ok (.iload_n 1, 1) := by decide +kernel
theorem dX6_runs_2 : decode cX6_runs 2 = .ok (.invokevirtual 64, 3) := by decide +kernel
theorem dX6_runs_5 : decode cX6_runs 5 = .ok (.getfield 167, 3) := by decide +kernel
theorem dX6_runs_8 : decode cX6_runs 8 = .ok (.getfield 171, 3) := by decide +kernel
theorem dX6_runs_11 : decode cX6_runs 11 = .ok (.ireturn, 1) := by decide +kernel
set_option maxRecDepth 20000 in
theorem ggX6_runAt_X6_theGlass : GoodIn wsX6_runAt wsX6_theGlass := goodIn_ca (goodIn_r _ [7, 8, 9, 10, 11, 12, 6, 13, 14, 15, 16, 17, 18, 19, 20, 21, 22, 23, 24, 25, 26, 27, 28, 29, 30, 31, 32, 33, 34, 35, 36, 37, 38, 39, 40, 41, 42, 65, 66, 67, 68, 69, 70, 71, 72, 73, 74] (by decide +kernel) (by decide +kernel)) (goodIn_sub (fun _ h => List.mem_cons_of_mem _ (List.mem_append_right _ h)) (by decide +kernel))
set_option maxRecDepth 20000 in
theorem gX6_runAt_X6_theGlass : GoodIn wsX6_runAt (wsV RX6 64 RX6 yX6_theGlass wsX6_theGlass) := goodIn_app (goodIn_of _ (by decide +kernel)) ggX6_runAt_X6_theGlass
set_option maxRecDepth 20000 in
theorem ggX6_runAt_X3_get : GoodIn wsX6_runAt wsX3_get := goodIn_r _ [47, 48, 75] (by decide +kernel) (by decide +kernel)
set_option maxRecDepth 20000 in
theorem gX6_runAt_X3_get : GoodIn wsX6_runAt (wsV RX6 185 RX3 yX3_get wsX3_get) := goodIn_app (goodIn_of _ (by decide +kernel)) ggX6_runAt_X3_get
theorem dX6_runAt_0 : decode cX6_runAt 0 = .ok (.aload_n 0, 1) := by decide +kernel
theorem dX6_runAt_1 : decode cX6_runAt 1 = .ok (.iload_n 1, 1) := by decide +kernel
theorem dX6_runAt_2 : decode cX6_runAt 2 = .ok (.invokevirtual 64, 3) := by decide +kernel
theorem dX6_runAt_5 : decode cX6_runAt 5 = .ok (.getfield 167, 3) := by decide +kernel
theorem dX6_runAt_8 : decode cX6_runAt 8 = .ok (.astore_n 3, 1) := by decide +kernel
theorem dX6_runAt_9 : decode cX6_runAt 9 = .ok (.iload_n 2, 1) := by decide +kernel
theorem dX6_runAt_10 : decode cX6_runAt 10 = .ok (.ifCond .lt 11, 3) := by decide +kernel
theorem dX6_runAt_13 : decode cX6_runAt 13 = .ok (.iload_n 2, 1) := by decide +kernel
theorem dX6_runAt_14 : decode cX6_runAt 14 = .ok (.aload_n 3, 1) := by decide +kernel
theorem dX6_runAt_15 : decode cX6_runAt 15 = .ok (.getfield 171, 3) := by decide +kernel
theorem dX6_runAt_18 : decode cX6_runAt 18 = .ok (.if_icmp .lt 13, 3) := by decide +kernel
theorem dX6_runAt_21 : decode cX6_runAt 21 = .ok (.new 176, 3) := by decide +kernel
theorem dX6_runAt_24 : decode cX6_runAt 24 = .ok (.dup, 1) := by decide +kernel
theorem dX6_runAt_25 : decode cX6_runAt 25 = .ok (.ldc 178, 2) := by decide +kernel
theorem dX6_runAt_27 : decode cX6_runAt 27 = .ok (.invokespecial 180, 3) := by decide +kernel
theorem dX6_runAt_30 : decode cX6_runAt 30 = .ok (.athrow, 1) := by decide +kernel
theorem dX6_runAt_31 : decode cX6_runAt 31 = .ok (.aload_n 3, 1) := by decide +kernel
theorem dX6_runAt_32 : decode cX6_runAt 32 = .ok (.getfield 181, 3) := by decide +kernel
theorem dX6_runAt_35 : decode cX6_runAt 35 = .ok (.iload_n 2, 1) := by decide +kernel
theorem dX6_runAt_36 : decode cX6_runAt 36 = .ok (.invokevirtual 185, 3) := by decide +kernel
theorem dX6_runAt_39 : decode cX6_runAt 39 = .ok (.ireturn, 1) := by decide +kernel
set_option maxRecDepth 20000 in
theorem ggX6_meanRun_X6_theGlass : GoodIn wsX6_meanRun wsX6_theGlass := goodIn_ca (goodIn_r _ [5, 6, 7, 8, 9, 10, 4, 11, 12, 13, 14, 15, 16, 17, 18, 19, 20, 21, 22, 23, 24, 25, 26, 27, 28, 29, 30, 31, 32, 33, 34, 35, 36, 37, 38, 39, 40, 73, 74, 75, 76, 77, 78, 79, 80, 81, 82] (by decide +kernel) (by decide +kernel)) (goodIn_sub (fun _ h => List.mem_cons_of_mem _ (List.mem_append_left _ (List.mem_append_right _ h))) (by decide +kernel))
set_option maxRecDepth 20000 in
theorem gX6_meanRun_X6_theGlass : GoodIn wsX6_meanRun (wsV RX6 64 RX6 yX6_theGlass wsX6_theGlass) := goodIn_app (goodIn_of _ (by decide +kernel)) ggX6_meanRun_X6_theGlass
set_option maxRecDepth 20000 in
theorem ggX6_meanRun_X6_requireRuns : GoodIn wsX6_meanRun wsX6_requireRuns := goodIn_ca (goodIn_r _ [43, 44, 45, 83, 84] (by decide +kernel) (by decide +kernel)) (goodIn_sub (fun _ h => List.mem_cons_of_mem _ (List.mem_append_right _ h)) (by decide +kernel))
set_option maxRecDepth 20000 in
theorem gX6_meanRun_X6_requireRuns : GoodIn wsX6_meanRun (va_wsS RX6 190 yX6_requireRuns wsX6_requireRuns) := goodIn_app (goodIn_of _ (by decide +kernel)) ggX6_meanRun_X6_requireRuns
set_option maxRecDepth 20000 in
theorem ggX6_meanRun_X4_mean : GoodIn wsX6_meanRun wsX4_mean := goodIn_r _ [50, 51, 52, 53, 54, 55, 56, 57, 58, 83, 84, 85] (by decide +kernel) (by decide +kernel)
set_option maxRecDepth 20000 in
theorem gX6_meanRun_X4_mean : GoodIn wsX6_meanRun (wsV RX6 194 RX4 yX4_mean wsX4_mean) := goodIn_app (goodIn_of _ (by decide +kernel)) ggX6_meanRun_X4_mean
theorem dX6_meanRun_0 : decode cX6_meanRun 0 = .ok (.aload_n 0, 1) := by decide +kernel
theorem dX6_meanRun_1 : decode cX6_meanRun 1 = .ok (.iload_n 1, 1) := by decide +kernel
theorem dX6_meanRun_2 : decode cX6_meanRun 2 = .ok (.invokevirtual 64, 3) := by decide +kernel
theorem dX6_meanRun_5 : decode cX6_meanRun 5 = .ok (.getfield 167, 3) := by decide +kernel
theorem dX6_meanRun_8 : decode cX6_meanRun 8 = .ok (.astore_n 2, 1) := by decide +kernel
theorem dX6_meanRun_9 : decode cX6_meanRun 9 = .ok (.aload_n 2, 1) := by decide +kernel
theorem dX6_meanRun_10 : decode cX6_meanRun 10 = .ok (.iconst 1, 1) := by decide +kernel
theorem dX6_meanRun_11 : decode cX6_meanRun 11 = .ok (.invokestatic 190, 3) := by decide +kernel
theorem dX6_meanRun_14 : decode cX6_meanRun 14 = .ok (.aload_n 2, 1) := by decide +kernel
theorem dX6_meanRun_15 : decode cX6_meanRun 15 = .ok (.invokevirtual 194, 3) := by decide +kernel
theorem dX6_meanRun_18 : decode cX6_meanRun 18 = .ok (.dreturn, 1) := by decide +kernel
set_option maxRecDepth 20000 in
theorem ggX6_spread_X6_theGlass : GoodIn wsX6_spread wsX6_theGlass := goodIn_ca (goodIn_r _ [5, 6, 7, 8, 9, 10, 4, 11, 12, 13, 14, 15, 16, 17, 18, 19, 20, 21, 22, 23, 24, 25, 26, 27, 28, 29, 30, 31, 32, 33, 34, 35, 36, 37, 38, 39, 40, 80, 81, 82, 83, 84, 85, 86, 87, 88, 89] (by decide +kernel) (by decide +kernel)) (goodIn_sub (fun _ h => List.mem_cons_of_mem _ (List.mem_append_left _ (List.mem_append_right _ h))) (by decide +kernel))
set_option maxRecDepth 20000 in
theorem gX6_spread_X6_theGlass : GoodIn wsX6_spread (wsV RX6 64 RX6 yX6_theGlass wsX6_theGlass) := goodIn_app (goodIn_of _ (by decide +kernel)) ggX6_spread_X6_theGlass
set_option maxRecDepth 20000 in
theorem ggX6_spread_X6_requireRuns : GoodIn wsX6_spread wsX6_requireRuns := goodIn_ca (goodIn_r _ [43, 44, 45, 90, 91] (by decide +kernel) (by decide +kernel)) (goodIn_sub (fun _ h => List.mem_cons_of_mem _ (List.mem_append_right _ h)) (by decide +kernel))
set_option maxRecDepth 20000 in
theorem gX6_spread_X6_requireRuns : GoodIn wsX6_spread (va_wsS RX6 190 yX6_requireRuns wsX6_requireRuns) := goodIn_app (goodIn_of _ (by decide +kernel)) ggX6_spread_X6_requireRuns
set_option maxRecDepth 20000 in
theorem ggX6_spread_X4_difference : GoodIn wsX6_spread wsX4_difference := goodIn_r _ [50, 51, 52, 53, 54, 55, 56, 57, 58, 59, 60, 61, 62, 63, 64, 65, 90, 91, 92] (by decide +kernel) (by decide +kernel)
set_option maxRecDepth 20000 in
theorem gX6_spread_X4_difference : GoodIn wsX6_spread (wsV RX6 198 RX4 yX4_difference wsX4_difference) := goodIn_app (goodIn_of _ (by decide +kernel)) ggX6_spread_X4_difference
theorem dX6_spread_0 : decode cX6_spread 0 = .ok (.aload_n 0, 1) := by decide +kernel
theorem dX6_spread_1 : decode cX6_spread 1 = .ok (.iload_n 1, 1) := by decide +kernel
theorem dX6_spread_2 : decode cX6_spread 2 = .ok (.invokevirtual 64, 3) := by decide +kernel
theorem dX6_spread_5 : decode cX6_spread 5 = .ok (.getfield 167, 3) := by decide +kernel
theorem dX6_spread_8 : decode cX6_spread 8 = .ok (.astore_n 2, 1) := by decide +kernel
theorem dX6_spread_9 : decode cX6_spread 9 = .ok (.aload_n 2, 1) := by decide +kernel
theorem dX6_spread_10 : decode cX6_spread 10 = .ok (.iconst 2, 1) := by decide +kernel
theorem dX6_spread_11 : decode cX6_spread 11 = .ok (.invokestatic 190, 3) := by decide +kernel
theorem dX6_spread_14 : decode cX6_spread 14 = .ok (.aload_n 2, 1) := by decide +kernel
theorem dX6_spread_15 : decode cX6_spread 15 = .ok (.invokevirtual 198, 3) := by decide +kernel
theorem dX6_spread_18 : decode cX6_spread 18 = .ok (.ireturn, 1) := by decide +kernel
set_option maxRecDepth 20000 in
theorem ggX6_steadiest_Jx4a65c_size_8abf5 : GoodIn wsX6_steadiest wsJx4a65c_size_8abf5 := goodIn_r _ [9, 10, 71, 72, 73] (by decide +kernel) (by decide +kernel)
set_option maxRecDepth 20000 in
theorem gX6_steadiest_Jx4a65c_size_8abf5 : GoodIn wsX6_steadiest (wsV RX6 44 RJx4a65c yJx4a65c_size_8abf5 wsJx4a65c_size_8abf5) := goodIn_app (goodIn_of _ (by decide +kernel)) ggX6_steadiest_Jx4a65c_size_8abf5
set_option maxRecDepth 20000 in
theorem ggX6_steadiest_Jx4a65c_get_915e3 : GoodIn wsX6_steadiest wsJx4a65c_get_915e3 := goodIn_r _ [14, 10, 15, 16, 17, 18, 19, 20, 21, 22, 23, 24, 25, 8, 26, 27, 71, 72, 73] (by decide +kernel) (by decide +kernel)
set_option maxRecDepth 20000 in
theorem gX6_steadiest_Jx4a65c_get_915e3 : GoodIn wsX6_steadiest (wsV RX6 138 RJx4a65c yJx4a65c_get_915e3 wsJx4a65c_get_915e3) := goodIn_app (goodIn_of _ (by decide +kernel)) ggX6_steadiest_Jx4a65c_get_915e3
set_option maxRecDepth 20000 in
theorem ggX6_steadiest_X4_difference : GoodIn wsX6_steadiest wsX4_difference := goodIn_r _ [32, 33, 34, 35, 36, 37, 38, 39, 40, 41, 42, 43, 44, 45, 46, 47, 69, 70, 74] (by decide +kernel) (by decide +kernel)
set_option maxRecDepth 20000 in
theorem gX6_steadiest_X4_difference : GoodIn wsX6_steadiest (wsV RX6 198 RX4 yX4_difference wsX4_difference) := goodIn_app (goodIn_of _ (by decide +kernel)) ggX6_steadiest_X4_difference
theorem dX6_steadiest_0 : decode cX6_steadiest 0 = .ok (.iconst (-1), 1) := by decide +kernel
theorem dX6_steadiest_1 : decode cX6_steadiest 1 = .ok (.istore_n 1, 1) := by decide +kernel
theorem dX6_steadiest_2 : decode cX6_steadiest 2 = .ok (.iconst 0, 1) := by decide +kernel
theorem dX6_steadiest_3 : decode cX6_steadiest 3 = .ok (.istore_n 2, 1) := by decide +kernel
theorem dX6_steadiest_4 : decode cX6_steadiest 4 = .ok (.iconst 0, 1) := by decide +kernel
theorem dX6_steadiest_5 : decode cX6_steadiest 5 = .ok (.istore_n 3, 1) := by decide +kernel
theorem dX6_steadiest_6 : decode cX6_steadiest 6 = .ok (.iload_n 3, 1) := by decide +kernel
theorem dX6_steadiest_7 : decode cX6_steadiest 7 = .ok (.aload_n 0, 1) := by decide +kernel
theorem dX6_steadiest_8 : decode cX6_steadiest 8 = .ok (.getfield 12, 3) := by decide +kernel
theorem dX6_steadiest_11 : decode cX6_steadiest 11 = .ok (.invokevirtual 44, 3) := by decide +kernel
theorem dX6_steadiest_14 : decode cX6_steadiest 14 = .ok (.if_icmp .ge 56, 3) := by decide +kernel
theorem dX6_steadiest_17 : decode cX6_steadiest 17 = .ok (.aload_n 0, 1) := by decide +kernel
theorem dX6_steadiest_18 : decode cX6_steadiest 18 = .ok (.getfield 12, 3) := by decide +kernel
theorem dX6_steadiest_21 : decode cX6_steadiest 21 = .ok (.iload_n 3, 1) := by decide +kernel
theorem dX6_steadiest_22 : decode cX6_steadiest 22 = .ok (.invokevirtual 138, 3) := by decide +kernel
theorem dX6_steadiest_25 : decode cX6_steadiest 25 = .ok (.checkcast 52, 3) := by decide +kernel
theorem dX6_steadiest_28 : decode cX6_steadiest 28 = .ok (.getfield 167, 3) := by decide +kernel
theorem dX6_steadiest_31 : decode cX6_steadiest 31 = .ok (.astore 4, 2) := by decide +kernel
theorem dX6_steadiest_33 : decode cX6_steadiest 33 = .ok (.aload 4, 2) := by decide +kernel
theorem dX6_steadiest_35 : decode cX6_steadiest 35 = .ok (.getfield 171, 3) := by decide +kernel
theorem dX6_steadiest_38 : decode cX6_steadiest 38 = .ok (.iconst 2, 1) := by decide +kernel
theorem dX6_steadiest_39 : decode cX6_steadiest 39 = .ok (.if_icmp .lt 25, 3) := by decide +kernel
theorem dX6_steadiest_42 : decode cX6_steadiest 42 = .ok (.iload_n 1, 1) := by decide +kernel
theorem dX6_steadiest_43 : decode cX6_steadiest 43 = .ok (.iconst (-1), 1) := by decide +kernel
theorem dX6_steadiest_44 : decode cX6_steadiest 44 = .ok (.if_icmp .eq 12, 3) := by decide +kernel
theorem dX6_steadiest_47 : decode cX6_steadiest 47 = .ok (.aload 4, 2) := by decide +kernel
theorem dX6_steadiest_49 : decode cX6_steadiest 49 = .ok (.invokevirtual 198, 3) := by decide +kernel
theorem dX6_steadiest_52 : decode cX6_steadiest 52 = .ok (.iload_n 2, 1) := by decide +kernel
theorem dX6_steadiest_53 : decode cX6_steadiest 53 = .ok (.if_icmp .ge 11, 3) := by decide +kernel
theorem dX6_steadiest_56 : decode cX6_steadiest 56 = .ok (.iload_n 3, 1) := by decide +kernel
theorem dX6_steadiest_57 : decode cX6_steadiest 57 = .ok (.istore_n 1, 1) := by decide +kernel
theorem dX6_steadiest_58 : decode cX6_steadiest 58 = .ok (.aload 4, 2) := by decide +kernel
theorem dX6_steadiest_60 : decode cX6_steadiest 60 = .ok (.invokevirtual 198, 3) := by decide +kernel
theorem dX6_steadiest_63 : decode cX6_steadiest 63 = .ok (.istore_n 2, 1) := by decide +kernel
theorem dX6_steadiest_64 : decode cX6_steadiest 64 = .ok (.iinc 3 1, 3) := by decide +kernel
theorem dX6_steadiest_67 : decode cX6_steadiest 67 = .ok (.goto (-61), 3) := by decide +kernel
theorem dX6_steadiest_70 : decode cX6_steadiest 70 = .ok (.iload_n 1, 1) := by decide +kernel
theorem dX6_steadiest_71 : decode cX6_steadiest 71 = .ok (.iconst (-1), 1) := by decide +kernel
theorem dX6_steadiest_72 : decode cX6_steadiest 72 = .ok (.if_icmp .ne 13, 3) := by decide +kernel
theorem dX6_steadiest_75 : decode cX6_steadiest 75 = .ok (.new 176, 3) := by decide +kernel
theorem dX6_steadiest_78 : decode cX6_steadiest 78 = .ok (.dup, 1) := by decide +kernel
theorem dX6_steadiest_79 : decode cX6_steadiest 79 = .ok (.ldc 201, 2) := by decide +kernel
theorem dX6_steadiest_81 : decode cX6_steadiest 81 = .ok (.invokespecial 180, 3) := by decide +kernel
theorem dX6_steadiest_84 : decode cX6_steadiest 84 = .ok (.athrow, 1) := by decide +kernel
theorem dX6_steadiest_85 : decode cX6_steadiest 85 = .ok (.iload_n 1, 1) := by decide +kernel
theorem dX6_steadiest_86 : decode cX6_steadiest 86 = .ok (.ireturn, 1) := by decide +kernel
set_option maxRecDepth 20000 in
theorem ggX6_knots_X6_theGlass : GoodIn wsX6_knots wsX6_theGlass := goodIn_ca (goodIn_r _ [5, 6, 7, 8, 9, 10, 4, 11, 12, 13, 14, 15, 16, 17, 18, 19, 20, 21, 22, 23, 24, 25, 26, 27, 28, 29, 30, 31, 32, 33, 34, 35, 36, 37, 38, 39, 40, 73, 74, 75, 76, 77, 78, 79, 80, 81, 82] (by decide +kernel) (by decide +kernel)) (goodIn_sub (fun _ h => List.mem_cons_of_mem _ (List.mem_append_left _ (List.mem_append_left _ (List.mem_append_right _ h)))) (by decide +kernel))
set_option maxRecDepth 20000 in
theorem gX6_knots_X6_theGlass : GoodIn wsX6_knots (wsV RX6 64 RX6 yX6_theGlass wsX6_theGlass) := goodIn_app (goodIn_of _ (by decide +kernel)) ggX6_knots_X6_theGlass
set_option maxRecDepth 20000 in
theorem ggX6_knots_X6_requireRange : GoodIn wsX6_knots wsX6_requireRange := goodIn_ca (goodIn_r _ [43, 44, 45] (by decide +kernel) (by decide +kernel)) (goodIn_sub (fun _ h => List.mem_cons_of_mem _ (List.mem_append_left _ (List.mem_append_right _ h))) (by decide +kernel))
set_option maxRecDepth 20000 in
theorem gX6_knots_X6_requireRange : GoodIn wsX6_knots (va_wsS RX6 40 yX6_requireRange wsX6_requireRange) := goodIn_app (goodIn_of _ (by decide +kernel)) ggX6_knots_X6_requireRange
set_option maxRecDepth 20000 in
theorem ggX6_knots_X6_requireRuns : GoodIn wsX6_knots wsX6_requireRuns := goodIn_ca (goodIn_r _ [48, 49, 50, 71, 72] (by decide +kernel) (by decide +kernel)) (goodIn_sub (fun _ h => List.mem_cons_of_mem _ (List.mem_append_right _ h)) (by decide +kernel))
set_option maxRecDepth 20000 in
theorem gX6_knots_X6_requireRuns : GoodIn wsX6_knots (va_wsS RX6 190 yX6_requireRuns wsX6_requireRuns) := goodIn_app (goodIn_of _ (by decide +kernel)) ggX6_knots_X6_requireRuns
set_option maxRecDepth 20000 in
theorem ggX6_knots_X3_get : GoodIn wsX6_knots wsX3_get := goodIn_r _ [55, 56, 83] (by decide +kernel) (by decide +kernel)
set_option maxRecDepth 20000 in
theorem gX6_knots_X3_get : GoodIn wsX6_knots (wsV RX6 185 RX3 yX3_get wsX3_get) := goodIn_app (goodIn_of _ (by decide +kernel)) ggX6_knots_X3_get
theorem dX6_knots_0 : decode cX6_knots 0 = .ok (.aload_n 0, 1) := by decide +kernel
theorem dX6_knots_1 : decode cX6_knots 1 = .ok (.iload_n 1, 1) := by decide +kernel
theorem dX6_knots_2 : decode cX6_knots 2 = .ok (.invokevirtual 64, 3) := by decide +kernel
theorem dX6_knots_5 : decode cX6_knots 5 = .ok (.getfield 167, 3) := by decide +kernel
theorem dX6_knots_8 : decode cX6_knots 8 = .ok (.astore_n 3, 1) := by decide +kernel
theorem dX6_knots_9 : decode cX6_knots 9 = .ok (.iload_n 2, 1) := by decide +kernel
theorem dX6_knots_10 : decode cX6_knots 10 = .ok (.iconst 0, 1) := by decide +kernel
theorem dX6_knots_11 : decode cX6_knots 11 = .ok (.bipush 99, 2) := by decide +kernel
theorem dX6_knots_13 : decode cX6_knots 13 = .ok (.invokestatic 40, 3) := by decide +kernel
theorem dX6_knots_16 : decode cX6_knots 16 = .ok (.aload_n 3, 1) := by decide +kernel
theorem dX6_knots_17 : decode cX6_knots 17 = .ok (.iconst 1, 1) := by decide +kernel
theorem dX6_knots_18 : decode cX6_knots 18 = .ok (.invokestatic 190, 3) := by decide +kernel
theorem dX6_knots_21 : decode cX6_knots 21 = .ok (.aload_n 3, 1) := by decide +kernel
theorem dX6_knots_22 : decode cX6_knots 22 = .ok (.getfield 181, 3) := by decide +kernel
theorem dX6_knots_25 : decode cX6_knots 25 = .ok (.aload_n 3, 1) := by decide +kernel
theorem dX6_knots_26 : decode cX6_knots 26 = .ok (.getfield 171, 3) := by decide +kernel
theorem dX6_knots_29 : decode cX6_knots 29 = .ok (.iconst 1, 1) := by decide +kernel
theorem dX6_knots_30 : decode cX6_knots 30 = .ok (.isub, 1) := by decide +kernel
theorem dX6_knots_31 : decode cX6_knots 31 = .ok (.invokevirtual 185, 3) := by decide +kernel
theorem dX6_knots_34 : decode cX6_knots 34 = .ok (.istore 4, 2) := by decide +kernel
theorem dX6_knots_36 : decode cX6_knots 36 = .ok (.iload 4, 2) := by decide +kernel
theorem dX6_knots_38 : decode cX6_knots 38 = .ok (.ifCond .le 14, 3) := by decide +kernel
theorem dX6_knots_41 : decode cX6_knots 41 = .ok (.iload_n 2, 1) := by decide +kernel
theorem dX6_knots_42 : decode cX6_knots 42 = .ok (.sipush 280, 3) := by decide +kernel
theorem dX6_knots_45 : decode cX6_knots 45 = .ok (.imul, 1) := by decide +kernel
theorem dX6_knots_46 : decode cX6_knots 46 = .ok (.iload 4, 2) := by decide +kernel
theorem dX6_knots_48 : decode cX6_knots 48 = .ok (.idiv, 1) := by decide +kernel
theorem dX6_knots_49 : decode cX6_knots 49 = .ok (.goto 4, 3) := by decide +kernel
theorem dX6_knots_52 : decode cX6_knots 52 = .ok (.iconst 0, 1) := by decide +kernel
theorem dX6_knots_53 : decode cX6_knots 53 = .ok (.ireturn, 1) := by decide +kernel
set_option maxRecDepth 20000 in
theorem ggX6_tell_X6_requireRange : GoodIn wsX6_tell wsX6_requireRange := goodIn_ca (goodIn_r _ [5, 6, 7] (by decide +kernel) (by decide +kernel)) (goodIn_sub (fun _ h => List.mem_cons_of_mem _ (List.mem_append_left _ (List.mem_append_right _ h))) (by decide +kernel))
set_option maxRecDepth 20000 in
theorem gX6_tell_X6_requireRange : GoodIn wsX6_tell (va_wsS RX6 40 yX6_requireRange wsX6_requireRange) := goodIn_app (goodIn_of _ (by decide +kernel)) ggX6_tell_X6_requireRange
set_option maxRecDepth 20000 in
theorem ggX6_tell_X6_requireRoom : GoodIn wsX6_tell wsX6_requireRoom := goodIn_ca (goodIn_r _ [10, 11, 12] (by decide +kernel) (by decide +kernel)) (goodIn_sub (fun _ h => List.mem_cons_of_mem _ (List.mem_append_right _ h)) (by decide +kernel))
set_option maxRecDepth 20000 in
theorem gX6_tell_X6_requireRoom : GoodIn wsX6_tell (va_wsS RX6 48 yX6_requireRoom wsX6_requireRoom) := goodIn_app (goodIn_of _ (by decide +kernel)) ggX6_tell_X6_requireRoom
set_option maxRecDepth 20000 in
theorem ggX6_tell_X2_add : GoodIn wsX6_tell wsX2_add := goodIn_r _ [17, 18, 19, 20, 21, 22, 23, 24, 25, 108, 109, 110, 111, 112, 113, 114, 115, 116, 117, 118, 119, 120] (by decide +kernel) (by decide +kernel)
set_option maxRecDepth 20000 in
theorem gX6_tell_X2_add : GoodIn wsX6_tell (wsV RX6 206 RX2 yX2_add wsX2_add) := goodIn_app (goodIn_of _ (by decide +kernel)) ggX6_tell_X2_add
set_option maxRecDepth 20000 in
theorem ggX6_tell_X2_solve : GoodIn wsX6_tell wsX2_solve := goodIn_r _ [29, 30, 31, 32, 16, 33, 34, 35, 36, 37, 38, 39, 23, 40, 25, 41, 42, 43, 44, 45, 46, 47, 48, 49, 20, 21, 22, 24, 50, 51, 52, 53, 54, 19, 55, 56, 57, 58, 18, 59, 60, 61, 62, 63, 64, 65, 66, 67, 68, 69, 70, 71, 72, 73, 74, 75, 76, 77, 78, 79, 80, 81, 82, 83, 84, 85, 86, 87, 88, 89, 90, 91, 92, 93, 94, 95, 96, 97, 98, 99, 100, 108, 109, 110, 111, 112, 113, 114, 115, 116, 117, 118, 119, 120] (by decide +kernel) (by decide +kernel)
set_option maxRecDepth 20000 in
theorem gX6_tell_X2_solve : GoodIn wsX6_tell (wsV RX6 26 RX2 yX2_solve wsX2_solve) := goodIn_app (goodIn_of _ (by decide +kernel)) ggX6_tell_X2_solve
theorem dX6_tell_0 : decode cX6_tell 0 = .ok (.iload_n 1, 1) := by decide +kernel
theorem dX6_tell_1 : decode cX6_tell 1 = .ok (.iconst 1, 1) := by decide +kernel
theorem dX6_tell_2 : decode cX6_tell 2 = .ok (.bipush 12, 2) := by decide +kernel
theorem dX6_tell_4 : decode cX6_tell 4 = .ok (.invokestatic 40, 3) := by decide +kernel
theorem dX6_tell_7 : decode cX6_tell 7 = .ok (.aload_n 0, 1) := by decide +kernel
theorem dX6_tell_8 : decode cX6_tell 8 = .ok (.getfield 22, 3) := by decide +kernel
theorem dX6_tell_11 : decode cX6_tell 11 = .ok (.getfield 203, 3) := by decide +kernel
theorem dX6_tell_14 : decode cX6_tell 14 = .ok (.iconst 3, 1) := by decide +kernel
theorem dX6_tell_15 : decode cX6_tell 15 = .ok (.invokestatic 48, 3) := by decide +kernel
theorem dX6_tell_18 : decode cX6_tell 18 = .ok (.aload_n 0, 1) := by decide +kernel
theorem dX6_tell_19 : decode cX6_tell 19 = .ok (.getfield 22, 3) := by decide +kernel
theorem dX6_tell_22 : decode cX6_tell 22 = .ok (.iload_n 1, 1) := by decide +kernel
theorem dX6_tell_23 : decode cX6_tell 23 = .ok (.invokevirtual 206, 3) := by decide +kernel
theorem dX6_tell_26 : decode cX6_tell 26 = .ok (.aload_n 0, 1) := by decide +kernel
theorem dX6_tell_27 : decode cX6_tell 27 = .ok (.getfield 22, 3) := by decide +kernel
theorem dX6_tell_30 : decode cX6_tell 30 = .ok (.invokevirtual 26, 3) := by decide +kernel
theorem dX6_tell_33 : decode cX6_tell 33 = .ok (.aload_n 0, 1) := by decide +kernel
theorem dX6_tell_34 : decode cX6_tell 34 = .ok (.getfield 22, 3) := by decide +kernel
theorem dX6_tell_37 : decode cX6_tell 37 = .ok (.getfield 203, 3) := by decide +kernel
theorem dX6_tell_40 : decode cX6_tell 40 = .ok (.ireturn, 1) := by decide +kernel
set_option maxRecDepth 20000 in
theorem ggX6_forget_X2_clear : GoodIn wsX6_forget wsX2_clear := goodIn_r _ [6, 7, 97, 98, 99, 100, 101, 102, 103, 104, 105, 106, 107, 108] (by decide +kernel) (by decide +kernel)
set_option maxRecDepth 20000 in
theorem gX6_forget_X2_clear : GoodIn wsX6_forget (wsV RX6 208 RX2 yX2_clear wsX2_clear) := goodIn_app (goodIn_of _ (by decide +kernel)) ggX6_forget_X2_clear
set_option maxRecDepth 20000 in
theorem ggX6_forget_X2_solve : GoodIn wsX6_forget wsX2_solve := goodIn_r _ [11, 12, 13, 14, 5, 15, 16, 17, 18, 19, 20, 21, 22, 23, 24, 25, 26, 27, 28, 29, 30, 31, 32, 33, 34, 35, 36, 37, 38, 39, 40, 41, 42, 7, 43, 44, 45, 46, 47, 48, 49, 50, 51, 52, 53, 54, 55, 56, 57, 58, 59, 60, 61, 62, 63, 64, 65, 66, 67, 68, 69, 70, 71, 72, 73, 74, 75, 76, 77, 78, 79, 80, 81, 82, 83, 84, 85, 86, 87, 88, 89, 97, 98, 99, 100, 101, 102, 103, 104, 105, 106, 107, 108, 109] (by decide +kernel) (by decide +kernel)
set_option maxRecDepth 20000 in
theorem gX6_forget_X2_solve : GoodIn wsX6_forget (wsV RX6 26 RX2 yX2_solve wsX2_solve) := goodIn_app (goodIn_of _ (by decide +kernel)) ggX6_forget_X2_solve
theorem dX6_forget_0 : decode cX6_forget 0 = .ok (.aload_n 0, 1) := by decide +kernel
theorem dX6_forget_1 : decode cX6_forget 1 = .ok (.getfield 22, 3) := by decide +kernel
theorem dX6_forget_4 : decode cX6_forget 4 = .ok (.getfield 203, 3) := by decide +kernel
theorem dX6_forget_7 : decode cX6_forget 7 = .ok (.istore_n 1, 1) := by decide +kernel
theorem dX6_forget_8 : decode cX6_forget 8 = .ok (.aload_n 0, 1) := by decide +kernel
theorem dX6_forget_9 : decode cX6_forget 9 = .ok (.getfield 22, 3) := by decide +kernel
theorem dX6_forget_12 : decode cX6_forget 12 = .ok (.invokevirtual 208, 3) := by decide +kernel
theorem dX6_forget_15 : decode cX6_forget 15 = .ok (.aload_n 0, 1) := by decide +kernel
theorem dX6_forget_16 : decode cX6_forget 16 = .ok (.getfield 22, 3) := by decide +kernel
theorem dX6_forget_19 : decode cX6_forget 19 = .ok (.invokevirtual 26, 3) := by decide +kernel
theorem dX6_forget_22 : decode cX6_forget 22 = .ok (.iload_n 1, 1) := by decide +kernel
theorem dX6_forget_23 : decode cX6_forget 23 = .ok (.ireturn, 1) := by decide +kernel
set_option maxRecDepth 20000 in
theorem ggX6_canMeasure_X6_requireRange : GoodIn wsX6_canMeasure wsX6_requireRange := goodIn_ca (goodIn_r _ [5, 6, 7] (by decide +kernel) (by decide +kernel)) (goodIn_sub (fun _ h => List.mem_cons_of_mem _ (List.mem_append_right _ h)) (by decide +kernel))
set_option maxRecDepth 20000 in
theorem gX6_canMeasure_X6_requireRange : GoodIn wsX6_canMeasure (va_wsS RX6 40 yX6_requireRange wsX6_requireRange) := goodIn_app (goodIn_of _ (by decide +kernel)) ggX6_canMeasure_X6_requireRange
set_option maxRecDepth 20000 in
theorem ggX6_canMeasure_X2_reaches : GoodIn wsX6_canMeasure wsX2_reaches := goodIn_r _ [12, 13, 14, 15, 11, 16, 17, 18, 19, 20, 21, 22, 23, 24, 25, 26, 27, 35, 36, 37, 38, 39, 40, 41, 42, 43, 44, 45, 46, 47] (by decide +kernel) (by decide +kernel)
set_option maxRecDepth 20000 in
theorem gX6_canMeasure_X2_reaches : GoodIn wsX6_canMeasure (wsV RX6 211 RX2 yX2_reaches wsX2_reaches) := goodIn_app (goodIn_of _ (by decide +kernel)) ggX6_canMeasure_X2_reaches
theorem dX6_canMeasure_0 : decode cX6_canMeasure 0 = .ok (.iload_n 1, 1) := by decide +kernel
theorem dX6_canMeasure_1 : decode cX6_canMeasure 1 = .ok (.iconst 1, 1) := by decide +kernel
theorem dX6_canMeasure_2 : decode cX6_canMeasure 2 = .ok (.bipush 40, 2) := by decide +kernel
theorem dX6_canMeasure_4 : decode cX6_canMeasure 4 = .ok (.invokestatic 40, 3) := by decide +kernel
theorem dX6_canMeasure_7 : decode cX6_canMeasure 7 = .ok (.aload_n 0, 1) := by decide +kernel
theorem dX6_canMeasure_8 : decode cX6_canMeasure 8 = .ok (.getfield 22, 3) := by decide +kernel
theorem dX6_canMeasure_11 : decode cX6_canMeasure 11 = .ok (.iload_n 1, 1) := by decide +kernel
theorem dX6_canMeasure_12 : decode cX6_canMeasure 12 = .ok (.invokevirtual 211, 3) := by decide +kernel
theorem dX6_canMeasure_15 : decode cX6_canMeasure 15 = .ok (.ireturn, 1) := by decide +kernel
set_option maxRecDepth 20000 in
theorem ggX6_fewestTurns_X6_requireMeasurable : GoodIn wsX6_fewestTurns wsX6_requireMeasurable := goodIn_ca (goodIn_ca (goodIn_r _ [6, 7, 8, 1, 9, 10, 5, 11, 12, 13, 14, 15, 16, 17, 18, 19, 20, 21, 22, 23, 24, 25, 26, 27, 28, 29, 30, 31, 32, 33, 35, 36, 37, 38, 39, 40, 41, 42, 43, 44, 45, 46, 47, 48, 49, 50, 51, 52, 53, 54] (by decide +kernel) (by decide +kernel)) (goodIn_sub (fun _ h => List.mem_cons_of_mem _ (List.mem_append_left _ (List.mem_append_right _ h))) (by decide +kernel))) (goodIn_sub (fun _ h => List.mem_cons_of_mem _ (List.mem_append_right _ h)) (by decide +kernel))
set_option maxRecDepth 20000 in
theorem gX6_fewestTurns_X6_requireMeasurable : GoodIn wsX6_fewestTurns (wsV RX6 215 RX6 yX6_requireMeasurable wsX6_requireMeasurable) := goodIn_app (goodIn_of _ (by decide +kernel)) ggX6_fewestTurns_X6_requireMeasurable
set_option maxRecDepth 20000 in
theorem ggX6_fewestTurns_X2_turnsFor : GoodIn wsX6_fewestTurns wsX2_turnsFor := goodIn_r _ [22, 23, 24, 25, 17, 26, 27, 28, 29, 30, 31, 32, 33, 42, 43, 44, 45, 46, 47, 48, 49, 50, 51, 52, 53, 54] (by decide +kernel) (by decide +kernel)
set_option maxRecDepth 20000 in
theorem gX6_fewestTurns_X2_turnsFor : GoodIn wsX6_fewestTurns (wsV RX6 218 RX2 yX2_turnsFor wsX2_turnsFor) := goodIn_app (goodIn_of _ (by decide +kernel)) ggX6_fewestTurns_X2_turnsFor
theorem dX6_fewestTurns_0 : decode cX6_fewestTurns 0 = .ok (.aload_n 0, 1) := by decide +kernel
theorem dX6_fewestTurns_1 : decode cX6_fewestTurns 1 = .ok (.iload_n 1, 1) := by decide +kernel
theorem dX6_fewestTurns_2 : decode cX6_fewestTurns 2 = .ok (.invokevirtual 215, 3) := by decide +kernel
theorem dX6_fewestTurns_5 : decode cX6_fewestTurns 5 = .ok (.aload_n 0, 1) := by decide +kernel
theorem dX6_fewestTurns_6 : decode cX6_fewestTurns 6 = .ok (.getfield 22, 3) := by decide +kernel
theorem dX6_fewestTurns_9 : decode cX6_fewestTurns 9 = .ok (.iload_n 1, 1) := by decide +kernel
theorem dX6_fewestTurns_10 : decode cX6_fewestTurns 10 = .ok (.invokevirtual 218, 3) := by decide +kernel
theorem dX6_fewestTurns_13 : decode cX6_fewestTurns 13 = .ok (.ireturn, 1) := by decide +kernel
set_option maxRecDepth 20000 in
theorem ggX6_decisions_X6_requireMeasurable : GoodIn wsX6_decisions wsX6_requireMeasurable := goodIn_ca (goodIn_ca (goodIn_r _ [6, 7, 8, 1, 9, 10, 5, 11, 12, 13, 14, 15, 16, 17, 18, 19, 20, 21, 22, 23, 24, 25, 26, 27, 28, 29, 30, 31, 32, 33, 63, 64, 65, 66, 67, 68, 69, 70, 71, 72, 73, 74, 75, 76, 77, 78, 79, 80, 81, 82] (by decide +kernel) (by decide +kernel)) (goodIn_sub (fun _ h => List.mem_cons_of_mem _ (List.mem_append_left _ (List.mem_append_right _ h))) (by decide +kernel))) (goodIn_sub (fun _ h => List.mem_cons_of_mem _ (List.mem_append_right _ h)) (by decide +kernel))
set_option maxRecDepth 20000 in
theorem gX6_decisions_X6_requireMeasurable : GoodIn wsX6_decisions (wsV RX6 215 RX6 yX6_requireMeasurable wsX6_requireMeasurable) := goodIn_app (goodIn_of _ (by decide +kernel)) ggX6_decisions_X6_requireMeasurable
set_option maxRecDepth 20000 in
theorem ggX6_decisions_X2_plan : GoodIn wsX6_decisions wsX2_plan := goodIn_r _ [37, 38, 39, 40, 41, 42, 43, 44, 45, 17, 46, 47, 48, 49, 50, 51, 28, 29, 30, 31, 32, 33, 52, 53, 54, 55, 56, 57, 58, 23, 24, 25, 26, 27, 59, 60, 61, 62, 70, 71, 72, 73, 74, 75, 76, 77, 78, 79, 80, 81, 82] (by decide +kernel) (by decide +kernel)
set_option maxRecDepth 20000 in
theorem gX6_decisions_X2_plan : GoodIn wsX6_decisions (wsV RX6 221 RX2 yX2_plan wsX2_plan) := goodIn_app (goodIn_of _ (by decide +kernel)) ggX6_decisions_X2_plan
theorem dX6_decisions_0 : decode cX6_decisions 0 = .ok (.aload_n 0, 1) := by decide +kernel
theorem dX6_decisions_1 : decode cX6_decisions 1 = .ok (.iload_n 1, 1) := by decide +kernel
theorem dX6_decisions_2 : decode cX6_decisions 2 = .ok (.invokevirtual 215, 3) := by decide +kernel
theorem dX6_decisions_5 : decode cX6_decisions 5 = .ok (.aload_n 0, 1) := by decide +kernel
theorem dX6_decisions_6 : decode cX6_decisions 6 = .ok (.getfield 22, 3) := by decide +kernel
theorem dX6_decisions_9 : decode cX6_decisions 9 = .ok (.iload_n 1, 1) := by decide +kernel
theorem dX6_decisions_10 : decode cX6_decisions 10 = .ok (.invokevirtual 221, 3) := by decide +kernel
theorem dX6_decisions_13 : decode cX6_decisions 13 = .ok (.aload_n 0, 1) := by decide +kernel
theorem dX6_decisions_14 : decode cX6_decisions 14 = .ok (.getfield 22, 3) := by decide +kernel
theorem dX6_decisions_17 : decode cX6_decisions 17 = .ok (.getfield 224, 3) := by decide +kernel
theorem dX6_decisions_20 : decode cX6_decisions 20 = .ok (.ireturn, 1) := by decide +kernel
set_option maxRecDepth 20000 in
theorem ggX6_turnedAt_X6_requireDecision : GoodIn wsX6_turnedAt wsX6_requireDecision := goodIn_ca (goodIn_ca (goodIn_r _ [6, 7, 8, 1, 9, 10, 11, 5, 12, 13, 14, 15, 16, 17, 18, 19, 20, 21, 22, 23, 24, 25, 26, 27, 28, 29, 30, 31, 32, 33, 34, 35, 36, 37, 38, 39, 40, 41, 42, 43, 44, 45, 46, 47, 48, 49, 50, 51, 52, 53, 54, 55, 56, 57, 58, 59, 60, 61, 62, 63, 64, 65, 66, 68, 69, 70, 71, 72, 73, 74, 75, 76, 77, 78, 79, 80, 81, 82, 83, 84, 85, 86, 87] (by decide +kernel) (by decide +kernel)) (goodIn_sub (fun _ h => List.mem_cons_of_mem _ (List.mem_append_left _ (List.mem_append_right _ h))) (by decide +kernel))) (goodIn_sub (fun _ h => List.mem_cons_of_mem _ (List.mem_append_right _ h)) (by decide +kernel))
set_option maxRecDepth 20000 in
theorem gX6_turnedAt_X6_requireDecision : GoodIn wsX6_turnedAt (wsV RX6 227 RX6 yX6_requireDecision wsX6_requireDecision) := goodIn_app (goodIn_of _ (by decide +kernel)) ggX6_turnedAt_X6_requireDecision
set_option maxRecDepth 20000 in
theorem ggX6_turnedAt_X3_get : GoodIn wsX6_turnedAt wsX3_get := goodIn_r _ [36, 37, 87] (by decide +kernel) (by decide +kernel)
set_option maxRecDepth 20000 in
theorem gX6_turnedAt_X3_get : GoodIn wsX6_turnedAt (wsV RX6 185 RX3 yX3_get wsX3_get) := goodIn_app (goodIn_of _ (by decide +kernel)) ggX6_turnedAt_X3_get
theorem dX6_turnedAt_0 : decode cX6_turnedAt 0 = .ok (.aload_n 0, 1) := by decide +kernel
theorem dX6_turnedAt_1 : decode cX6_turnedAt 1 = .ok (.iload_n 1, 1) := by decide +kernel
theorem dX6_turnedAt_2 : decode cX6_turnedAt 2 = .ok (.iload_n 2, 1) := by decide +kernel
theorem dX6_turnedAt_3 : decode cX6_turnedAt 3 = .ok (.invokevirtual 227, 3) := by decide +kernel
theorem dX6_turnedAt_6 : decode cX6_turnedAt 6 = .ok (.aload_n 0, 1) := by decide +kernel
theorem dX6_turnedAt_7 : decode cX6_turnedAt 7 = .ok (.getfield 22, 3) := by decide +kernel
theorem dX6_turnedAt_10 : decode cX6_turnedAt 10 = .ok (.getfield 230, 3) := by decide +kernel
theorem dX6_turnedAt_13 : decode cX6_turnedAt 13 = .ok (.iload_n 2, 1) := by decide +kernel
theorem dX6_turnedAt_14 : decode cX6_turnedAt 14 = .ok (.invokevirtual 185, 3) := by decide +kernel
theorem dX6_turnedAt_17 : decode cX6_turnedAt 17 = .ok (.ireturn, 1) := by decide +kernel
set_option maxRecDepth 20000 in
theorem ggX6_minuteAt_X6_requireDecision : GoodIn wsX6_minuteAt wsX6_requireDecision := goodIn_ca (goodIn_ca (goodIn_r _ [6, 7, 8, 1, 9, 10, 11, 5, 12, 13, 14, 15, 16, 17, 18, 19, 20, 21, 22, 23, 24, 25, 26, 27, 28, 29, 30, 31, 32, 33, 34, 35, 36, 37, 38, 39, 40, 41, 42, 43, 44, 45, 46, 47, 48, 49, 50, 51, 52, 53, 54, 55, 56, 57, 58, 59, 60, 61, 62, 63, 64, 65, 66, 68, 69, 70, 71, 72, 73, 74, 75, 76, 77, 78, 79, 80, 81, 82, 83, 84, 85, 86, 87] (by decide +kernel) (by decide +kernel)) (goodIn_sub (fun _ h => List.mem_cons_of_mem _ (List.mem_append_left _ (List.mem_append_right _ h))) (by decide +kernel))) (goodIn_sub (fun _ h => List.mem_cons_of_mem _ (List.mem_append_right _ h)) (by decide +kernel))
set_option maxRecDepth 20000 in
theorem gX6_minuteAt_X6_requireDecision : GoodIn wsX6_minuteAt (wsV RX6 227 RX6 yX6_requireDecision wsX6_requireDecision) := goodIn_app (goodIn_of _ (by decide +kernel)) ggX6_minuteAt_X6_requireDecision
set_option maxRecDepth 20000 in
theorem ggX6_minuteAt_X3_get : GoodIn wsX6_minuteAt wsX3_get := goodIn_r _ [36, 37, 87] (by decide +kernel) (by decide +kernel)
set_option maxRecDepth 20000 in
theorem gX6_minuteAt_X3_get : GoodIn wsX6_minuteAt (wsV RX6 185 RX3 yX3_get wsX3_get) := goodIn_app (goodIn_of _ (by decide +kernel)) ggX6_minuteAt_X3_get
theorem dX6_minuteAt_0 : decode cX6_minuteAt 0 = .ok (.aload_n 0, 1) := by decide +kernel
theorem dX6_minuteAt_1 : decode cX6_minuteAt 1 = .ok (.iload_n 1, 1) := by decide +kernel
theorem dX6_minuteAt_2 : decode cX6_minuteAt 2 = .ok (.iload_n 2, 1) := by decide +kernel
theorem dX6_minuteAt_3 : decode cX6_minuteAt 3 = .ok (.invokevirtual 227, 3) := by decide +kernel
theorem dX6_minuteAt_6 : decode cX6_minuteAt 6 = .ok (.aload_n 0, 1) := by decide +kernel
theorem dX6_minuteAt_7 : decode cX6_minuteAt 7 = .ok (.getfield 22, 3) := by decide +kernel
theorem dX6_minuteAt_10 : decode cX6_minuteAt 10 = .ok (.getfield 233, 3) := by decide +kernel
theorem dX6_minuteAt_13 : decode cX6_minuteAt 13 = .ok (.iload_n 2, 1) := by decide +kernel
theorem dX6_minuteAt_14 : decode cX6_minuteAt 14 = .ok (.invokevirtual 185, 3) := by decide +kernel
theorem dX6_minuteAt_17 : decode cX6_minuteAt 17 = .ok (.ireturn, 1) := by decide +kernel
set_option maxRecDepth 20000 in
theorem ggX6_measurable_X6_requireRange : GoodIn wsX6_measurable wsX6_requireRange := goodIn_ca (goodIn_r _ [5, 6, 7] (by decide +kernel) (by decide +kernel)) (goodIn_sub (fun _ h => List.mem_cons_of_mem _ (List.mem_append_right _ h)) (by decide +kernel))
set_option maxRecDepth 20000 in
theorem gX6_measurable_X6_requireRange : GoodIn wsX6_measurable (va_wsS RX6 40 yX6_requireRange wsX6_requireRange) := goodIn_app (goodIn_of _ (by decide +kernel)) ggX6_measurable_X6_requireRange
set_option maxRecDepth 20000 in
theorem ggX6_measurable_X2_reaches : GoodIn wsX6_measurable wsX2_reaches := goodIn_r _ [12, 13, 14, 15, 11, 16, 17, 18, 19, 20, 21, 22, 23, 24, 25, 26, 27, 35, 36, 37, 38, 39, 40, 41, 42, 43, 44, 45, 46, 47] (by decide +kernel) (by decide +kernel)
set_option maxRecDepth 20000 in
theorem gX6_measurable_X2_reaches : GoodIn wsX6_measurable (wsV RX6 211 RX2 yX2_reaches wsX2_reaches) := goodIn_app (goodIn_of _ (by decide +kernel)) ggX6_measurable_X2_reaches
theorem dX6_measurable_0 : decode cX6_measurable 0 = .ok (.iload_n 1, 1) := by decide +kernel
theorem dX6_measurable_1 : decode cX6_measurable 1 = .ok (.iconst 1, 1) := by decide +kernel
theorem dX6_measurable_2 : decode cX6_measurable 2 = .ok (.bipush 40, 2) := by decide +kernel
theorem dX6_measurable_4 : decode cX6_measurable 4 = .ok (.invokestatic 40, 3) := by decide +kernel
theorem dX6_measurable_7 : decode cX6_measurable 7 = .ok (.iconst 0, 1) := by decide +kernel
theorem dX6_measurable_8 : decode cX6_measurable 8 = .ok (.istore_n 2, 1) := by decide +kernel
theorem dX6_measurable_9 : decode cX6_measurable 9 = .ok (.iconst 1, 1) := by decide +kernel
theorem dX6_measurable_10 : decode cX6_measurable 10 = .ok (.istore_n 3, 1) := by decide +kernel
theorem dX6_measurable_11 : decode cX6_measurable 11 = .ok (.iload_n 3, 1) := by decide +kernel
theorem dX6_measurable_12 : decode cX6_measurable 12 = .ok (.iload_n 1, 1) := by decide +kernel
theorem dX6_measurable_13 : decode cX6_measurable 13 = .ok (.if_icmp .gt 23, 3) := by decide +kernel
theorem dX6_measurable_16 : decode cX6_measurable 16 = .ok (.aload_n 0, 1) := by decide +kernel
theorem dX6_measurable_17 : decode cX6_measurable 17 = .ok (.getfield 22, 3) := by decide +kernel
theorem dX6_measurable_20 : decode cX6_measurable 20 = .ok (.iload_n 3, 1) := by decide +kernel
theorem dX6_measurable_21 : decode cX6_measurable 21 = .ok (.invokevirtual 211, 3) := by decide +kernel
theorem dX6_measurable_24 : decode cX6_measurable 24 = .ok (.ifCond .eq 6, 3) := by decide +kernel
theorem dX6_measurable_27 : decode cX6_measurable 27 = .ok (.iinc 2 1, 3) := by decide +kernel
theorem dX6_measurable_30 : decode cX6_measurable 30 = .ok (.iinc 3 1, 3) := by decide +kernel
theorem dX6_measurable_33 : decode cX6_measurable 33 = .ok (.goto (-22), 3) := by decide +kernel
theorem dX6_measurable_36 : decode cX6_measurable 36 = .ok (.iload_n 2, 1) := by decide +kernel
theorem dX6_measurable_37 : decode cX6_measurable 37 = .ok (.ireturn, 1) := by decide +kernel
set_option maxRecDepth 20000 in
theorem ggX6_canStretch_X6_requireRange : GoodIn wsX6_canStretch wsX6_requireRange := goodIn_ca (goodIn_r _ [5, 6, 7] (by decide +kernel) (by decide +kernel)) (goodIn_sub (fun _ h => List.mem_cons_of_mem _ (List.mem_append_right _ h)) (by decide +kernel))
set_option maxRecDepth 20000 in
theorem gX6_canStretch_X6_requireRange : GoodIn wsX6_canStretch (va_wsS RX6 40 yX6_requireRange wsX6_requireRange) := goodIn_app (goodIn_of _ (by decide +kernel)) ggX6_canStretch_X6_requireRange
set_option maxRecDepth 20000 in
theorem ggX6_canStretch_X2_stretches : GoodIn wsX6_canStretch wsX2_stretches := goodIn_r _ [12, 13, 14, 15, 16, 11, 17, 18, 19, 20, 21, 22, 23, 24, 32, 33, 34, 35, 36, 37, 38, 39, 40, 41, 42, 43, 44] (by decide +kernel) (by decide +kernel)
set_option maxRecDepth 20000 in
theorem gX6_canStretch_X2_stretches : GoodIn wsX6_canStretch (wsV RX6 236 RX2 yX2_stretches wsX2_stretches) := goodIn_app (goodIn_of _ (by decide +kernel)) ggX6_canStretch_X2_stretches
theorem dX6_canStretch_0 : decode cX6_canStretch 0 = .ok (.iload_n 1, 1) := by decide +kernel
theorem dX6_canStretch_1 : decode cX6_canStretch 1 = .ok (.iconst 1, 1) := by decide +kernel
theorem dX6_canStretch_2 : decode cX6_canStretch 2 = .ok (.bipush 40, 2) := by decide +kernel
theorem dX6_canStretch_4 : decode cX6_canStretch 4 = .ok (.invokestatic 40, 3) := by decide +kernel
theorem dX6_canStretch_7 : decode cX6_canStretch 7 = .ok (.aload_n 0, 1) := by decide +kernel
theorem dX6_canStretch_8 : decode cX6_canStretch 8 = .ok (.getfield 22, 3) := by decide +kernel
theorem dX6_canStretch_11 : decode cX6_canStretch 11 = .ok (.iload_n 1, 1) := by decide +kernel
theorem dX6_canStretch_12 : decode cX6_canStretch 12 = .ok (.invokevirtual 236, 3) := by decide +kernel
theorem dX6_canStretch_15 : decode cX6_canStretch 15 = .ok (.ireturn, 1) := by decide +kernel
set_option maxRecDepth 20000 in
theorem ggX6_divisor_X2_commonDivisor : GoodIn wsX6_divisor wsX2_commonDivisor := goodIn_r _ [6, 7, 8, 9, 10, 5, 11, 12, 13, 14, 15, 16, 17, 18, 26, 27, 28, 29, 30, 31, 32, 33, 34, 35, 36, 37, 38] (by decide +kernel) (by decide +kernel)
set_option maxRecDepth 20000 in
theorem gX6_divisor_X2_commonDivisor : GoodIn wsX6_divisor (wsV RX6 239 RX2 yX2_commonDivisor wsX2_commonDivisor) := goodIn_app (goodIn_of _ (by decide +kernel)) ggX6_divisor_X2_commonDivisor
theorem dX6_divisor_0 : decode cX6_divisor 0 = .ok (.aload_n 0, 1) := by decide +kernel
theorem dX6_divisor_1 : decode cX6_divisor 1 = .ok (.getfield 22, 3) := by decide +kernel
theorem dX6_divisor_4 : decode cX6_divisor 4 = .ok (.invokevirtual 239, 3) := by decide +kernel
theorem dX6_divisor_7 : decode cX6_divisor 7 = .ok (.ireturn, 1) := by decide +kernel
set_option maxRecDepth 20000 in
theorem ggX6_setShip_X6_requireGlass : GoodIn wsX6_setShip wsX6_requireGlass := goodIn_ca (goodIn_r _ [6, 7, 8, 9, 10, 11, 5, 12, 13, 14, 15, 16, 17, 18, 19, 20, 21, 22, 23, 24, 25, 26, 30, 31, 32] (by decide +kernel) (by decide +kernel)) (goodIn_sub (fun _ h => List.mem_cons_of_mem _ (List.mem_append_right _ h)) (by decide +kernel))
set_option maxRecDepth 20000 in
theorem gX6_setShip_X6_requireGlass : GoodIn wsX6_setShip (wsV RX6 129 RX6 yX6_requireGlass wsX6_requireGlass) := goodIn_app (goodIn_of _ (by decide +kernel)) ggX6_setShip_X6_requireGlass
theorem dX6_setShip_0 : decode cX6_setShip 0 = .ok (.aload_n 0, 1) := by decide +kernel
theorem dX6_setShip_1 : decode cX6_setShip 1 = .ok (.iload_n 1, 1) := by decide +kernel
theorem dX6_setShip_2 : decode cX6_setShip 2 = .ok (.invokevirtual 129, 3) := by decide +kernel
theorem dX6_setShip_5 : decode cX6_setShip 5 = .ok (.aload_n 0, 1) := by decide +kernel
theorem dX6_setShip_6 : decode cX6_setShip 6 = .ok (.getfield 32, 3) := by decide +kernel
theorem dX6_setShip_9 : decode cX6_setShip 9 = .ok (.getfield 242, 3) := by decide +kernel
theorem dX6_setShip_12 : decode cX6_setShip 12 = .ok (.istore_n 2, 1) := by decide +kernel
theorem dX6_setShip_13 : decode cX6_setShip 13 = .ok (.aload_n 0, 1) := by decide +kernel
theorem dX6_setShip_14 : decode cX6_setShip 14 = .ok (.getfield 32, 3) := by decide +kernel
theorem dX6_setShip_17 : decode cX6_setShip 17 = .ok (.iload_n 1, 1) := by decide +kernel
theorem dX6_setShip_18 : decode cX6_setShip 18 = .ok (.putfield 242, 3) := by decide +kernel
theorem dX6_setShip_21 : decode cX6_setShip 21 = .ok (.iload_n 2, 1) := by decide +kernel
theorem dX6_setShip_22 : decode cX6_setShip 22 = .ok (.ireturn, 1) := by decide +kernel
set_option maxRecDepth 20000 in
theorem ggX6_boy_X6_hasGlass : GoodIn wsX6_boy wsX6_hasGlass := goodIn_r _ [11, 4, 12, 13, 14, 15, 16, 17, 46, 47, 48, 49, 50, 51, 52, 56, 57, 58] (by decide +kernel) (by decide +kernel)
set_option maxRecDepth 20000 in
theorem gX6_boy_X6_hasGlass : GoodIn wsX6_boy (wsV RX6 245 RX6 yX6_hasGlass wsX6_hasGlass) := goodIn_app (goodIn_of _ (by decide +kernel)) ggX6_boy_X6_hasGlass
set_option maxRecDepth 20000 in
theorem ggX6_boy_Jx4a65c_get_915e3 : GoodIn wsX6_boy wsJx4a65c_get_915e3 := goodIn_r _ [21, 17, 22, 23, 24, 25, 26, 27, 28, 29, 30, 31, 32, 15, 33, 34, 56, 57, 58] (by decide +kernel) (by decide +kernel)
set_option maxRecDepth 20000 in
theorem gX6_boy_Jx4a65c_get_915e3 : GoodIn wsX6_boy (wsV RX6 138 RJx4a65c yJx4a65c_get_915e3 wsJx4a65c_get_915e3) := goodIn_app (goodIn_of _ (by decide +kernel)) ggX6_boy_Jx4a65c_get_915e3
set_option maxRecDepth 20000 in
theorem ggX6_boy_X1_flip : GoodIn wsX6_boy wsX1_flip := goodIn_r _ [39, 40, 41, 42, 43, 44, 45, 59, 60, 61, 62, 63, 64, 65, 66, 67, 68, 69, 70, 71, 72] (by decide +kernel) (by decide +kernel)
set_option maxRecDepth 20000 in
theorem gX6_boy_X1_flip : GoodIn wsX6_boy (wsV RX6 81 RX1 yX1_flip wsX1_flip) := goodIn_app (goodIn_of _ (by decide +kernel)) ggX6_boy_X1_flip
theorem dX6_boy_0 : decode cX6_boy 0 = .ok (.aload_n 0, 1) := by decide +kernel
theorem dX6_boy_1 : decode cX6_boy 1 = .ok (.aload_n 0, 1) := by decide +kernel
theorem dX6_boy_2 : decode cX6_boy 2 = .ok (.getfield 32, 3) := by decide +kernel
theorem dX6_boy_5 : decode cX6_boy 5 = .ok (.getfield 242, 3) := by decide +kernel
theorem dX6_boy_8 : decode cX6_boy 8 = .ok (.invokevirtual 245, 3) := by decide +kernel
theorem dX6_boy_11 : decode cX6_boy 11 = .ok (.ifCond .ne 13, 3) := by decide +kernel
theorem dX6_boy_14 : decode cX6_boy 14 = .ok (.new 121, 3) := by decide +kernel
theorem dX6_boy_17 : decode cX6_boy 17 = .ok (.dup, 1) := by decide +kernel
theorem dX6_boy_18 : decode cX6_boy 18 = .ok (.ldc 248, 2) := by decide +kernel
theorem dX6_boy_20 : decode cX6_boy 20 = .ok (.invokespecial 125, 3) := by decide +kernel
theorem dX6_boy_23 : decode cX6_boy 23 = .ok (.athrow, 1) := by decide +kernel
theorem dX6_boy_24 : decode cX6_boy 24 = .ok (.aload_n 0, 1) := by decide +kernel
theorem dX6_boy_25 : decode cX6_boy 25 = .ok (.getfield 12, 3) := by decide +kernel
theorem dX6_boy_28 : decode cX6_boy 28 = .ok (.aload_n 0, 1) := by decide +kernel
theorem dX6_boy_29 : decode cX6_boy 29 = .ok (.getfield 32, 3) := by decide +kernel
theorem dX6_boy_32 : decode cX6_boy 32 = .ok (.getfield 242, 3) := by decide +kernel
theorem dX6_boy_35 : decode cX6_boy 35 = .ok (.invokevirtual 138, 3) := by decide +kernel
theorem dX6_boy_38 : decode cX6_boy 38 = .ok (.checkcast 52, 3) := by decide +kernel
theorem dX6_boy_41 : decode cX6_boy 41 = .ok (.aload_n 0, 1) := by decide +kernel
theorem dX6_boy_42 : decode cX6_boy 42 = .ok (.getfield 78, 3) := by decide +kernel
theorem dX6_boy_45 : decode cX6_boy 45 = .ok (.invokevirtual 81, 3) := by decide +kernel
theorem dX6_boy_48 : decode cX6_boy 48 = .ok (.aload_n 0, 1) := by decide +kernel
theorem dX6_boy_49 : decode cX6_boy 49 = .ok (.getfield 32, 3) := by decide +kernel
theorem dX6_boy_52 : decode cX6_boy 52 = .ok (.dup, 1) := by decide +kernel
theorem dX6_boy_53 : decode cX6_boy 53 = .ok (.getfield 250, 3) := by decide +kernel
theorem dX6_boy_56 : decode cX6_boy 56 = .ok (.iconst 1, 1) := by decide +kernel
theorem dX6_boy_57 : decode cX6_boy 57 = .ok (.iadd, 1) := by decide +kernel
theorem dX6_boy_58 : decode cX6_boy 58 = .ok (.putfield 250, 3) := by decide +kernel
theorem dX6_boy_61 : decode cX6_boy 61 = .ok (.aload_n 0, 1) := by decide +kernel
theorem dX6_boy_62 : decode cX6_boy 62 = .ok (.getfield 32, 3) := by decide +kernel
theorem dX6_boy_65 : decode cX6_boy 65 = .ok (.getfield 250, 3) := by decide +kernel
theorem dX6_boy_68 : decode cX6_boy 68 = .ok (.ireturn, 1) := by decide +kernel
theorem dX6_noon_0 : decode cX6_noon 0 = .ok (.aload_n 0, 1) := by decide +kernel
theorem dX6_noon_1 : decode cX6_noon 1 = .ok (.getfield 32, 3) := by decide +kernel
theorem dX6_noon_4 : decode cX6_noon 4 = .ok (.getfield 250, 3) := by decide +kernel
theorem dX6_noon_7 : decode cX6_noon 7 = .ok (.istore_n 1, 1) := by decide +kernel
theorem dX6_noon_8 : decode cX6_noon 8 = .ok (.aload_n 0, 1) := by decide +kernel
theorem dX6_noon_9 : decode cX6_noon 9 = .ok (.getfield 32, 3) := by decide +kernel
theorem dX6_noon_12 : decode cX6_noon 12 = .ok (.iconst 0, 1) := by decide +kernel
theorem dX6_noon_13 : decode cX6_noon 13 = .ok (.putfield 250, 3) := by decide +kernel
theorem dX6_noon_16 : decode cX6_noon 16 = .ok (.aload_n 0, 1) := by decide +kernel
theorem dX6_noon_17 : decode cX6_noon 17 = .ok (.getfield 32, 3) := by decide +kernel
theorem dX6_noon_20 : decode cX6_noon 20 = .ok (.aload_n 0, 1) := by decide +kernel
theorem dX6_noon_21 : decode cX6_noon 21 = .ok (.getfield 78, 3) := by decide +kernel
theorem dX6_noon_24 : decode cX6_noon 24 = .ok (.putfield 253, 3) := by decide +kernel
theorem dX6_noon_27 : decode cX6_noon 27 = .ok (.iload_n 1, 1) := by decide +kernel
theorem dX6_noon_28 : decode cX6_noon 28 = .ok (.ireturn, 1) := by decide +kernel
theorem dX6_bells_0 : decode cX6_bells 0 = .ok (.aload_n 0, 1) := by decide +kernel
theorem dX6_bells_1 : decode cX6_bells 1 = .ok (.getfield 32, 3) := by decide +kernel
theorem dX6_bells_4 : decode cX6_bells 4 = .ok (.getfield 250, 3) := by decide +kernel
theorem dX6_bells_7 : decode cX6_bells 7 = .ok (.ifCond .ne 7, 3) := by decide +kernel
theorem dX6_bells_10 : decode cX6_bells 10 = .ok (.iconst 0, 1) := by decide +kernel
theorem dX6_bells_11 : decode cX6_bells 11 = .ok (.goto 17, 3) := by decide +kernel
theorem dX6_bells_14 : decode cX6_bells 14 = .ok (.aload_n 0, 1) := by decide +kernel
theorem dX6_bells_15 : decode cX6_bells 15 = .ok (.getfield 32, 3) := by decide +kernel
theorem dX6_bells_18 : decode cX6_bells 18 = .ok (.getfield 250, 3) := by decide +kernel
theorem dX6_bells_21 : decode cX6_bells 21 = .ok (.iconst 1, 1) := by decide +kernel
theorem dX6_bells_22 : decode cX6_bells 22 = .ok (.isub, 1) := by decide +kernel
theorem dX6_bells_23 : decode cX6_bells 23 = .ok (.bipush 8, 2) := by decide +kernel
theorem dX6_bells_25 : decode cX6_bells 25 = .ok (.irem, 1) := by decide +kernel
theorem dX6_bells_26 : decode cX6_bells 26 = .ok (.iconst 1, 1) := by decide +kernel
theorem dX6_bells_27 : decode cX6_bells 27 = .ok (.iadd, 1) := by decide +kernel
theorem dX6_bells_28 : decode cX6_bells 28 = .ok (.ireturn, 1) := by decide +kernel
theorem dX6_watch_0 : decode cX6_watch 0 = .ok (.aload_n 0, 1) := by decide +kernel
theorem dX6_watch_1 : decode cX6_watch 1 = .ok (.getfield 32, 3) := by decide +kernel
theorem dX6_watch_4 : decode cX6_watch 4 = .ok (.getfield 250, 3) := by decide +kernel
theorem dX6_watch_7 : decode cX6_watch 7 = .ok (.bipush 8, 2) := by decide +kernel
theorem dX6_watch_9 : decode cX6_watch 9 = .ok (.idiv, 1) := by decide +kernel
theorem dX6_watch_10 : decode cX6_watch 10 = .ok (.bipush 6, 2) := by decide +kernel
theorem dX6_watch_12 : decode cX6_watch 12 = .ok (.irem, 1) := by decide +kernel
theorem dX6_watch_13 : decode cX6_watch 13 = .ok (.ireturn, 1) := by decide +kernel
theorem dX6_wrongBy_0 : decode cX6_wrongBy 0 = .ok (.sipush 1800, 3) := by decide +kernel
theorem dX6_wrongBy_3 : decode cX6_wrongBy 3 = .ok (.aload_n 0, 1) := by decide +kernel
theorem dX6_wrongBy_4 : decode cX6_wrongBy 4 = .ok (.getfield 32, 3) := by decide +kernel
theorem dX6_wrongBy_7 : decode cX6_wrongBy 7 = .ok (.getfield 250, 3) := by decide +kernel
theorem dX6_wrongBy_10 : decode cX6_wrongBy 10 = .ok (.imul, 1) := by decide +kernel
theorem dX6_wrongBy_11 : decode cX6_wrongBy 11 = .ok (.aload_n 0, 1) := by decide +kernel
theorem dX6_wrongBy_12 : decode cX6_wrongBy 12 = .ok (.getfield 78, 3) := by decide +kernel
theorem dX6_wrongBy_15 : decode cX6_wrongBy 15 = .ok (.aload_n 0, 1) := by decide +kernel
theorem dX6_wrongBy_16 : decode cX6_wrongBy 16 = .ok (.getfield 32, 3) := by decide +kernel
theorem dX6_wrongBy_19 : decode cX6_wrongBy 19 = .ok (.getfield 253, 3) := by decide +kernel
theorem dX6_wrongBy_22 : decode cX6_wrongBy 22 = .ok (.isub, 1) := by decide +kernel
theorem dX6_wrongBy_23 : decode cX6_wrongBy 23 = .ok (.isub, 1) := by decide +kernel
theorem dX6_wrongBy_24 : decode cX6_wrongBy 24 = .ok (.ireturn, 1) := by decide +kernel
set_option maxRecDepth 20000 in
theorem ggX6_checksum_Jx4a65c_size_8abf5 : GoodIn wsX6_checksum wsJx4a65c_size_8abf5 := goodIn_r _ [13, 14, 59, 60, 61] (by decide +kernel) (by decide +kernel)
set_option maxRecDepth 20000 in
theorem gX6_checksum_Jx4a65c_size_8abf5 : GoodIn wsX6_checksum (wsV RX6 44 RJx4a65c yJx4a65c_size_8abf5 wsJx4a65c_size_8abf5) := goodIn_app (goodIn_of _ (by decide +kernel)) ggX6_checksum_Jx4a65c_size_8abf5
set_option maxRecDepth 20000 in
theorem ggX6_checksum_Jx4a65c_get_915e3 : GoodIn wsX6_checksum wsJx4a65c_get_915e3 := goodIn_r _ [18, 14, 19, 20, 21, 22, 23, 24, 25, 26, 27, 28, 29, 12, 30, 31, 59, 60, 61] (by decide +kernel) (by decide +kernel)
set_option maxRecDepth 20000 in
theorem gX6_checksum_Jx4a65c_get_915e3 : GoodIn wsX6_checksum (wsV RX6 138 RJx4a65c yJx4a65c_get_915e3 wsJx4a65c_get_915e3) := goodIn_app (goodIn_of _ (by decide +kernel)) ggX6_checksum_Jx4a65c_get_915e3
theorem dX6_checksum_0 : decode cX6_checksum 0 = .ok (.ldc2_w 256, 3) := by decide +kernel
theorem dX6_checksum_3 : decode cX6_checksum 3 = .ok (.lstore_n 1, 1) := by decide +kernel
theorem dX6_checksum_4 : decode cX6_checksum 4 = .ok (.iconst 0, 1) := by decide +kernel
theorem dX6_checksum_5 : decode cX6_checksum 5 = .ok (.istore_n 3, 1) := by decide +kernel
theorem dX6_checksum_6 : decode cX6_checksum 6 = .ok (.iload_n 3, 1) := by decide +kernel
theorem dX6_checksum_7 : decode cX6_checksum 7 = .ok (.aload_n 0, 1) := by decide +kernel
theorem dX6_checksum_8 : decode cX6_checksum 8 = .ok (.getfield 12, 3) := by decide +kernel
theorem dX6_checksum_11 : decode cX6_checksum 11 = .ok (.invokevirtual 44, 3) := by decide +kernel
theorem dX6_checksum_14 : decode cX6_checksum 14 = .ok (.if_icmp .ge 61, 3) := by decide +kernel
theorem dX6_checksum_17 : decode cX6_checksum 17 = .ok (.aload_n 0, 1) := by decide +kernel
theorem dX6_checksum_18 : decode cX6_checksum 18 = .ok (.getfield 12, 3) := by decide +kernel
theorem dX6_checksum_21 : decode cX6_checksum 21 = .ok (.iload_n 3, 1) := by decide +kernel
theorem dX6_checksum_22 : decode cX6_checksum 22 = .ok (.invokevirtual 138, 3) := by decide +kernel
theorem dX6_checksum_25 : decode cX6_checksum 25 = .ok (.checkcast 52, 3) := by decide +kernel
theorem dX6_checksum_28 : decode cX6_checksum 28 = .ok (.astore 4, 2) := by decide +kernel
theorem dX6_checksum_30 : decode cX6_checksum 30 = .ok (.ldc2_w 258, 3) := by decide +kernel
theorem dX6_checksum_33 : decode cX6_checksum 33 = .ok (.lload_n 1, 1) := by decide +kernel
theorem dX6_checksum_34 : decode cX6_checksum 34 = .ok (.lmul, 1) := by decide +kernel
theorem dX6_checksum_35 : decode cX6_checksum 35 = .ok (.aload 4, 2) := by decide +kernel
theorem dX6_checksum_37 : decode cX6_checksum 37 = .ok (.getfield 68, 3) := by decide +kernel
theorem dX6_checksum_40 : decode cX6_checksum 40 = .ok (.i2l, 1) := by decide +kernel
theorem dX6_checksum_41 : decode cX6_checksum 41 = .ok (.ladd, 1) := by decide +kernel
theorem dX6_checksum_42 : decode cX6_checksum 42 = .ok (.lstore_n 1, 1) := by decide +kernel
theorem dX6_checksum_43 : decode cX6_checksum 43 = .ok (.ldc2_w 258, 3) := by decide +kernel
theorem dX6_checksum_46 : decode cX6_checksum 46 = .ok (.lload_n 1, 1) := by decide +kernel
theorem dX6_checksum_47 : decode cX6_checksum 47 = .ok (.lmul, 1) := by decide +kernel
theorem dX6_checksum_48 : decode cX6_checksum 48 = .ok (.aload 4, 2) := by decide +kernel
theorem dX6_checksum_50 : decode cX6_checksum 50 = .ok (.getfield 71, 3) := by decide +kernel
theorem dX6_checksum_53 : decode cX6_checksum 53 = .ok (.i2l, 1) := by decide +kernel
theorem dX6_checksum_54 : decode cX6_checksum 54 = .ok (.ladd, 1) := by decide +kernel
theorem dX6_checksum_55 : decode cX6_checksum 55 = .ok (.lstore_n 1, 1) := by decide +kernel
theorem dX6_checksum_56 : decode cX6_checksum 56 = .ok (.ldc2_w 258, 3) := by decide +kernel
theorem dX6_checksum_59 : decode cX6_checksum 59 = .ok (.lload_n 1, 1) := by decide +kernel
theorem dX6_checksum_60 : decode cX6_checksum 60 = .ok (.lmul, 1) := by decide +kernel
theorem dX6_checksum_61 : decode cX6_checksum 61 = .ok (.aload 4, 2) := by decide +kernel
theorem dX6_checksum_63 : decode cX6_checksum 63 = .ok (.getfield 85, 3) := by decide +kernel
theorem dX6_checksum_66 : decode cX6_checksum 66 = .ok (.i2l, 1) := by decide +kernel
theorem dX6_checksum_67 : decode cX6_checksum 67 = .ok (.ladd, 1) := by decide +kernel
theorem dX6_checksum_68 : decode cX6_checksum 68 = .ok (.lstore_n 1, 1) := by decide +kernel
theorem dX6_checksum_69 : decode cX6_checksum 69 = .ok (.iinc 3 1, 3) := by decide +kernel
theorem dX6_checksum_72 : decode cX6_checksum 72 = .ok (.goto (-66), 3) := by decide +kernel
theorem dX6_checksum_75 : decode cX6_checksum 75 = .ok (.iconst 0, 1) := by decide +kernel
theorem dX6_checksum_76 : decode cX6_checksum 76 = .ok (.istore_n 3, 1) := by decide +kernel
theorem dX6_checksum_77 : decode cX6_checksum 77 = .ok (.iload_n 3, 1) := by decide +kernel
theorem dX6_checksum_78 : decode cX6_checksum 78 = .ok (.aload_n 0, 1) := by decide +kernel
theorem dX6_checksum_79 : decode cX6_checksum 79 = .ok (.getfield 16, 3) := by decide +kernel
theorem dX6_checksum_82 : decode cX6_checksum 82 = .ok (.invokevirtual 44, 3) := by decide +kernel
theorem dX6_checksum_85 : decode cX6_checksum 85 = .ok (.if_icmp .ge 48, 3) := by decide +kernel
theorem dX6_checksum_88 : decode cX6_checksum 88 = .ok (.aload_n 0, 1) := by decide +kernel
theorem dX6_checksum_89 : decode cX6_checksum 89 = .ok (.getfield 16, 3) := by decide +kernel
theorem dX6_checksum_92 : decode cX6_checksum 92 = .ok (.iload_n 3, 1) := by decide +kernel
theorem dX6_checksum_93 : decode cX6_checksum 93 = .ok (.invokevirtual 138, 3) := by decide +kernel
theorem dX6_checksum_96 : decode cX6_checksum 96 = .ok (.checkcast 160, 3) := by decide +kernel
theorem dX6_checksum_99 : decode cX6_checksum 99 = .ok (.astore 4, 2) := by decide +kernel
theorem dX6_checksum_101 : decode cX6_checksum 101 = .ok (.ldc2_w 258, 3) := by decide +kernel
theorem dX6_checksum_104 : decode cX6_checksum 104 = .ok (.lload_n 1, 1) := by decide +kernel
theorem dX6_checksum_105 : decode cX6_checksum 105 = .ok (.lmul, 1) := by decide +kernel
theorem dX6_checksum_106 : decode cX6_checksum 106 = .ok (.aload 4, 2) := by decide +kernel
theorem dX6_checksum_108 : decode cX6_checksum 108 = .ok (.getfield 159, 3) := by decide +kernel
theorem dX6_checksum_111 : decode cX6_checksum 111 = .ok (.i2l, 1) := by decide +kernel
theorem dX6_checksum_112 : decode cX6_checksum 112 = .ok (.ladd, 1) := by decide +kernel
theorem dX6_checksum_113 : decode cX6_checksum 113 = .ok (.lstore_n 1, 1) := by decide +kernel
theorem dX6_checksum_114 : decode cX6_checksum 114 = .ok (.ldc2_w 258, 3) := by decide +kernel
theorem dX6_checksum_117 : decode cX6_checksum 117 = .ok (.lload_n 1, 1) := by decide +kernel
theorem dX6_checksum_118 : decode cX6_checksum 118 = .ok (.lmul, 1) := by decide +kernel
theorem dX6_checksum_119 : decode cX6_checksum 119 = .ok (.aload 4, 2) := by decide +kernel
theorem dX6_checksum_121 : decode cX6_checksum 121 = .ok (.getfield 164, 3) := by decide +kernel
theorem dX6_checksum_124 : decode cX6_checksum 124 = .ok (.i2l, 1) := by decide +kernel
theorem dX6_checksum_125 : decode cX6_checksum 125 = .ok (.ladd, 1) := by decide +kernel
theorem dX6_checksum_126 : decode cX6_checksum 126 = .ok (.lstore_n 1, 1) := by decide +kernel
theorem dX6_checksum_127 : decode cX6_checksum 127 = .ok (.iinc 3 1, 3) := by decide +kernel
theorem dX6_checksum_130 : decode cX6_checksum 130 = .ok (.goto (-53), 3) := by decide +kernel
theorem dX6_checksum_133 : decode cX6_checksum 133 = .ok (.ldc2_w 258, 3) := by decide +kernel
theorem dX6_checksum_136 : decode cX6_checksum 136 = .ok (.lload_n 1, 1) := by decide +kernel
theorem dX6_checksum_137 : decode cX6_checksum 137 = .ok (.lmul, 1) := by decide +kernel
theorem dX6_checksum_138 : decode cX6_checksum 138 = .ok (.aload_n 0, 1) := by decide +kernel
theorem dX6_checksum_139 : decode cX6_checksum 139 = .ok (.getfield 78, 3) := by decide +kernel
theorem dX6_checksum_142 : decode cX6_checksum 142 = .ok (.i2l, 1) := by decide +kernel
theorem dX6_checksum_143 : decode cX6_checksum 143 = .ok (.ladd, 1) := by decide +kernel
theorem dX6_checksum_144 : decode cX6_checksum 144 = .ok (.lstore_n 1, 1) := by decide +kernel
theorem dX6_checksum_145 : decode cX6_checksum 145 = .ok (.ldc2_w 258, 3) := by decide +kernel
theorem dX6_checksum_148 : decode cX6_checksum 148 = .ok (.lload_n 1, 1) := by decide +kernel
theorem dX6_checksum_149 : decode cX6_checksum 149 = .ok (.lmul, 1) := by decide +kernel
theorem dX6_checksum_150 : decode cX6_checksum 150 = .ok (.aload_n 0, 1) := by decide +kernel
theorem dX6_checksum_151 : decode cX6_checksum 151 = .ok (.getfield 36, 3) := by decide +kernel
theorem dX6_checksum_154 : decode cX6_checksum 154 = .ok (.i2l, 1) := by decide +kernel
theorem dX6_checksum_155 : decode cX6_checksum 155 = .ok (.ladd, 1) := by decide +kernel
theorem dX6_checksum_156 : decode cX6_checksum 156 = .ok (.lreturn, 1) := by decide +kernel
set_option maxRecDepth 20000 in
theorem ggX6_aboveShare_Jx4a65c_isEmpty_aae02 : GoodIn wsX6_aboveShare wsJx4a65c_isEmpty_aae02 := goodIn_r _ [9, 10, 65, 66, 67] (by decide +kernel) (by decide +kernel)
set_option maxRecDepth 20000 in
theorem gX6_aboveShare_Jx4a65c_isEmpty_aae02 : GoodIn wsX6_aboveShare (wsV RX6 260 RJx4a65c yJx4a65c_isEmpty_aae02 wsJx4a65c_isEmpty_aae02) := goodIn_app (goodIn_of _ (by decide +kernel)) ggX6_aboveShare_Jx4a65c_isEmpty_aae02
set_option maxRecDepth 20000 in
theorem ggX6_aboveShare_Jx4a65c_size_8abf5 : GoodIn wsX6_aboveShare wsJx4a65c_size_8abf5 := goodIn_r _ [14, 10, 65, 66, 67] (by decide +kernel) (by decide +kernel)
set_option maxRecDepth 20000 in
theorem gX6_aboveShare_Jx4a65c_size_8abf5 : GoodIn wsX6_aboveShare (wsV RX6 44 RJx4a65c yJx4a65c_size_8abf5 wsJx4a65c_size_8abf5) := goodIn_app (goodIn_of _ (by decide +kernel)) ggX6_aboveShare_Jx4a65c_size_8abf5
set_option maxRecDepth 20000 in
theorem ggX6_aboveShare_Jx4a65c_get_915e3 : GoodIn wsX6_aboveShare wsJx4a65c_get_915e3 := goodIn_r _ [18, 10, 19, 20, 21, 22, 23, 24, 25, 26, 27, 28, 29, 8, 30, 31, 65, 66, 67] (by decide +kernel) (by decide +kernel)
set_option maxRecDepth 20000 in
theorem gX6_aboveShare_Jx4a65c_get_915e3 : GoodIn wsX6_aboveShare (wsV RX6 138 RJx4a65c yJx4a65c_get_915e3 wsJx4a65c_get_915e3) := goodIn_app (goodIn_of _ (by decide +kernel)) ggX6_aboveShare_Jx4a65c_get_915e3
set_option maxRecDepth 20000 in
theorem ggX6_aboveShare_X6_grains : GoodIn wsX6_aboveShare wsX6_grains := goodIn_r _ [36, 3, 4, 11, 12, 13, 8, 14, 10, 15, 16, 17, 18, 19, 20, 21, 22, 23, 24, 25, 26, 27, 28, 29, 30, 31, 37, 38, 39, 40, 41, 42, 43, 44, 45, 46, 47, 48, 49, 50, 65, 66, 67, 51, 52, 53, 54, 55, 56, 57, 58, 59, 60, 61, 62, 63, 64] (by decide +kernel) (by decide +kernel)
set_option maxRecDepth 20000 in
theorem gX6_aboveShare_X6_grains : GoodIn wsX6_aboveShare (wsV RX6 265 RX6 yX6_grains wsX6_grains) := goodIn_app (goodIn_of _ (by decide +kernel)) ggX6_aboveShare_X6_grains
theorem dX6_aboveShare_0 : decode cX6_aboveShare 0 = .ok (.aload_n 0, 1) := by decide +kernel
theorem dX6_aboveShare_1 : decode cX6_aboveShare 1 = .ok (.getfield 12, 3) := by decide +kernel
theorem dX6_aboveShare_4 : decode cX6_aboveShare 4 = .ok (.invokevirtual 260, 3) := by decide +kernel
theorem dX6_aboveShare_7 : decode cX6_aboveShare 7 = .ok (.ifCond .eq 14, 3) := by decide +kernel
theorem dX6_aboveShare_10 : decode cX6_aboveShare 10 = .ok (.new 176, 3) := by decide +kernel
theorem dX6_aboveShare_13 : decode cX6_aboveShare 13 = .ok (.dup, 1) := by decide +kernel
theorem dX6_aboveShare_14 : decode cX6_aboveShare 14 = .ok (.ldc_w 263, 3) := by decide +kernel
theorem dX6_aboveShare_17 : decode cX6_aboveShare 17 = .ok (.invokespecial 180, 3) := by decide +kernel
theorem dX6_aboveShare_20 : decode cX6_aboveShare 20 = .ok (.athrow, 1) := by decide +kernel
theorem dX6_aboveShare_21 : decode cX6_aboveShare 21 = .ok (.iconst 0, 1) := by decide +kernel
theorem dX6_aboveShare_22 : decode cX6_aboveShare 22 = .ok (.istore_n 1, 1) := by decide +kernel
theorem dX6_aboveShare_23 : decode cX6_aboveShare 23 = .ok (.iconst 0, 1) := by decide +kernel
theorem dX6_aboveShare_24 : decode cX6_aboveShare 24 = .ok (.istore_n 2, 1) := by decide +kernel
theorem dX6_aboveShare_25 : decode cX6_aboveShare 25 = .ok (.iload_n 2, 1) := by decide +kernel
theorem dX6_aboveShare_26 : decode cX6_aboveShare 26 = .ok (.aload_n 0, 1) := by decide +kernel
theorem dX6_aboveShare_27 : decode cX6_aboveShare 27 = .ok (.getfield 12, 3) := by decide +kernel
theorem dX6_aboveShare_30 : decode cX6_aboveShare 30 = .ok (.invokevirtual 44, 3) := by decide +kernel
theorem dX6_aboveShare_33 : decode cX6_aboveShare 33 = .ok (.if_icmp .ge 26, 3) := by decide +kernel
theorem dX6_aboveShare_36 : decode cX6_aboveShare 36 = .ok (.iload_n 1, 1) := by decide +kernel
theorem dX6_aboveShare_37 : decode cX6_aboveShare 37 = .ok (.aload_n 0, 1) := by decide +kernel
theorem dX6_aboveShare_38 : decode cX6_aboveShare 38 = .ok (.getfield 12, 3) := by decide +kernel
theorem dX6_aboveShare_41 : decode cX6_aboveShare 41 = .ok (.iload_n 2, 1) := by decide +kernel
theorem dX6_aboveShare_42 : decode cX6_aboveShare 42 = .ok (.invokevirtual 138, 3) := by decide +kernel
theorem dX6_aboveShare_45 : decode cX6_aboveShare 45 = .ok (.checkcast 52, 3) := by decide +kernel
theorem dX6_aboveShare_48 : decode cX6_aboveShare 48 = .ok (.getfield 68, 3) := by decide +kernel
theorem dX6_aboveShare_51 : decode cX6_aboveShare 51 = .ok (.iadd, 1) := by decide +kernel
theorem dX6_aboveShare_52 : decode cX6_aboveShare 52 = .ok (.istore_n 1, 1) := by decide +kernel
theorem dX6_aboveShare_53 : decode cX6_aboveShare 53 = .ok (.iinc 2 1, 3) := by decide +kernel
theorem dX6_aboveShare_56 : decode cX6_aboveShare 56 = .ok (.goto (-31), 3) := by decide +kernel
theorem dX6_aboveShare_59 : decode cX6_aboveShare 59 = .ok (.aload_n 0, 1) := by decide +kernel
theorem dX6_aboveShare_60 : decode cX6_aboveShare 60 = .ok (.invokevirtual 265, 3) := by decide +kernel
theorem dX6_aboveShare_63 : decode cX6_aboveShare 63 = .ok (.istore_n 2, 1) := by decide +kernel
theorem dX6_aboveShare_64 : decode cX6_aboveShare 64 = .ok (.iload_n 2, 1) := by decide +kernel
theorem dX6_aboveShare_65 : decode cX6_aboveShare 65 = .ok (.ifCond .le 11, 3) := by decide +kernel
theorem dX6_aboveShare_68 : decode cX6_aboveShare 68 = .ok (.iload_n 1, 1) := by decide +kernel
theorem dX6_aboveShare_69 : decode cX6_aboveShare 69 = .ok (.i2f, 1) := by decide +kernel
theorem dX6_aboveShare_70 : decode cX6_aboveShare 70 = .ok (.iload_n 2, 1) := by decide +kernel
theorem dX6_aboveShare_71 : decode cX6_aboveShare 71 = .ok (.i2f, 1) := by decide +kernel
theorem dX6_aboveShare_72 : decode cX6_aboveShare 72 = .ok (.fdiv, 1) := by decide +kernel
theorem dX6_aboveShare_73 : decode cX6_aboveShare 73 = .ok (.goto 4, 3) := by decide +kernel
theorem dX6_aboveShare_76 : decode cX6_aboveShare 76 = .ok (.fconst 0, 1) := by decide +kernel
theorem dX6_aboveShare_77 : decode cX6_aboveShare 77 = .ok (.freturn, 1) := by decide +kernel
set_option maxRecDepth 20000 in
theorem ggX6_isSound_X6_grains : GoodIn wsX6_isSound wsX6_grains := goodIn_r _ [7, 8, 9, 10, 11, 12, 13, 14, 15, 16, 17, 18, 19, 20, 21, 22, 23, 24, 25, 26, 27, 28, 29, 30, 31, 32, 33, 34, 35, 36, 37, 38, 39, 84, 85, 86, 87, 88, 89, 90, 91, 92, 93, 94, 95, 96, 97, 98, 99, 100, 101, 102, 103, 104, 105, 106, 107] (by decide +kernel) (by decide +kernel)
set_option maxRecDepth 20000 in
theorem gX6_isSound_X6_grains : GoodIn wsX6_isSound (wsV RX6 265 RX6 yX6_grains wsX6_grains) := goodIn_app (goodIn_of _ (by decide +kernel)) ggX6_isSound_X6_grains
set_option maxRecDepth 20000 in
theorem ggX6_isSound_X6_glassesAreSound : GoodIn wsX6_isSound wsX6_glassesAreSound := goodIn_r _ [43, 8, 9, 10, 11, 12, 13, 14, 15, 16, 17, 18, 19, 20, 21, 22, 23, 24, 25, 26, 27, 28, 29, 30, 31, 32, 84, 85, 86, 87, 88, 89, 90, 94, 95, 96, 97, 98, 99, 100, 101, 102, 103, 104, 105, 106, 107, 91, 92, 93] (by decide +kernel) (by decide +kernel)
set_option maxRecDepth 20000 in
theorem gX6_isSound_X6_glassesAreSound : GoodIn wsX6_isSound (wsV RX6 268 RX6 yX6_glassesAreSound wsX6_glassesAreSound) := goodIn_app (goodIn_of _ (by decide +kernel)) ggX6_isSound_X6_glassesAreSound
set_option maxRecDepth 20000 in
theorem ggX6_isSound_X6_gatesAreSound : GoodIn wsX6_isSound wsX6_gatesAreSound := goodIn_r _ [47, 48, 49, 10, 11, 12, 13, 14, 15, 16, 17, 18, 19, 20, 21, 22, 23, 24, 25, 26, 27, 28, 29, 30, 31, 32, 84, 85, 86, 87, 88, 89, 90, 108, 109, 110, 111, 112, 113, 91, 92, 93] (by decide +kernel) (by decide +kernel)
set_option maxRecDepth 20000 in
theorem gX6_isSound_X6_gatesAreSound : GoodIn wsX6_isSound (wsV RX6 271 RX6 yX6_gatesAreSound wsX6_gatesAreSound) := goodIn_app (goodIn_of _ (by decide +kernel)) ggX6_isSound_X6_gatesAreSound
set_option maxRecDepth 20000 in
theorem ggX6_isSound_X2_isDivided : GoodIn wsX6_isSound wsX2_isDivided := goodIn_r _ [54, 55, 56, 57, 53, 58, 59, 60, 61, 62, 63, 64, 65, 66, 67, 68, 69, 70, 71, 72, 73, 74, 75, 76, 77, 78, 79, 80, 81, 82, 83, 114, 115, 116, 117, 118, 119, 120, 121, 122, 123, 124, 125, 126] (by decide +kernel) (by decide +kernel)
set_option maxRecDepth 20000 in
theorem gX6_isSound_X2_isDivided : GoodIn wsX6_isSound (wsV RX6 274 RX2 yX2_isDivided wsX2_isDivided) := goodIn_app (goodIn_of _ (by decide +kernel)) ggX6_isSound_X2_isDivided
theorem dX6_isSound_0 : decode cX6_isSound 0 = .ok (.aload_n 0, 1) := by decide +kernel
theorem dX6_isSound_1 : decode cX6_isSound 1 = .ok (.invokevirtual 265, 3) := by decide +kernel
theorem dX6_isSound_4 : decode cX6_isSound 4 = .ok (.aload_n 0, 1) := by decide +kernel
theorem dX6_isSound_5 : decode cX6_isSound 5 = .ok (.getfield 61, 3) := by decide +kernel
theorem dX6_isSound_8 : decode cX6_isSound 8 = .ok (.if_icmp .ne 31, 3) := by decide +kernel
theorem dX6_isSound_11 : decode cX6_isSound 11 = .ok (.aload_n 0, 1) := by decide +kernel
theorem dX6_isSound_12 : decode cX6_isSound 12 = .ok (.invokevirtual 268, 3) := by decide +kernel
theorem dX6_isSound_15 : decode cX6_isSound 15 = .ok (.ifCond .eq 24, 3) := by decide +kernel
theorem dX6_isSound_18 : decode cX6_isSound 18 = .ok (.aload_n 0, 1) := by decide +kernel
theorem dX6_isSound_19 : decode cX6_isSound 19 = .ok (.invokevirtual 271, 3) := by decide +kernel
theorem dX6_isSound_22 : decode cX6_isSound 22 = .ok (.ifCond .eq 17, 3) := by decide +kernel
theorem dX6_isSound_25 : decode cX6_isSound 25 = .ok (.aload_n 0, 1) := by decide +kernel
theorem dX6_isSound_26 : decode cX6_isSound 26 = .ok (.getfield 22, 3) := by decide +kernel
theorem dX6_isSound_29 : decode cX6_isSound 29 = .ok (.invokevirtual 274, 3) := by decide +kernel
theorem dX6_isSound_32 : decode cX6_isSound 32 = .ok (.ifCond .eq 7, 3) := by decide +kernel
theorem dX6_isSound_35 : decode cX6_isSound 35 = .ok (.iconst 1, 1) := by decide +kernel
theorem dX6_isSound_36 : decode cX6_isSound 36 = .ok (.goto 4, 3) := by decide +kernel
theorem dX6_isSound_39 : decode cX6_isSound 39 = .ok (.iconst 0, 1) := by decide +kernel
theorem dX6_isSound_40 : decode cX6_isSound 40 = .ok (.ireturn, 1) := by decide +kernel
set_option maxRecDepth 20000 in
theorem ggX6_glassesAreSound_Jx4a65c_size_8abf5 : GoodIn wsX6_glassesAreSound wsJx4a65c_size_8abf5 := goodIn_r _ [7, 8, 47, 48, 49] (by decide +kernel) (by decide +kernel)
set_option maxRecDepth 20000 in
theorem gX6_glassesAreSound_Jx4a65c_size_8abf5 : GoodIn wsX6_glassesAreSound (wsV RX6 44 RJx4a65c yJx4a65c_size_8abf5 wsJx4a65c_size_8abf5) := goodIn_app (goodIn_of _ (by decide +kernel)) ggX6_glassesAreSound_Jx4a65c_size_8abf5
set_option maxRecDepth 20000 in
theorem ggX6_glassesAreSound_Jx4a65c_get_915e3 : GoodIn wsX6_glassesAreSound wsJx4a65c_get_915e3 := goodIn_r _ [12, 8, 13, 14, 15, 16, 17, 18, 19, 20, 21, 22, 23, 6, 24, 25, 47, 48, 49] (by decide +kernel) (by decide +kernel)
set_option maxRecDepth 20000 in
theorem gX6_glassesAreSound_Jx4a65c_get_915e3 : GoodIn wsX6_glassesAreSound (wsV RX6 138 RJx4a65c yJx4a65c_get_915e3 wsJx4a65c_get_915e3) := goodIn_app (goodIn_of _ (by decide +kernel)) ggX6_glassesAreSound_Jx4a65c_get_915e3
theorem dX6_glassesAreSound_0 : decode cX6_glassesAreSound 0 = .ok (.iconst 0, 1) := by decide +kernel
theorem dX6_glassesAreSound_1 : decode cX6_glassesAreSound 1 = .ok (.istore_n 1, 1) := by decide +kernel
theorem dX6_glassesAreSound_2 : decode cX6_glassesAreSound 2 = .ok (.iload_n 1, 1) := by decide +kernel
theorem dX6_glassesAreSound_3 : decode cX6_glassesAreSound 3 = .ok (.aload_n 0, 1) := by decide +kernel
theorem dX6_glassesAreSound_4 : decode cX6_glassesAreSound 4 = .ok (.getfield 12, 3) := by decide +kernel
theorem dX6_glassesAreSound_7 : decode cX6_glassesAreSound 7 = .ok (.invokevirtual 44, 3) := by decide +kernel
theorem dX6_glassesAreSound_10 : decode cX6_glassesAreSound 10 = .ok (.if_icmp .ge 37, 3) := by decide +kernel
theorem dX6_glassesAreSound_13 : decode cX6_glassesAreSound 13 = .ok (.aload_n 0, 1) := by decide +kernel
theorem dX6_glassesAreSound_14 : decode cX6_glassesAreSound 14 = .ok (.getfield 12, 3) := by decide +kernel
theorem dX6_glassesAreSound_17 : decode cX6_glassesAreSound 17 = .ok (.iload_n 1, 1) := by decide +kernel
theorem dX6_glassesAreSound_18 : decode cX6_glassesAreSound 18 = .ok (.invokevirtual 138, 3) := by decide +kernel
theorem dX6_glassesAreSound_21 : decode cX6_glassesAreSound 21 = .ok (.checkcast 52, 3) := by decide +kernel
theorem dX6_glassesAreSound_24 : decode cX6_glassesAreSound 24 = .ok (.astore_n 2, 1) := by decide +kernel
theorem dX6_glassesAreSound_25 : decode cX6_glassesAreSound 25 = .ok (.aload_n 2, 1) := by decide +kernel
theorem dX6_glassesAreSound_26 : decode cX6_glassesAreSound 26 = .ok (.getfield 68, 3) := by decide +kernel
theorem dX6_glassesAreSound_29 : decode cX6_glassesAreSound 29 = .ok (.ifCond .lt 10, 3) := by decide +kernel
theorem dX6_glassesAreSound_32 : decode cX6_glassesAreSound 32 = .ok (.aload_n 2, 1) := by decide +kernel
theorem dX6_glassesAreSound_33 : decode cX6_glassesAreSound 33 = .ok (.getfield 71, 3) := by decide +kernel
theorem dX6_glassesAreSound_36 : decode cX6_glassesAreSound 36 = .ok (.ifCond .ge 5, 3) := by decide +kernel
theorem dX6_glassesAreSound_39 : decode cX6_glassesAreSound 39 = .ok (.iconst 0, 1) := by decide +kernel
theorem dX6_glassesAreSound_40 : decode cX6_glassesAreSound 40 = .ok (.ireturn, 1) := by decide +kernel
theorem dX6_glassesAreSound_41 : decode cX6_glassesAreSound 41 = .ok (.iinc 1 1, 3) := by decide +kernel
theorem dX6_glassesAreSound_44 : decode cX6_glassesAreSound 44 = .ok (.goto (-42), 3) := by decide +kernel
theorem dX6_glassesAreSound_47 : decode cX6_glassesAreSound 47 = .ok (.iconst 1, 1) := by decide +kernel
theorem dX6_glassesAreSound_48 : decode cX6_glassesAreSound 48 = .ok (.ireturn, 1) := by decide +kernel
set_option maxRecDepth 20000 in
theorem ggX6_gatesAreSound_Jx4a65c_size_8abf5 : GoodIn wsX6_gatesAreSound wsJx4a65c_size_8abf5 := goodIn_r _ [7, 8, 39, 40, 41] (by decide +kernel) (by decide +kernel)
set_option maxRecDepth 20000 in
theorem gX6_gatesAreSound_Jx4a65c_size_8abf5 : GoodIn wsX6_gatesAreSound (wsV RX6 44 RJx4a65c yJx4a65c_size_8abf5 wsJx4a65c_size_8abf5) := goodIn_app (goodIn_of _ (by decide +kernel)) ggX6_gatesAreSound_Jx4a65c_size_8abf5
set_option maxRecDepth 20000 in
theorem ggX6_gatesAreSound_Jx4a65c_get_915e3 : GoodIn wsX6_gatesAreSound wsJx4a65c_get_915e3 := goodIn_r _ [12, 8, 13, 14, 15, 16, 17, 18, 19, 20, 21, 22, 23, 6, 24, 25, 39, 40, 41] (by decide +kernel) (by decide +kernel)
set_option maxRecDepth 20000 in
theorem gX6_gatesAreSound_Jx4a65c_get_915e3 : GoodIn wsX6_gatesAreSound (wsV RX6 138 RJx4a65c yJx4a65c_get_915e3 wsJx4a65c_get_915e3) := goodIn_app (goodIn_of _ (by decide +kernel)) ggX6_gatesAreSound_Jx4a65c_get_915e3
theorem dX6_gatesAreSound_0 : decode cX6_gatesAreSound 0 = .ok (.iconst 0, 1) := by decide +kernel
theorem dX6_gatesAreSound_1 : decode cX6_gatesAreSound 1 = .ok (.istore_n 1, 1) := by decide +kernel
theorem dX6_gatesAreSound_2 : decode cX6_gatesAreSound 2 = .ok (.iload_n 1, 1) := by decide +kernel
theorem dX6_gatesAreSound_3 : decode cX6_gatesAreSound 3 = .ok (.aload_n 0, 1) := by decide +kernel
theorem dX6_gatesAreSound_4 : decode cX6_gatesAreSound 4 = .ok (.getfield 16, 3) := by decide +kernel
theorem dX6_gatesAreSound_7 : decode cX6_gatesAreSound 7 = .ok (.invokevirtual 44, 3) := by decide +kernel
theorem dX6_gatesAreSound_10 : decode cX6_gatesAreSound 10 = .ok (.if_icmp .ge 34, 3) := by decide +kernel
theorem dX6_gatesAreSound_13 : decode cX6_gatesAreSound 13 = .ok (.aload_n 0, 1) := by decide +kernel
theorem dX6_gatesAreSound_14 : decode cX6_gatesAreSound 14 = .ok (.getfield 16, 3) := by decide +kernel
theorem dX6_gatesAreSound_17 : decode cX6_gatesAreSound 17 = .ok (.iload_n 1, 1) := by decide +kernel
theorem dX6_gatesAreSound_18 : decode cX6_gatesAreSound 18 = .ok (.invokevirtual 138, 3) := by decide +kernel
theorem dX6_gatesAreSound_21 : decode cX6_gatesAreSound 21 = .ok (.checkcast 160, 3) := by decide +kernel
theorem dX6_gatesAreSound_24 : decode cX6_gatesAreSound 24 = .ok (.astore_n 2, 1) := by decide +kernel
theorem dX6_gatesAreSound_25 : decode cX6_gatesAreSound 25 = .ok (.aload_n 2, 1) := by decide +kernel
theorem dX6_gatesAreSound_26 : decode cX6_gatesAreSound 26 = .ok (.getfield 164, 3) := by decide +kernel
theorem dX6_gatesAreSound_29 : decode cX6_gatesAreSound 29 = .ok (.aload_n 2, 1) := by decide +kernel
theorem dX6_gatesAreSound_30 : decode cX6_gatesAreSound 30 = .ok (.getfield 277, 3) := by decide +kernel
theorem dX6_gatesAreSound_33 : decode cX6_gatesAreSound 33 = .ok (.if_icmp .lt 5, 3) := by decide +kernel
theorem dX6_gatesAreSound_36 : decode cX6_gatesAreSound 36 = .ok (.iconst 0, 1) := by decide +kernel
theorem dX6_gatesAreSound_37 : decode cX6_gatesAreSound 37 = .ok (.ireturn, 1) := by decide +kernel
theorem dX6_gatesAreSound_38 : decode cX6_gatesAreSound 38 = .ok (.iinc 1 1, 3) := by decide +kernel
theorem dX6_gatesAreSound_41 : decode cX6_gatesAreSound 41 = .ok (.goto (-39), 3) := by decide +kernel
theorem dX6_gatesAreSound_44 : decode cX6_gatesAreSound 44 = .ok (.iconst 1, 1) := by decide +kernel
theorem dX6_gatesAreSound_45 : decode cX6_gatesAreSound 45 = .ok (.ireturn, 1) := by decide +kernel
set_option maxRecDepth 20000 in
theorem ggX6_letSecondGoBy_Jx4a65c_size_8abf5 : GoodIn wsX6_letSecondGoBy wsJx4a65c_size_8abf5 := goodIn_r _ [8, 9, 129, 130, 131] (by decide +kernel) (by decide +kernel)
set_option maxRecDepth 20000 in
theorem gX6_letSecondGoBy_Jx4a65c_size_8abf5 : GoodIn wsX6_letSecondGoBy (wsV RX6 44 RJx4a65c yJx4a65c_size_8abf5 wsJx4a65c_size_8abf5) := goodIn_app (goodIn_of _ (by decide +kernel)) ggX6_letSecondGoBy_Jx4a65c_size_8abf5
set_option maxRecDepth 20000 in
theorem ggX6_letSecondGoBy_Jx4a65c_get_915e3 : GoodIn wsX6_letSecondGoBy wsJx4a65c_get_915e3 := goodIn_r _ [13, 9, 14, 15, 16, 17, 18, 19, 20, 21, 22, 23, 24, 7, 25, 26, 129, 130, 131] (by decide +kernel) (by decide +kernel)
set_option maxRecDepth 20000 in
theorem gX6_letSecondGoBy_Jx4a65c_get_915e3 : GoodIn wsX6_letSecondGoBy (wsV RX6 138 RJx4a65c yJx4a65c_get_915e3 wsJx4a65c_get_915e3) := goodIn_app (goodIn_of _ (by decide +kernel)) ggX6_letSecondGoBy_Jx4a65c_get_915e3
set_option maxRecDepth 20000 in
theorem ggX6_letSecondGoBy_X6_letGo : GoodIn wsX6_letSecondGoBy wsX6_letGo := goodIn_r _ [31, 1, 2, 32, 33, 34, 35, 36, 37, 38, 39, 40, 30, 41, 42, 43, 44, 45, 46, 47, 48, 49, 50, 51, 52, 53, 54, 55, 56, 57, 58, 59, 60, 61, 62, 63, 64, 65, 66, 67, 68, 69, 70, 4, 5, 6, 7, 8, 9, 10, 11, 12, 13, 14, 15, 16, 17, 18, 19, 20, 21, 22, 23, 24, 25, 26, 132, 133, 134, 135, 136, 137, 138, 139, 140, 141, 142, 143, 144, 145, 122, 123, 124, 125, 126, 127, 128, 129, 130, 131] (by decide +kernel) (by decide +kernel)
set_option maxRecDepth 20000 in
theorem gX6_letSecondGoBy_X6_letGo : GoodIn wsX6_letSecondGoBy (wsV RX6 279 RX6 yX6_letGo wsX6_letGo) := goodIn_app (goodIn_of _ (by decide +kernel)) ggX6_letSecondGoBy_X6_letGo
set_option maxRecDepth 20000 in
theorem ggX6_letSecondGoBy_X6_fillGates : GoodIn wsX6_letSecondGoBy wsX6_fillGates := goodIn_r _ [74, 75, 76, 4, 5, 6, 7, 8, 9, 10, 11, 12, 13, 14, 15, 16, 17, 18, 19, 20, 21, 22, 23, 24, 25, 26, 77, 78, 79, 30, 80, 1, 2, 81, 82, 83, 84, 67, 68, 69, 70, 85, 86, 87, 88, 89, 90, 91, 92, 93, 122, 123, 124, 125, 126, 127, 128, 129, 130, 131, 146, 147, 148, 149, 150, 151, 132, 133, 134, 135, 136, 137, 138, 139, 140, 141, 142, 143, 144, 145] (by decide +kernel) (by decide +kernel)
set_option maxRecDepth 20000 in
theorem gX6_letSecondGoBy_X6_fillGates : GoodIn wsX6_letSecondGoBy (wsV RX6 283 RX6 yX6_fillGates wsX6_fillGates) := goodIn_app (goodIn_of _ (by decide +kernel)) ggX6_letSecondGoBy_X6_fillGates
set_option maxRecDepth 20000 in
theorem ggX6_letSecondGoBy_X1_noteRun : GoodIn wsX6_letSecondGoBy wsX1_noteRun := goodIn_r _ [97, 98, 49, 62, 99, 100, 101, 102, 103, 104, 105, 106, 107, 108, 109, 110, 111, 112, 113, 114, 115, 116, 117, 118, 119, 120, 121, 132, 133, 134, 135, 136, 137, 138, 139, 140, 141, 142, 143, 144, 145, 152, 153, 154] (by decide +kernel) (by decide +kernel)
set_option maxRecDepth 20000 in
theorem gX6_letSecondGoBy_X1_noteRun : GoodIn wsX6_letSecondGoBy (wsV RX6 286 RX1 yX1_noteRun wsX1_noteRun) := goodIn_app (goodIn_of _ (by decide +kernel)) ggX6_letSecondGoBy_X1_noteRun
theorem dX6_letSecondGoBy_0 : decode cX6_letSecondGoBy 0 = .ok (.iconst 0, 1) := by decide +kernel
theorem dX6_letSecondGoBy_1 : decode cX6_letSecondGoBy 1 = .ok (.istore_n 1, 1) := by decide +kernel
theorem dX6_letSecondGoBy_2 : decode cX6_letSecondGoBy 2 = .ok (.iload_n 1, 1) := by decide +kernel
theorem dX6_letSecondGoBy_3 : decode cX6_letSecondGoBy 3 = .ok (.aload_n 0, 1) := by decide +kernel
theorem dX6_letSecondGoBy_4 : decode cX6_letSecondGoBy 4 = .ok (.getfield 12, 3) := by decide +kernel
theorem dX6_letSecondGoBy_7 : decode cX6_letSecondGoBy 7 = .ok (.invokevirtual 44, 3) := by decide +kernel
theorem dX6_letSecondGoBy_10 : decode cX6_letSecondGoBy 10 = .ok (.if_icmp .ge 24, 3) := by decide +kernel
theorem dX6_letSecondGoBy_13 : decode cX6_letSecondGoBy 13 = .ok (.aload_n 0, 1) := by decide +kernel
theorem dX6_letSecondGoBy_14 : decode cX6_letSecondGoBy 14 = .ok (.aload_n 0, 1) := by decide +kernel
theorem dX6_letSecondGoBy_15 : decode cX6_letSecondGoBy 15 = .ok (.getfield 12, 3) := by decide +kernel
theorem dX6_letSecondGoBy_18 : decode cX6_letSecondGoBy 18 = .ok (.iload_n 1, 1) := by decide +kernel
theorem dX6_letSecondGoBy_19 : decode cX6_letSecondGoBy 19 = .ok (.invokevirtual 138, 3) := by decide +kernel
theorem dX6_letSecondGoBy_22 : decode cX6_letSecondGoBy 22 = .ok (.checkcast 52, 3) := by decide +kernel
theorem dX6_letSecondGoBy_25 : decode cX6_letSecondGoBy 25 = .ok (.invokevirtual 279, 3) := by decide +kernel
theorem dX6_letSecondGoBy_28 : decode cX6_letSecondGoBy 28 = .ok (.iinc 1 1, 3) := by decide +kernel
theorem dX6_letSecondGoBy_31 : decode cX6_letSecondGoBy 31 = .ok (.goto (-29), 3) := by decide +kernel
theorem dX6_letSecondGoBy_34 : decode cX6_letSecondGoBy 34 = .ok (.aload_n 0, 1) := by decide +kernel
theorem dX6_letSecondGoBy_35 : decode cX6_letSecondGoBy 35 = .ok (.invokevirtual 283, 3) := by decide +kernel
theorem dX6_letSecondGoBy_38 : decode cX6_letSecondGoBy 38 = .ok (.aload_n 0, 1) := by decide +kernel
theorem dX6_letSecondGoBy_39 : decode cX6_letSecondGoBy 39 = .ok (.dup, 1) := by decide +kernel
theorem dX6_letSecondGoBy_40 : decode cX6_letSecondGoBy 40 = .ok (.getfield 78, 3) := by decide +kernel
theorem dX6_letSecondGoBy_43 : decode cX6_letSecondGoBy 43 = .ok (.iconst 1, 1) := by decide +kernel
theorem dX6_letSecondGoBy_44 : decode cX6_letSecondGoBy 44 = .ok (.iadd, 1) := by decide +kernel
theorem dX6_letSecondGoBy_45 : decode cX6_letSecondGoBy 45 = .ok (.putfield 78, 3) := by decide +kernel
theorem dX6_letSecondGoBy_48 : decode cX6_letSecondGoBy 48 = .ok (.iconst 0, 1) := by decide +kernel
theorem dX6_letSecondGoBy_49 : decode cX6_letSecondGoBy 49 = .ok (.istore_n 1, 1) := by decide +kernel
theorem dX6_letSecondGoBy_50 : decode cX6_letSecondGoBy 50 = .ok (.iload_n 1, 1) := by decide +kernel
theorem dX6_letSecondGoBy_51 : decode cX6_letSecondGoBy 51 = .ok (.aload_n 0, 1) := by decide +kernel
theorem dX6_letSecondGoBy_52 : decode cX6_letSecondGoBy 52 = .ok (.getfield 12, 3) := by decide +kernel
theorem dX6_letSecondGoBy_55 : decode cX6_letSecondGoBy 55 = .ok (.invokevirtual 44, 3) := by decide +kernel
theorem dX6_letSecondGoBy_58 : decode cX6_letSecondGoBy 58 = .ok (.if_icmp .ge 27, 3) := by decide +kernel
theorem dX6_letSecondGoBy_61 : decode cX6_letSecondGoBy 61 = .ok (.aload_n 0, 1) := by decide +kernel
theorem dX6_letSecondGoBy_62 : decode cX6_letSecondGoBy 62 = .ok (.getfield 12, 3) := by decide +kernel
theorem dX6_letSecondGoBy_65 : decode cX6_letSecondGoBy 65 = .ok (.iload_n 1, 1) := by decide +kernel
theorem dX6_letSecondGoBy_66 : decode cX6_letSecondGoBy 66 = .ok (.invokevirtual 138, 3) := by decide +kernel
theorem dX6_letSecondGoBy_69 : decode cX6_letSecondGoBy 69 = .ok (.checkcast 52, 3) := by decide +kernel
theorem dX6_letSecondGoBy_72 : decode cX6_letSecondGoBy 72 = .ok (.aload_n 0, 1) := by decide +kernel
theorem dX6_letSecondGoBy_73 : decode cX6_letSecondGoBy 73 = .ok (.getfield 78, 3) := by decide +kernel
theorem dX6_letSecondGoBy_76 : decode cX6_letSecondGoBy 76 = .ok (.invokevirtual 286, 3) := by decide +kernel
theorem dX6_letSecondGoBy_79 : decode cX6_letSecondGoBy 79 = .ok (.iinc 1 1, 3) := by decide +kernel
theorem dX6_letSecondGoBy_82 : decode cX6_letSecondGoBy 82 = .ok (.goto (-32), 3) := by decide +kernel
theorem dX6_letSecondGoBy_85 : decode cX6_letSecondGoBy 85 = .ok (.return_, 1) := by decide +kernel
set_option maxRecDepth 20000 in
theorem ggX6_letGo_X1_lies : GoodIn wsX6_letGo wsX1_lies := goodIn_r _ [7, 8, 66, 67, 68, 69, 70, 71, 72, 73, 74, 75, 76, 77, 78, 79] (by decide +kernel) (by decide +kernel)
set_option maxRecDepth 20000 in
theorem gX6_letGo_X1_lies : GoodIn wsX6_letGo (wsV RX6 117 RX1 yX1_lies wsX1_lies) := goodIn_app (goodIn_of _ (by decide +kernel)) ggX6_letGo_X1_lies
set_option maxRecDepth 20000 in
theorem ggX6_letGo_X6_drawLot : GoodIn wsX6_letGo wsX6_drawLot := goodIn_r _ [13, 14, 15, 16, 80, 81, 82, 83, 84, 85, 86] (by decide +kernel) (by decide +kernel)
set_option maxRecDepth 20000 in
theorem gX6_letGo_X6_drawLot : GoodIn wsX6_letGo (wsV RX6 292 RX6 yX6_drawLot wsX6_drawLot) := goodIn_app (goodIn_of _ (by decide +kernel)) ggX6_letGo_X6_drawLot
set_option maxRecDepth 20000 in
theorem ggX6_letGo_X1_fallNow : GoodIn wsX6_letGo wsX1_fallNow := goodIn_r _ [20, 21, 22, 23, 24, 25, 26, 4, 5, 6, 7, 8, 27, 28, 29, 30, 31, 32, 33, 34, 35, 36, 37, 38, 66, 67, 68, 69, 70, 71, 72, 73, 74, 75, 76, 77, 78, 79] (by decide +kernel) (by decide +kernel)
set_option maxRecDepth 20000 in
theorem gX6_letGo_X1_fallNow : GoodIn wsX6_letGo (wsV RX6 114 RX1 yX1_fallNow wsX1_fallNow) := goodIn_app (goodIn_of _ (by decide +kernel)) ggX6_letGo_X1_fallNow
set_option maxRecDepth 20000 in
theorem ggX6_letGo_X6_hasGlass : GoodIn wsX6_letGo wsX6_hasGlass := goodIn_r _ [42, 1, 43, 44, 45, 46, 47, 48, 80, 81, 82, 83, 84, 85, 86, 87, 88, 89] (by decide +kernel) (by decide +kernel)
set_option maxRecDepth 20000 in
theorem gX6_letGo_X6_hasGlass : GoodIn wsX6_letGo (wsV RX6 245 RX6 yX6_hasGlass wsX6_hasGlass) := goodIn_app (goodIn_of _ (by decide +kernel)) ggX6_letGo_X6_hasGlass
set_option maxRecDepth 20000 in
theorem ggX6_letGo_Jx4a65c_get_915e3 : GoodIn wsX6_letGo wsJx4a65c_get_915e3 := goodIn_r _ [52, 48, 53, 54, 55, 56, 57, 58, 59, 60, 61, 62, 63, 46, 64, 65, 87, 88, 89] (by decide +kernel) (by decide +kernel)
set_option maxRecDepth 20000 in
theorem gX6_letGo_Jx4a65c_get_915e3 : GoodIn wsX6_letGo (wsV RX6 138 RJx4a65c yJx4a65c_get_915e3 wsJx4a65c_get_915e3) := goodIn_app (goodIn_of _ (by decide +kernel)) ggX6_letGo_Jx4a65c_get_915e3
theorem dX6_letGo_0 : decode cX6_letGo 0 = .ok (.aload_n 1, 1) := by decide +kernel
theorem dX6_letGo_1 : decode cX6_letGo 1 = .ok (.iconst 0, 1) := by decide +kernel
theorem dX6_letGo_2 : decode cX6_letGo 2 = .ok (.putfield 289, 3) := by decide +kernel
theorem dX6_letGo_5 : decode cX6_letGo 5 = .ok (.aload_n 1, 1) := by decide +kernel
theorem dX6_letGo_6 : decode cX6_letGo 6 = .ok (.getfield 68, 3) := by decide +kernel
theorem dX6_letGo_9 : decode cX6_letGo 9 = .ok (.ifCond .le 10, 3) := by decide +kernel
theorem dX6_letGo_12 : decode cX6_letGo 12 = .ok (.aload_n 1, 1) := by decide +kernel
theorem dX6_letGo_13 : decode cX6_letGo 13 = .ok (.invokevirtual 117, 3) := by decide +kernel
theorem dX6_letGo_16 : decode cX6_letGo 16 = .ok (.ifCond .eq 4, 3) := by decide +kernel
theorem dX6_letGo_19 : decode cX6_letGo 19 = .ok (.return_, 1) := by decide +kernel
theorem dX6_letGo_20 : decode cX6_letGo 20 = .ok (.aload_n 1, 1) := by decide +kernel
theorem dX6_letGo_21 : decode cX6_letGo 21 = .ok (.getfield 99, 3) := by decide +kernel
theorem dX6_letGo_24 : decode cX6_letGo 24 = .ok (.ifCond .le 26, 3) := by decide +kernel
theorem dX6_letGo_27 : decode cX6_letGo 27 = .ok (.aload_n 1, 1) := by decide +kernel
theorem dX6_letGo_28 : decode cX6_letGo 28 = .ok (.getfield 102, 3) := by decide +kernel
theorem dX6_letGo_31 : decode cX6_letGo 31 = .ok (.ifCond .ne 19, 3) := by decide +kernel
theorem dX6_letGo_34 : decode cX6_letGo 34 = .ok (.aload_n 0, 1) := by decide +kernel
theorem dX6_letGo_35 : decode cX6_letGo 35 = .ok (.invokevirtual 292, 3) := by decide +kernel
theorem dX6_letGo_38 : decode cX6_letGo 38 = .ok (.aload_n 1, 1) := by decide +kernel
theorem dX6_letGo_39 : decode cX6_letGo 39 = .ok (.getfield 99, 3) := by decide +kernel
theorem dX6_letGo_42 : decode cX6_letGo 42 = .ok (.if_icmp .ge 8, 3) := by decide +kernel
theorem dX6_letGo_45 : decode cX6_letGo 45 = .ok (.aload_n 1, 1) := by decide +kernel
theorem dX6_letGo_46 : decode cX6_letGo 46 = .ok (.iconst 1, 1) := by decide +kernel
theorem dX6_letGo_47 : decode cX6_letGo 47 = .ok (.putfield 102, 3) := by decide +kernel
theorem dX6_letGo_50 : decode cX6_letGo 50 = .ok (.aload_n 1, 1) := by decide +kernel
theorem dX6_letGo_51 : decode cX6_letGo 51 = .ok (.getfield 102, 3) := by decide +kernel
theorem dX6_letGo_54 : decode cX6_letGo 54 = .ok (.ifCond .eq 4, 3) := by decide +kernel
theorem dX6_letGo_57 : decode cX6_letGo 57 = .ok (.return_, 1) := by decide +kernel
theorem dX6_letGo_58 : decode cX6_letGo 58 = .ok (.aload_n 1, 1) := by decide +kernel
theorem dX6_letGo_59 : decode cX6_letGo 59 = .ok (.aload_n 1, 1) := by decide +kernel
theorem dX6_letGo_60 : decode cX6_letGo 60 = .ok (.invokevirtual 114, 3) := by decide +kernel
theorem dX6_letGo_63 : decode cX6_letGo 63 = .ok (.putfield 289, 3) := by decide +kernel
theorem dX6_letGo_66 : decode cX6_letGo 66 = .ok (.aload_n 1, 1) := by decide +kernel
theorem dX6_letGo_67 : decode cX6_letGo 67 = .ok (.dup, 1) := by decide +kernel
theorem dX6_letGo_68 : decode cX6_letGo 68 = .ok (.getfield 68, 3) := by decide +kernel
theorem dX6_letGo_71 : decode cX6_letGo 71 = .ok (.aload_n 1, 1) := by decide +kernel
theorem dX6_letGo_72 : decode cX6_letGo 72 = .ok (.getfield 289, 3) := by decide +kernel
theorem dX6_letGo_75 : decode cX6_letGo 75 = .ok (.isub, 1) := by decide +kernel
theorem dX6_letGo_76 : decode cX6_letGo 76 = .ok (.putfield 68, 3) := by decide +kernel
theorem dX6_letGo_79 : decode cX6_letGo 79 = .ok (.aload_n 0, 1) := by decide +kernel
theorem dX6_letGo_80 : decode cX6_letGo 80 = .ok (.aload_n 1, 1) := by decide +kernel
theorem dX6_letGo_81 : decode cX6_letGo 81 = .ok (.getfield 135, 3) := by decide +kernel
theorem dX6_letGo_84 : decode cX6_letGo 84 = .ok (.invokevirtual 245, 3) := by decide +kernel
theorem dX6_letGo_87 : decode cX6_letGo 87 = .ok (.ifCond .eq 32, 3) := by decide +kernel
theorem dX6_letGo_90 : decode cX6_letGo 90 = .ok (.aload_n 0, 1) := by decide +kernel
theorem dX6_letGo_91 : decode cX6_letGo 91 = .ok (.getfield 12, 3) := by decide +kernel
theorem dX6_letGo_94 : decode cX6_letGo 94 = .ok (.aload_n 1, 1) := by decide +kernel
theorem dX6_letGo_95 : decode cX6_letGo 95 = .ok (.getfield 135, 3) := by decide +kernel
theorem dX6_letGo_98 : decode cX6_letGo 98 = .ok (.invokevirtual 138, 3) := by decide +kernel
theorem dX6_letGo_101 : decode cX6_letGo 101 = .ok (.checkcast 52, 3) := by decide +kernel
theorem dX6_letGo_104 : decode cX6_letGo 104 = .ok (.dup, 1) := by decide +kernel
theorem dX6_letGo_105 : decode cX6_letGo 105 = .ok (.getfield 68, 3) := by decide +kernel
theorem dX6_letGo_108 : decode cX6_letGo 108 = .ok (.aload_n 1, 1) := by decide +kernel
theorem dX6_letGo_109 : decode cX6_letGo 109 = .ok (.getfield 289, 3) := by decide +kernel
theorem dX6_letGo_112 : decode cX6_letGo 112 = .ok (.iadd, 1) := by decide +kernel
theorem dX6_letGo_113 : decode cX6_letGo 113 = .ok (.putfield 68, 3) := by decide +kernel
theorem dX6_letGo_116 : decode cX6_letGo 116 = .ok (.goto 16, 3) := by decide +kernel
theorem dX6_letGo_119 : decode cX6_letGo 119 = .ok (.aload_n 1, 1) := by decide +kernel
theorem dX6_letGo_120 : decode cX6_letGo 120 = .ok (.dup, 1) := by decide +kernel
theorem dX6_letGo_121 : decode cX6_letGo 121 = .ok (.getfield 71, 3) := by decide +kernel
theorem dX6_letGo_124 : decode cX6_letGo 124 = .ok (.aload_n 1, 1) := by decide +kernel
theorem dX6_letGo_125 : decode cX6_letGo 125 = .ok (.getfield 289, 3) := by decide +kernel
theorem dX6_letGo_128 : decode cX6_letGo 128 = .ok (.iadd, 1) := by decide +kernel
theorem dX6_letGo_129 : decode cX6_letGo 129 = .ok (.putfield 71, 3) := by decide +kernel
theorem dX6_letGo_132 : decode cX6_letGo 132 = .ok (.return_, 1) := by decide +kernel
theorem dX6_drawLot_0 : decode cX6_drawLot 0 = .ok (.aload_n 0, 1) := by decide +kernel
theorem dX6_drawLot_1 : decode cX6_drawLot 1 = .ok (.aload_n 0, 1) := by decide +kernel
theorem dX6_drawLot_2 : decode cX6_drawLot 2 = .ok (.getfield 36, 3) := by decide +kernel
theorem dX6_drawLot_5 : decode cX6_drawLot 5 = .ok (.i2l, 1) := by decide +kernel
theorem dX6_drawLot_6 : decode cX6_drawLot 6 = .ok (.ldc2_w 295, 3) := by decide +kernel
theorem dX6_drawLot_9 : decode cX6_drawLot 9 = .ok (.lmul, 1) := by decide +kernel
theorem dX6_drawLot_10 : decode cX6_drawLot 10 = .ok (.ldc2_w 297, 3) := by decide +kernel
theorem dX6_drawLot_13 : decode cX6_drawLot 13 = .ok (.lrem, 1) := by decide +kernel
theorem dX6_drawLot_14 : decode cX6_drawLot 14 = .ok (.l2i, 1) := by decide +kernel
theorem dX6_drawLot_15 : decode cX6_drawLot 15 = .ok (.putfield 36, 3) := by decide +kernel
theorem dX6_drawLot_18 : decode cX6_drawLot 18 = .ok (.aload_n 0, 1) := by decide +kernel
theorem dX6_drawLot_19 : decode cX6_drawLot 19 = .ok (.getfield 36, 3) := by decide +kernel
theorem dX6_drawLot_22 : decode cX6_drawLot 22 = .ok (.sipush 1000, 3) := by decide +kernel
theorem dX6_drawLot_25 : decode cX6_drawLot 25 = .ok (.irem, 1) := by decide +kernel
theorem dX6_drawLot_26 : decode cX6_drawLot 26 = .ok (.ireturn, 1) := by decide +kernel
set_option maxRecDepth 20000 in
theorem ggX6_fillGates_Jx4a65c_size_8abf5 : GoodIn wsX6_fillGates wsJx4a65c_size_8abf5 := goodIn_r _ [7, 8, 57, 58, 59] (by decide +kernel) (by decide +kernel)
set_option maxRecDepth 20000 in
theorem gX6_fillGates_Jx4a65c_size_8abf5 : GoodIn wsX6_fillGates (wsV RX6 44 RJx4a65c yJx4a65c_size_8abf5 wsJx4a65c_size_8abf5) := goodIn_app (goodIn_of _ (by decide +kernel)) ggX6_fillGates_Jx4a65c_size_8abf5
set_option maxRecDepth 20000 in
theorem ggX6_fillGates_Jx4a65c_get_915e3 : GoodIn wsX6_fillGates wsJx4a65c_get_915e3 := goodIn_r _ [12, 8, 13, 14, 15, 16, 17, 18, 19, 20, 21, 22, 23, 6, 24, 25, 57, 58, 59] (by decide +kernel) (by decide +kernel)
set_option maxRecDepth 20000 in
theorem gX6_fillGates_Jx4a65c_get_915e3 : GoodIn wsX6_fillGates (wsV RX6 138 RJx4a65c yJx4a65c_get_915e3 wsJx4a65c_get_915e3) := goodIn_app (goodIn_of _ (by decide +kernel)) ggX6_fillGates_Jx4a65c_get_915e3
set_option maxRecDepth 20000 in
theorem ggX6_fillGates_X6_comesTo : GoodIn wsX6_fillGates wsX6_comesTo := goodIn_r _ [30, 1, 2, 31, 32, 33, 34, 35, 29, 36, 3, 4, 5, 6, 7, 8, 9, 10, 11, 12, 13, 14, 15, 16, 17, 18, 19, 20, 21, 22, 23, 24, 25, 37, 38, 39, 40, 60, 61, 62, 63, 64, 65, 50, 51, 52, 53, 54, 55, 56, 66, 67, 68, 69, 70, 71, 72, 73, 74, 75, 76, 77, 78, 79, 57, 58, 59] (by decide +kernel) (by decide +kernel)
set_option maxRecDepth 20000 in
theorem gX6_fillGates_X6_comesTo : GoodIn wsX6_fillGates (wsV RX6 299 RX6 yX6_comesTo wsX6_comesTo) := goodIn_app (goodIn_of _ (by decide +kernel)) ggX6_fillGates_X6_comesTo
set_option maxRecDepth 20000 in
theorem ggX6_fillGates_X0_fill : GoodIn wsX6_fillGates wsX0_fill := goodIn_r _ [45, 46, 47, 48, 49, 60, 61, 62, 63, 64, 65] (by decide +kernel) (by decide +kernel)
set_option maxRecDepth 20000 in
theorem gX6_fillGates_X0_fill : GoodIn wsX6_fillGates (wsV RX6 303 RX0 yX0_fill wsX0_fill) := goodIn_app (goodIn_of _ (by decide +kernel)) ggX6_fillGates_X0_fill
theorem dX6_fillGates_0 : decode cX6_fillGates 0 = .ok (.iconst 0, 1) := by decide +kernel
theorem dX6_fillGates_1 : decode cX6_fillGates 1 = .ok (.istore_n 1, 1) := by decide +kernel
theorem dX6_fillGates_2 : decode cX6_fillGates 2 = .ok (.iload_n 1, 1) := by decide +kernel
theorem dX6_fillGates_3 : decode cX6_fillGates 3 = .ok (.aload_n 0, 1) := by decide +kernel
theorem dX6_fillGates_4 : decode cX6_fillGates 4 = .ok (.getfield 16, 3) := by decide +kernel
theorem dX6_fillGates_7 : decode cX6_fillGates 7 = .ok (.invokevirtual 44, 3) := by decide +kernel
theorem dX6_fillGates_10 : decode cX6_fillGates 10 = .ok (.if_icmp .ge 30, 3) := by decide +kernel
theorem dX6_fillGates_13 : decode cX6_fillGates 13 = .ok (.aload_n 0, 1) := by decide +kernel
theorem dX6_fillGates_14 : decode cX6_fillGates 14 = .ok (.getfield 16, 3) := by decide +kernel
theorem dX6_fillGates_17 : decode cX6_fillGates 17 = .ok (.iload_n 1, 1) := by decide +kernel
theorem dX6_fillGates_18 : decode cX6_fillGates 18 = .ok (.invokevirtual 138, 3) := by decide +kernel
theorem dX6_fillGates_21 : decode cX6_fillGates 21 = .ok (.checkcast 160, 3) := by decide +kernel
theorem dX6_fillGates_24 : decode cX6_fillGates 24 = .ok (.astore_n 2, 1) := by decide +kernel
theorem dX6_fillGates_25 : decode cX6_fillGates 25 = .ok (.aload_n 2, 1) := by decide +kernel
theorem dX6_fillGates_26 : decode cX6_fillGates 26 = .ok (.aload_n 0, 1) := by decide +kernel
theorem dX6_fillGates_27 : decode cX6_fillGates 27 = .ok (.aload_n 2, 1) := by decide +kernel
theorem dX6_fillGates_28 : decode cX6_fillGates 28 = .ok (.invokevirtual 299, 3) := by decide +kernel
theorem dX6_fillGates_31 : decode cX6_fillGates 31 = .ok (.invokevirtual 303, 3) := by decide +kernel
theorem dX6_fillGates_34 : decode cX6_fillGates 34 = .ok (.iinc 1 1, 3) := by decide +kernel
theorem dX6_fillGates_37 : decode cX6_fillGates 37 = .ok (.goto (-35), 3) := by decide +kernel
theorem dX6_fillGates_40 : decode cX6_fillGates 40 = .ok (.return_, 1) := by decide +kernel
set_option maxRecDepth 20000 in
theorem ggX6_comesTo_X6_hasGate : GoodIn wsX6_comesTo wsX6_hasGate := goodIn_r _ [9, 1, 10, 11, 12, 13, 14, 15, 43, 44, 45, 46, 47, 48, 49, 64, 65, 66] (by decide +kernel) (by decide +kernel)
set_option maxRecDepth 20000 in
theorem gX6_comesTo_X6_hasGate : GoodIn wsX6_comesTo (wsV RX6 312 RX6 yX6_hasGate wsX6_hasGate) := goodIn_app (goodIn_of _ (by decide +kernel)) ggX6_comesTo_X6_hasGate
set_option maxRecDepth 20000 in
theorem ggX6_comesTo_Jx4a65c_get_915e3 : GoodIn wsX6_comesTo wsJx4a65c_get_915e3 := goodIn_r _ [19, 15, 20, 21, 22, 23, 24, 25, 26, 27, 28, 29, 30, 13, 31, 32, 64, 65, 66] (by decide +kernel) (by decide +kernel)
set_option maxRecDepth 20000 in
theorem gX6_comesTo_Jx4a65c_get_915e3 : GoodIn wsX6_comesTo (wsV RX6 138 RJx4a65c yJx4a65c_get_915e3 wsJx4a65c_get_915e3) := goodIn_app (goodIn_of _ (by decide +kernel)) ggX6_comesTo_Jx4a65c_get_915e3
set_option maxRecDepth 20000 in
theorem ggX6_comesTo_X6_hasGlass : GoodIn wsX6_comesTo wsX6_hasGlass := goodIn_r _ [36, 3, 10, 11, 12, 13, 14, 15, 43, 44, 45, 46, 47, 48, 49, 64, 65, 66] (by decide +kernel) (by decide +kernel)
set_option maxRecDepth 20000 in
theorem gX6_comesTo_X6_hasGlass : GoodIn wsX6_comesTo (wsV RX6 245 RX6 yX6_hasGlass wsX6_hasGlass) := goodIn_app (goodIn_of _ (by decide +kernel)) ggX6_comesTo_X6_hasGlass
theorem dX6_comesTo_0 : decode cX6_comesTo 0 = .ok (.aload_n 1, 1) := by decide +kernel
theorem dX6_comesTo_1 : decode cX6_comesTo 1 = .ok (.getfield 306, 3) := by decide +kernel
theorem dX6_comesTo_4 : decode cX6_comesTo 4 = .ok (.ifCond .eq 36, 3) := by decide +kernel
theorem dX6_comesTo_7 : decode cX6_comesTo 7 = .ok (.aload_n 0, 1) := by decide +kernel
theorem dX6_comesTo_8 : decode cX6_comesTo 8 = .ok (.aload_n 1, 1) := by decide +kernel
theorem dX6_comesTo_9 : decode cX6_comesTo 9 = .ok (.getfield 309, 3) := by decide +kernel
theorem dX6_comesTo_12 : decode cX6_comesTo 12 = .ok (.invokevirtual 312, 3) := by decide +kernel
theorem dX6_comesTo_15 : decode cX6_comesTo 15 = .ok (.ifCond .eq 23, 3) := by decide +kernel
theorem dX6_comesTo_18 : decode cX6_comesTo 18 = .ok (.aload_n 0, 1) := by decide +kernel
theorem dX6_comesTo_19 : decode cX6_comesTo 19 = .ok (.getfield 16, 3) := by decide +kernel
theorem dX6_comesTo_22 : decode cX6_comesTo 22 = .ok (.aload_n 1, 1) := by decide +kernel
theorem dX6_comesTo_23 : decode cX6_comesTo 23 = .ok (.getfield 309, 3) := by decide +kernel
theorem dX6_comesTo_26 : decode cX6_comesTo 26 = .ok (.invokevirtual 138, 3) := by decide +kernel
theorem dX6_comesTo_29 : decode cX6_comesTo 29 = .ok (.checkcast 160, 3) := by decide +kernel
theorem dX6_comesTo_32 : decode cX6_comesTo 32 = .ok (.getfield 315, 3) := by decide +kernel
theorem dX6_comesTo_35 : decode cX6_comesTo 35 = .ok (.goto 4, 3) := by decide +kernel
theorem dX6_comesTo_38 : decode cX6_comesTo 38 = .ok (.iconst 0, 1) := by decide +kernel
theorem dX6_comesTo_39 : decode cX6_comesTo 39 = .ok (.ireturn, 1) := by decide +kernel
theorem dX6_comesTo_40 : decode cX6_comesTo 40 = .ok (.aload_n 0, 1) := by decide +kernel
theorem dX6_comesTo_41 : decode cX6_comesTo 41 = .ok (.aload_n 1, 1) := by decide +kernel
theorem dX6_comesTo_42 : decode cX6_comesTo 42 = .ok (.getfield 309, 3) := by decide +kernel
theorem dX6_comesTo_45 : decode cX6_comesTo 45 = .ok (.invokevirtual 245, 3) := by decide +kernel
theorem dX6_comesTo_48 : decode cX6_comesTo 48 = .ok (.ifCond .eq 23, 3) := by decide +kernel
theorem dX6_comesTo_51 : decode cX6_comesTo 51 = .ok (.aload_n 0, 1) := by decide +kernel
theorem dX6_comesTo_52 : decode cX6_comesTo 52 = .ok (.getfield 12, 3) := by decide +kernel
theorem dX6_comesTo_55 : decode cX6_comesTo 55 = .ok (.aload_n 1, 1) := by decide +kernel
theorem dX6_comesTo_56 : decode cX6_comesTo 56 = .ok (.getfield 309, 3) := by decide +kernel
theorem dX6_comesTo_59 : decode cX6_comesTo 59 = .ok (.invokevirtual 138, 3) := by decide +kernel
theorem dX6_comesTo_62 : decode cX6_comesTo 62 = .ok (.checkcast 52, 3) := by decide +kernel
theorem dX6_comesTo_65 : decode cX6_comesTo 65 = .ok (.getfield 289, 3) := by decide +kernel
theorem dX6_comesTo_68 : decode cX6_comesTo 68 = .ok (.goto 4, 3) := by decide +kernel
theorem dX6_comesTo_71 : decode cX6_comesTo 71 = .ok (.iconst 0, 1) := by decide +kernel
theorem dX6_comesTo_72 : decode cX6_comesTo 72 = .ok (.ireturn, 1) := by decide +kernel
set_option maxRecDepth 20000 in
theorem ggX6_addGate_X6_requireRange : GoodIn wsX6_addGate wsX6_requireRange := goodIn_ca (goodIn_r _ [8, 9, 10] (by decide +kernel) (by decide +kernel)) (goodIn_sub (fun _ h => List.mem_cons_of_mem _ (List.mem_append_left _ (List.mem_append_right _ h))) (by decide +kernel))
set_option maxRecDepth 20000 in
theorem gX6_addGate_X6_requireRange : GoodIn wsX6_addGate (va_wsS RX6 40 yX6_requireRange wsX6_requireRange) := goodIn_app (goodIn_of _ (by decide +kernel)) ggX6_addGate_X6_requireRange
set_option maxRecDepth 20000 in
theorem ggX6_addGate_Jx4a65c_size_8abf5 : GoodIn wsX6_addGate wsJx4a65c_size_8abf5 := goodIn_r _ [15, 16, 101, 102, 103] (by decide +kernel) (by decide +kernel)
set_option maxRecDepth 20000 in
theorem gX6_addGate_Jx4a65c_size_8abf5 : GoodIn wsX6_addGate (wsV RX6 44 RJx4a65c yJx4a65c_size_8abf5 wsJx4a65c_size_8abf5) := goodIn_app (goodIn_of _ (by decide +kernel)) ggX6_addGate_Jx4a65c_size_8abf5
set_option maxRecDepth 20000 in
theorem ggX6_addGate_X6_requireRoom : GoodIn wsX6_addGate wsX6_requireRoom := goodIn_ca (goodIn_r _ [19, 20, 21] (by decide +kernel) (by decide +kernel)) (goodIn_sub (fun _ h => List.mem_cons_of_mem _ (List.mem_append_right _ h)) (by decide +kernel))
set_option maxRecDepth 20000 in
theorem gX6_addGate_X6_requireRoom : GoodIn wsX6_addGate (va_wsS RX6 48 yX6_requireRoom wsX6_requireRoom) := goodIn_app (goodIn_of _ (by decide +kernel)) ggX6_addGate_X6_requireRoom
set_option maxRecDepth 20000 in
theorem ggX6_addGate_X0_init : GoodIn wsX6_addGate wsX0_init := goodIn_r _ [24, 25, 26, 27, 28, 29, 30, 95, 96, 97, 98, 99, 100] (by decide +kernel) (by decide +kernel)
set_option maxRecDepth 20000 in
theorem gX6_addGate_X0_init : GoodIn wsX6_addGate (wsX0_init) := ggX6_addGate_X0_init
set_option maxRecDepth 20000 in
theorem ggX6_addGate_Jx4a65c_add_9ea2d : GoodIn wsX6_addGate wsJx4a65c_add_9ea2d := goodIn_r _ [34, 35, 36, 37, 16, 38, 39, 40, 14, 41, 42, 43, 44, 45, 46, 47, 48, 49, 50, 51, 52, 53, 54, 55, 56, 57, 58, 59, 60, 61, 62, 63, 64, 65, 66, 67, 68, 69, 70, 71, 72, 73, 74, 75, 76, 77, 78, 79, 80, 81, 82, 83, 84, 85, 86, 87, 101, 102, 103, 104, 105, 106, 107] (by decide +kernel) (by decide +kernel)
set_option maxRecDepth 20000 in
theorem gX6_addGate_Jx4a65c_add_9ea2d : GoodIn wsX6_addGate (wsV RX6 57 RJx4a65c yJx4a65c_add_9ea2d wsJx4a65c_add_9ea2d) := goodIn_app (goodIn_of _ (by decide +kernel)) ggX6_addGate_Jx4a65c_add_9ea2d
theorem dX6_addGate_0 : decode cX6_addGate 0 = .ok (.iload_n 3, 1) := by decide +kernel
theorem dX6_addGate_1 : decode cX6_addGate 1 = .ok (.iconst 1, 1) := by decide +kernel
theorem dX6_addGate_2 : decode cX6_addGate 2 = .ok (.bipush 100, 2) := by decide +kernel
theorem dX6_addGate_4 : decode cX6_addGate 4 = .ok (.invokestatic 40, 3) := by decide +kernel
theorem dX6_addGate_7 : decode cX6_addGate 7 = .ok (.aload_n 0, 1) := by decide +kernel
theorem dX6_addGate_8 : decode cX6_addGate 8 = .ok (.getfield 16, 3) := by decide +kernel
theorem dX6_addGate_11 : decode cX6_addGate 11 = .ok (.invokevirtual 44, 3) := by decide +kernel
theorem dX6_addGate_14 : decode cX6_addGate 14 = .ok (.bipush 6, 2) := by decide +kernel
theorem dX6_addGate_16 : decode cX6_addGate 16 = .ok (.invokestatic 48, 3) := by decide +kernel
theorem dX6_addGate_19 : decode cX6_addGate 19 = .ok (.aload_n 0, 1) := by decide +kernel
theorem dX6_addGate_20 : decode cX6_addGate 20 = .ok (.getfield 16, 3) := by decide +kernel
theorem dX6_addGate_23 : decode cX6_addGate 23 = .ok (.new 160, 3) := by decide +kernel
theorem dX6_addGate_26 : decode cX6_addGate 26 = .ok (.dup, 1) := by decide +kernel
theorem dX6_addGate_27 : decode cX6_addGate 27 = .ok (.iload_n 1, 1) := by decide +kernel
theorem dX6_addGate_28 : decode cX6_addGate 28 = .ok (.iload_n 2, 1) := by decide +kernel
theorem dX6_addGate_29 : decode cX6_addGate 29 = .ok (.iload_n 3, 1) := by decide +kernel
theorem dX6_addGate_30 : decode cX6_addGate 30 = .ok (.invokespecial 318, 3) := by decide +kernel
theorem dX6_addGate_33 : decode cX6_addGate 33 = .ok (.invokevirtual 57, 3) := by decide +kernel
theorem dX6_addGate_36 : decode cX6_addGate 36 = .ok (.pop, 1) := by decide +kernel
theorem dX6_addGate_37 : decode cX6_addGate 37 = .ok (.aload_n 0, 1) := by decide +kernel
theorem dX6_addGate_38 : decode cX6_addGate 38 = .ok (.getfield 16, 3) := by decide +kernel
theorem dX6_addGate_41 : decode cX6_addGate 41 = .ok (.invokevirtual 44, 3) := by decide +kernel
theorem dX6_addGate_44 : decode cX6_addGate 44 = .ok (.iconst 1, 1) := by decide +kernel
theorem dX6_addGate_45 : decode cX6_addGate 45 = .ok (.isub, 1) := by decide +kernel
theorem dX6_addGate_46 : decode cX6_addGate 46 = .ok (.ireturn, 1) := by decide +kernel
set_option maxRecDepth 20000 in
theorem ggX6_hasGlass_Jx4a65c_size_8abf5 : GoodIn wsX6_hasGlass wsJx4a65c_size_8abf5 := goodIn_r _ [6, 7, 15, 16, 17] (by decide +kernel) (by decide +kernel)
set_option maxRecDepth 20000 in
theorem gX6_hasGlass_Jx4a65c_size_8abf5 : GoodIn wsX6_hasGlass (wsV RX6 44 RJx4a65c yJx4a65c_size_8abf5 wsJx4a65c_size_8abf5) := goodIn_app (goodIn_of _ (by decide +kernel)) ggX6_hasGlass_Jx4a65c_size_8abf5
theorem dX6_hasGlass_0 : decode cX6_hasGlass 0 = .ok (.iload_n 1, 1) := by decide +kernel
theorem dX6_hasGlass_1 : decode cX6_hasGlass 1 = .ok (.ifCond .lt 18, 3) := by decide +kernel
theorem dX6_hasGlass_4 : decode cX6_hasGlass 4 = .ok (.iload_n 1, 1) := by decide +kernel
theorem dX6_hasGlass_5 : decode cX6_hasGlass 5 = .ok (.aload_n 0, 1) := by decide +kernel
theorem dX6_hasGlass_6 : decode cX6_hasGlass 6 = .ok (.getfield 12, 3) := by decide +kernel
theorem dX6_hasGlass_9 : decode cX6_hasGlass 9 = .ok (.invokevirtual 44, 3) := by decide +kernel
theorem dX6_hasGlass_12 : decode cX6_hasGlass 12 = .ok (.if_icmp .ge 7, 3) := by decide +kernel
theorem dX6_hasGlass_15 : decode cX6_hasGlass 15 = .ok (.iconst 1, 1) := by decide +kernel
theorem dX6_hasGlass_16 : decode cX6_hasGlass 16 = .ok (.goto 4, 3) := by decide +kernel
theorem dX6_hasGlass_19 : decode cX6_hasGlass 19 = .ok (.iconst 0, 1) := by decide +kernel
theorem dX6_hasGlass_20 : decode cX6_hasGlass 20 = .ok (.ireturn, 1) := by decide +kernel
set_option maxRecDepth 20000 in
theorem ggX6_hasGate_Jx4a65c_size_8abf5 : GoodIn wsX6_hasGate wsJx4a65c_size_8abf5 := goodIn_r _ [6, 7, 15, 16, 17] (by decide +kernel) (by decide +kernel)
set_option maxRecDepth 20000 in
theorem gX6_hasGate_Jx4a65c_size_8abf5 : GoodIn wsX6_hasGate (wsV RX6 44 RJx4a65c yJx4a65c_size_8abf5 wsJx4a65c_size_8abf5) := goodIn_app (goodIn_of _ (by decide +kernel)) ggX6_hasGate_Jx4a65c_size_8abf5
theorem dX6_hasGate_0 : decode cX6_hasGate 0 = .ok (.iload_n 1, 1) := by decide +kernel
theorem dX6_hasGate_1 : decode cX6_hasGate 1 = .ok (.ifCond .lt 18, 3) := by decide +kernel
theorem dX6_hasGate_4 : decode cX6_hasGate 4 = .ok (.iload_n 1, 1) := by decide +kernel
theorem dX6_hasGate_5 : decode cX6_hasGate 5 = .ok (.aload_n 0, 1) := by decide +kernel
theorem dX6_hasGate_6 : decode cX6_hasGate 6 = .ok (.getfield 16, 3) := by decide +kernel
theorem dX6_hasGate_9 : decode cX6_hasGate 9 = .ok (.invokevirtual 44, 3) := by decide +kernel
theorem dX6_hasGate_12 : decode cX6_hasGate 12 = .ok (.if_icmp .ge 7, 3) := by decide +kernel
theorem dX6_hasGate_15 : decode cX6_hasGate 15 = .ok (.iconst 1, 1) := by decide +kernel
theorem dX6_hasGate_16 : decode cX6_hasGate 16 = .ok (.goto 4, 3) := by decide +kernel
theorem dX6_hasGate_19 : decode cX6_hasGate 19 = .ok (.iconst 0, 1) := by decide +kernel
theorem dX6_hasGate_20 : decode cX6_hasGate 20 = .ok (.ireturn, 1) := by decide +kernel
set_option maxRecDepth 20000 in
theorem ggX6_requireGlass_X6_hasGlass : GoodIn wsX6_requireGlass wsX6_hasGlass := goodIn_r _ [7, 8, 9, 10, 11, 12, 13, 14, 15, 16, 17, 18, 19, 20, 21, 22, 23, 24] (by decide +kernel) (by decide +kernel)
set_option maxRecDepth 20000 in
theorem gX6_requireGlass_X6_hasGlass : GoodIn wsX6_requireGlass (wsV RX6 245 RX6 yX6_hasGlass wsX6_hasGlass) := goodIn_app (goodIn_of _ (by decide +kernel)) ggX6_requireGlass_X6_hasGlass
theorem dX6_requireGlass_0 : decode cX6_requireGlass 0 = .ok (.aload_n 0, 1) := by decide +kernel
theorem dX6_requireGlass_1 : decode cX6_requireGlass 1 = .ok (.iload_n 1, 1) := by decide +kernel
theorem dX6_requireGlass_2 : decode cX6_requireGlass 2 = .ok (.invokevirtual 245, 3) := by decide +kernel
theorem dX6_requireGlass_5 : decode cX6_requireGlass 5 = .ok (.ifCond .ne 14, 3) := by decide +kernel
theorem dX6_requireGlass_8 : decode cX6_requireGlass 8 = .ok (.new 321, 3) := by decide +kernel
theorem dX6_requireGlass_11 : decode cX6_requireGlass 11 = .ok (.dup, 1) := by decide +kernel
theorem dX6_requireGlass_12 : decode cX6_requireGlass 12 = .ok (.ldc_w 323, 3) := by decide +kernel
theorem dX6_requireGlass_15 : decode cX6_requireGlass 15 = .ok (.invokespecial 325, 3) := by decide +kernel
theorem dX6_requireGlass_18 : decode cX6_requireGlass 18 = .ok (.athrow, 1) := by decide +kernel
theorem dX6_requireGlass_19 : decode cX6_requireGlass 19 = .ok (.return_, 1) := by decide +kernel
set_option maxRecDepth 20000 in
theorem ggX6_requireGate_X6_hasGate : GoodIn wsX6_requireGate wsX6_hasGate := goodIn_r _ [7, 8, 9, 10, 11, 12, 13, 14, 15, 16, 17, 18, 19, 20, 21, 22, 23, 24] (by decide +kernel) (by decide +kernel)
set_option maxRecDepth 20000 in
theorem gX6_requireGate_X6_hasGate : GoodIn wsX6_requireGate (wsV RX6 312 RX6 yX6_hasGate wsX6_hasGate) := goodIn_app (goodIn_of _ (by decide +kernel)) ggX6_requireGate_X6_hasGate
theorem dX6_requireGate_0 : decode cX6_requireGate 0 = .ok (.aload_n 0, 1) := by decide +kernel
theorem dX6_requireGate_1 : decode cX6_requireGate 1 = .ok (.iload_n 1, 1) := by decide +kernel
theorem dX6_requireGate_2 : decode cX6_requireGate 2 = .ok (.invokevirtual 312, 3) := by decide +kernel
theorem dX6_requireGate_5 : decode cX6_requireGate 5 = .ok (.ifCond .ne 14, 3) := by decide +kernel
theorem dX6_requireGate_8 : decode cX6_requireGate 8 = .ok (.new 321, 3) := by decide +kernel
theorem dX6_requireGate_11 : decode cX6_requireGate 11 = .ok (.dup, 1) := by decide +kernel
theorem dX6_requireGate_12 : decode cX6_requireGate 12 = .ok (.ldc_w 326, 3) := by decide +kernel
theorem dX6_requireGate_15 : decode cX6_requireGate 15 = .ok (.invokespecial 325, 3) := by decide +kernel
theorem dX6_requireGate_18 : decode cX6_requireGate 18 = .ok (.athrow, 1) := by decide +kernel
theorem dX6_requireGate_19 : decode cX6_requireGate 19 = .ok (.return_, 1) := by decide +kernel
set_option maxRecDepth 20000 in
theorem ggX6_theGlass_X6_requireGlass : GoodIn wsX6_theGlass wsX6_requireGlass := goodIn_ca (goodIn_r _ [7, 8, 9, 10, 11, 12, 6, 13, 1, 14, 15, 16, 17, 18, 19, 37, 38, 39, 40, 41, 42, 43, 44, 45, 46] (by decide +kernel) (by decide +kernel)) (goodIn_sub (fun _ h => List.mem_cons_of_mem _ (List.mem_append_right _ h)) (by decide +kernel))
set_option maxRecDepth 20000 in
theorem gX6_theGlass_X6_requireGlass : GoodIn wsX6_theGlass (wsV RX6 129 RX6 yX6_requireGlass wsX6_requireGlass) := goodIn_app (goodIn_of _ (by decide +kernel)) ggX6_theGlass_X6_requireGlass
set_option maxRecDepth 20000 in
theorem ggX6_theGlass_Jx4a65c_get_915e3 : GoodIn wsX6_theGlass wsJx4a65c_get_915e3 := goodIn_r _ [23, 19, 24, 25, 26, 27, 28, 29, 30, 31, 32, 33, 34, 17, 35, 36, 44, 45, 46] (by decide +kernel) (by decide +kernel)
set_option maxRecDepth 20000 in
theorem gX6_theGlass_Jx4a65c_get_915e3 : GoodIn wsX6_theGlass (wsV RX6 138 RJx4a65c yJx4a65c_get_915e3 wsJx4a65c_get_915e3) := goodIn_app (goodIn_of _ (by decide +kernel)) ggX6_theGlass_Jx4a65c_get_915e3
theorem dX6_theGlass_0 : decode cX6_theGlass 0 = .ok (.aload_n 0, 1) := by decide +kernel
theorem dX6_theGlass_1 : decode cX6_theGlass 1 = .ok (.iload_n 1, 1) := by decide +kernel
theorem dX6_theGlass_2 : decode cX6_theGlass 2 = .ok (.invokevirtual 129, 3) := by decide +kernel
theorem dX6_theGlass_5 : decode cX6_theGlass 5 = .ok (.aload_n 0, 1) := by decide +kernel
theorem dX6_theGlass_6 : decode cX6_theGlass 6 = .ok (.getfield 12, 3) := by decide +kernel
theorem dX6_theGlass_9 : decode cX6_theGlass 9 = .ok (.iload_n 1, 1) := by decide +kernel
theorem dX6_theGlass_10 : decode cX6_theGlass 10 = .ok (.invokevirtual 138, 3) := by decide +kernel
theorem dX6_theGlass_13 : decode cX6_theGlass 13 = .ok (.checkcast 52, 3) := by decide +kernel
theorem dX6_theGlass_16 : decode cX6_theGlass 16 = .ok (.areturn, 1) := by decide +kernel
set_option maxRecDepth 20000 in
theorem ggX6_theGate_X6_requireGate : GoodIn wsX6_theGate wsX6_requireGate := goodIn_ca (goodIn_r _ [7, 8, 9, 10, 11, 12, 6, 13, 1, 14, 15, 16, 17, 18, 19, 37, 38, 39, 40, 41, 42, 43, 44, 45, 46] (by decide +kernel) (by decide +kernel)) (goodIn_sub (fun _ h => List.mem_cons_of_mem _ (List.mem_append_right _ h)) (by decide +kernel))
set_option maxRecDepth 20000 in
theorem gX6_theGate_X6_requireGate : GoodIn wsX6_theGate (wsV RX6 152 RX6 yX6_requireGate wsX6_requireGate) := goodIn_app (goodIn_of _ (by decide +kernel)) ggX6_theGate_X6_requireGate
set_option maxRecDepth 20000 in
theorem ggX6_theGate_Jx4a65c_get_915e3 : GoodIn wsX6_theGate wsJx4a65c_get_915e3 := goodIn_r _ [23, 19, 24, 25, 26, 27, 28, 29, 30, 31, 32, 33, 34, 17, 35, 36, 44, 45, 46] (by decide +kernel) (by decide +kernel)
set_option maxRecDepth 20000 in
theorem gX6_theGate_Jx4a65c_get_915e3 : GoodIn wsX6_theGate (wsV RX6 138 RJx4a65c yJx4a65c_get_915e3 wsJx4a65c_get_915e3) := goodIn_app (goodIn_of _ (by decide +kernel)) ggX6_theGate_Jx4a65c_get_915e3
theorem dX6_theGate_0 : decode cX6_theGate 0 = .ok (.aload_n 0, 1) := by decide +kernel
theorem dX6_theGate_1 : decode cX6_theGate 1 = .ok (.iload_n 1, 1) := by decide +kernel
theorem dX6_theGate_2 : decode cX6_theGate 2 = .ok (.invokevirtual 152, 3) := by decide +kernel
theorem dX6_theGate_5 : decode cX6_theGate 5 = .ok (.aload_n 0, 1) := by decide +kernel
theorem dX6_theGate_6 : decode cX6_theGate 6 = .ok (.getfield 16, 3) := by decide +kernel
theorem dX6_theGate_9 : decode cX6_theGate 9 = .ok (.iload_n 1, 1) := by decide +kernel
theorem dX6_theGate_10 : decode cX6_theGate 10 = .ok (.invokevirtual 138, 3) := by decide +kernel
theorem dX6_theGate_13 : decode cX6_theGate 13 = .ok (.checkcast 160, 3) := by decide +kernel
theorem dX6_theGate_16 : decode cX6_theGate 16 = .ok (.areturn, 1) := by decide +kernel
set_option maxRecDepth 20000 in
theorem ggX6_requireMeasurable_X6_requireRange : GoodIn wsX6_requireMeasurable wsX6_requireRange := goodIn_ca (goodIn_r _ [7, 8, 9] (by decide +kernel) (by decide +kernel)) (goodIn_sub (fun _ h => List.mem_cons_of_mem _ (List.mem_append_right _ h)) (by decide +kernel))
set_option maxRecDepth 20000 in
theorem gX6_requireMeasurable_X6_requireRange : GoodIn wsX6_requireMeasurable (va_wsS RX6 40 yX6_requireRange wsX6_requireRange) := goodIn_app (goodIn_of _ (by decide +kernel)) ggX6_requireMeasurable_X6_requireRange
set_option maxRecDepth 20000 in
theorem ggX6_requireMeasurable_X2_reaches : GoodIn wsX6_requireMeasurable wsX2_reaches := goodIn_r _ [14, 15, 16, 17, 13, 18, 19, 20, 21, 22, 23, 24, 25, 26, 27, 28, 29, 37, 38, 39, 40, 41, 42, 43, 44, 45, 46, 47, 48, 49] (by decide +kernel) (by decide +kernel)
set_option maxRecDepth 20000 in
theorem gX6_requireMeasurable_X2_reaches : GoodIn wsX6_requireMeasurable (wsV RX6 211 RX2 yX2_reaches wsX2_reaches) := goodIn_app (goodIn_of _ (by decide +kernel)) ggX6_requireMeasurable_X2_reaches
theorem dX6_requireMeasurable_0 : decode cX6_requireMeasurable 0 = .ok (.iload_n 1, 1) := by decide +kernel
theorem dX6_requireMeasurable_1 : decode cX6_requireMeasurable 1 = .ok (.iconst 1, 1) := by decide +kernel
theorem dX6_requireMeasurable_2 : decode cX6_requireMeasurable 2 = .ok (.bipush 40, 2) := by decide +kernel
theorem dX6_requireMeasurable_4 : decode cX6_requireMeasurable 4 = .ok (.invokestatic 40, 3) := by decide +kernel
theorem dX6_requireMeasurable_7 : decode cX6_requireMeasurable 7 = .ok (.aload_n 0, 1) := by decide +kernel
theorem dX6_requireMeasurable_8 : decode cX6_requireMeasurable 8 = .ok (.getfield 22, 3) := by decide +kernel
theorem dX6_requireMeasurable_11 : decode cX6_requireMeasurable 11 = .ok (.iload_n 1, 1) := by decide +kernel
theorem dX6_requireMeasurable_12 : decode cX6_requireMeasurable 12 = .ok (.invokevirtual 211, 3) := by decide +kernel
theorem dX6_requireMeasurable_15 : decode cX6_requireMeasurable 15 = .ok (.ifCond .ne 14, 3) := by decide +kernel
theorem dX6_requireMeasurable_18 : decode cX6_requireMeasurable 18 = .ok (.new 176, 3) := by decide +kernel
theorem dX6_requireMeasurable_21 : decode cX6_requireMeasurable 21 = .ok (.dup, 1) := by decide +kernel
theorem dX6_requireMeasurable_22 : decode cX6_requireMeasurable 22 = .ok (.ldc_w 328, 3) := by decide +kernel
theorem dX6_requireMeasurable_25 : decode cX6_requireMeasurable 25 = .ok (.invokespecial 180, 3) := by decide +kernel
theorem dX6_requireMeasurable_28 : decode cX6_requireMeasurable 28 = .ok (.athrow, 1) := by decide +kernel
theorem dX6_requireMeasurable_29 : decode cX6_requireMeasurable 29 = .ok (.return_, 1) := by decide +kernel
set_option maxRecDepth 20000 in
theorem ggX6_requireDecision_X6_requireMeasurable : GoodIn wsX6_requireDecision wsX6_requireMeasurable := goodIn_ca (goodIn_ca (goodIn_r _ [8, 1, 2, 3, 9, 10, 7, 11, 12, 13, 14, 15, 16, 17, 18, 19, 20, 21, 22, 23, 24, 25, 26, 27, 28, 29, 30, 31, 32, 33, 63, 64, 65, 66, 67, 68, 69, 70, 71, 72, 73, 74, 75, 76, 77, 78, 79, 80, 81, 82] (by decide +kernel) (by decide +kernel)) (goodIn_sub (fun _ h => List.mem_cons_of_mem _ (List.mem_append_left _ (List.mem_append_right _ h))) (by decide +kernel))) (goodIn_sub (fun _ h => List.mem_cons_of_mem _ (List.mem_append_right _ h)) (by decide +kernel))
set_option maxRecDepth 20000 in
theorem gX6_requireDecision_X6_requireMeasurable : GoodIn wsX6_requireDecision (wsV RX6 215 RX6 yX6_requireMeasurable wsX6_requireMeasurable) := goodIn_app (goodIn_of _ (by decide +kernel)) ggX6_requireDecision_X6_requireMeasurable
set_option maxRecDepth 20000 in
theorem ggX6_requireDecision_X2_plan : GoodIn wsX6_requireDecision wsX2_plan := goodIn_r _ [37, 38, 39, 40, 41, 42, 43, 44, 45, 17, 46, 47, 48, 49, 50, 51, 28, 29, 30, 31, 32, 33, 52, 53, 54, 55, 56, 57, 58, 23, 24, 25, 26, 27, 59, 60, 61, 62, 70, 71, 72, 73, 74, 75, 76, 77, 78, 79, 80, 81, 82] (by decide +kernel) (by decide +kernel)
set_option maxRecDepth 20000 in
theorem gX6_requireDecision_X2_plan : GoodIn wsX6_requireDecision (wsV RX6 221 RX2 yX2_plan wsX2_plan) := goodIn_app (goodIn_of _ (by decide +kernel)) ggX6_requireDecision_X2_plan
theorem dX6_requireDecision_0 : decode cX6_requireDecision 0 = .ok (.aload_n 0, 1) := by decide +kernel
theorem dX6_requireDecision_1 : decode cX6_requireDecision 1 = .ok (.iload_n 1, 1) := by decide +kernel
theorem dX6_requireDecision_2 : decode cX6_requireDecision 2 = .ok (.invokevirtual 215, 3) := by decide +kernel
theorem dX6_requireDecision_5 : decode cX6_requireDecision 5 = .ok (.aload_n 0, 1) := by decide +kernel
theorem dX6_requireDecision_6 : decode cX6_requireDecision 6 = .ok (.getfield 22, 3) := by decide +kernel
theorem dX6_requireDecision_9 : decode cX6_requireDecision 9 = .ok (.iload_n 1, 1) := by decide +kernel
theorem dX6_requireDecision_10 : decode cX6_requireDecision 10 = .ok (.invokevirtual 221, 3) := by decide +kernel
theorem dX6_requireDecision_13 : decode cX6_requireDecision 13 = .ok (.iload_n 2, 1) := by decide +kernel
theorem dX6_requireDecision_14 : decode cX6_requireDecision 14 = .ok (.ifCond .lt 14, 3) := by decide +kernel
theorem dX6_requireDecision_17 : decode cX6_requireDecision 17 = .ok (.iload_n 2, 1) := by decide +kernel
theorem dX6_requireDecision_18 : decode cX6_requireDecision 18 = .ok (.aload_n 0, 1) := by decide +kernel
theorem dX6_requireDecision_19 : decode cX6_requireDecision 19 = .ok (.getfield 22, 3) := by decide +kernel
theorem dX6_requireDecision_22 : decode cX6_requireDecision 22 = .ok (.getfield 224, 3) := by decide +kernel
theorem dX6_requireDecision_25 : decode cX6_requireDecision 25 = .ok (.if_icmp .lt 14, 3) := by decide +kernel
theorem dX6_requireDecision_28 : decode cX6_requireDecision 28 = .ok (.new 176, 3) := by decide +kernel
theorem dX6_requireDecision_31 : decode cX6_requireDecision 31 = .ok (.dup, 1) := by decide +kernel
theorem dX6_requireDecision_32 : decode cX6_requireDecision 32 = .ok (.ldc_w 330, 3) := by decide +kernel
theorem dX6_requireDecision_35 : decode cX6_requireDecision 35 = .ok (.invokespecial 180, 3) := by decide +kernel
theorem dX6_requireDecision_38 : decode cX6_requireDecision 38 = .ok (.athrow, 1) := by decide +kernel
theorem dX6_requireDecision_39 : decode cX6_requireDecision 39 = .ok (.return_, 1) := by decide +kernel
theorem dX6_requireHigher_0 : decode cX6_requireHigher 0 = .ok (.iload_n 0, 1) := by decide +kernel
theorem dX6_requireHigher_1 : decode cX6_requireHigher 1 = .ok (.iload_n 1, 1) := by decide +kernel
theorem dX6_requireHigher_2 : decode cX6_requireHigher 2 = .ok (.if_icmp .gt 14, 3) := by decide +kernel
theorem dX6_requireHigher_5 : decode cX6_requireHigher 5 = .ok (.new 121, 3) := by decide +kernel
theorem dX6_requireHigher_8 : decode cX6_requireHigher 8 = .ok (.dup, 1) := by decide +kernel
theorem dX6_requireHigher_9 : decode cX6_requireHigher 9 = .ok (.ldc_w 332, 3) := by decide +kernel
theorem dX6_requireHigher_12 : decode cX6_requireHigher 12 = .ok (.invokespecial 125, 3) := by decide +kernel
theorem dX6_requireHigher_15 : decode cX6_requireHigher 15 = .ok (.athrow, 1) := by decide +kernel
theorem dX6_requireHigher_16 : decode cX6_requireHigher 16 = .ok (.return_, 1) := by decide +kernel
theorem dX6_requireRuns_0 : decode cX6_requireRuns 0 = .ok (.aload_n 0, 1) := by decide +kernel
theorem dX6_requireRuns_1 : decode cX6_requireRuns 1 = .ok (.getfield 171, 3) := by decide +kernel
theorem dX6_requireRuns_4 : decode cX6_requireRuns 4 = .ok (.iload_n 1, 1) := by decide +kernel
theorem dX6_requireRuns_5 : decode cX6_requireRuns 5 = .ok (.if_icmp .ge 14, 3) := by decide +kernel
theorem dX6_requireRuns_8 : decode cX6_requireRuns 8 = .ok (.new 176, 3) := by decide +kernel
theorem dX6_requireRuns_11 : decode cX6_requireRuns 11 = .ok (.dup, 1) := by decide +kernel
theorem dX6_requireRuns_12 : decode cX6_requireRuns 12 = .ok (.ldc_w 334, 3) := by decide +kernel
theorem dX6_requireRuns_15 : decode cX6_requireRuns 15 = .ok (.invokespecial 180, 3) := by decide +kernel
theorem dX6_requireRuns_18 : decode cX6_requireRuns 18 = .ok (.athrow, 1) := by decide +kernel
theorem dX6_requireRuns_19 : decode cX6_requireRuns 19 = .ok (.return_, 1) := by decide +kernel
theorem dX6_requireRange_0 : decode cX6_requireRange 0 = .ok (.iload_n 0, 1) := by decide +kernel
theorem dX6_requireRange_1 : decode cX6_requireRange 1 = .ok (.iload_n 1, 1) := by decide +kernel
theorem dX6_requireRange_2 : decode cX6_requireRange 2 = .ok (.if_icmp .lt 8, 3) := by decide +kernel
theorem dX6_requireRange_5 : decode cX6_requireRange 5 = .ok (.iload_n 0, 1) := by decide +kernel
theorem dX6_requireRange_6 : decode cX6_requireRange 6 = .ok (.iload_n 2, 1) := by decide +kernel
theorem dX6_requireRange_7 : decode cX6_requireRange 7 = .ok (.if_icmp .le 14, 3) := by decide +kernel
theorem dX6_requireRange_10 : decode cX6_requireRange 10 = .ok (.new 88, 3) := by decide +kernel
theorem dX6_requireRange_13 : decode cX6_requireRange 13 = .ok (.dup, 1) := by decide +kernel
theorem dX6_requireRange_14 : decode cX6_requireRange 14 = .ok (.ldc_w 336, 3) := by decide +kernel
theorem dX6_requireRange_17 : decode cX6_requireRange 17 = .ok (.invokespecial 92, 3) := by decide +kernel
theorem dX6_requireRange_20 : decode cX6_requireRange 20 = .ok (.athrow, 1) := by decide +kernel
theorem dX6_requireRange_21 : decode cX6_requireRange 21 = .ok (.return_, 1) := by decide +kernel
theorem dX6_requireRoom_0 : decode cX6_requireRoom 0 = .ok (.iload_n 0, 1) := by decide +kernel
theorem dX6_requireRoom_1 : decode cX6_requireRoom 1 = .ok (.iload_n 1, 1) := by decide +kernel
theorem dX6_requireRoom_2 : decode cX6_requireRoom 2 = .ok (.if_icmp .lt 14, 3) := by decide +kernel
theorem dX6_requireRoom_5 : decode cX6_requireRoom 5 = .ok (.new 109, 3) := by decide +kernel
theorem dX6_requireRoom_8 : decode cX6_requireRoom 8 = .ok (.dup, 1) := by decide +kernel
theorem dX6_requireRoom_9 : decode cX6_requireRoom 9 = .ok (.ldc_w 338, 3) := by decide +kernel
theorem dX6_requireRoom_12 : decode cX6_requireRoom 12 = .ok (.invokespecial 113, 3) := by decide +kernel
theorem dX6_requireRoom_15 : decode cX6_requireRoom 15 = .ok (.athrow, 1) := by decide +kernel
theorem dX6_requireRoom_16 : decode cX6_requireRoom 16 = .ok (.return_, 1) := by decide +kernel
set_option maxRecDepth 20000 in
theorem ggX8_init_Jx4a65c_init_da8c8 : GoodIn wsX8_init wsJx4a65c_init_da8c8 := goodIn_r _ [17, 18, 19, 20, 21, 22, 23, 24, 25, 26, 27, 28, 29, 2, 3, 44, 45, 46] (by decide +kernel) (by decide +kernel)
set_option maxRecDepth 20000 in
theorem gX8_init_Jx4a65c_init_da8c8 : GoodIn wsX8_init (wsJx4a65c_init_da8c8) := ggX8_init_Jx4a65c_init_da8c8
theorem dX8_init_0 : decode cX8_init 0 = .ok (.aload_n 0, 1) := by decide +kernel
theorem dX8_init_1 : decode cX8_init 1 = .ok (.invokespecial 1, 3) := by decide +kernel
theorem dX8_init_4 : decode cX8_init 4 = .ok (.aload_n 0, 1) := by decide +kernel
theorem dX8_init_5 : decode cX8_init 5 = .ok (.iconst (-1), 1) := by decide +kernel
theorem dX8_init_6 : decode cX8_init 6 = .ok (.putfield 7, 3) := by decide +kernel
theorem dX8_init_9 : decode cX8_init 9 = .ok (.aload_n 0, 1) := by decide +kernel
theorem dX8_init_10 : decode cX8_init 10 = .ok (.iconst 1, 1) := by decide +kernel
theorem dX8_init_11 : decode cX8_init 11 = .ok (.putfield 13, 3) := by decide +kernel
theorem dX8_init_14 : decode cX8_init 14 = .ok (.aload_n 0, 1) := by decide +kernel
theorem dX8_init_15 : decode cX8_init 15 = .ok (.bipush 117, 2) := by decide +kernel
theorem dX8_init_17 : decode cX8_init 17 = .ok (.putfield 17, 3) := by decide +kernel
theorem dX8_init_20 : decode cX8_init 20 = .ok (.aload_n 0, 1) := by decide +kernel
theorem dX8_init_21 : decode cX8_init 21 = .ok (.new 21, 3) := by decide +kernel
theorem dX8_init_24 : decode cX8_init 24 = .ok (.dup, 1) := by decide +kernel
theorem dX8_init_25 : decode cX8_init 25 = .ok (.invokespecial 23, 3) := by decide +kernel
theorem dX8_init_28 : decode cX8_init 28 = .ok (.putfield 24, 3) := by decide +kernel
theorem dX8_init_31 : decode cX8_init 31 = .ok (.aload_n 0, 1) := by decide +kernel
theorem dX8_init_32 : decode cX8_init 32 = .ok (.iload_n 1, 1) := by decide +kernel
theorem dX8_init_33 : decode cX8_init 33 = .ok (.putfield 28, 3) := by decide +kernel
theorem dX8_init_36 : decode cX8_init 36 = .ok (.aload_n 0, 1) := by decide +kernel
