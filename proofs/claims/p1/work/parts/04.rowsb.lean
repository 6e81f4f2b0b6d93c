theorem dX8_init_37 : decode cX8_init 37 = .ok (.iload_n 2, 1) := by decide +kernel
theorem dX8_init_38 : decode cX8_init 38 = .ok (.putfield 31, 3) := by decide +kernel
theorem dX8_init_41 : decode cX8_init 41 = .ok (.aload_n 0, 1) := by decide +kernel
theorem dX8_init_42 : decode cX8_init 42 = .ok (.iload_n 3, 1) := by decide +kernel
theorem dX8_init_43 : decode cX8_init 43 = .ok (.putfield 34, 3) := by decide +kernel
theorem dX8_init_46 : decode cX8_init 46 = .ok (.aload_n 0, 1) := by decide +kernel
theorem dX8_init_47 : decode cX8_init 47 = .ok (.iload 4, 2) := by decide +kernel
theorem dX8_init_49 : decode cX8_init 49 = .ok (.putfield 37, 3) := by decide +kernel
theorem dX8_init_52 : decode cX8_init 52 = .ok (.return_, 1) := by decide +kernel
set_option maxRecDepth 20000 in
theorem ggX9_init_Jx4a65c_init_da8c8 : GoodIn wsX9_init wsJx4a65c_init_da8c8 := goodIn_r _ [14, 15, 16, 17, 18, 19, 20, 21, 22, 23, 24, 25, 26, 2, 3, 27, 28, 29] (by decide +kernel) (by decide +kernel)
set_option maxRecDepth 20000 in
theorem gX9_init_Jx4a65c_init_da8c8 : GoodIn wsX9_init (wsJx4a65c_init_da8c8) := ggX9_init_Jx4a65c_init_da8c8
theorem dX9_init_0 : decode cX9_init 0 = .ok (.aload_n 0, 1) := by decide +kernel
theorem dX9_init_1 : decode cX9_init 1 = .ok (.invokespecial 1, 3) := by decide +kernel
theorem dX9_init_4 : decode cX9_init 4 = .ok (.aload_n 0, 1) := by decide +kernel
theorem dX9_init_5 : decode cX9_init 5 = .ok (.new 7, 3) := by decide +kernel
theorem dX9_init_8 : decode cX9_init 8 = .ok (.dup, 1) := by decide +kernel
theorem dX9_init_9 : decode cX9_init 9 = .ok (.invokespecial 9, 3) := by decide +kernel
theorem dX9_init_12 : decode cX9_init 12 = .ok (.putfield 10, 3) := by decide +kernel
theorem dX9_init_15 : decode cX9_init 15 = .ok (.aload_n 0, 1) := by decide +kernel
theorem dX9_init_16 : decode cX9_init 16 = .ok (.new 7, 3) := by decide +kernel
theorem dX9_init_19 : decode cX9_init 19 = .ok (.dup, 1) := by decide +kernel
theorem dX9_init_20 : decode cX9_init 20 = .ok (.invokespecial 9, 3) := by decide +kernel
theorem dX9_init_23 : decode cX9_init 23 = .ok (.putfield 16, 3) := by decide +kernel
theorem dX9_init_26 : decode cX9_init 26 = .ok (.aload_n 0, 1) := by decide +kernel
theorem dX9_init_27 : decode cX9_init 27 = .ok (.new 7, 3) := by decide +kernel
theorem dX9_init_30 : decode cX9_init 30 = .ok (.dup, 1) := by decide +kernel
theorem dX9_init_31 : decode cX9_init 31 = .ok (.invokespecial 9, 3) := by decide +kernel
theorem dX9_init_34 : decode cX9_init 34 = .ok (.putfield 19, 3) := by decide +kernel
theorem dX9_init_37 : decode cX9_init 37 = .ok (.aload_n 0, 1) := by decide +kernel
theorem dX9_init_38 : decode cX9_init 38 = .ok (.iconst 1, 1) := by decide +kernel
theorem dX9_init_39 : decode cX9_init 39 = .ok (.putfield 22, 3) := by decide +kernel
theorem dX9_init_42 : decode cX9_init 42 = .ok (.aload_n 0, 1) := by decide +kernel
theorem dX9_init_43 : decode cX9_init 43 = .ok (.iconst (-1), 1) := by decide +kernel
theorem dX9_init_44 : decode cX9_init 44 = .ok (.putfield 26, 3) := by decide +kernel
theorem dX9_init_47 : decode cX9_init 47 = .ok (.return_, 1) := by decide +kernel
theorem dX9_thrown_0 : decode cX9_thrown 0 = .ok (.aload_n 0, 1) := by decide +kernel
theorem dX9_thrown_1 : decode cX9_thrown 1 = .ok (.getfield 29, 3) := by decide +kernel
theorem dX9_thrown_4 : decode cX9_thrown 4 = .ok (.ireturn, 1) := by decide +kernel
theorem dX9_no_0 : decode cX9_no 0 = .ok (.aload_n 0, 1) := by decide +kernel
theorem dX9_no_1 : decode cX9_no 1 = .ok (.iload_n 1, 1) := by decide +kernel
theorem dX9_no_2 : decode cX9_no 2 = .ok (.ifCond .eq 7, 3) := by decide +kernel
theorem dX9_no_5 : decode cX9_no 5 = .ok (.iconst 0, 1) := by decide +kernel
theorem dX9_no_6 : decode cX9_no 6 = .ok (.goto 4, 3) := by decide +kernel
theorem dX9_no_9 : decode cX9_no 9 = .ok (.iload_n 2, 1) := by decide +kernel
theorem dX9_no_10 : decode cX9_no 10 = .ok (.putfield 29, 3) := by decide +kernel
theorem dX9_no_13 : decode cX9_no 13 = .ok (.iload_n 1, 1) := by decide +kernel
theorem dX9_no_14 : decode cX9_no 14 = .ok (.ifCond .ne 7, 3) := by decide +kernel
theorem dX9_no_17 : decode cX9_no 17 = .ok (.iconst 1, 1) := by decide +kernel
theorem dX9_no_18 : decode cX9_no 18 = .ok (.goto 4, 3) := by decide +kernel
theorem dX9_no_21 : decode cX9_no 21 = .ok (.iconst 0, 1) := by decide +kernel
theorem dX9_no_22 : decode cX9_no 22 = .ok (.ireturn, 1) := by decide +kernel
theorem dX9_isIn_0 : decode cX9_isIn 0 = .ok (.iload_n 0, 1) := by decide +kernel
theorem dX9_isIn_1 : decode cX9_isIn 1 = .ok (.iload_n 1, 1) := by decide +kernel
theorem dX9_isIn_2 : decode cX9_isIn 2 = .ok (.if_icmp .lt 12, 3) := by decide +kernel
theorem dX9_isIn_5 : decode cX9_isIn 5 = .ok (.iload_n 0, 1) := by decide +kernel
theorem dX9_isIn_6 : decode cX9_isIn 6 = .ok (.iload_n 2, 1) := by decide +kernel
theorem dX9_isIn_7 : decode cX9_isIn 7 = .ok (.if_icmp .gt 7, 3) := by decide +kernel
theorem dX9_isIn_10 : decode cX9_isIn 10 = .ok (.iconst 1, 1) := by decide +kernel
theorem dX9_isIn_11 : decode cX9_isIn 11 = .ok (.goto 4, 3) := by decide +kernel
theorem dX9_isIn_14 : decode cX9_isIn 14 = .ok (.iconst 0, 1) := by decide +kernel
theorem dX9_isIn_15 : decode cX9_isIn 15 = .ok (.ireturn, 1) := by decide +kernel
set_option maxRecDepth 20000 in
theorem ggX9_isGlass_Jx4a65c_size_8abf5 : GoodIn wsX9_isGlass wsJx4a65c_size_8abf5 := goodIn_r _ [6, 7, 21, 22, 23] (by decide +kernel) (by decide +kernel)
set_option maxRecDepth 20000 in
theorem gX9_isGlass_Jx4a65c_size_8abf5_f32Jx4a65c : GoodIn wsX9_isGlass (va_wsF RX9 32 RJx4a65c ⟨"java/util/List", "size", "()I"⟩ yJx4a65c_size_8abf5 wsJx4a65c_size_8abf5) := goodIn_app (goodIn_of _ (by decide +kernel)) ggX9_isGlass_Jx4a65c_size_8abf5
set_option maxRecDepth 20000 in
theorem ggX9_isGlass_X9_isIn : GoodIn wsX9_isGlass wsX9_isIn := goodIn_r _ [11] (by decide +kernel) (by decide +kernel)
set_option maxRecDepth 20000 in
theorem gX9_isGlass_X9_isIn : GoodIn wsX9_isGlass (va_wsS RX9 38 yX9_isIn wsX9_isIn) := goodIn_app (goodIn_of _ (by decide +kernel)) ggX9_isGlass_X9_isIn
theorem dX9_isGlass_0 : decode cX9_isGlass 0 = .ok (.iload_n 1, 1) := by decide +kernel
theorem dX9_isGlass_1 : decode cX9_isGlass 1 = .ok (.iconst 0, 1) := by decide +kernel
theorem dX9_isGlass_2 : decode cX9_isGlass 2 = .ok (.aload_n 0, 1) := by decide +kernel
theorem dX9_isGlass_3 : decode cX9_isGlass 3 = .ok (.getfield 10, 3) := by decide +kernel
theorem dX9_isGlass_6 : decode cX9_isGlass 6 = .ok (.invokeinterface 32 1, 5) := by decide +kernel
theorem dX9_isGlass_11 : decode cX9_isGlass 11 = .ok (.iconst 1, 1) := by decide +kernel
theorem dX9_isGlass_12 : decode cX9_isGlass 12 = .ok (.isub, 1) := by decide +kernel
theorem dX9_isGlass_13 : decode cX9_isGlass 13 = .ok (.invokestatic 38, 3) := by decide +kernel
theorem dX9_isGlass_16 : decode cX9_isGlass 16 = .ok (.ireturn, 1) := by decide +kernel
set_option maxRecDepth 20000 in
theorem ggX9_addGlass_X9_isIn : GoodIn wsX9_addGlass wsX9_isIn := goodIn_r _ [8] (by decide +kernel) (by decide +kernel)
set_option maxRecDepth 20000 in
theorem gX9_addGlass_X9_isIn : GoodIn wsX9_addGlass (va_wsS RX9 38 yX9_isIn wsX9_isIn) := goodIn_app (goodIn_of _ (by decide +kernel)) ggX9_addGlass_X9_isIn
set_option maxRecDepth 20000 in
theorem ggX9_addGlass_X9_no : GoodIn wsX9_addGlass wsX9_no := goodIn_r _ [12, 13, 106, 107, 108, 109, 110, 111, 112, 113, 114] (by decide +kernel) (by decide +kernel)
set_option maxRecDepth 20000 in
theorem gX9_addGlass_X9_no : GoodIn wsX9_addGlass (wsV RX9 42 RX9 yX9_no wsX9_no) := goodIn_app (goodIn_of _ (by decide +kernel)) ggX9_addGlass_X9_no
set_option maxRecDepth 20000 in
theorem ggX9_addGlass_Jx4a65c_size_8abf5 : GoodIn wsX9_addGlass wsJx4a65c_size_8abf5 := goodIn_r _ [18, 19, 129, 130, 131] (by decide +kernel) (by decide +kernel)
set_option maxRecDepth 20000 in
theorem gX9_addGlass_Jx4a65c_size_8abf5_f32Jx4a65c : GoodIn wsX9_addGlass (va_wsF RX9 32 RJx4a65c ⟨"java/util/List", "size", "()I"⟩ yJx4a65c_size_8abf5 wsJx4a65c_size_8abf5) := goodIn_app (goodIn_of _ (by decide +kernel)) ggX9_addGlass_Jx4a65c_size_8abf5
set_option maxRecDepth 20000 in
theorem ggX9_addGlass_X8_init : GoodIn wsX9_addGlass wsX8_init := goodIn_r _ [22, 23, 24, 25, 26, 27, 28, 29, 30, 17, 31, 32, 33, 34, 35, 36, 37, 38, 39, 40, 41, 42, 43, 44, 45, 46, 47, 48, 49, 50, 115, 116, 117, 118, 119, 120, 121, 122, 123, 124, 125, 126, 127, 128, 129, 130, 131] (by decide +kernel) (by decide +kernel)
set_option maxRecDepth 20000 in
theorem gX9_addGlass_X8_init : GoodIn wsX9_addGlass (wsX8_init) := ggX9_addGlass_X8_init
set_option maxRecDepth 20000 in
theorem ggX9_addGlass_Jx4a65c_add_9ea2d : GoodIn wsX9_addGlass wsJx4a65c_add_9ea2d := goodIn_r _ [54, 55, 56, 40, 19, 57, 58, 59, 17, 60, 61, 62, 63, 64, 65, 66, 67, 68, 39, 69, 70, 71, 72, 73, 74, 75, 76, 77, 78, 79, 80, 81, 82, 83, 84, 85, 86, 87, 88, 89, 90, 91, 92, 93, 94, 95, 96, 97, 98, 99, 100, 101, 102, 103, 104, 105, 129, 130, 131, 132, 133, 134, 135] (by decide +kernel) (by decide +kernel)
set_option maxRecDepth 20000 in
theorem gX9_addGlass_Jx4a65c_add_9ea2d_f51Jx4a65c : GoodIn wsX9_addGlass (va_wsF RX9 51 RJx4a65c ⟨"java/util/List", "add", "(Ljava/lang/Object;)Z"⟩ yJx4a65c_add_9ea2d wsJx4a65c_add_9ea2d) := goodIn_app (goodIn_of _ (by decide +kernel)) ggX9_addGlass_Jx4a65c_add_9ea2d
theorem dX9_addGlass_0 : decode cX9_addGlass 0 = .ok (.iload_n 1, 1) := by decide +kernel
theorem dX9_addGlass_1 : decode cX9_addGlass 1 = .ok (.iconst 1, 1) := by decide +kernel
theorem dX9_addGlass_2 : decode cX9_addGlass 2 = .ok (.sipush 9999, 3) := by decide +kernel
theorem dX9_addGlass_5 : decode cX9_addGlass 5 = .ok (.invokestatic 38, 3) := by decide +kernel
theorem dX9_addGlass_8 : decode cX9_addGlass 8 = .ok (.ifCond .eq 38, 3) := by decide +kernel
theorem dX9_addGlass_11 : decode cX9_addGlass 11 = .ok (.iload_n 2, 1) := by decide +kernel
theorem dX9_addGlass_12 : decode cX9_addGlass 12 = .ok (.iconst 1, 1) := by decide +kernel
theorem dX9_addGlass_13 : decode cX9_addGlass 13 = .ok (.bipush 50, 2) := by decide +kernel
theorem dX9_addGlass_15 : decode cX9_addGlass 15 = .ok (.invokestatic 38, 3) := by decide +kernel
theorem dX9_addGlass_18 : decode cX9_addGlass 18 = .ok (.ifCond .eq 28, 3) := by decide +kernel
theorem dX9_addGlass_21 : decode cX9_addGlass 21 = .ok (.iload_n 3, 1) := by decide +kernel
theorem dX9_addGlass_22 : decode cX9_addGlass 22 = .ok (.iconst 1, 1) := by decide +kernel
theorem dX9_addGlass_23 : decode cX9_addGlass 23 = .ok (.bipush 50, 2) := by decide +kernel
theorem dX9_addGlass_25 : decode cX9_addGlass 25 = .ok (.invokestatic 38, 3) := by decide +kernel
theorem dX9_addGlass_28 : decode cX9_addGlass 28 = .ok (.ifCond .eq 18, 3) := by decide +kernel
theorem dX9_addGlass_31 : decode cX9_addGlass 31 = .ok (.iload 4, 2) := by decide +kernel
theorem dX9_addGlass_33 : decode cX9_addGlass 33 = .ok (.iconst 0, 1) := by decide +kernel
theorem dX9_addGlass_34 : decode cX9_addGlass 34 = .ok (.bipush 99, 2) := by decide +kernel
theorem dX9_addGlass_36 : decode cX9_addGlass 36 = .ok (.invokestatic 38, 3) := by decide +kernel
theorem dX9_addGlass_39 : decode cX9_addGlass 39 = .ok (.ifCond .eq 7, 3) := by decide +kernel
theorem dX9_addGlass_42 : decode cX9_addGlass 42 = .ok (.iconst 1, 1) := by decide +kernel
theorem dX9_addGlass_43 : decode cX9_addGlass 43 = .ok (.goto 4, 3) := by decide +kernel
theorem dX9_addGlass_46 : decode cX9_addGlass 46 = .ok (.iconst 0, 1) := by decide +kernel
theorem dX9_addGlass_47 : decode cX9_addGlass 47 = .ok (.istore 5, 2) := by decide +kernel
theorem dX9_addGlass_49 : decode cX9_addGlass 49 = .ok (.aload_n 0, 1) := by decide +kernel
theorem dX9_addGlass_50 : decode cX9_addGlass 50 = .ok (.iload 5, 2) := by decide +kernel
theorem dX9_addGlass_52 : decode cX9_addGlass 52 = .ok (.iconst 1, 1) := by decide +kernel
theorem dX9_addGlass_53 : decode cX9_addGlass 53 = .ok (.invokevirtual 42, 3) := by decide +kernel
theorem dX9_addGlass_56 : decode cX9_addGlass 56 = .ok (.ifCond .ne 30, 3) := by decide +kernel
theorem dX9_addGlass_59 : decode cX9_addGlass 59 = .ok (.aload_n 0, 1) := by decide +kernel
theorem dX9_addGlass_60 : decode cX9_addGlass 60 = .ok (.aload_n 0, 1) := by decide +kernel
theorem dX9_addGlass_61 : decode cX9_addGlass 61 = .ok (.getfield 10, 3) := by decide +kernel
theorem dX9_addGlass_64 : decode cX9_addGlass 64 = .ok (.invokeinterface 32 1, 5) := by decide +kernel
theorem dX9_addGlass_69 : decode cX9_addGlass 69 = .ok (.bipush 8, 2) := by decide +kernel
theorem dX9_addGlass_71 : decode cX9_addGlass 71 = .ok (.if_icmp .ge 7, 3) := by decide +kernel
theorem dX9_addGlass_74 : decode cX9_addGlass 74 = .ok (.iconst 1, 1) := by decide +kernel
theorem dX9_addGlass_75 : decode cX9_addGlass 75 = .ok (.goto 4, 3) := by decide +kernel
theorem dX9_addGlass_78 : decode cX9_addGlass 78 = .ok (.iconst 0, 1) := by decide +kernel
theorem dX9_addGlass_79 : decode cX9_addGlass 79 = .ok (.iconst 2, 1) := by decide +kernel
theorem dX9_addGlass_80 : decode cX9_addGlass 80 = .ok (.invokevirtual 42, 3) := by decide +kernel
theorem dX9_addGlass_83 : decode cX9_addGlass 83 = .ok (.ifCond .eq 5, 3) := by decide +kernel
theorem dX9_addGlass_86 : decode cX9_addGlass 86 = .ok (.iconst 0, 1) := by decide +kernel
theorem dX9_addGlass_87 : decode cX9_addGlass 87 = .ok (.ireturn, 1) := by decide +kernel
theorem dX9_addGlass_88 : decode cX9_addGlass 88 = .ok (.aload_n 0, 1) := by decide +kernel
theorem dX9_addGlass_89 : decode cX9_addGlass 89 = .ok (.getfield 10, 3) := by decide +kernel
theorem dX9_addGlass_92 : decode cX9_addGlass 92 = .ok (.new 46, 3) := by decide +kernel
theorem dX9_addGlass_95 : decode cX9_addGlass 95 = .ok (.dup, 1) := by decide +kernel
theorem dX9_addGlass_96 : decode cX9_addGlass 96 = .ok (.iload_n 1, 1) := by decide +kernel
theorem dX9_addGlass_97 : decode cX9_addGlass 97 = .ok (.iload_n 2, 1) := by decide +kernel
theorem dX9_addGlass_98 : decode cX9_addGlass 98 = .ok (.iload_n 3, 1) := by decide +kernel
theorem dX9_addGlass_99 : decode cX9_addGlass 99 = .ok (.iload 4, 2) := by decide +kernel
theorem dX9_addGlass_101 : decode cX9_addGlass 101 = .ok (.invokespecial 48, 3) := by decide +kernel
theorem dX9_addGlass_104 : decode cX9_addGlass 104 = .ok (.invokeinterface 51 2, 5) := by decide +kernel
theorem dX9_addGlass_109 : decode cX9_addGlass 109 = .ok (.pop, 1) := by decide +kernel
theorem dX9_addGlass_110 : decode cX9_addGlass 110 = .ok (.aload_n 0, 1) := by decide +kernel
theorem dX9_addGlass_111 : decode cX9_addGlass 111 = .ok (.getfield 10, 3) := by decide +kernel
theorem dX9_addGlass_114 : decode cX9_addGlass 114 = .ok (.invokeinterface 32 1, 5) := by decide +kernel
theorem dX9_addGlass_119 : decode cX9_addGlass 119 = .ok (.iconst 1, 1) := by decide +kernel
theorem dX9_addGlass_120 : decode cX9_addGlass 120 = .ok (.isub, 1) := by decide +kernel
theorem dX9_addGlass_121 : decode cX9_addGlass 121 = .ok (.ireturn, 1) := by decide +kernel
set_option maxRecDepth 20000 in
theorem ggX9_above_X9_isGlass : GoodIn wsX9_above wsX9_isGlass := goodIn_r _ [8, 1, 9, 10, 11, 12, 13, 14, 15, 16, 7, 17, 40, 41, 42, 43, 44, 45, 46, 47, 48, 63, 64, 65] (by decide +kernel) (by decide +kernel)
set_option maxRecDepth 20000 in
theorem gX9_above_X9_isGlass : GoodIn wsX9_above (wsV RX9 55 RX9 yX9_isGlass wsX9_isGlass) := goodIn_app (goodIn_of _ (by decide +kernel)) ggX9_above_X9_isGlass
set_option maxRecDepth 20000 in
theorem ggX9_above_X9_no : GoodIn wsX9_above wsX9_no := goodIn_r _ [21, 22, 40, 41, 42, 43, 44, 45, 46, 47, 48] (by decide +kernel) (by decide +kernel)
set_option maxRecDepth 20000 in
theorem gX9_above_X9_no : GoodIn wsX9_above (wsV RX9 42 RX9 yX9_no wsX9_no) := goodIn_app (goodIn_of _ (by decide +kernel)) ggX9_above_X9_no
set_option maxRecDepth 20000 in
theorem ggX9_above_Jx4a65c_get_915e3 : GoodIn wsX9_above wsJx4a65c_get_915e3 := goodIn_r _ [26, 14, 27, 28, 29, 30, 31, 32, 33, 34, 35, 36, 37, 12, 38, 39, 63, 64, 65] (by decide +kernel) (by decide +kernel)
set_option maxRecDepth 20000 in
theorem gX9_above_Jx4a65c_get_915e3_f59Jx4a65c : GoodIn wsX9_above (va_wsF RX9 59 RJx4a65c ⟨"java/util/List", "get", "(I)Ljava/lang/Object;"⟩ yJx4a65c_get_915e3 wsJx4a65c_get_915e3) := goodIn_app (goodIn_of _ (by decide +kernel)) ggX9_above_Jx4a65c_get_915e3
theorem dX9_above_0 : decode cX9_above 0 = .ok (.aload_n 0, 1) := by decide +kernel
theorem dX9_above_1 : decode cX9_above 1 = .ok (.aload_n 0, 1) := by decide +kernel
theorem dX9_above_2 : decode cX9_above 2 = .ok (.iload_n 1, 1) := by decide +kernel
theorem dX9_above_3 : decode cX9_above 3 = .ok (.invokevirtual 55, 3) := by decide +kernel
theorem dX9_above_6 : decode cX9_above 6 = .ok (.iconst 1, 1) := by decide +kernel
theorem dX9_above_7 : decode cX9_above 7 = .ok (.invokevirtual 42, 3) := by decide +kernel
theorem dX9_above_10 : decode cX9_above 10 = .ok (.ifCond .eq 7, 3) := by decide +kernel
theorem dX9_above_13 : decode cX9_above 13 = .ok (.iconst 0, 1) := by decide +kernel
theorem dX9_above_14 : decode cX9_above 14 = .ok (.goto 19, 3) := by decide +kernel
theorem dX9_above_17 : decode cX9_above 17 = .ok (.aload_n 0, 1) := by decide +kernel
theorem dX9_above_18 : decode cX9_above 18 = .ok (.getfield 10, 3) := by decide +kernel
theorem dX9_above_21 : decode cX9_above 21 = .ok (.iload_n 1, 1) := by decide +kernel
theorem dX9_above_22 : decode cX9_above 22 = .ok (.invokeinterface 59 2, 5) := by decide +kernel
theorem dX9_above_27 : decode cX9_above 27 = .ok (.checkcast 46, 3) := by decide +kernel
theorem dX9_above_30 : decode cX9_above 30 = .ok (.getfield 63, 3) := by decide +kernel
theorem dX9_above_33 : decode cX9_above 33 = .ok (.ireturn, 1) := by decide +kernel
set_option maxRecDepth 20000 in
theorem ggX9_below_X9_isGlass : GoodIn wsX9_below wsX9_isGlass := goodIn_r _ [8, 1, 9, 10, 11, 12, 13, 14, 15, 16, 7, 17, 40, 41, 42, 43, 44, 45, 46, 47, 48, 63, 64, 65] (by decide +kernel) (by decide +kernel)
set_option maxRecDepth 20000 in
theorem gX9_below_X9_isGlass : GoodIn wsX9_below (wsV RX9 55 RX9 yX9_isGlass wsX9_isGlass) := goodIn_app (goodIn_of _ (by decide +kernel)) ggX9_below_X9_isGlass
set_option maxRecDepth 20000 in
theorem ggX9_below_X9_no : GoodIn wsX9_below wsX9_no := goodIn_r _ [21, 22, 40, 41, 42, 43, 44, 45, 46, 47, 48] (by decide +kernel) (by decide +kernel)
set_option maxRecDepth 20000 in
theorem gX9_below_X9_no : GoodIn wsX9_below (wsV RX9 42 RX9 yX9_no wsX9_no) := goodIn_app (goodIn_of _ (by decide +kernel)) ggX9_below_X9_no
set_option maxRecDepth 20000 in
theorem ggX9_below_Jx4a65c_get_915e3 : GoodIn wsX9_below wsJx4a65c_get_915e3 := goodIn_r _ [26, 14, 27, 28, 29, 30, 31, 32, 33, 34, 35, 36, 37, 12, 38, 39, 63, 64, 65] (by decide +kernel) (by decide +kernel)
set_option maxRecDepth 20000 in
theorem gX9_below_Jx4a65c_get_915e3_f59Jx4a65c : GoodIn wsX9_below (va_wsF RX9 59 RJx4a65c ⟨"java/util/List", "get", "(I)Ljava/lang/Object;"⟩ yJx4a65c_get_915e3 wsJx4a65c_get_915e3) := goodIn_app (goodIn_of _ (by decide +kernel)) ggX9_below_Jx4a65c_get_915e3
theorem dX9_below_0 : decode cX9_below 0 = .ok (.aload_n 0, 1) := by decide +kernel
theorem dX9_below_1 : decode cX9_below 1 = .ok (.aload_n 0, 1) := by decide +kernel
theorem dX9_below_2 : decode cX9_below 2 = .ok (.iload_n 1, 1) := by decide +kernel
theorem dX9_below_3 : decode cX9_below 3 = .ok (.invokevirtual 55, 3) := by decide +kernel
theorem dX9_below_6 : decode cX9_below 6 = .ok (.iconst 1, 1) := by decide +kernel
theorem dX9_below_7 : decode cX9_below 7 = .ok (.invokevirtual 42, 3) := by decide +kernel
theorem dX9_below_10 : decode cX9_below 10 = .ok (.ifCond .eq 7, 3) := by decide +kernel
theorem dX9_below_13 : decode cX9_below 13 = .ok (.iconst 0, 1) := by decide +kernel
theorem dX9_below_14 : decode cX9_below 14 = .ok (.goto 19, 3) := by decide +kernel
theorem dX9_below_17 : decode cX9_below 17 = .ok (.aload_n 0, 1) := by decide +kernel
theorem dX9_below_18 : decode cX9_below 18 = .ok (.getfield 10, 3) := by decide +kernel
theorem dX9_below_21 : decode cX9_below 21 = .ok (.iload_n 1, 1) := by decide +kernel
theorem dX9_below_22 : decode cX9_below 22 = .ok (.invokeinterface 59 2, 5) := by decide +kernel
theorem dX9_below_27 : decode cX9_below 27 = .ok (.checkcast 46, 3) := by decide +kernel
theorem dX9_below_30 : decode cX9_below 30 = .ok (.getfield 66, 3) := by decide +kernel
theorem dX9_below_33 : decode cX9_below 33 = .ok (.ireturn, 1) := by decide +kernel
set_option maxRecDepth 20000 in
theorem ggX9_state_X9_isGlass : GoodIn wsX9_state wsX9_isGlass := goodIn_r _ [10, 1, 11, 12, 13, 14, 15, 16, 17, 18, 9, 19, 42, 43, 44, 45, 46, 47, 48, 49, 50, 65, 66, 67] (by decide +kernel) (by decide +kernel)
set_option maxRecDepth 20000 in
theorem gX9_state_X9_isGlass : GoodIn wsX9_state (wsV RX9 55 RX9 yX9_isGlass wsX9_isGlass) := goodIn_app (goodIn_of _ (by decide +kernel)) ggX9_state_X9_isGlass
set_option maxRecDepth 20000 in
theorem ggX9_state_X9_no : GoodIn wsX9_state wsX9_no := goodIn_r _ [23, 24, 42, 43, 44, 45, 46, 47, 48, 49, 50] (by decide +kernel) (by decide +kernel)
set_option maxRecDepth 20000 in
theorem gX9_state_X9_no : GoodIn wsX9_state (wsV RX9 42 RX9 yX9_no wsX9_no) := goodIn_app (goodIn_of _ (by decide +kernel)) ggX9_state_X9_no
set_option maxRecDepth 20000 in
theorem ggX9_state_Jx4a65c_get_915e3 : GoodIn wsX9_state wsJx4a65c_get_915e3 := goodIn_r _ [28, 16, 29, 30, 31, 32, 33, 34, 35, 36, 37, 38, 39, 14, 40, 41, 65, 66, 67] (by decide +kernel) (by decide +kernel)
set_option maxRecDepth 20000 in
theorem gX9_state_Jx4a65c_get_915e3_f59Jx4a65c : GoodIn wsX9_state (va_wsF RX9 59 RJx4a65c ⟨"java/util/List", "get", "(I)Ljava/lang/Object;"⟩ yJx4a65c_get_915e3 wsJx4a65c_get_915e3) := goodIn_app (goodIn_of _ (by decide +kernel)) ggX9_state_Jx4a65c_get_915e3
theorem dX9_state_0 : decode cX9_state 0 = .ok (.aload_n 0, 1) := by decide +kernel
theorem dX9_state_1 : decode cX9_state 1 = .ok (.aload_n 0, 1) := by decide +kernel
theorem dX9_state_2 : decode cX9_state 2 = .ok (.iload_n 1, 1) := by decide +kernel
theorem dX9_state_3 : decode cX9_state 3 = .ok (.invokevirtual 55, 3) := by decide +kernel
theorem dX9_state_6 : decode cX9_state 6 = .ok (.iconst 1, 1) := by decide +kernel
theorem dX9_state_7 : decode cX9_state 7 = .ok (.invokevirtual 42, 3) := by decide +kernel
theorem dX9_state_10 : decode cX9_state 10 = .ok (.ifCond .eq 6, 3) := by decide +kernel
theorem dX9_state_13 : decode cX9_state 13 = .ok (.bipush 45, 2) := by decide +kernel
theorem dX9_state_15 : decode cX9_state 15 = .ok (.ireturn, 1) := by decide +kernel
theorem dX9_state_16 : decode cX9_state 16 = .ok (.aload_n 0, 1) := by decide +kernel
theorem dX9_state_17 : decode cX9_state 17 = .ok (.getfield 10, 3) := by decide +kernel
theorem dX9_state_20 : decode cX9_state 20 = .ok (.iload_n 1, 1) := by decide +kernel
theorem dX9_state_21 : decode cX9_state 21 = .ok (.invokeinterface 59 2, 5) := by decide +kernel
theorem dX9_state_26 : decode cX9_state 26 = .ok (.checkcast 46, 3) := by decide +kernel
theorem dX9_state_29 : decode cX9_state 29 = .ok (.astore_n 2, 1) := by decide +kernel
theorem dX9_state_30 : decode cX9_state 30 = .ok (.aload_n 2, 1) := by decide +kernel
theorem dX9_state_31 : decode cX9_state 31 = .ok (.getfield 69, 3) := by decide +kernel
theorem dX9_state_34 : decode cX9_state 34 = .ok (.ifCond .eq 8, 3) := by decide +kernel
theorem dX9_state_37 : decode cX9_state 37 = .ok (.bipush 106, 2) := by decide +kernel
theorem dX9_state_39 : decode cX9_state 39 = .ok (.goto 31, 3) := by decide +kernel
theorem dX9_state_42 : decode cX9_state 42 = .ok (.aload_n 2, 1) := by decide +kernel
theorem dX9_state_43 : decode cX9_state 43 = .ok (.getfield 73, 3) := by decide +kernel
theorem dX9_state_46 : decode cX9_state 46 = .ok (.bipush 108, 2) := by decide +kernel
theorem dX9_state_48 : decode cX9_state 48 = .ok (.if_icmp .ne 8, 3) := by decide +kernel
theorem dX9_state_51 : decode cX9_state 51 = .ok (.bipush 108, 2) := by decide +kernel
theorem dX9_state_53 : decode cX9_state 53 = .ok (.goto 17, 3) := by decide +kernel
theorem dX9_state_56 : decode cX9_state 56 = .ok (.aload_n 2, 1) := by decide +kernel
theorem dX9_state_57 : decode cX9_state 57 = .ok (.getfield 63, 3) := by decide +kernel
theorem dX9_state_60 : decode cX9_state 60 = .ok (.ifCond .le 8, 3) := by decide +kernel
theorem dX9_state_63 : decode cX9_state 63 = .ok (.bipush 114, 2) := by decide +kernel
theorem dX9_state_65 : decode cX9_state 65 = .ok (.goto 5, 3) := by decide +kernel
theorem dX9_state_68 : decode cX9_state 68 = .ok (.bipush 101, 2) := by decide +kernel
theorem dX9_state_70 : decode cX9_state 70 = .ok (.ireturn, 1) := by decide +kernel
theorem dX9_turns_0 : decode cX9_turns 0 = .ok (.aload_n 1, 1) := by decide +kernel
theorem dX9_turns_1 : decode cX9_turns 1 = .ok (.getfield 63, 3) := by decide +kernel
theorem dX9_turns_4 : decode cX9_turns 4 = .ok (.istore_n 2, 1) := by decide +kernel
theorem dX9_turns_5 : decode cX9_turns 5 = .ok (.aload_n 1, 1) := by decide +kernel
theorem dX9_turns_6 : decode cX9_turns 6 = .ok (.aload_n 1, 1) := by decide +kernel
theorem dX9_turns_7 : decode cX9_turns 7 = .ok (.getfield 66, 3) := by decide +kernel
theorem dX9_turns_10 : decode cX9_turns 10 = .ok (.putfield 63, 3) := by decide +kernel
theorem dX9_turns_13 : decode cX9_turns 13 = .ok (.aload_n 1, 1) := by decide +kernel
theorem dX9_turns_14 : decode cX9_turns 14 = .ok (.iload_n 2, 1) := by decide +kernel
theorem dX9_turns_15 : decode cX9_turns 15 = .ok (.putfield 66, 3) := by decide +kernel
theorem dX9_turns_18 : decode cX9_turns 18 = .ok (.aload_n 1, 1) := by decide +kernel
theorem dX9_turns_19 : decode cX9_turns 19 = .ok (.aload_n 1, 1) := by decide +kernel
theorem dX9_turns_20 : decode cX9_turns 20 = .ok (.getfield 77, 3) := by decide +kernel
theorem dX9_turns_23 : decode cX9_turns 23 = .ok (.ifCond .ne 7, 3) := by decide +kernel
theorem dX9_turns_26 : decode cX9_turns 26 = .ok (.iconst 1, 1) := by decide +kernel
theorem dX9_turns_27 : decode cX9_turns 27 = .ok (.goto 4, 3) := by decide +kernel
theorem dX9_turns_30 : decode cX9_turns 30 = .ok (.iconst 0, 1) := by decide +kernel
theorem dX9_turns_31 : decode cX9_turns 31 = .ok (.putfield 77, 3) := by decide +kernel
theorem dX9_turns_34 : decode cX9_turns 34 = .ok (.aload_n 1, 1) := by decide +kernel
theorem dX9_turns_35 : decode cX9_turns 35 = .ok (.iconst 0, 1) := by decide +kernel
theorem dX9_turns_36 : decode cX9_turns 36 = .ok (.putfield 69, 3) := by decide +kernel
theorem dX9_turns_39 : decode cX9_turns 39 = .ok (.aload_n 1, 1) := by decide +kernel
theorem dX9_turns_40 : decode cX9_turns 40 = .ok (.dup, 1) := by decide +kernel
theorem dX9_turns_41 : decode cX9_turns 41 = .ok (.getfield 80, 3) := by decide +kernel
theorem dX9_turns_44 : decode cX9_turns 44 = .ok (.iconst 1, 1) := by decide +kernel
theorem dX9_turns_45 : decode cX9_turns 45 = .ok (.iadd, 1) := by decide +kernel
theorem dX9_turns_46 : decode cX9_turns 46 = .ok (.putfield 80, 3) := by decide +kernel
theorem dX9_turns_49 : decode cX9_turns 49 = .ok (.aload_n 1, 1) := by decide +kernel
theorem dX9_turns_50 : decode cX9_turns 50 = .ok (.aload_n 0, 1) := by decide +kernel
theorem dX9_turns_51 : decode cX9_turns 51 = .ok (.getfield 83, 3) := by decide +kernel
theorem dX9_turns_54 : decode cX9_turns 54 = .ok (.putfield 86, 3) := by decide +kernel
theorem dX9_turns_57 : decode cX9_turns 57 = .ok (.aload_n 1, 1) := by decide +kernel
theorem dX9_turns_58 : decode cX9_turns 58 = .ok (.getfield 63, 3) := by decide +kernel
theorem dX9_turns_61 : decode cX9_turns 61 = .ok (.ireturn, 1) := by decide +kernel
set_option maxRecDepth 20000 in
theorem ggX9_turn_X9_isGlass : GoodIn wsX9_turn wsX9_isGlass := goodIn_r _ [7, 1, 8, 9, 10, 11, 12, 13, 14, 15, 6, 16, 50, 51, 52, 53, 54, 55, 56, 57, 58, 59, 60, 61] (by decide +kernel) (by decide +kernel)
set_option maxRecDepth 20000 in
theorem gX9_turn_X9_isGlass : GoodIn wsX9_turn (wsV RX9 55 RX9 yX9_isGlass wsX9_isGlass) := goodIn_app (goodIn_of _ (by decide +kernel)) ggX9_turn_X9_isGlass
set_option maxRecDepth 20000 in
theorem ggX9_turn_X9_no : GoodIn wsX9_turn wsX9_no := goodIn_r _ [20, 21, 50, 51, 52, 53, 54, 55, 56, 57, 58] (by decide +kernel) (by decide +kernel)
set_option maxRecDepth 20000 in
theorem gX9_turn_X9_no : GoodIn wsX9_turn (wsV RX9 42 RX9 yX9_no wsX9_no) := goodIn_app (goodIn_of _ (by decide +kernel)) ggX9_turn_X9_no
set_option maxRecDepth 20000 in
theorem ggX9_turn_Jx4a65c_get_915e3 : GoodIn wsX9_turn wsJx4a65c_get_915e3 := goodIn_r _ [25, 13, 26, 27, 28, 29, 30, 31, 32, 33, 34, 35, 36, 11, 37, 38, 59, 60, 61] (by decide +kernel) (by decide +kernel)
set_option maxRecDepth 20000 in
theorem gX9_turn_Jx4a65c_get_915e3_f59Jx4a65c : GoodIn wsX9_turn (va_wsF RX9 59 RJx4a65c ⟨"java/util/List", "get", "(I)Ljava/lang/Object;"⟩ yJx4a65c_get_915e3 wsJx4a65c_get_915e3) := goodIn_app (goodIn_of _ (by decide +kernel)) ggX9_turn_Jx4a65c_get_915e3
set_option maxRecDepth 20000 in
theorem ggX9_turn_X9_turns : GoodIn wsX9_turn wsX9_turns := goodIn_r _ [42, 43, 44, 45, 46, 47, 48, 49, 62, 63, 64, 65, 66, 67, 68, 69, 70, 71, 72, 73, 74, 75, 50, 51, 52, 53, 54, 55, 56, 57, 58] (by decide +kernel) (by decide +kernel)
set_option maxRecDepth 20000 in
theorem gX9_turn_X9_turns : GoodIn wsX9_turn (wsV RX9 89 RX9 yX9_turns wsX9_turns) := goodIn_app (goodIn_of _ (by decide +kernel)) ggX9_turn_X9_turns
theorem dX9_turn_0 : decode cX9_turn 0 = .ok (.aload_n 0, 1) := by decide +kernel
theorem dX9_turn_1 : decode cX9_turn 1 = .ok (.aload_n 0, 1) := by decide +kernel
theorem dX9_turn_2 : decode cX9_turn 2 = .ok (.iload_n 1, 1) := by decide +kernel
theorem dX9_turn_3 : decode cX9_turn 3 = .ok (.invokevirtual 55, 3) := by decide +kernel
theorem dX9_turn_6 : decode cX9_turn 6 = .ok (.iconst 1, 1) := by decide +kernel
theorem dX9_turn_7 : decode cX9_turn 7 = .ok (.invokevirtual 42, 3) := by decide +kernel
theorem dX9_turn_10 : decode cX9_turn 10 = .ok (.ifCond .eq 7, 3) := by decide +kernel
theorem dX9_turn_13 : decode cX9_turn 13 = .ok (.iconst 0, 1) := by decide +kernel
theorem dX9_turn_14 : decode cX9_turn 14 = .ok (.goto 20, 3) := by decide +kernel
theorem dX9_turn_17 : decode cX9_turn 17 = .ok (.aload_n 0, 1) := by decide +kernel
theorem dX9_turn_18 : decode cX9_turn 18 = .ok (.aload_n 0, 1) := by decide +kernel
theorem dX9_turn_19 : decode cX9_turn 19 = .ok (.getfield 10, 3) := by decide +kernel
theorem dX9_turn_22 : decode cX9_turn 22 = .ok (.iload_n 1, 1) := by decide +kernel
theorem dX9_turn_23 : decode cX9_turn 23 = .ok (.invokeinterface 59 2, 5) := by decide +kernel
theorem dX9_turn_28 : decode cX9_turn 28 = .ok (.checkcast 46, 3) := by decide +kernel
theorem dX9_turn_31 : decode cX9_turn 31 = .ok (.invokevirtual 89, 3) := by decide +kernel
theorem dX9_turn_34 : decode cX9_turn 34 = .ok (.ireturn, 1) := by decide +kernel
set_option maxRecDepth 20000 in
theorem ggX9_timesTurned_X9_isGlass : GoodIn wsX9_timesTurned wsX9_isGlass := goodIn_r _ [8, 1, 9, 10, 11, 12, 13, 14, 15, 16, 7, 17, 40, 41, 42, 43, 44, 45, 46, 47, 48, 63, 64, 65] (by decide +kernel) (by decide +kernel)
set_option maxRecDepth 20000 in
theorem gX9_timesTurned_X9_isGlass : GoodIn wsX9_timesTurned (wsV RX9 55 RX9 yX9_isGlass wsX9_isGlass) := goodIn_app (goodIn_of _ (by decide +kernel)) ggX9_timesTurned_X9_isGlass
set_option maxRecDepth 20000 in
theorem ggX9_timesTurned_X9_no : GoodIn wsX9_timesTurned wsX9_no := goodIn_r _ [21, 22, 40, 41, 42, 43, 44, 45, 46, 47, 48] (by decide +kernel) (by decide +kernel)
set_option maxRecDepth 20000 in
theorem gX9_timesTurned_X9_no : GoodIn wsX9_timesTurned (wsV RX9 42 RX9 yX9_no wsX9_no) := goodIn_app (goodIn_of _ (by decide +kernel)) ggX9_timesTurned_X9_no
set_option maxRecDepth 20000 in
theorem ggX9_timesTurned_Jx4a65c_get_915e3 : GoodIn wsX9_timesTurned wsJx4a65c_get_915e3 := goodIn_r _ [26, 14, 27, 28, 29, 30, 31, 32, 33, 34, 35, 36, 37, 12, 38, 39, 63, 64, 65] (by decide +kernel) (by decide +kernel)
set_option maxRecDepth 20000 in
theorem gX9_timesTurned_Jx4a65c_get_915e3_f59Jx4a65c : GoodIn wsX9_timesTurned (va_wsF RX9 59 RJx4a65c ⟨"java/util/List", "get", "(I)Ljava/lang/Object;"⟩ yJx4a65c_get_915e3 wsJx4a65c_get_915e3) := goodIn_app (goodIn_of _ (by decide +kernel)) ggX9_timesTurned_Jx4a65c_get_915e3
theorem dX9_timesTurned_0 : decode cX9_timesTurned 0 = .ok (.aload_n 0, 1) := by decide +kernel
theorem dX9_timesTurned_1 : decode cX9_timesTurned 1 = .ok (.aload_n 0, 1) := by decide +kernel
theorem dX9_timesTurned_2 : decode cX9_timesTurned 2 = .ok (.iload_n 1, 1) := by decide +kernel
theorem dX9_timesTurned_3 : decode cX9_timesTurned 3 = .ok (.invokevirtual 55, 3) := by decide +kernel
theorem dX9_timesTurned_6 : decode cX9_timesTurned 6 = .ok (.iconst 1, 1) := by decide +kernel
theorem dX9_timesTurned_7 : decode cX9_timesTurned 7 = .ok (.invokevirtual 42, 3) := by decide +kernel
theorem dX9_timesTurned_10 : decode cX9_timesTurned 10 = .ok (.ifCond .eq 7, 3) := by decide +kernel
theorem dX9_timesTurned_13 : decode cX9_timesTurned 13 = .ok (.iconst 0, 1) := by decide +kernel
theorem dX9_timesTurned_14 : decode cX9_timesTurned 14 = .ok (.goto 19, 3) := by decide +kernel
theorem dX9_timesTurned_17 : decode cX9_timesTurned 17 = .ok (.aload_n 0, 1) := by decide +kernel
theorem dX9_timesTurned_18 : decode cX9_timesTurned 18 = .ok (.getfield 10, 3) := by decide +kernel
theorem dX9_timesTurned_21 : decode cX9_timesTurned 21 = .ok (.iload_n 1, 1) := by decide +kernel
theorem dX9_timesTurned_22 : decode cX9_timesTurned 22 = .ok (.invokeinterface 59 2, 5) := by decide +kernel
theorem dX9_timesTurned_27 : decode cX9_timesTurned 27 = .ok (.checkcast 46, 3) := by decide +kernel
theorem dX9_timesTurned_30 : decode cX9_timesTurned 30 = .ok (.getfield 80, 3) := by decide +kernel
theorem dX9_timesTurned_33 : decode cX9_timesTurned 33 = .ok (.ireturn, 1) := by decide +kernel
set_option maxRecDepth 20000 in
theorem ggX9_stand_X9_isGlass : GoodIn wsX9_stand wsX9_isGlass := goodIn_r _ [8, 1, 9, 10, 11, 12, 13, 14, 15, 16, 7, 17, 40, 41, 42, 43, 44, 45, 46, 47, 48, 63, 64, 65] (by decide +kernel) (by decide +kernel)
set_option maxRecDepth 20000 in
theorem gX9_stand_X9_isGlass : GoodIn wsX9_stand (wsV RX9 55 RX9 yX9_isGlass wsX9_isGlass) := goodIn_app (goodIn_of _ (by decide +kernel)) ggX9_stand_X9_isGlass
set_option maxRecDepth 20000 in
theorem ggX9_stand_X9_no : GoodIn wsX9_stand wsX9_no := goodIn_r _ [21, 22, 40, 41, 42, 43, 44, 45, 46, 47, 48] (by decide +kernel) (by decide +kernel)
set_option maxRecDepth 20000 in
theorem gX9_stand_X9_no : GoodIn wsX9_stand (wsV RX9 42 RX9 yX9_no wsX9_no) := goodIn_app (goodIn_of _ (by decide +kernel)) ggX9_stand_X9_no
set_option maxRecDepth 20000 in
theorem ggX9_stand_Jx4a65c_get_915e3 : GoodIn wsX9_stand wsJx4a65c_get_915e3 := goodIn_r _ [26, 14, 27, 28, 29, 30, 31, 32, 33, 34, 35, 36, 37, 12, 38, 39, 63, 64, 65] (by decide +kernel) (by decide +kernel)
set_option maxRecDepth 20000 in
theorem gX9_stand_Jx4a65c_get_915e3_f59Jx4a65c : GoodIn wsX9_stand (va_wsF RX9 59 RJx4a65c ⟨"java/util/List", "get", "(I)Ljava/lang/Object;"⟩ yJx4a65c_get_915e3 wsJx4a65c_get_915e3) := goodIn_app (goodIn_of _ (by decide +kernel)) ggX9_stand_Jx4a65c_get_915e3
theorem dX9_stand_0 : decode cX9_stand 0 = .ok (.aload_n 0, 1) := by decide +kernel
theorem dX9_stand_1 : decode cX9_stand 1 = .ok (.aload_n 0, 1) := by decide +kernel
theorem dX9_stand_2 : decode cX9_stand 2 = .ok (.iload_n 1, 1) := by decide +kernel
theorem dX9_stand_3 : decode cX9_stand 3 = .ok (.invokevirtual 55, 3) := by decide +kernel
theorem dX9_stand_6 : decode cX9_stand 6 = .ok (.iconst 1, 1) := by decide +kernel
theorem dX9_stand_7 : decode cX9_stand 7 = .ok (.invokevirtual 42, 3) := by decide +kernel
theorem dX9_stand_10 : decode cX9_stand 10 = .ok (.ifCond .ne 34, 3) := by decide +kernel
theorem dX9_stand_13 : decode cX9_stand 13 = .ok (.aload_n 0, 1) := by decide +kernel
theorem dX9_stand_14 : decode cX9_stand 14 = .ok (.iload_n 2, 1) := by decide +kernel
theorem dX9_stand_15 : decode cX9_stand 15 = .ok (.bipush 117, 2) := by decide +kernel
theorem dX9_stand_17 : decode cX9_stand 17 = .ok (.if_icmp .eq 15, 3) := by decide +kernel
theorem dX9_stand_20 : decode cX9_stand 20 = .ok (.iload_n 2, 1) := by decide +kernel
theorem dX9_stand_21 : decode cX9_stand 21 = .ok (.bipush 116, 2) := by decide +kernel
theorem dX9_stand_23 : decode cX9_stand 23 = .ok (.if_icmp .eq 9, 3) := by decide +kernel
theorem dX9_stand_26 : decode cX9_stand 26 = .ok (.iload_n 2, 1) := by decide +kernel
theorem dX9_stand_27 : decode cX9_stand 27 = .ok (.bipush 108, 2) := by decide +kernel
theorem dX9_stand_29 : decode cX9_stand 29 = .ok (.if_icmp .ne 7, 3) := by decide +kernel
theorem dX9_stand_32 : decode cX9_stand 32 = .ok (.iconst 1, 1) := by decide +kernel
theorem dX9_stand_33 : decode cX9_stand 33 = .ok (.goto 4, 3) := by decide +kernel
theorem dX9_stand_36 : decode cX9_stand 36 = .ok (.iconst 0, 1) := by decide +kernel
theorem dX9_stand_37 : decode cX9_stand 37 = .ok (.iconst 2, 1) := by decide +kernel
theorem dX9_stand_38 : decode cX9_stand 38 = .ok (.invokevirtual 42, 3) := by decide +kernel
theorem dX9_stand_41 : decode cX9_stand 41 = .ok (.ifCond .eq 6, 3) := by decide +kernel
theorem dX9_stand_44 : decode cX9_stand 44 = .ok (.bipush 45, 2) := by decide +kernel
theorem dX9_stand_46 : decode cX9_stand 46 = .ok (.ireturn, 1) := by decide +kernel
theorem dX9_stand_47 : decode cX9_stand 47 = .ok (.aload_n 0, 1) := by decide +kernel
theorem dX9_stand_48 : decode cX9_stand 48 = .ok (.getfield 10, 3) := by decide +kernel
theorem dX9_stand_51 : decode cX9_stand 51 = .ok (.iload_n 1, 1) := by decide +kernel
theorem dX9_stand_52 : decode cX9_stand 52 = .ok (.invokeinterface 59 2, 5) := by decide +kernel
theorem dX9_stand_57 : decode cX9_stand 57 = .ok (.checkcast 46, 3) := by decide +kernel
theorem dX9_stand_60 : decode cX9_stand 60 = .ok (.getfield 73, 3) := by decide +kernel
theorem dX9_stand_63 : decode cX9_stand 63 = .ok (.istore_n 3, 1) := by decide +kernel
theorem dX9_stand_64 : decode cX9_stand 64 = .ok (.aload_n 0, 1) := by decide +kernel
theorem dX9_stand_65 : decode cX9_stand 65 = .ok (.getfield 10, 3) := by decide +kernel
theorem dX9_stand_68 : decode cX9_stand 68 = .ok (.iload_n 1, 1) := by decide +kernel
theorem dX9_stand_69 : decode cX9_stand 69 = .ok (.invokeinterface 59 2, 5) := by decide +kernel
theorem dX9_stand_74 : decode cX9_stand 74 = .ok (.checkcast 46, 3) := by decide +kernel
theorem dX9_stand_77 : decode cX9_stand 77 = .ok (.iload_n 2, 1) := by decide +kernel
theorem dX9_stand_78 : decode cX9_stand 78 = .ok (.putfield 73, 3) := by decide +kernel
theorem dX9_stand_81 : decode cX9_stand 81 = .ok (.iload_n 3, 1) := by decide +kernel
theorem dX9_stand_82 : decode cX9_stand 82 = .ok (.ireturn, 1) := by decide +kernel
set_option maxRecDepth 20000 in
theorem ggX9_setJam_X9_isGlass : GoodIn wsX9_setJam wsX9_isGlass := goodIn_r _ [8, 1, 9, 10, 11, 12, 13, 14, 15, 16, 7, 17, 40, 41, 42, 43, 44, 45, 46, 47, 48, 63, 64, 65] (by decide +kernel) (by decide +kernel)
set_option maxRecDepth 20000 in
theorem gX9_setJam_X9_isGlass : GoodIn wsX9_setJam (wsV RX9 55 RX9 yX9_isGlass wsX9_isGlass) := goodIn_app (goodIn_of _ (by decide +kernel)) ggX9_setJam_X9_isGlass
set_option maxRecDepth 20000 in
theorem ggX9_setJam_X9_no : GoodIn wsX9_setJam wsX9_no := goodIn_r _ [21, 22, 40, 41, 42, 43, 44, 45, 46, 47, 48] (by decide +kernel) (by decide +kernel)
set_option maxRecDepth 20000 in
theorem gX9_setJam_X9_no : GoodIn wsX9_setJam (wsV RX9 42 RX9 yX9_no wsX9_no) := goodIn_app (goodIn_of _ (by decide +kernel)) ggX9_setJam_X9_no
set_option maxRecDepth 20000 in
theorem ggX9_setJam_X9_isIn : GoodIn wsX9_setJam wsX9_isIn := goodIn_r _ [17] (by decide +kernel) (by decide +kernel)
set_option maxRecDepth 20000 in
theorem gX9_setJam_X9_isIn : GoodIn wsX9_setJam (va_wsS RX9 38 yX9_isIn wsX9_isIn) := goodIn_app (goodIn_of _ (by decide +kernel)) ggX9_setJam_X9_isIn
set_option maxRecDepth 20000 in
theorem ggX9_setJam_Jx4a65c_get_915e3 : GoodIn wsX9_setJam wsJx4a65c_get_915e3 := goodIn_r _ [26, 14, 27, 28, 29, 30, 31, 32, 33, 34, 35, 36, 37, 12, 38, 39, 63, 64, 65] (by decide +kernel) (by decide +kernel)
set_option maxRecDepth 20000 in
theorem gX9_setJam_Jx4a65c_get_915e3_f59Jx4a65c : GoodIn wsX9_setJam (va_wsF RX9 59 RJx4a65c ⟨"java/util/List", "get", "(I)Ljava/lang/Object;"⟩ yJx4a65c_get_915e3 wsJx4a65c_get_915e3) := goodIn_app (goodIn_of _ (by decide +kernel)) ggX9_setJam_Jx4a65c_get_915e3
theorem dX9_setJam_0 : decode cX9_setJam 0 = .ok (.aload_n 0, 1) := by decide +kernel
theorem dX9_setJam_1 : decode cX9_setJam 1 = .ok (.aload_n 0, 1) := by decide +kernel
theorem dX9_setJam_2 : decode cX9_setJam 2 = .ok (.iload_n 1, 1) := by decide +kernel
theorem dX9_setJam_3 : decode cX9_setJam 3 = .ok (.invokevirtual 55, 3) := by decide +kernel
theorem dX9_setJam_6 : decode cX9_setJam 6 = .ok (.iconst 1, 1) := by decide +kernel
theorem dX9_setJam_7 : decode cX9_setJam 7 = .ok (.invokevirtual 42, 3) := by decide +kernel
theorem dX9_setJam_10 : decode cX9_setJam 10 = .ok (.ifCond .ne 19, 3) := by decide +kernel
theorem dX9_setJam_13 : decode cX9_setJam 13 = .ok (.aload_n 0, 1) := by decide +kernel
theorem dX9_setJam_14 : decode cX9_setJam 14 = .ok (.iload_n 2, 1) := by decide +kernel
theorem dX9_setJam_15 : decode cX9_setJam 15 = .ok (.iconst 0, 1) := by decide +kernel
theorem dX9_setJam_16 : decode cX9_setJam 16 = .ok (.sipush 999, 3) := by decide +kernel
theorem dX9_setJam_19 : decode cX9_setJam 19 = .ok (.invokestatic 38, 3) := by decide +kernel
theorem dX9_setJam_22 : decode cX9_setJam 22 = .ok (.iconst 2, 1) := by decide +kernel
theorem dX9_setJam_23 : decode cX9_setJam 23 = .ok (.invokevirtual 42, 3) := by decide +kernel
theorem dX9_setJam_26 : decode cX9_setJam 26 = .ok (.ifCond .eq 5, 3) := by decide +kernel
theorem dX9_setJam_29 : decode cX9_setJam 29 = .ok (.iconst 0, 1) := by decide +kernel
theorem dX9_setJam_30 : decode cX9_setJam 30 = .ok (.ireturn, 1) := by decide +kernel
theorem dX9_setJam_31 : decode cX9_setJam 31 = .ok (.aload_n 0, 1) := by decide +kernel
theorem dX9_setJam_32 : decode cX9_setJam 32 = .ok (.getfield 10, 3) := by decide +kernel
theorem dX9_setJam_35 : decode cX9_setJam 35 = .ok (.iload_n 1, 1) := by decide +kernel
theorem dX9_setJam_36 : decode cX9_setJam 36 = .ok (.invokeinterface 59 2, 5) := by decide +kernel
theorem dX9_setJam_41 : decode cX9_setJam 41 = .ok (.checkcast 46, 3) := by decide +kernel
theorem dX9_setJam_44 : decode cX9_setJam 44 = .ok (.getfield 92, 3) := by decide +kernel
theorem dX9_setJam_47 : decode cX9_setJam 47 = .ok (.istore_n 3, 1) := by decide +kernel
theorem dX9_setJam_48 : decode cX9_setJam 48 = .ok (.aload_n 0, 1) := by decide +kernel
theorem dX9_setJam_49 : decode cX9_setJam 49 = .ok (.getfield 10, 3) := by decide +kernel
theorem dX9_setJam_52 : decode cX9_setJam 52 = .ok (.iload_n 1, 1) := by decide +kernel
theorem dX9_setJam_53 : decode cX9_setJam 53 = .ok (.invokeinterface 59 2, 5) := by decide +kernel
theorem dX9_setJam_58 : decode cX9_setJam 58 = .ok (.checkcast 46, 3) := by decide +kernel
theorem dX9_setJam_61 : decode cX9_setJam 61 = .ok (.iload_n 2, 1) := by decide +kernel
theorem dX9_setJam_62 : decode cX9_setJam 62 = .ok (.putfield 92, 3) := by decide +kernel
theorem dX9_setJam_65 : decode cX9_setJam 65 = .ok (.iload_n 3, 1) := by decide +kernel
theorem dX9_setJam_66 : decode cX9_setJam 66 = .ok (.ireturn, 1) := by decide +kernel
set_option maxRecDepth 20000 in
theorem ggX9_tap_X9_isGlass : GoodIn wsX9_tap wsX9_isGlass := goodIn_r _ [8, 1, 9, 10, 11, 12, 13, 14, 15, 16, 7, 17, 40, 41, 42, 43, 44, 45, 46, 47, 48, 63, 64, 65] (by decide +kernel) (by decide +kernel)
set_option maxRecDepth 20000 in
theorem gX9_tap_X9_isGlass : GoodIn wsX9_tap (wsV RX9 55 RX9 yX9_isGlass wsX9_isGlass) := goodIn_app (goodIn_of _ (by decide +kernel)) ggX9_tap_X9_isGlass
set_option maxRecDepth 20000 in
theorem ggX9_tap_X9_no : GoodIn wsX9_tap wsX9_no := goodIn_r _ [21, 22, 40, 41, 42, 43, 44, 45, 46, 47, 48] (by decide +kernel) (by decide +kernel)
set_option maxRecDepth 20000 in
theorem gX9_tap_X9_no : GoodIn wsX9_tap (wsV RX9 42 RX9 yX9_no wsX9_no) := goodIn_app (goodIn_of _ (by decide +kernel)) ggX9_tap_X9_no
set_option maxRecDepth 20000 in
theorem ggX9_tap_Jx4a65c_get_915e3 : GoodIn wsX9_tap wsJx4a65c_get_915e3 := goodIn_r _ [26, 14, 27, 28, 29, 30, 31, 32, 33, 34, 35, 36, 37, 12, 38, 39, 63, 64, 65] (by decide +kernel) (by decide +kernel)
set_option maxRecDepth 20000 in
theorem gX9_tap_Jx4a65c_get_915e3_f59Jx4a65c : GoodIn wsX9_tap (va_wsF RX9 59 RJx4a65c ⟨"java/util/List", "get", "(I)Ljava/lang/Object;"⟩ yJx4a65c_get_915e3 wsJx4a65c_get_915e3) := goodIn_app (goodIn_of _ (by decide +kernel)) ggX9_tap_Jx4a65c_get_915e3
theorem dX9_tap_0 : decode cX9_tap 0 = .ok (.aload_n 0, 1) := by decide +kernel
theorem dX9_tap_1 : decode cX9_tap 1 = .ok (.aload_n 0, 1) := by decide +kernel
theorem dX9_tap_2 : decode cX9_tap 2 = .ok (.iload_n 1, 1) := by decide +kernel
theorem dX9_tap_3 : decode cX9_tap 3 = .ok (.invokevirtual 55, 3) := by decide +kernel
theorem dX9_tap_6 : decode cX9_tap 6 = .ok (.iconst 1, 1) := by decide +kernel
theorem dX9_tap_7 : decode cX9_tap 7 = .ok (.invokevirtual 42, 3) := by decide +kernel
theorem dX9_tap_10 : decode cX9_tap 10 = .ok (.ifCond .eq 5, 3) := by decide +kernel
theorem dX9_tap_13 : decode cX9_tap 13 = .ok (.iconst 0, 1) := by decide +kernel
theorem dX9_tap_14 : decode cX9_tap 14 = .ok (.ireturn, 1) := by decide +kernel
theorem dX9_tap_15 : decode cX9_tap 15 = .ok (.aload_n 0, 1) := by decide +kernel
theorem dX9_tap_16 : decode cX9_tap 16 = .ok (.getfield 10, 3) := by decide +kernel
theorem dX9_tap_19 : decode cX9_tap 19 = .ok (.iload_n 1, 1) := by decide +kernel
theorem dX9_tap_20 : decode cX9_tap 20 = .ok (.invokeinterface 59 2, 5) := by decide +kernel
theorem dX9_tap_25 : decode cX9_tap 25 = .ok (.checkcast 46, 3) := by decide +kernel
theorem dX9_tap_28 : decode cX9_tap 28 = .ok (.getfield 69, 3) := by decide +kernel
theorem dX9_tap_31 : decode cX9_tap 31 = .ok (.istore_n 2, 1) := by decide +kernel
theorem dX9_tap_32 : decode cX9_tap 32 = .ok (.aload_n 0, 1) := by decide +kernel
theorem dX9_tap_33 : decode cX9_tap 33 = .ok (.getfield 10, 3) := by decide +kernel
theorem dX9_tap_36 : decode cX9_tap 36 = .ok (.iload_n 1, 1) := by decide +kernel
theorem dX9_tap_37 : decode cX9_tap 37 = .ok (.invokeinterface 59 2, 5) := by decide +kernel
theorem dX9_tap_42 : decode cX9_tap 42 = .ok (.checkcast 46, 3) := by decide +kernel
theorem dX9_tap_45 : decode cX9_tap 45 = .ok (.iconst 0, 1) := by decide +kernel
theorem dX9_tap_46 : decode cX9_tap 46 = .ok (.putfield 69, 3) := by decide +kernel
theorem dX9_tap_49 : decode cX9_tap 49 = .ok (.iload_n 2, 1) := by decide +kernel
theorem dX9_tap_50 : decode cX9_tap 50 = .ok (.ireturn, 1) := by decide +kernel
set_option maxRecDepth 20000 in
theorem ggX9_pour_X9_isGlass : GoodIn wsX9_pour wsX9_isGlass := goodIn_r _ [9, 1, 10, 11, 12, 13, 14, 15, 16, 17, 8, 18, 41, 42, 43, 44, 45, 46, 47, 48, 49, 64, 65, 66] (by decide +kernel) (by decide +kernel)
set_option maxRecDepth 20000 in
theorem gX9_pour_X9_isGlass : GoodIn wsX9_pour (wsV RX9 55 RX9 yX9_isGlass wsX9_isGlass) := goodIn_app (goodIn_of _ (by decide +kernel)) ggX9_pour_X9_isGlass
set_option maxRecDepth 20000 in
theorem ggX9_pour_X9_no : GoodIn wsX9_pour wsX9_no := goodIn_r _ [22, 23, 41, 42, 43, 44, 45, 46, 47, 48, 49] (by decide +kernel) (by decide +kernel)
set_option maxRecDepth 20000 in
theorem gX9_pour_X9_no : GoodIn wsX9_pour (wsV RX9 42 RX9 yX9_no wsX9_no) := goodIn_app (goodIn_of _ (by decide +kernel)) ggX9_pour_X9_no
set_option maxRecDepth 20000 in
theorem ggX9_pour_X9_isIn : GoodIn wsX9_pour wsX9_isIn := goodIn_r _ [18] (by decide +kernel) (by decide +kernel)
set_option maxRecDepth 20000 in
theorem gX9_pour_X9_isIn : GoodIn wsX9_pour (va_wsS RX9 38 yX9_isIn wsX9_isIn) := goodIn_app (goodIn_of _ (by decide +kernel)) ggX9_pour_X9_isIn
set_option maxRecDepth 20000 in
theorem ggX9_pour_Jx4a65c_get_915e3 : GoodIn wsX9_pour wsJx4a65c_get_915e3 := goodIn_r _ [27, 15, 28, 29, 30, 31, 32, 33, 34, 35, 36, 37, 38, 13, 39, 40, 64, 65, 66] (by decide +kernel) (by decide +kernel)
set_option maxRecDepth 20000 in
theorem gX9_pour_Jx4a65c_get_915e3_f59Jx4a65c : GoodIn wsX9_pour (va_wsF RX9 59 RJx4a65c ⟨"java/util/List", "get", "(I)Ljava/lang/Object;"⟩ yJx4a65c_get_915e3 wsJx4a65c_get_915e3) := goodIn_app (goodIn_of _ (by decide +kernel)) ggX9_pour_Jx4a65c_get_915e3
theorem dX9_pour_0 : decode cX9_pour 0 = .ok (.aload_n 0, 1) := by decide +kernel
theorem dX9_pour_1 : decode cX9_pour 1 = .ok (.aload_n 0, 1) := by decide +kernel
theorem dX9_pour_2 : decode cX9_pour 2 = .ok (.iload_n 1, 1) := by decide +kernel
theorem dX9_pour_3 : decode cX9_pour 3 = .ok (.invokevirtual 55, 3) := by decide +kernel
theorem dX9_pour_6 : decode cX9_pour 6 = .ok (.iconst 1, 1) := by decide +kernel
theorem dX9_pour_7 : decode cX9_pour 7 = .ok (.invokevirtual 42, 3) := by decide +kernel
theorem dX9_pour_10 : decode cX9_pour 10 = .ok (.ifCond .ne 19, 3) := by decide +kernel
theorem dX9_pour_13 : decode cX9_pour 13 = .ok (.aload_n 0, 1) := by decide +kernel
theorem dX9_pour_14 : decode cX9_pour 14 = .ok (.iload_n 2, 1) := by decide +kernel
theorem dX9_pour_15 : decode cX9_pour 15 = .ok (.iconst 1, 1) := by decide +kernel
theorem dX9_pour_16 : decode cX9_pour 16 = .ok (.sipush 999, 3) := by decide +kernel
theorem dX9_pour_19 : decode cX9_pour 19 = .ok (.invokestatic 38, 3) := by decide +kernel
theorem dX9_pour_22 : decode cX9_pour 22 = .ok (.iconst 2, 1) := by decide +kernel
theorem dX9_pour_23 : decode cX9_pour 23 = .ok (.invokevirtual 42, 3) := by decide +kernel
theorem dX9_pour_26 : decode cX9_pour 26 = .ok (.ifCond .eq 5, 3) := by decide +kernel
theorem dX9_pour_29 : decode cX9_pour 29 = .ok (.iconst 0, 1) := by decide +kernel
theorem dX9_pour_30 : decode cX9_pour 30 = .ok (.ireturn, 1) := by decide +kernel
theorem dX9_pour_31 : decode cX9_pour 31 = .ok (.aload_n 0, 1) := by decide +kernel
theorem dX9_pour_32 : decode cX9_pour 32 = .ok (.getfield 10, 3) := by decide +kernel
theorem dX9_pour_35 : decode cX9_pour 35 = .ok (.iload_n 1, 1) := by decide +kernel
theorem dX9_pour_36 : decode cX9_pour 36 = .ok (.invokeinterface 59 2, 5) := by decide +kernel
theorem dX9_pour_41 : decode cX9_pour 41 = .ok (.checkcast 46, 3) := by decide +kernel
theorem dX9_pour_44 : decode cX9_pour 44 = .ok (.astore_n 3, 1) := by decide +kernel
theorem dX9_pour_45 : decode cX9_pour 45 = .ok (.aload_n 0, 1) := by decide +kernel
theorem dX9_pour_46 : decode cX9_pour 46 = .ok (.aload_n 3, 1) := by decide +kernel
theorem dX9_pour_47 : decode cX9_pour 47 = .ok (.getfield 63, 3) := by decide +kernel
theorem dX9_pour_50 : decode cX9_pour 50 = .ok (.aload_n 3, 1) := by decide +kernel
theorem dX9_pour_51 : decode cX9_pour 51 = .ok (.getfield 66, 3) := by decide +kernel
theorem dX9_pour_54 : decode cX9_pour 54 = .ok (.iadd, 1) := by decide +kernel
theorem dX9_pour_55 : decode cX9_pour 55 = .ok (.iload_n 2, 1) := by decide +kernel
theorem dX9_pour_56 : decode cX9_pour 56 = .ok (.iadd, 1) := by decide +kernel
theorem dX9_pour_57 : decode cX9_pour 57 = .ok (.sipush 19999, 3) := by decide +kernel
theorem dX9_pour_60 : decode cX9_pour 60 = .ok (.if_icmp .gt 7, 3) := by decide +kernel
theorem dX9_pour_63 : decode cX9_pour 63 = .ok (.iconst 1, 1) := by decide +kernel
theorem dX9_pour_64 : decode cX9_pour 64 = .ok (.goto 4, 3) := by decide +kernel
theorem dX9_pour_67 : decode cX9_pour 67 = .ok (.iconst 0, 1) := by decide +kernel
theorem dX9_pour_68 : decode cX9_pour 68 = .ok (.iconst 3, 1) := by decide +kernel
theorem dX9_pour_69 : decode cX9_pour 69 = .ok (.invokevirtual 42, 3) := by decide +kernel
theorem dX9_pour_72 : decode cX9_pour 72 = .ok (.ifCond .eq 5, 3) := by decide +kernel
theorem dX9_pour_75 : decode cX9_pour 75 = .ok (.iconst 0, 1) := by decide +kernel
theorem dX9_pour_76 : decode cX9_pour 76 = .ok (.ireturn, 1) := by decide +kernel
theorem dX9_pour_77 : decode cX9_pour 77 = .ok (.aload_n 3, 1) := by decide +kernel
theorem dX9_pour_78 : decode cX9_pour 78 = .ok (.dup, 1) := by decide +kernel
theorem dX9_pour_79 : decode cX9_pour 79 = .ok (.getfield 63, 3) := by decide +kernel
theorem dX9_pour_82 : decode cX9_pour 82 = .ok (.iload_n 2, 1) := by decide +kernel
theorem dX9_pour_83 : decode cX9_pour 83 = .ok (.iadd, 1) := by decide +kernel
theorem dX9_pour_84 : decode cX9_pour 84 = .ok (.putfield 63, 3) := by decide +kernel
theorem dX9_pour_87 : decode cX9_pour 87 = .ok (.aload_n 3, 1) := by decide +kernel
theorem dX9_pour_88 : decode cX9_pour 88 = .ok (.getfield 63, 3) := by decide +kernel
theorem dX9_pour_91 : decode cX9_pour 91 = .ok (.ireturn, 1) := by decide +kernel
set_option maxRecDepth 20000 in
theorem ggX9_falls_X9_isGlass : GoodIn wsX9_falls wsX9_isGlass := goodIn_r _ [9, 1, 10, 11, 12, 13, 14, 15, 16, 17, 8, 18, 56, 57, 58, 59, 60, 61, 62, 63, 64, 79, 80, 81] (by decide +kernel) (by decide +kernel)
set_option maxRecDepth 20000 in
theorem gX9_falls_X9_isGlass : GoodIn wsX9_falls (wsV RX9 55 RX9 yX9_isGlass wsX9_isGlass) := goodIn_app (goodIn_of _ (by decide +kernel)) ggX9_falls_X9_isGlass
set_option maxRecDepth 20000 in
theorem ggX9_falls_X9_no : GoodIn wsX9_falls wsX9_no := goodIn_r _ [22, 23, 56, 57, 58, 59, 60, 61, 62, 63, 64] (by decide +kernel) (by decide +kernel)
set_option maxRecDepth 20000 in
theorem gX9_falls_X9_no : GoodIn wsX9_falls (wsV RX9 42 RX9 yX9_no wsX9_no) := goodIn_app (goodIn_of _ (by decide +kernel)) ggX9_falls_X9_no
set_option maxRecDepth 20000 in
theorem ggX9_falls_Jx4a65c_get_915e3 : GoodIn wsX9_falls wsJx4a65c_get_915e3 := goodIn_r _ [27, 15, 28, 29, 30, 31, 32, 33, 34, 35, 36, 37, 38, 13, 39, 40, 79, 80, 81] (by decide +kernel) (by decide +kernel)
set_option maxRecDepth 20000 in
theorem gX9_falls_Jx4a65c_get_915e3_f59Jx4a65c : GoodIn wsX9_falls (va_wsF RX9 59 RJx4a65c ⟨"java/util/List", "get", "(I)Ljava/lang/Object;"⟩ yJx4a65c_get_915e3 wsJx4a65c_get_915e3) := goodIn_app (goodIn_of _ (by decide +kernel)) ggX9_falls_Jx4a65c_get_915e3
set_option maxRecDepth 20000 in
theorem ggX9_falls_X8_falls : GoodIn wsX9_falls wsX8_falls := goodIn_r _ [45, 46, 47, 48, 49, 50, 51, 52, 53, 54, 55, 65, 66, 67, 68, 69, 70, 71, 72, 73, 74, 75, 76, 77, 78] (by decide +kernel) (by decide +kernel)
set_option maxRecDepth 20000 in
theorem gX9_falls_X8_falls : GoodIn wsX9_falls (wsV RX9 95 RX8 yX8_falls wsX8_falls) := goodIn_app (goodIn_of _ (by decide +kernel)) ggX9_falls_X8_falls
theorem dX9_falls_0 : decode cX9_falls 0 = .ok (.aload_n 0, 1) := by decide +kernel
theorem dX9_falls_1 : decode cX9_falls 1 = .ok (.aload_n 0, 1) := by decide +kernel
theorem dX9_falls_2 : decode cX9_falls 2 = .ok (.iload_n 1, 1) := by decide +kernel
theorem dX9_falls_3 : decode cX9_falls 3 = .ok (.invokevirtual 55, 3) := by decide +kernel
theorem dX9_falls_6 : decode cX9_falls 6 = .ok (.iconst 1, 1) := by decide +kernel
theorem dX9_falls_7 : decode cX9_falls 7 = .ok (.invokevirtual 42, 3) := by decide +kernel
theorem dX9_falls_10 : decode cX9_falls 10 = .ok (.ifCond .eq 5, 3) := by decide +kernel
theorem dX9_falls_13 : decode cX9_falls 13 = .ok (.iconst 0, 1) := by decide +kernel
theorem dX9_falls_14 : decode cX9_falls 14 = .ok (.ireturn, 1) := by decide +kernel
theorem dX9_falls_15 : decode cX9_falls 15 = .ok (.aload_n 0, 1) := by decide +kernel
theorem dX9_falls_16 : decode cX9_falls 16 = .ok (.getfield 10, 3) := by decide +kernel
theorem dX9_falls_19 : decode cX9_falls 19 = .ok (.iload_n 1, 1) := by decide +kernel
theorem dX9_falls_20 : decode cX9_falls 20 = .ok (.invokeinterface 59 2, 5) := by decide +kernel
theorem dX9_falls_25 : decode cX9_falls 25 = .ok (.checkcast 46, 3) := by decide +kernel
theorem dX9_falls_28 : decode cX9_falls 28 = .ok (.astore_n 2, 1) := by decide +kernel
theorem dX9_falls_29 : decode cX9_falls 29 = .ok (.aload_n 2, 1) := by decide +kernel
theorem dX9_falls_30 : decode cX9_falls 30 = .ok (.getfield 73, 3) := by decide +kernel
theorem dX9_falls_33 : decode cX9_falls 33 = .ok (.bipush 108, 2) := by decide +kernel
theorem dX9_falls_35 : decode cX9_falls 35 = .ok (.if_icmp .ne 7, 3) := by decide +kernel
theorem dX9_falls_38 : decode cX9_falls 38 = .ok (.iconst 0, 1) := by decide +kernel
theorem dX9_falls_39 : decode cX9_falls 39 = .ok (.goto 11, 3) := by decide +kernel
theorem dX9_falls_42 : decode cX9_falls 42 = .ok (.aload_n 2, 1) := by decide +kernel
theorem dX9_falls_43 : decode cX9_falls 43 = .ok (.aload_n 2, 1) := by decide +kernel
theorem dX9_falls_44 : decode cX9_falls 44 = .ok (.getfield 63, 3) := by decide +kernel
theorem dX9_falls_47 : decode cX9_falls 47 = .ok (.invokevirtual 95, 3) := by decide +kernel
theorem dX9_falls_50 : decode cX9_falls 50 = .ok (.ireturn, 1) := by decide +kernel
set_option maxRecDepth 20000 in
theorem ggX9_runTime_X9_isGlass : GoodIn wsX9_runTime wsX9_isGlass := goodIn_r _ [9, 1, 10, 11, 12, 13, 14, 15, 16, 17, 8, 18, 56, 57, 58, 59, 60, 61, 62, 63, 64, 79, 80, 81] (by decide +kernel) (by decide +kernel)
set_option maxRecDepth 20000 in
theorem gX9_runTime_X9_isGlass : GoodIn wsX9_runTime (wsV RX9 55 RX9 yX9_isGlass wsX9_isGlass) := goodIn_app (goodIn_of _ (by decide +kernel)) ggX9_runTime_X9_isGlass
set_option maxRecDepth 20000 in
theorem ggX9_runTime_X9_no : GoodIn wsX9_runTime wsX9_no := goodIn_r _ [22, 23, 56, 57, 58, 59, 60, 61, 62, 63, 64] (by decide +kernel) (by decide +kernel)
set_option maxRecDepth 20000 in
theorem gX9_runTime_X9_no : GoodIn wsX9_runTime (wsV RX9 42 RX9 yX9_no wsX9_no) := goodIn_app (goodIn_of _ (by decide +kernel)) ggX9_runTime_X9_no
set_option maxRecDepth 20000 in
theorem ggX9_runTime_Jx4a65c_get_915e3 : GoodIn wsX9_runTime wsJx4a65c_get_915e3 := goodIn_r _ [27, 15, 28, 29, 30, 31, 32, 33, 34, 35, 36, 37, 38, 13, 39, 40, 79, 80, 81] (by decide +kernel) (by decide +kernel)
set_option maxRecDepth 20000 in
theorem gX9_runTime_Jx4a65c_get_915e3_f59Jx4a65c : GoodIn wsX9_runTime (va_wsF RX9 59 RJx4a65c ⟨"java/util/List", "get", "(I)Ljava/lang/Object;"⟩ yJx4a65c_get_915e3 wsJx4a65c_get_915e3) := goodIn_app (goodIn_of _ (by decide +kernel)) ggX9_runTime_Jx4a65c_get_915e3
set_option maxRecDepth 20000 in
theorem ggX9_runTime_X8_falls : GoodIn wsX9_runTime wsX8_falls := goodIn_r _ [45, 46, 47, 48, 49, 50, 51, 52, 53, 54, 55, 65, 66, 67, 68, 69, 70, 71, 72, 73, 74, 75, 76, 77, 78] (by decide +kernel) (by decide +kernel)
set_option maxRecDepth 20000 in
theorem gX9_runTime_X8_falls : GoodIn wsX9_runTime (wsV RX9 95 RX8 yX8_falls wsX8_falls) := goodIn_app (goodIn_of _ (by decide +kernel)) ggX9_runTime_X8_falls
theorem dX9_runTime_0 : decode cX9_runTime 0 = .ok (.aload_n 0, 1) := by decide +kernel
theorem dX9_runTime_1 : decode cX9_runTime 1 = .ok (.aload_n 0, 1) := by decide +kernel
theorem dX9_runTime_2 : decode cX9_runTime 2 = .ok (.iload_n 1, 1) := by decide +kernel
theorem dX9_runTime_3 : decode cX9_runTime 3 = .ok (.invokevirtual 55, 3) := by decide +kernel
theorem dX9_runTime_6 : decode cX9_runTime 6 = .ok (.iconst 1, 1) := by decide +kernel
theorem dX9_runTime_7 : decode cX9_runTime 7 = .ok (.invokevirtual 42, 3) := by decide +kernel
theorem dX9_runTime_10 : decode cX9_runTime 10 = .ok (.ifCond .eq 5, 3) := by decide +kernel
theorem dX9_runTime_13 : decode cX9_runTime 13 = .ok (.iconst 0, 1) := by decide +kernel
theorem dX9_runTime_14 : decode cX9_runTime 14 = .ok (.ireturn, 1) := by decide +kernel
theorem dX9_runTime_15 : decode cX9_runTime 15 = .ok (.aload_n 0, 1) := by decide +kernel
theorem dX9_runTime_16 : decode cX9_runTime 16 = .ok (.getfield 10, 3) := by decide +kernel
theorem dX9_runTime_19 : decode cX9_runTime 19 = .ok (.iload_n 1, 1) := by decide +kernel
theorem dX9_runTime_20 : decode cX9_runTime 20 = .ok (.invokeinterface 59 2, 5) := by decide +kernel
theorem dX9_runTime_25 : decode cX9_runTime 25 = .ok (.checkcast 46, 3) := by decide +kernel
theorem dX9_runTime_28 : decode cX9_runTime 28 = .ok (.astore_n 2, 1) := by decide +kernel
theorem dX9_runTime_29 : decode cX9_runTime 29 = .ok (.aload_n 0, 1) := by decide +kernel
theorem dX9_runTime_30 : decode cX9_runTime 30 = .ok (.aload_n 2, 1) := by decide +kernel
theorem dX9_runTime_31 : decode cX9_runTime 31 = .ok (.getfield 73, 3) := by decide +kernel
theorem dX9_runTime_34 : decode cX9_runTime 34 = .ok (.bipush 108, 2) := by decide +kernel
theorem dX9_runTime_36 : decode cX9_runTime 36 = .ok (.if_icmp .eq 7, 3) := by decide +kernel
theorem dX9_runTime_39 : decode cX9_runTime 39 = .ok (.iconst 1, 1) := by decide +kernel
theorem dX9_runTime_40 : decode cX9_runTime 40 = .ok (.goto 4, 3) := by decide +kernel
theorem dX9_runTime_43 : decode cX9_runTime 43 = .ok (.iconst 0, 1) := by decide +kernel
theorem dX9_runTime_44 : decode cX9_runTime 44 = .ok (.iconst 2, 1) := by decide +kernel
theorem dX9_runTime_45 : decode cX9_runTime 45 = .ok (.invokevirtual 42, 3) := by decide +kernel
theorem dX9_runTime_48 : decode cX9_runTime 48 = .ok (.ifCond .eq 5, 3) := by decide +kernel
theorem dX9_runTime_51 : decode cX9_runTime 51 = .ok (.iconst 0, 1) := by decide +kernel
theorem dX9_runTime_52 : decode cX9_runTime 52 = .ok (.ireturn, 1) := by decide +kernel
theorem dX9_runTime_53 : decode cX9_runTime 53 = .ok (.iconst 0, 1) := by decide +kernel
theorem dX9_runTime_54 : decode cX9_runTime 54 = .ok (.istore_n 3, 1) := by decide +kernel
theorem dX9_runTime_55 : decode cX9_runTime 55 = .ok (.aload_n 2, 1) := by decide +kernel
theorem dX9_runTime_56 : decode cX9_runTime 56 = .ok (.getfield 63, 3) := by decide +kernel
theorem dX9_runTime_59 : decode cX9_runTime 59 = .ok (.istore 4, 2) := by decide +kernel
theorem dX9_runTime_61 : decode cX9_runTime 61 = .ok (.iload 4, 2) := by decide +kernel
theorem dX9_runTime_63 : decode cX9_runTime 63 = .ok (.ifCond .le 20, 3) := by decide +kernel
theorem dX9_runTime_66 : decode cX9_runTime 66 = .ok (.iinc 3 1, 3) := by decide +kernel
theorem dX9_runTime_69 : decode cX9_runTime 69 = .ok (.iload 4, 2) := by decide +kernel
theorem dX9_runTime_71 : decode cX9_runTime 71 = .ok (.aload_n 2, 1) := by decide +kernel
theorem dX9_runTime_72 : decode cX9_runTime 72 = .ok (.iload 4, 2) := by decide +kernel
theorem dX9_runTime_74 : decode cX9_runTime 74 = .ok (.invokevirtual 95, 3) := by decide +kernel
theorem dX9_runTime_77 : decode cX9_runTime 77 = .ok (.isub, 1) := by decide +kernel
theorem dX9_runTime_78 : decode cX9_runTime 78 = .ok (.istore 4, 2) := by decide +kernel
theorem dX9_runTime_80 : decode cX9_runTime 80 = .ok (.goto (-19), 3) := by decide +kernel
theorem dX9_runTime_83 : decode cX9_runTime 83 = .ok (.iload_n 3, 1) := by decide +kernel
theorem dX9_runTime_84 : decode cX9_runTime 84 = .ok (.ireturn, 1) := by decide +kernel
set_option maxRecDepth 20000 in
theorem ggX9_feed_X9_isGlass : GoodIn wsX9_feed wsX9_isGlass := goodIn_r _ [8, 1, 9, 10, 11, 12, 13, 14, 15, 16, 7, 17, 40, 41, 42, 43, 44, 45, 46, 47, 48, 63, 64, 65] (by decide +kernel) (by decide +kernel)
set_option maxRecDepth 20000 in
theorem gX9_feed_X9_isGlass : GoodIn wsX9_feed (wsV RX9 55 RX9 yX9_isGlass wsX9_isGlass) := goodIn_app (goodIn_of _ (by decide +kernel)) ggX9_feed_X9_isGlass
set_option maxRecDepth 20000 in
theorem ggX9_feed_X9_no : GoodIn wsX9_feed wsX9_no := goodIn_r _ [21, 22, 40, 41, 42, 43, 44, 45, 46, 47, 48] (by decide +kernel) (by decide +kernel)
set_option maxRecDepth 20000 in
theorem gX9_feed_X9_no : GoodIn wsX9_feed (wsV RX9 42 RX9 yX9_no wsX9_no) := goodIn_app (goodIn_of _ (by decide +kernel)) ggX9_feed_X9_no
set_option maxRecDepth 20000 in
theorem ggX9_feed_Jx4a65c_get_915e3 : GoodIn wsX9_feed wsJx4a65c_get_915e3 := goodIn_r _ [26, 14, 27, 28, 29, 30, 31, 32, 33, 34, 35, 36, 37, 12, 38, 39, 63, 64, 65] (by decide +kernel) (by decide +kernel)
set_option maxRecDepth 20000 in
theorem gX9_feed_Jx4a65c_get_915e3_f59Jx4a65c : GoodIn wsX9_feed (va_wsF RX9 59 RJx4a65c ⟨"java/util/List", "get", "(I)Ljava/lang/Object;"⟩ yJx4a65c_get_915e3 wsJx4a65c_get_915e3) := goodIn_app (goodIn_of _ (by decide +kernel)) ggX9_feed_Jx4a65c_get_915e3
theorem dX9_feed_0 : decode cX9_feed 0 = .ok (.aload_n 0, 1) := by decide +kernel
theorem dX9_feed_1 : decode cX9_feed 1 = .ok (.aload_n 0, 1) := by decide +kernel
theorem dX9_feed_2 : decode cX9_feed 2 = .ok (.iload_n 1, 1) := by decide +kernel
theorem dX9_feed_3 : decode cX9_feed 3 = .ok (.invokevirtual 55, 3) := by decide +kernel
theorem dX9_feed_6 : decode cX9_feed 6 = .ok (.ifCond .eq 20, 3) := by decide +kernel
theorem dX9_feed_9 : decode cX9_feed 9 = .ok (.iload_n 2, 1) := by decide +kernel
theorem dX9_feed_10 : decode cX9_feed 10 = .ok (.iconst (-1), 1) := by decide +kernel
theorem dX9_feed_11 : decode cX9_feed 11 = .ok (.if_icmp .eq 11, 3) := by decide +kernel
theorem dX9_feed_14 : decode cX9_feed 14 = .ok (.aload_n 0, 1) := by decide +kernel
theorem dX9_feed_15 : decode cX9_feed 15 = .ok (.iload_n 2, 1) := by decide +kernel
theorem dX9_feed_16 : decode cX9_feed 16 = .ok (.invokevirtual 55, 3) := by decide +kernel
theorem dX9_feed_19 : decode cX9_feed 19 = .ok (.ifCond .eq 7, 3) := by decide +kernel
theorem dX9_feed_22 : decode cX9_feed 22 = .ok (.iconst 1, 1) := by decide +kernel
theorem dX9_feed_23 : decode cX9_feed 23 = .ok (.goto 4, 3) := by decide +kernel
theorem dX9_feed_26 : decode cX9_feed 26 = .ok (.iconst 0, 1) := by decide +kernel
theorem dX9_feed_27 : decode cX9_feed 27 = .ok (.iconst 1, 1) := by decide +kernel
theorem dX9_feed_28 : decode cX9_feed 28 = .ok (.invokevirtual 42, 3) := by decide +kernel
theorem dX9_feed_31 : decode cX9_feed 31 = .ok (.ifCond .ne 26, 3) := by decide +kernel
theorem dX9_feed_34 : decode cX9_feed 34 = .ok (.aload_n 0, 1) := by decide +kernel
theorem dX9_feed_35 : decode cX9_feed 35 = .ok (.iload_n 2, 1) := by decide +kernel
theorem dX9_feed_36 : decode cX9_feed 36 = .ok (.iconst (-1), 1) := by decide +kernel
theorem dX9_feed_37 : decode cX9_feed 37 = .ok (.if_icmp .eq 8, 3) := by decide +kernel
theorem dX9_feed_40 : decode cX9_feed 40 = .ok (.iload_n 2, 1) := by decide +kernel
theorem dX9_feed_41 : decode cX9_feed 41 = .ok (.iload_n 1, 1) := by decide +kernel
theorem dX9_feed_42 : decode cX9_feed 42 = .ok (.if_icmp .le 7, 3) := by decide +kernel
theorem dX9_feed_45 : decode cX9_feed 45 = .ok (.iconst 1, 1) := by decide +kernel
theorem dX9_feed_46 : decode cX9_feed 46 = .ok (.goto 4, 3) := by decide +kernel
theorem dX9_feed_49 : decode cX9_feed 49 = .ok (.iconst 0, 1) := by decide +kernel
theorem dX9_feed_50 : decode cX9_feed 50 = .ok (.iconst 2, 1) := by decide +kernel
theorem dX9_feed_51 : decode cX9_feed 51 = .ok (.invokevirtual 42, 3) := by decide +kernel
theorem dX9_feed_54 : decode cX9_feed 54 = .ok (.ifCond .eq 5, 3) := by decide +kernel
theorem dX9_feed_57 : decode cX9_feed 57 = .ok (.iconst 0, 1) := by decide +kernel
theorem dX9_feed_58 : decode cX9_feed 58 = .ok (.ireturn, 1) := by decide +kernel
theorem dX9_feed_59 : decode cX9_feed 59 = .ok (.aload_n 0, 1) := by decide +kernel
theorem dX9_feed_60 : decode cX9_feed 60 = .ok (.getfield 10, 3) := by decide +kernel
theorem dX9_feed_63 : decode cX9_feed 63 = .ok (.iload_n 1, 1) := by decide +kernel
theorem dX9_feed_64 : decode cX9_feed 64 = .ok (.invokeinterface 59 2, 5) := by decide +kernel
theorem dX9_feed_69 : decode cX9_feed 69 = .ok (.checkcast 46, 3) := by decide +kernel
theorem dX9_feed_72 : decode cX9_feed 72 = .ok (.getfield 99, 3) := by decide +kernel
theorem dX9_feed_75 : decode cX9_feed 75 = .ok (.istore_n 3, 1) := by decide +kernel
theorem dX9_feed_76 : decode cX9_feed 76 = .ok (.aload_n 0, 1) := by decide +kernel
theorem dX9_feed_77 : decode cX9_feed 77 = .ok (.getfield 10, 3) := by decide +kernel
theorem dX9_feed_80 : decode cX9_feed 80 = .ok (.iload_n 1, 1) := by decide +kernel
theorem dX9_feed_81 : decode cX9_feed 81 = .ok (.invokeinterface 59 2, 5) := by decide +kernel
theorem dX9_feed_86 : decode cX9_feed 86 = .ok (.checkcast 46, 3) := by decide +kernel
theorem dX9_feed_89 : decode cX9_feed 89 = .ok (.iload_n 2, 1) := by decide +kernel
theorem dX9_feed_90 : decode cX9_feed 90 = .ok (.putfield 99, 3) := by decide +kernel
theorem dX9_feed_93 : decode cX9_feed 93 = .ok (.iload_n 3, 1) := by decide +kernel
theorem dX9_feed_94 : decode cX9_feed 94 = .ok (.ireturn, 1) := by decide +kernel
set_option maxRecDepth 20000 in
theorem ggX9_all_Jx4a65c_iterator_32c93 : GoodIn wsX9_all wsJx4a65c_iterator_32c93 := goodIn_r _ [9, 10, 11, 12, 13, 14, 15, 16, 17, 18, 19, 20, 21, 22, 23, 61, 62, 63, 64, 65, 66, 67] (by decide +kernel) (by decide +kernel)
set_option maxRecDepth 20000 in
theorem gX9_all_Jx4a65c_iterator_32c93_f102Jx4a65c : GoodIn wsX9_all (va_wsF RX9 102 RJx4a65c ⟨"java/util/List", "iterator", "()Ljava/util/Iterator;"⟩ yJx4a65c_iterator_32c93 wsJx4a65c_iterator_32c93) := goodIn_app (goodIn_of _ (by decide +kernel)) ggX9_all_Jx4a65c_iterator_32c93
set_option maxRecDepth 20000 in
theorem ggX9_all_Jx35411_hasNext_aae02 : GoodIn wsX9_all wsJx35411_hasNext_aae02 := goodIn_r _ [27, 28, 16, 61, 62, 63, 64, 65, 66, 67] (by decide +kernel) (by decide +kernel)
set_option maxRecDepth 20000 in
theorem gX9_all_Jx35411_hasNext_aae02_f106Jx35411 : GoodIn wsX9_all (va_wsF RX9 106 RJx35411 ⟨"java/util/Iterator", "hasNext", "()Z"⟩ yJx35411_hasNext_aae02 wsJx35411_hasNext_aae02) := goodIn_app (goodIn_of _ (by decide +kernel)) ggX9_all_Jx35411_hasNext_aae02
set_option maxRecDepth 20000 in
theorem ggX9_all_Jx35411_next_0502b : GoodIn wsX9_all wsJx35411_next_0502b := goodIn_r _ [32, 28, 16, 33, 20, 34, 35, 36, 12, 37, 21, 22, 23, 61, 62, 63, 64, 65, 66, 67] (by decide +kernel) (by decide +kernel)
set_option maxRecDepth 20000 in
theorem gX9_all_Jx35411_next_0502b_f112Jx35411 : GoodIn wsX9_all (va_wsF RX9 112 RJx35411 ⟨"java/util/Iterator", "next", "()Ljava/lang/Object;"⟩ yJx35411_next_0502b wsJx35411_next_0502b) := goodIn_app (goodIn_of _ (by decide +kernel)) ggX9_all_Jx35411_next_0502b
theorem dX9_all_0 : decode cX9_all 0 = .ok (.iconst 0, 1) := by decide +kernel
theorem dX9_all_1 : decode cX9_all 1 = .ok (.istore_n 1, 1) := by decide +kernel
theorem dX9_all_2 : decode cX9_all 2 = .ok (.aload_n 0, 1) := by decide +kernel
theorem dX9_all_3 : decode cX9_all 3 = .ok (.getfield 10, 3) := by decide +kernel
theorem dX9_all_6 : decode cX9_all 6 = .ok (.invokeinterface 102 1, 5) := by decide +kernel
theorem dX9_all_11 : decode cX9_all 11 = .ok (.astore_n 2, 1) := by decide +kernel
theorem dX9_all_12 : decode cX9_all 12 = .ok (.aload_n 2, 1) := by decide +kernel
theorem dX9_all_13 : decode cX9_all 13 = .ok (.invokeinterface 106 1, 5) := by decide +kernel
theorem dX9_all_18 : decode cX9_all 18 = .ok (.ifCond .eq 28, 3) := by decide +kernel
theorem dX9_all_21 : decode cX9_all 21 = .ok (.aload_n 2, 1) := by decide +kernel
theorem dX9_all_22 : decode cX9_all 22 = .ok (.invokeinterface 112 1, 5) := by decide +kernel
theorem dX9_all_27 : decode cX9_all 27 = .ok (.checkcast 46, 3) := by decide +kernel
theorem dX9_all_30 : decode cX9_all 30 = .ok (.astore_n 3, 1) := by decide +kernel
theorem dX9_all_31 : decode cX9_all 31 = .ok (.iload_n 1, 1) := by decide +kernel
theorem dX9_all_32 : decode cX9_all 32 = .ok (.aload_n 3, 1) := by decide +kernel
theorem dX9_all_33 : decode cX9_all 33 = .ok (.getfield 63, 3) := by decide +kernel
theorem dX9_all_36 : decode cX9_all 36 = .ok (.aload_n 3, 1) := by decide +kernel
theorem dX9_all_37 : decode cX9_all 37 = .ok (.getfield 66, 3) := by decide +kernel
theorem dX9_all_40 : decode cX9_all 40 = .ok (.iadd, 1) := by decide +kernel
theorem dX9_all_41 : decode cX9_all 41 = .ok (.iadd, 1) := by decide +kernel
theorem dX9_all_42 : decode cX9_all 42 = .ok (.istore_n 1, 1) := by decide +kernel
theorem dX9_all_43 : decode cX9_all 43 = .ok (.goto (-31), 3) := by decide +kernel
theorem dX9_all_46 : decode cX9_all 46 = .ok (.iload_n 1, 1) := by decide +kernel
theorem dX9_all_47 : decode cX9_all 47 = .ok (.ireturn, 1) := by decide +kernel
set_option maxRecDepth 20000 in
theorem ggX9_grains_X9_all : GoodIn wsX9_grains wsX9_all := goodIn_r _ [5, 6, 7, 8, 9, 10, 11, 12, 13, 14, 15, 16, 17, 18, 19, 20, 21, 22, 23, 24, 25, 26, 27, 28, 29, 30, 31, 32, 33, 34, 35, 36, 37, 38, 39, 40, 41, 42, 43, 44, 45, 46, 47, 48, 49, 50, 51, 52, 53, 54, 55, 56, 57, 58, 59, 60, 61, 62, 63, 64, 65, 66, 67, 68, 69, 70, 71, 72] (by decide +kernel) (by decide +kernel)
set_option maxRecDepth 20000 in
theorem gX9_grains_X9_all : GoodIn wsX9_grains (wsV RX9 116 RX9 yX9_all wsX9_all) := goodIn_app (goodIn_of _ (by decide +kernel)) ggX9_grains_X9_all
theorem dX9_grains_0 : decode cX9_grains 0 = .ok (.aload_n 0, 1) := by decide +kernel
theorem dX9_grains_1 : decode cX9_grains 1 = .ok (.invokevirtual 116, 3) := by decide +kernel
theorem dX9_grains_4 : decode cX9_grains 4 = .ok (.ireturn, 1) := by decide +kernel
set_option maxRecDepth 20000 in
theorem ggX9_fill_Jx4a65c_iterator_32c93 : GoodIn wsX9_fill wsJx4a65c_iterator_32c93 := goodIn_r _ [11, 12, 13, 14, 15, 16, 17, 18, 19, 20, 21, 22, 23, 24, 25, 102, 103, 104, 105, 106, 107, 108] (by decide +kernel) (by decide +kernel)
set_option maxRecDepth 20000 in
theorem gX9_fill_Jx4a65c_iterator_32c93_f102Jx4a65c : GoodIn wsX9_fill (va_wsF RX9 102 RJx4a65c ⟨"java/util/List", "iterator", "()Ljava/util/Iterator;"⟩ yJx4a65c_iterator_32c93 wsJx4a65c_iterator_32c93) := goodIn_app (goodIn_of _ (by decide +kernel)) ggX9_fill_Jx4a65c_iterator_32c93
set_option maxRecDepth 20000 in
theorem ggX9_fill_Jx35411_hasNext_aae02 : GoodIn wsX9_fill wsJx35411_hasNext_aae02 := goodIn_r _ [29, 30, 18, 102, 103, 104, 105, 106, 107, 108] (by decide +kernel) (by decide +kernel)
set_option maxRecDepth 20000 in
theorem gX9_fill_Jx35411_hasNext_aae02_f106Jx35411 : GoodIn wsX9_fill (va_wsF RX9 106 RJx35411 ⟨"java/util/Iterator", "hasNext", "()Z"⟩ yJx35411_hasNext_aae02 wsJx35411_hasNext_aae02) := goodIn_app (goodIn_of _ (by decide +kernel)) ggX9_fill_Jx35411_hasNext_aae02
set_option maxRecDepth 20000 in
theorem ggX9_fill_Jx35411_next_0502b : GoodIn wsX9_fill wsJx35411_next_0502b := goodIn_r _ [34, 30, 18, 35, 22, 36, 37, 38, 14, 39, 23, 24, 25, 102, 103, 104, 105, 106, 107, 108] (by decide +kernel) (by decide +kernel)
set_option maxRecDepth 20000 in
theorem gX9_fill_Jx35411_next_0502b_f112Jx35411 : GoodIn wsX9_fill (va_wsF RX9 112 RJx35411 ⟨"java/util/Iterator", "next", "()Ljava/lang/Object;"⟩ yJx35411_next_0502b wsJx35411_next_0502b) := goodIn_app (goodIn_of _ (by decide +kernel)) ggX9_fill_Jx35411_next_0502b
set_option maxRecDepth 20000 in
theorem ggX9_fill_Jx4a65c_indexOf_e47da : GoodIn wsX9_fill wsJx4a65c_indexOf_e47da := goodIn_r _ [43, 44, 45, 46, 47, 10, 48, 49, 50, 51, 52, 53, 54, 55, 56, 57, 58, 59, 60, 61, 62, 63, 64, 65, 66, 67, 68, 69, 70, 71, 72, 73, 74, 75, 76, 77, 78, 79, 80, 81, 82, 83, 106, 107, 108, 109, 110, 111, 112, 113] (by decide +kernel) (by decide +kernel)
set_option maxRecDepth 20000 in
theorem gX9_fill_Jx4a65c_indexOf_e47da_f133Jx4a65c : GoodIn wsX9_fill (va_wsF RX9 133 RJx4a65c ⟨"java/util/List", "indexOf", "(Ljava/lang/Object;)I"⟩ yJx4a65c_indexOf_e47da wsJx4a65c_indexOf_e47da) := goodIn_app (goodIn_of _ (by decide +kernel)) ggX9_fill_Jx4a65c_indexOf_e47da
set_option maxRecDepth 20000 in
theorem ggX9_fill_X9_fill : GoodIn wsX9_fill wsX9_fill := goodIn_r _ [0, 1, 2, 3, 4, 5, 6, 7, 8, 9, 10, 11, 12, 13, 14, 15, 16, 17, 18, 19, 20, 21, 22, 23, 24, 25, 26, 27, 28, 29, 30, 31, 32, 33, 34, 35, 36, 37, 38, 39, 40, 41, 42, 43, 44, 45, 46, 47, 48, 49, 50, 51, 52, 53, 54, 55, 56, 57, 58, 59, 60, 61, 62, 63, 64, 65, 66, 67, 68, 69, 70, 71, 72, 73, 74, 75, 76, 77, 78, 79, 80, 81, 82, 83, 84, 85, 86, 87, 88, 89, 90, 91, 92, 93, 94, 95, 96, 97, 98, 99, 100, 101, 102, 103, 104, 105, 106, 107, 108, 109, 110, 111, 112, 113] (by decide +kernel) (by decide +kernel)
set_option maxRecDepth 20000 in
theorem gX9_fill_X9_fill : GoodIn wsX9_fill (wsV RX9 137 RX9 yX9_fill wsX9_fill) := goodIn_app (goodIn_of _ (by decide +kernel)) ggX9_fill_X9_fill
theorem dX9_fill_0 : decode cX9_fill 0 = .ok (.aload_n 1, 1) := by decide +kernel
theorem dX9_fill_1 : decode cX9_fill 1 = .ok (.dup, 1) := by decide +kernel
theorem dX9_fill_2 : decode cX9_fill 2 = .ok (.getfield 119, 3) := by decide +kernel
theorem dX9_fill_5 : decode cX9_fill 5 = .ok (.iconst 1, 1) := by decide +kernel
theorem dX9_fill_6 : decode cX9_fill 6 = .ok (.iadd, 1) := by decide +kernel
theorem dX9_fill_7 : decode cX9_fill 7 = .ok (.putfield 119, 3) := by decide +kernel
theorem dX9_fill_10 : decode cX9_fill 10 = .ok (.aload_n 1, 1) := by decide +kernel
theorem dX9_fill_11 : decode cX9_fill 11 = .ok (.getfield 119, 3) := by decide +kernel
theorem dX9_fill_14 : decode cX9_fill 14 = .ok (.aload_n 1, 1) := by decide +kernel
theorem dX9_fill_15 : decode cX9_fill 15 = .ok (.getfield 124, 3) := by decide +kernel
theorem dX9_fill_18 : decode cX9_fill 18 = .ok (.if_icmp .ge 4, 3) := by decide +kernel
theorem dX9_fill_21 : decode cX9_fill 21 = .ok (.return_, 1) := by decide +kernel
theorem dX9_fill_22 : decode cX9_fill 22 = .ok (.aload_n 1, 1) := by decide +kernel
theorem dX9_fill_23 : decode cX9_fill 23 = .ok (.iconst 0, 1) := by decide +kernel
theorem dX9_fill_24 : decode cX9_fill 24 = .ok (.putfield 119, 3) := by decide +kernel
theorem dX9_fill_27 : decode cX9_fill 27 = .ok (.aload_n 1, 1) := by decide +kernel
theorem dX9_fill_28 : decode cX9_fill 28 = .ok (.dup, 1) := by decide +kernel
theorem dX9_fill_29 : decode cX9_fill 29 = .ok (.getfield 127, 3) := by decide +kernel
theorem dX9_fill_32 : decode cX9_fill 32 = .ok (.iconst 1, 1) := by decide +kernel
theorem dX9_fill_33 : decode cX9_fill 33 = .ok (.iadd, 1) := by decide +kernel
theorem dX9_fill_34 : decode cX9_fill 34 = .ok (.putfield 127, 3) := by decide +kernel
theorem dX9_fill_37 : decode cX9_fill 37 = .ok (.aload_n 0, 1) := by decide +kernel
theorem dX9_fill_38 : decode cX9_fill 38 = .ok (.getfield 16, 3) := by decide +kernel
theorem dX9_fill_41 : decode cX9_fill 41 = .ok (.invokeinterface 102 1, 5) := by decide +kernel
theorem dX9_fill_46 : decode cX9_fill 46 = .ok (.astore_n 2, 1) := by decide +kernel
theorem dX9_fill_47 : decode cX9_fill 47 = .ok (.aload_n 2, 1) := by decide +kernel
theorem dX9_fill_48 : decode cX9_fill 48 = .ok (.invokeinterface 106 1, 5) := by decide +kernel
theorem dX9_fill_53 : decode cX9_fill 53 = .ok (.ifCond .eq 38, 3) := by decide +kernel
theorem dX9_fill_56 : decode cX9_fill 56 = .ok (.aload_n 2, 1) := by decide +kernel
theorem dX9_fill_57 : decode cX9_fill 57 = .ok (.invokeinterface 112 1, 5) := by decide +kernel
theorem dX9_fill_62 : decode cX9_fill 62 = .ok (.checkcast 120, 3) := by decide +kernel
theorem dX9_fill_65 : decode cX9_fill 65 = .ok (.astore_n 3, 1) := by decide +kernel
theorem dX9_fill_66 : decode cX9_fill 66 = .ok (.aload_n 3, 1) := by decide +kernel
theorem dX9_fill_67 : decode cX9_fill 67 = .ok (.getfield 130, 3) := by decide +kernel
theorem dX9_fill_70 : decode cX9_fill 70 = .ok (.aload_n 0, 1) := by decide +kernel
theorem dX9_fill_71 : decode cX9_fill 71 = .ok (.getfield 16, 3) := by decide +kernel
theorem dX9_fill_74 : decode cX9_fill 74 = .ok (.aload_n 1, 1) := by decide +kernel
theorem dX9_fill_75 : decode cX9_fill 75 = .ok (.invokeinterface 133 2, 5) := by decide +kernel
theorem dX9_fill_80 : decode cX9_fill 80 = .ok (.if_icmp .ne 8, 3) := by decide +kernel
theorem dX9_fill_83 : decode cX9_fill 83 = .ok (.aload_n 0, 1) := by decide +kernel
theorem dX9_fill_84 : decode cX9_fill 84 = .ok (.aload_n 3, 1) := by decide +kernel
theorem dX9_fill_85 : decode cX9_fill 85 = .ok (.invokevirtual 137, 3) := by decide +kernel
theorem dX9_fill_88 : decode cX9_fill 88 = .ok (.goto (-41), 3) := by decide +kernel
theorem dX9_fill_91 : decode cX9_fill 91 = .ok (.return_, 1) := by decide +kernel
set_option maxRecDepth 20000 in
theorem ggX9_go_Jx4a65c_get_915e3 : GoodIn wsX9_go wsJx4a65c_get_915e3 := goodIn_r _ [20, 21, 22, 23, 24, 25, 26, 27, 28, 29, 30, 31, 32, 19, 33, 34, 161, 162, 163] (by decide +kernel) (by decide +kernel)
set_option maxRecDepth 20000 in
theorem gX9_go_Jx4a65c_get_915e3_f59Jx4a65c : GoodIn wsX9_go (va_wsF RX9 59 RJx4a65c ⟨"java/util/List", "get", "(I)Ljava/lang/Object;"⟩ yJx4a65c_get_915e3 wsJx4a65c_get_915e3) := goodIn_app (goodIn_of _ (by decide +kernel)) ggX9_go_Jx4a65c_get_915e3
set_option maxRecDepth 20000 in
theorem ggX9_go_X8_falls : GoodIn wsX9_go wsX8_falls := goodIn_r _ [39, 40, 41, 42, 43, 44, 45, 46, 47, 48, 49, 142, 143, 144, 145, 146, 147, 148, 149, 150, 151, 152, 153, 154, 155] (by decide +kernel) (by decide +kernel)
set_option maxRecDepth 20000 in
theorem gX9_go_X8_falls : GoodIn wsX9_go (wsV RX9 95 RX8 yX8_falls wsX8_falls) := goodIn_app (goodIn_of _ (by decide +kernel)) ggX9_go_X8_falls
set_option maxRecDepth 20000 in
theorem ggX9_go_Jx4a65c_iterator_32c93 : GoodIn wsX9_go wsJx4a65c_iterator_32c93 := goodIn_r _ [53, 54, 55, 56, 57, 58, 59, 60, 61, 62, 63, 64, 65, 66, 67, 164, 165, 166, 167, 161, 162, 163] (by decide +kernel) (by decide +kernel)
set_option maxRecDepth 20000 in
theorem gX9_go_Jx4a65c_iterator_32c93_f102Jx4a65c : GoodIn wsX9_go (va_wsF RX9 102 RJx4a65c ⟨"java/util/List", "iterator", "()Ljava/util/Iterator;"⟩ yJx4a65c_iterator_32c93 wsJx4a65c_iterator_32c93) := goodIn_app (goodIn_of _ (by decide +kernel)) ggX9_go_Jx4a65c_iterator_32c93
set_option maxRecDepth 20000 in
theorem ggX9_go_Jx35411_hasNext_aae02 : GoodIn wsX9_go wsJx35411_hasNext_aae02 := goodIn_r _ [71, 72, 60, 164, 165, 166, 167, 161, 162, 163] (by decide +kernel) (by decide +kernel)
set_option maxRecDepth 20000 in
theorem gX9_go_Jx35411_hasNext_aae02_f106Jx35411 : GoodIn wsX9_go (va_wsF RX9 106 RJx35411 ⟨"java/util/Iterator", "hasNext", "()Z"⟩ yJx35411_hasNext_aae02 wsJx35411_hasNext_aae02) := goodIn_app (goodIn_of _ (by decide +kernel)) ggX9_go_Jx35411_hasNext_aae02
set_option maxRecDepth 20000 in
theorem ggX9_go_Jx35411_next_0502b : GoodIn wsX9_go wsJx35411_next_0502b := goodIn_r _ [76, 72, 60, 77, 64, 78, 79, 80, 56, 81, 65, 66, 67, 164, 165, 166, 167, 161, 162, 163] (by decide +kernel) (by decide +kernel)
set_option maxRecDepth 20000 in
theorem gX9_go_Jx35411_next_0502b_f112Jx35411 : GoodIn wsX9_go (va_wsF RX9 112 RJx35411 ⟨"java/util/Iterator", "next", "()Ljava/lang/Object;"⟩ yJx35411_next_0502b wsJx35411_next_0502b) := goodIn_app (goodIn_of _ (by decide +kernel)) ggX9_go_Jx35411_next_0502b
set_option maxRecDepth 20000 in
theorem ggX9_go_X9_fill : GoodIn wsX9_go wsX9_fill := goodIn_r _ [86, 87, 88, 89, 13, 14, 90, 50, 51, 52, 19, 53, 54, 55, 56, 57, 58, 59, 60, 61, 62, 63, 64, 65, 66, 67, 68, 69, 70, 71, 72, 73, 74, 75, 76, 77, 78, 79, 80, 81, 91, 92, 93, 94, 21, 95, 96, 97, 98, 34, 99, 100, 101, 102, 103, 104, 105, 106, 107, 108, 109, 110, 111, 112, 113, 114, 115, 116, 117, 118, 119, 120, 121, 122, 123, 124, 125, 126, 127, 128, 129, 130, 131, 132, 82, 83, 84, 85, 156, 157, 158, 159, 160, 133, 134, 135, 136, 137, 138, 139, 140, 141, 164, 165, 166, 167, 161, 162, 163, 168, 169, 170, 171, 172] (by decide +kernel) (by decide +kernel)
set_option maxRecDepth 20000 in
theorem gX9_go_X9_fill : GoodIn wsX9_go (wsV RX9 137 RX9 yX9_fill wsX9_fill) := goodIn_app (goodIn_of _ (by decide +kernel)) ggX9_go_X9_fill
theorem dX9_go_0 : decode cX9_go 0 = .ok (.aload_n 0, 1) := by decide +kernel
theorem dX9_go_1 : decode cX9_go 1 = .ok (.getfield 10, 3) := by decide +kernel
theorem dX9_go_4 : decode cX9_go 4 = .ok (.iload_n 1, 1) := by decide +kernel
theorem dX9_go_5 : decode cX9_go 5 = .ok (.invokeinterface 59 2, 5) := by decide +kernel
theorem dX9_go_10 : decode cX9_go 10 = .ok (.checkcast 46, 3) := by decide +kernel
theorem dX9_go_13 : decode cX9_go 13 = .ok (.astore_n 2, 1) := by decide +kernel
theorem dX9_go_14 : decode cX9_go 14 = .ok (.aload_n 2, 1) := by decide +kernel
theorem dX9_go_15 : decode cX9_go 15 = .ok (.iconst 0, 1) := by decide +kernel
theorem dX9_go_16 : decode cX9_go 16 = .ok (.putfield 141, 3) := by decide +kernel
theorem dX9_go_19 : decode cX9_go 19 = .ok (.aload_n 2, 1) := by decide +kernel
theorem dX9_go_20 : decode cX9_go 20 = .ok (.getfield 63, 3) := by decide +kernel
theorem dX9_go_23 : decode cX9_go 23 = .ok (.ifCond .eq 19, 3) := by decide +kernel
theorem dX9_go_26 : decode cX9_go 26 = .ok (.aload_n 2, 1) := by decide +kernel
theorem dX9_go_27 : decode cX9_go 27 = .ok (.getfield 73, 3) := by decide +kernel
theorem dX9_go_30 : decode cX9_go 30 = .ok (.bipush 108, 2) := by decide +kernel
theorem dX9_go_32 : decode cX9_go 32 = .ok (.if_icmp .eq 10, 3) := by decide +kernel
theorem dX9_go_35 : decode cX9_go 35 = .ok (.aload_n 2, 1) := by decide +kernel
theorem dX9_go_36 : decode cX9_go 36 = .ok (.getfield 69, 3) := by decide +kernel
theorem dX9_go_39 : decode cX9_go 39 = .ok (.ifCond .eq 4, 3) := by decide +kernel
theorem dX9_go_42 : decode cX9_go 42 = .ok (.return_, 1) := by decide +kernel
theorem dX9_go_43 : decode cX9_go 43 = .ok (.aload_n 2, 1) := by decide +kernel
theorem dX9_go_44 : decode cX9_go 44 = .ok (.getfield 92, 3) := by decide +kernel
theorem dX9_go_47 : decode cX9_go 47 = .ok (.ifCond .le 53, 3) := by decide +kernel
theorem dX9_go_50 : decode cX9_go 50 = .ok (.aload_n 0, 1) := by decide +kernel
theorem dX9_go_51 : decode cX9_go 51 = .ok (.aload_n 0, 1) := by decide +kernel
theorem dX9_go_52 : decode cX9_go 52 = .ok (.getfield 22, 3) := by decide +kernel
theorem dX9_go_55 : decode cX9_go 55 = .ok (.i2l, 1) := by decide +kernel
theorem dX9_go_56 : decode cX9_go 56 = .ok (.ldc2_w 144, 3) := by decide +kernel
theorem dX9_go_59 : decode cX9_go 59 = .ok (.lmul, 1) := by decide +kernel
theorem dX9_go_60 : decode cX9_go 60 = .ok (.ldc2_w 146, 3) := by decide +kernel
theorem dX9_go_63 : decode cX9_go 63 = .ok (.lrem, 1) := by decide +kernel
theorem dX9_go_64 : decode cX9_go 64 = .ok (.l2i, 1) := by decide +kernel
theorem dX9_go_65 : decode cX9_go 65 = .ok (.putfield 22, 3) := by decide +kernel
theorem dX9_go_68 : decode cX9_go 68 = .ok (.aload_n 2, 1) := by decide +kernel
theorem dX9_go_69 : decode cX9_go 69 = .ok (.aload_n 0, 1) := by decide +kernel
theorem dX9_go_70 : decode cX9_go 70 = .ok (.getfield 22, 3) := by decide +kernel
theorem dX9_go_73 : decode cX9_go 73 = .ok (.sipush 1000, 3) := by decide +kernel
theorem dX9_go_76 : decode cX9_go 76 = .ok (.irem, 1) := by decide +kernel
theorem dX9_go_77 : decode cX9_go 77 = .ok (.aload_n 2, 1) := by decide +kernel
theorem dX9_go_78 : decode cX9_go 78 = .ok (.getfield 92, 3) := by decide +kernel
theorem dX9_go_81 : decode cX9_go 81 = .ok (.if_icmp .ge 7, 3) := by decide +kernel
theorem dX9_go_84 : decode cX9_go 84 = .ok (.iconst 1, 1) := by decide +kernel
theorem dX9_go_85 : decode cX9_go 85 = .ok (.goto 4, 3) := by decide +kernel
theorem dX9_go_88 : decode cX9_go 88 = .ok (.iconst 0, 1) := by decide +kernel
theorem dX9_go_89 : decode cX9_go 89 = .ok (.putfield 69, 3) := by decide +kernel
theorem dX9_go_92 : decode cX9_go 92 = .ok (.aload_n 2, 1) := by decide +kernel
theorem dX9_go_93 : decode cX9_go 93 = .ok (.getfield 69, 3) := by decide +kernel
theorem dX9_go_96 : decode cX9_go 96 = .ok (.ifCond .eq 4, 3) := by decide +kernel
theorem dX9_go_99 : decode cX9_go 99 = .ok (.return_, 1) := by decide +kernel
theorem dX9_go_100 : decode cX9_go 100 = .ok (.aload_n 2, 1) := by decide +kernel
theorem dX9_go_101 : decode cX9_go 101 = .ok (.aload_n 2, 1) := by decide +kernel
theorem dX9_go_102 : decode cX9_go 102 = .ok (.aload_n 2, 1) := by decide +kernel
theorem dX9_go_103 : decode cX9_go 103 = .ok (.getfield 63, 3) := by decide +kernel
theorem dX9_go_106 : decode cX9_go 106 = .ok (.invokevirtual 95, 3) := by decide +kernel
theorem dX9_go_109 : decode cX9_go 109 = .ok (.putfield 141, 3) := by decide +kernel
theorem dX9_go_112 : decode cX9_go 112 = .ok (.aload_n 2, 1) := by decide +kernel
theorem dX9_go_113 : decode cX9_go 113 = .ok (.dup, 1) := by decide +kernel
theorem dX9_go_114 : decode cX9_go 114 = .ok (.getfield 63, 3) := by decide +kernel
theorem dX9_go_117 : decode cX9_go 117 = .ok (.aload_n 2, 1) := by decide +kernel
theorem dX9_go_118 : decode cX9_go 118 = .ok (.getfield 141, 3) := by decide +kernel
theorem dX9_go_121 : decode cX9_go 121 = .ok (.isub, 1) := by decide +kernel
theorem dX9_go_122 : decode cX9_go 122 = .ok (.putfield 63, 3) := by decide +kernel
theorem dX9_go_125 : decode cX9_go 125 = .ok (.aload_n 2, 1) := by decide +kernel
theorem dX9_go_126 : decode cX9_go 126 = .ok (.getfield 99, 3) := by decide +kernel
theorem dX9_go_129 : decode cX9_go 129 = .ok (.ifCond .ge 19, 3) := by decide +kernel
theorem dX9_go_132 : decode cX9_go 132 = .ok (.aload_n 2, 1) := by decide +kernel
theorem dX9_go_133 : decode cX9_go 133 = .ok (.dup, 1) := by decide +kernel
theorem dX9_go_134 : decode cX9_go 134 = .ok (.getfield 66, 3) := by decide +kernel
theorem dX9_go_137 : decode cX9_go 137 = .ok (.aload_n 2, 1) := by decide +kernel
theorem dX9_go_138 : decode cX9_go 138 = .ok (.getfield 141, 3) := by decide +kernel
theorem dX9_go_141 : decode cX9_go 141 = .ok (.iadd, 1) := by decide +kernel
theorem dX9_go_142 : decode cX9_go 142 = .ok (.putfield 66, 3) := by decide +kernel
theorem dX9_go_145 : decode cX9_go 145 = .ok (.goto 31, 3) := by decide +kernel
theorem dX9_go_148 : decode cX9_go 148 = .ok (.aload_n 0, 1) := by decide +kernel
theorem dX9_go_149 : decode cX9_go 149 = .ok (.getfield 10, 3) := by decide +kernel
theorem dX9_go_152 : decode cX9_go 152 = .ok (.aload_n 2, 1) := by decide +kernel
theorem dX9_go_153 : decode cX9_go 153 = .ok (.getfield 99, 3) := by decide +kernel
theorem dX9_go_156 : decode cX9_go 156 = .ok (.invokeinterface 59 2, 5) := by decide +kernel
theorem dX9_go_161 : decode cX9_go 161 = .ok (.checkcast 46, 3) := by decide +kernel
theorem dX9_go_164 : decode cX9_go 164 = .ok (.dup, 1) := by decide +kernel
theorem dX9_go_165 : decode cX9_go 165 = .ok (.getfield 63, 3) := by decide +kernel
theorem dX9_go_168 : decode cX9_go 168 = .ok (.aload_n 2, 1) := by decide +kernel
theorem dX9_go_169 : decode cX9_go 169 = .ok (.getfield 141, 3) := by decide +kernel
theorem dX9_go_172 : decode cX9_go 172 = .ok (.iadd, 1) := by decide +kernel
theorem dX9_go_173 : decode cX9_go 173 = .ok (.putfield 63, 3) := by decide +kernel
theorem dX9_go_176 : decode cX9_go 176 = .ok (.aload_n 0, 1) := by decide +kernel
theorem dX9_go_177 : decode cX9_go 177 = .ok (.getfield 16, 3) := by decide +kernel
theorem dX9_go_180 : decode cX9_go 180 = .ok (.invokeinterface 102 1, 5) := by decide +kernel
theorem dX9_go_185 : decode cX9_go 185 = .ok (.astore_n 3, 1) := by decide +kernel
theorem dX9_go_186 : decode cX9_go 186 = .ok (.aload_n 3, 1) := by decide +kernel
theorem dX9_go_187 : decode cX9_go 187 = .ok (.invokeinterface 106 1, 5) := by decide +kernel
theorem dX9_go_192 : decode cX9_go 192 = .ok (.ifCond .eq 50, 3) := by decide +kernel
theorem dX9_go_195 : decode cX9_go 195 = .ok (.aload_n 3, 1) := by decide +kernel
theorem dX9_go_196 : decode cX9_go 196 = .ok (.invokeinterface 112 1, 5) := by decide +kernel
theorem dX9_go_201 : decode cX9_go 201 = .ok (.checkcast 120, 3) := by decide +kernel
theorem dX9_go_204 : decode cX9_go 204 = .ok (.astore 4, 2) := by decide +kernel
theorem dX9_go_206 : decode cX9_go 206 = .ok (.iconst 0, 1) := by decide +kernel
theorem dX9_go_207 : decode cX9_go 207 = .ok (.istore 5, 2) := by decide +kernel
theorem dX9_go_209 : decode cX9_go 209 = .ok (.aload 4, 2) := by decide +kernel
theorem dX9_go_211 : decode cX9_go 211 = .ok (.getfield 148, 3) := by decide +kernel
theorem dX9_go_214 : decode cX9_go 214 = .ok (.iload_n 1, 1) := by decide +kernel
theorem dX9_go_215 : decode cX9_go 215 = .ok (.if_icmp .ne 24, 3) := by decide +kernel
theorem dX9_go_218 : decode cX9_go 218 = .ok (.iload 5, 2) := by decide +kernel
theorem dX9_go_220 : decode cX9_go 220 = .ok (.aload_n 2, 1) := by decide +kernel
theorem dX9_go_221 : decode cX9_go 221 = .ok (.getfield 141, 3) := by decide +kernel
theorem dX9_go_224 : decode cX9_go 224 = .ok (.if_icmp .ge 15, 3) := by decide +kernel
theorem dX9_go_227 : decode cX9_go 227 = .ok (.aload_n 0, 1) := by decide +kernel
theorem dX9_go_228 : decode cX9_go 228 = .ok (.aload 4, 2) := by decide +kernel
theorem dX9_go_230 : decode cX9_go 230 = .ok (.invokevirtual 137, 3) := by decide +kernel
theorem dX9_go_233 : decode cX9_go 233 = .ok (.iinc 5 1, 3) := by decide +kernel
theorem dX9_go_236 : decode cX9_go 236 = .ok (.goto (-27), 3) := by decide +kernel
theorem dX9_go_239 : decode cX9_go 239 = .ok (.goto (-53), 3) := by decide +kernel
theorem dX9_go_242 : decode cX9_go 242 = .ok (.return_, 1) := by decide +kernel
set_option maxRecDepth 20000 in
theorem ggX9_pass_X9_isIn : GoodIn wsX9_pass wsX9_isIn := goodIn_r _ [12] (by decide +kernel) (by decide +kernel)
set_option maxRecDepth 20000 in
theorem gX9_pass_X9_isIn : GoodIn wsX9_pass (va_wsS RX9 38 yX9_isIn wsX9_isIn) := goodIn_app (goodIn_of _ (by decide +kernel)) ggX9_pass_X9_isIn
set_option maxRecDepth 20000 in
theorem ggX9_pass_X9_no : GoodIn wsX9_pass wsX9_no := goodIn_r _ [16, 17, 229, 230, 231, 232, 233, 234, 235, 236, 237] (by decide +kernel) (by decide +kernel)
set_option maxRecDepth 20000 in
theorem gX9_pass_X9_no : GoodIn wsX9_pass (wsV RX9 42 RX9 yX9_no wsX9_no) := goodIn_app (goodIn_of _ (by decide +kernel)) ggX9_pass_X9_no
set_option maxRecDepth 20000 in
theorem ggX9_pass_Jx4a65c_size_8abf5 : GoodIn wsX9_pass wsJx4a65c_size_8abf5 := goodIn_r _ [22, 23, 252, 253, 254] (by decide +kernel) (by decide +kernel)
set_option maxRecDepth 20000 in
theorem gX9_pass_Jx4a65c_size_8abf5_f32Jx4a65c : GoodIn wsX9_pass (va_wsF RX9 32 RJx4a65c ⟨"java/util/List", "size", "()I"⟩ yJx4a65c_size_8abf5 wsJx4a65c_size_8abf5) := goodIn_app (goodIn_of _ (by decide +kernel)) ggX9_pass_Jx4a65c_size_8abf5
set_option maxRecDepth 20000 in
theorem ggX9_pass_X9_go : GoodIn wsX9_pass wsX9_go := goodIn_r _ [27, 2, 3, 4, 5, 28, 29, 30, 31, 32, 33, 34, 35, 36, 37, 38, 39, 40, 41, 21, 42, 23, 43, 44, 45, 46, 47, 48, 49, 50, 51, 52, 53, 54, 55, 56, 57, 58, 59, 60, 61, 62, 63, 64, 65, 66, 67, 68, 69, 70, 71, 72, 73, 74, 75, 76, 77, 78, 79, 80, 81, 82, 83, 84, 85, 86, 87, 88, 89, 90, 91, 92, 93, 94, 95, 96, 97, 98, 99, 100, 101, 102, 103, 104, 105, 11, 106, 107, 108, 109, 110, 111, 112, 113, 114, 115, 116, 117, 118, 119, 120, 121, 122, 123, 124, 125, 126, 127, 128, 129, 130, 131, 132, 133, 134, 135, 136, 137, 138, 139, 140, 141, 142, 143, 144, 145, 146, 147, 148, 149, 150, 151, 152, 229, 230, 231, 232, 233, 234, 235, 236, 237, 238, 239, 240, 241, 242, 243, 244, 245, 246, 247, 248, 249, 250, 251, 255, 256, 257, 258, 259, 252, 253, 254, 260, 261, 262, 263, 264, 265, 266, 267, 268] (by decide +kernel) (by decide +kernel)
set_option maxRecDepth 20000 in
theorem gX9_pass_X9_go : GoodIn wsX9_pass (wsV RX9 151 RX9 yX9_go wsX9_go) := goodIn_app (goodIn_of _ (by decide +kernel)) ggX9_pass_X9_go
set_option maxRecDepth 20000 in
theorem ggX9_pass_Jx4a65c_iterator_32c93 : GoodIn wsX9_pass wsJx4a65c_iterator_32c93 := goodIn_r _ [74, 75, 76, 77, 78, 79, 80, 81, 82, 83, 84, 85, 86, 87, 88, 260, 261, 262, 263, 252, 253, 254] (by decide +kernel) (by decide +kernel)
set_option maxRecDepth 20000 in
theorem gX9_pass_Jx4a65c_iterator_32c93_f102Jx4a65c : GoodIn wsX9_pass (va_wsF RX9 102 RJx4a65c ⟨"java/util/List", "iterator", "()Ljava/util/Iterator;"⟩ yJx4a65c_iterator_32c93 wsJx4a65c_iterator_32c93) := goodIn_app (goodIn_of _ (by decide +kernel)) ggX9_pass_Jx4a65c_iterator_32c93
set_option maxRecDepth 20000 in
theorem ggX9_pass_Jx35411_hasNext_aae02 : GoodIn wsX9_pass wsJx35411_hasNext_aae02 := goodIn_r _ [92, 93, 81, 260, 261, 262, 263, 252, 253, 254] (by decide +kernel) (by decide +kernel)
set_option maxRecDepth 20000 in
theorem gX9_pass_Jx35411_hasNext_aae02_f106Jx35411 : GoodIn wsX9_pass (va_wsF RX9 106 RJx35411 ⟨"java/util/Iterator", "hasNext", "()Z"⟩ yJx35411_hasNext_aae02 wsJx35411_hasNext_aae02) := goodIn_app (goodIn_of _ (by decide +kernel)) ggX9_pass_Jx35411_hasNext_aae02
set_option maxRecDepth 20000 in
theorem ggX9_pass_Jx35411_next_0502b : GoodIn wsX9_pass wsJx35411_next_0502b := goodIn_r _ [97, 93, 81, 98, 85, 99, 100, 101, 77, 102, 86, 87, 88, 260, 261, 262, 263, 252, 253, 254] (by decide +kernel) (by decide +kernel)
set_option maxRecDepth 20000 in
theorem gX9_pass_Jx35411_next_0502b_f112Jx35411 : GoodIn wsX9_pass (va_wsF RX9 112 RJx35411 ⟨"java/util/Iterator", "next", "()Ljava/lang/Object;"⟩ yJx35411_next_0502b wsJx35411_next_0502b) := goodIn_app (goodIn_of _ (by decide +kernel)) ggX9_pass_Jx35411_next_0502b
set_option maxRecDepth 20000 in
theorem ggX9_pass_J6_valueOf_2dffe : GoodIn wsX9_pass wsJ6_valueOf_2dffe := goodIn_r _ [155, 156, 157, 158, 159, 133, 160, 161, 162, 136, 163, 164, 165, 166, 167, 83, 84, 264] (by decide +kernel) (by decide +kernel)
set_option maxRecDepth 20000 in
theorem gX9_pass_J6_valueOf_2dffe : GoodIn wsX9_pass (va_wsS RX9 158 yJ6_valueOf_2dffe wsJ6_valueOf_2dffe) := goodIn_app (goodIn_of _ (by decide +kernel)) ggX9_pass_J6_valueOf_2dffe
set_option maxRecDepth 20000 in
theorem ggX9_pass_Jx4a65c_add_9ea2d : GoodIn wsX9_pass wsJx4a65c_add_9ea2d := goodIn_r _ [171, 172, 87, 55, 23, 173, 174, 175, 21, 176, 177, 178, 179, 180, 181, 182, 183, 184, 185, 186, 187, 69, 188, 189, 190, 191, 192, 193, 194, 195, 196, 197, 198, 199, 200, 201, 202, 203, 204, 205, 206, 207, 208, 209, 210, 211, 212, 213, 214, 215, 68, 70, 216, 217, 218, 219, 252, 253, 254, 269, 270, 271, 272] (by decide +kernel) (by decide +kernel)
set_option maxRecDepth 20000 in
theorem gX9_pass_Jx4a65c_add_9ea2d_f51Jx4a65c : GoodIn wsX9_pass (va_wsF RX9 51 RJx4a65c ⟨"java/util/List", "add", "(Ljava/lang/Object;)Z"⟩ yJx4a65c_add_9ea2d wsJx4a65c_add_9ea2d) := goodIn_app (goodIn_of _ (by decide +kernel)) ggX9_pass_Jx4a65c_add_9ea2d
set_option maxRecDepth 20000 in
theorem ggX9_pass_Jx4a65c_remove_915e3 : GoodIn wsX9_pass wsJx4a65c_remove_915e3 := goodIn_r _ [223, 23, 55, 43, 44, 45, 46, 47, 48, 49, 50, 224, 225, 226, 21, 227, 172, 87, 228, 217, 218, 219, 252, 253, 254] (by decide +kernel) (by decide +kernel)
set_option maxRecDepth 20000 in
theorem gX9_pass_Jx4a65c_remove_915e3_f164Jx4a65c : GoodIn wsX9_pass (va_wsF RX9 164 RJx4a65c ⟨"java/util/List", "remove", "(I)Ljava/lang/Object;"⟩ yJx4a65c_remove_915e3 wsJx4a65c_remove_915e3) := goodIn_app (goodIn_of _ (by decide +kernel)) ggX9_pass_Jx4a65c_remove_915e3
theorem dX9_pass_0 : decode cX9_pass 0 = .ok (.aload_n 0, 1) := by decide +kernel
theorem dX9_pass_1 : decode cX9_pass 1 = .ok (.iload_n 1, 1) := by decide +kernel
theorem dX9_pass_2 : decode cX9_pass 2 = .ok (.iconst 1, 1) := by decide +kernel
theorem dX9_pass_3 : decode cX9_pass 3 = .ok (.sipush 600, 3) := by decide +kernel
theorem dX9_pass_6 : decode cX9_pass 6 = .ok (.invokestatic 38, 3) := by decide +kernel
theorem dX9_pass_9 : decode cX9_pass 9 = .ok (.iconst 1, 1) := by decide +kernel
theorem dX9_pass_10 : decode cX9_pass 10 = .ok (.invokevirtual 42, 3) := by decide +kernel
theorem dX9_pass_13 : decode cX9_pass 13 = .ok (.ifCond .ne 28, 3) := by decide +kernel
theorem dX9_pass_16 : decode cX9_pass 16 = .ok (.aload_n 0, 1) := by decide +kernel
theorem dX9_pass_17 : decode cX9_pass 17 = .ok (.aload_n 0, 1) := by decide +kernel
theorem dX9_pass_18 : decode cX9_pass 18 = .ok (.getfield 83, 3) := by decide +kernel
theorem dX9_pass_21 : decode cX9_pass 21 = .ok (.iload_n 1, 1) := by decide +kernel
theorem dX9_pass_22 : decode cX9_pass 22 = .ok (.iadd, 1) := by decide +kernel
theorem dX9_pass_23 : decode cX9_pass 23 = .ok (.sipush 19999, 3) := by decide +kernel
theorem dX9_pass_26 : decode cX9_pass 26 = .ok (.if_icmp .gt 7, 3) := by decide +kernel
theorem dX9_pass_29 : decode cX9_pass 29 = .ok (.iconst 1, 1) := by decide +kernel
theorem dX9_pass_30 : decode cX9_pass 30 = .ok (.goto 4, 3) := by decide +kernel
theorem dX9_pass_33 : decode cX9_pass 33 = .ok (.iconst 0, 1) := by decide +kernel
theorem dX9_pass_34 : decode cX9_pass 34 = .ok (.iconst 2, 1) := by decide +kernel
theorem dX9_pass_35 : decode cX9_pass 35 = .ok (.invokevirtual 42, 3) := by decide +kernel
theorem dX9_pass_38 : decode cX9_pass 38 = .ok (.ifCond .eq 5, 3) := by decide +kernel
theorem dX9_pass_41 : decode cX9_pass 41 = .ok (.iconst 0, 1) := by decide +kernel
theorem dX9_pass_42 : decode cX9_pass 42 = .ok (.ireturn, 1) := by decide +kernel
theorem dX9_pass_43 : decode cX9_pass 43 = .ok (.iconst 0, 1) := by decide +kernel
theorem dX9_pass_44 : decode cX9_pass 44 = .ok (.istore_n 2, 1) := by decide +kernel
theorem dX9_pass_45 : decode cX9_pass 45 = .ok (.iload_n 2, 1) := by decide +kernel
theorem dX9_pass_46 : decode cX9_pass 46 = .ok (.iload_n 1, 1) := by decide +kernel
theorem dX9_pass_47 : decode cX9_pass 47 = .ok (.if_icmp .ge 156, 3) := by decide +kernel
theorem dX9_pass_50 : decode cX9_pass 50 = .ok (.iconst 0, 1) := by decide +kernel
theorem dX9_pass_51 : decode cX9_pass 51 = .ok (.istore_n 3, 1) := by decide +kernel
theorem dX9_pass_52 : decode cX9_pass 52 = .ok (.iload_n 3, 1) := by decide +kernel
theorem dX9_pass_53 : decode cX9_pass 53 = .ok (.aload_n 0, 1) := by decide +kernel
theorem dX9_pass_54 : decode cX9_pass 54 = .ok (.getfield 10, 3) := by decide +kernel
theorem dX9_pass_57 : decode cX9_pass 57 = .ok (.invokeinterface 32 1, 5) := by decide +kernel
theorem dX9_pass_62 : decode cX9_pass 62 = .ok (.if_icmp .ge 14, 3) := by decide +kernel
theorem dX9_pass_65 : decode cX9_pass 65 = .ok (.aload_n 0, 1) := by decide +kernel
theorem dX9_pass_66 : decode cX9_pass 66 = .ok (.iload_n 3, 1) := by decide +kernel
theorem dX9_pass_67 : decode cX9_pass 67 = .ok (.invokevirtual 151, 3) := by decide +kernel
theorem dX9_pass_70 : decode cX9_pass 70 = .ok (.iinc 3 1, 3) := by decide +kernel
theorem dX9_pass_73 : decode cX9_pass 73 = .ok (.goto (-21), 3) := by decide +kernel
theorem dX9_pass_76 : decode cX9_pass 76 = .ok (.aload_n 0, 1) := by decide +kernel
theorem dX9_pass_77 : decode cX9_pass 77 = .ok (.dup, 1) := by decide +kernel
theorem dX9_pass_78 : decode cX9_pass 78 = .ok (.getfield 83, 3) := by decide +kernel
theorem dX9_pass_81 : decode cX9_pass 81 = .ok (.iconst 1, 1) := by decide +kernel
theorem dX9_pass_82 : decode cX9_pass 82 = .ok (.iadd, 1) := by decide +kernel
theorem dX9_pass_83 : decode cX9_pass 83 = .ok (.putfield 83, 3) := by decide +kernel
theorem dX9_pass_86 : decode cX9_pass 86 = .ok (.aload_n 0, 1) := by decide +kernel
theorem dX9_pass_87 : decode cX9_pass 87 = .ok (.getfield 10, 3) := by decide +kernel
theorem dX9_pass_90 : decode cX9_pass 90 = .ok (.invokeinterface 102 1, 5) := by decide +kernel
theorem dX9_pass_95 : decode cX9_pass 95 = .ok (.astore_n 3, 1) := by decide +kernel
theorem dX9_pass_96 : decode cX9_pass 96 = .ok (.aload_n 3, 1) := by decide +kernel
theorem dX9_pass_97 : decode cX9_pass 97 = .ok (.invokeinterface 106 1, 5) := by decide +kernel
theorem dX9_pass_102 : decode cX9_pass 102 = .ok (.ifCond .eq 95, 3) := by decide +kernel
theorem dX9_pass_105 : decode cX9_pass 105 = .ok (.aload_n 3, 1) := by decide +kernel
theorem dX9_pass_106 : decode cX9_pass 106 = .ok (.invokeinterface 112 1, 5) := by decide +kernel
theorem dX9_pass_111 : decode cX9_pass 111 = .ok (.checkcast 46, 3) := by decide +kernel
theorem dX9_pass_114 : decode cX9_pass 114 = .ok (.astore 4, 2) := by decide +kernel
theorem dX9_pass_116 : decode cX9_pass 116 = .ok (.aload 4, 2) := by decide +kernel
theorem dX9_pass_118 : decode cX9_pass 118 = .ok (.getfield 141, 3) := by decide +kernel
theorem dX9_pass_121 : decode cX9_pass 121 = .ok (.ifCond .eq (-25), 3) := by decide +kernel
theorem dX9_pass_124 : decode cX9_pass 124 = .ok (.aload 4, 2) := by decide +kernel
theorem dX9_pass_126 : decode cX9_pass 126 = .ok (.getfield 63, 3) := by decide +kernel
theorem dX9_pass_129 : decode cX9_pass 129 = .ok (.ifCond .gt (-33), 3) := by decide +kernel
theorem dX9_pass_132 : decode cX9_pass 132 = .ok (.aload 4, 2) := by decide +kernel
theorem dX9_pass_134 : decode cX9_pass 134 = .ok (.getfield 80, 3) := by decide +kernel
theorem dX9_pass_137 : decode cX9_pass 137 = .ok (.ifCond .ne 6, 3) := by decide +kernel
theorem dX9_pass_140 : decode cX9_pass 140 = .ok (.goto (-44), 3) := by decide +kernel
theorem dX9_pass_143 : decode cX9_pass 143 = .ok (.aload 4, 2) := by decide +kernel
theorem dX9_pass_145 : decode cX9_pass 145 = .ok (.getfield 155, 3) := by decide +kernel
theorem dX9_pass_148 : decode cX9_pass 148 = .ok (.aload_n 0, 1) := by decide +kernel
theorem dX9_pass_149 : decode cX9_pass 149 = .ok (.getfield 83, 3) := by decide +kernel
theorem dX9_pass_152 : decode cX9_pass 152 = .ok (.aload 4, 2) := by decide +kernel
theorem dX9_pass_154 : decode cX9_pass 154 = .ok (.getfield 86, 3) := by decide +kernel
theorem dX9_pass_157 : decode cX9_pass 157 = .ok (.isub, 1) := by decide +kernel
theorem dX9_pass_158 : decode cX9_pass 158 = .ok (.invokestatic 158, 3) := by decide +kernel
theorem dX9_pass_161 : decode cX9_pass 161 = .ok (.invokeinterface 51 2, 5) := by decide +kernel
theorem dX9_pass_166 : decode cX9_pass 166 = .ok (.pop, 1) := by decide +kernel
theorem dX9_pass_167 : decode cX9_pass 167 = .ok (.aload 4, 2) := by decide +kernel
theorem dX9_pass_169 : decode cX9_pass 169 = .ok (.getfield 155, 3) := by decide +kernel
theorem dX9_pass_172 : decode cX9_pass 172 = .ok (.invokeinterface 32 1, 5) := by decide +kernel
theorem dX9_pass_177 : decode cX9_pass 177 = .ok (.bipush 10, 2) := by decide +kernel
theorem dX9_pass_179 : decode cX9_pass 179 = .ok (.if_icmp .le 15, 3) := by decide +kernel
theorem dX9_pass_182 : decode cX9_pass 182 = .ok (.aload 4, 2) := by decide +kernel
theorem dX9_pass_184 : decode cX9_pass 184 = .ok (.getfield 155, 3) := by decide +kernel
theorem dX9_pass_187 : decode cX9_pass 187 = .ok (.iconst 0, 1) := by decide +kernel
theorem dX9_pass_188 : decode cX9_pass 188 = .ok (.invokeinterface 164 2, 5) := by decide +kernel
theorem dX9_pass_193 : decode cX9_pass 193 = .ok (.pop, 1) := by decide +kernel
theorem dX9_pass_194 : decode cX9_pass 194 = .ok (.goto (-98), 3) := by decide +kernel
theorem dX9_pass_197 : decode cX9_pass 197 = .ok (.iinc 2 1, 3) := by decide +kernel
theorem dX9_pass_200 : decode cX9_pass 200 = .ok (.goto (-155), 3) := by decide +kernel
theorem dX9_pass_203 : decode cX9_pass 203 = .ok (.aload_n 0, 1) := by decide +kernel
theorem dX9_pass_204 : decode cX9_pass 204 = .ok (.getfield 83, 3) := by decide +kernel
theorem dX9_pass_207 : decode cX9_pass 207 = .ok (.ireturn, 1) := by decide +kernel
theorem dX9_time_0 : decode cX9_time 0 = .ok (.aload_n 0, 1) := by decide +kernel
theorem dX9_time_1 : decode cX9_time 1 = .ok (.getfield 83, 3) := by decide +kernel
theorem dX9_time_4 : decode cX9_time 4 = .ok (.ireturn, 1) := by decide +kernel
set_option maxRecDepth 20000 in
theorem ggX9_seed_X9_isIn : GoodIn wsX9_seed wsX9_isIn := goodIn_r _ [6] (by decide +kernel) (by decide +kernel)
set_option maxRecDepth 20000 in
theorem gX9_seed_X9_isIn : GoodIn wsX9_seed (va_wsS RX9 38 yX9_isIn wsX9_isIn) := goodIn_app (goodIn_of _ (by decide +kernel)) ggX9_seed_X9_isIn
set_option maxRecDepth 20000 in
theorem ggX9_seed_X9_no : GoodIn wsX9_seed wsX9_no := goodIn_r _ [10, 11, 12, 13, 14, 15, 16, 17, 18, 19, 20] (by decide +kernel) (by decide +kernel)
set_option maxRecDepth 20000 in
theorem gX9_seed_X9_no : GoodIn wsX9_seed (wsV RX9 42 RX9 yX9_no wsX9_no) := goodIn_app (goodIn_of _ (by decide +kernel)) ggX9_seed_X9_no
theorem dX9_seed_0 : decode cX9_seed 0 = .ok (.aload_n 0, 1) := by decide +kernel
theorem dX9_seed_1 : decode cX9_seed 1 = .ok (.iload_n 1, 1) := by decide +kernel
theorem dX9_seed_2 : decode cX9_seed 2 = .ok (.iconst 1, 1) := by decide +kernel
theorem dX9_seed_3 : decode cX9_seed 3 = .ok (.ldc 167, 2) := by decide +kernel
theorem dX9_seed_5 : decode cX9_seed 5 = .ok (.invokestatic 38, 3) := by decide +kernel
theorem dX9_seed_8 : decode cX9_seed 8 = .ok (.iconst 1, 1) := by decide +kernel
theorem dX9_seed_9 : decode cX9_seed 9 = .ok (.invokevirtual 42, 3) := by decide +kernel
theorem dX9_seed_12 : decode cX9_seed 12 = .ok (.ifCond .eq 5, 3) := by decide +kernel
theorem dX9_seed_15 : decode cX9_seed 15 = .ok (.iconst 0, 1) := by decide +kernel
theorem dX9_seed_16 : decode cX9_seed 16 = .ok (.ireturn, 1) := by decide +kernel
theorem dX9_seed_17 : decode cX9_seed 17 = .ok (.aload_n 0, 1) := by decide +kernel
theorem dX9_seed_18 : decode cX9_seed 18 = .ok (.getfield 22, 3) := by decide +kernel
theorem dX9_seed_21 : decode cX9_seed 21 = .ok (.istore_n 2, 1) := by decide +kernel
theorem dX9_seed_22 : decode cX9_seed 22 = .ok (.aload_n 0, 1) := by decide +kernel
theorem dX9_seed_23 : decode cX9_seed 23 = .ok (.iload_n 1, 1) := by decide +kernel
theorem dX9_seed_24 : decode cX9_seed 24 = .ok (.putfield 22, 3) := by decide +kernel
theorem dX9_seed_27 : decode cX9_seed 27 = .ok (.iload_n 2, 1) := by decide +kernel
theorem dX9_seed_28 : decode cX9_seed 28 = .ok (.ireturn, 1) := by decide +kernel
set_option maxRecDepth 20000 in
theorem ggX9_add_Jx4a65c_add_9ea2d : GoodIn wsX9_add wsJx4a65c_add_9ea2d := goodIn_r _ [6, 7, 8, 9, 10, 11, 12, 13, 5, 14, 15, 16, 17, 18, 19, 20, 21, 22, 23, 24, 25, 26, 27, 28, 29, 30, 31, 32, 33, 34, 35, 36, 37, 38, 39, 40, 41, 42, 43, 44, 45, 46, 47, 48, 49, 50, 51, 52, 53, 54, 55, 56, 57, 58, 59, 60, 74, 75, 76, 77, 78, 79, 80] (by decide +kernel) (by decide +kernel)
set_option maxRecDepth 20000 in
theorem gX9_add_Jx4a65c_add_9ea2d_f51Jx4a65c : GoodIn wsX9_add (va_wsF RX9 51 RJx4a65c ⟨"java/util/List", "add", "(Ljava/lang/Object;)Z"⟩ yJx4a65c_add_9ea2d wsJx4a65c_add_9ea2d) := goodIn_app (goodIn_of _ (by decide +kernel)) ggX9_add_Jx4a65c_add_9ea2d
set_option maxRecDepth 20000 in
theorem ggX9_add_Jx4a65c_size_8abf5 : GoodIn wsX9_add wsJx4a65c_size_8abf5 := goodIn_r _ [64, 10, 74, 75, 76] (by decide +kernel) (by decide +kernel)
set_option maxRecDepth 20000 in
theorem gX9_add_Jx4a65c_size_8abf5_f32Jx4a65c : GoodIn wsX9_add (va_wsF RX9 32 RJx4a65c ⟨"java/util/List", "size", "()I"⟩ yJx4a65c_size_8abf5 wsJx4a65c_size_8abf5) := goodIn_app (goodIn_of _ (by decide +kernel)) ggX9_add_Jx4a65c_size_8abf5
theorem dX9_add_0 : decode cX9_add 0 = .ok (.aload_n 0, 1) := by decide +kernel
theorem dX9_add_1 : decode cX9_add 1 = .ok (.getfield 16, 3) := by decide +kernel
theorem dX9_add_4 : decode cX9_add 4 = .ok (.aload_n 1, 1) := by decide +kernel
theorem dX9_add_5 : decode cX9_add 5 = .ok (.invokeinterface 51 2, 5) := by decide +kernel
theorem dX9_add_10 : decode cX9_add 10 = .ok (.pop, 1) := by decide +kernel
theorem dX9_add_11 : decode cX9_add 11 = .ok (.aload_n 0, 1) := by decide +kernel
theorem dX9_add_12 : decode cX9_add 12 = .ok (.getfield 16, 3) := by decide +kernel
theorem dX9_add_15 : decode cX9_add 15 = .ok (.invokeinterface 32 1, 5) := by decide +kernel
theorem dX9_add_20 : decode cX9_add 20 = .ok (.iconst 1, 1) := by decide +kernel
theorem dX9_add_21 : decode cX9_add 21 = .ok (.isub, 1) := by decide +kernel
theorem dX9_add_22 : decode cX9_add 22 = .ok (.ireturn, 1) := by decide +kernel
set_option maxRecDepth 20000 in
theorem ggX9_gateAt_X9_isGlass : GoodIn wsX9_gateAt wsX9_isGlass := goodIn_r _ [9, 10, 11, 12, 13, 14, 15, 16, 17, 18, 8, 19, 95, 96, 97, 98, 99, 100, 101, 102, 103, 109, 110, 111] (by decide +kernel) (by decide +kernel)
set_option maxRecDepth 20000 in
theorem gX9_gateAt_X9_isGlass : GoodIn wsX9_gateAt (wsV RX9 55 RX9 yX9_isGlass wsX9_isGlass) := goodIn_app (goodIn_of _ (by decide +kernel)) ggX9_gateAt_X9_isGlass
set_option maxRecDepth 20000 in
theorem ggX9_gateAt_X9_no : GoodIn wsX9_gateAt wsX9_no := goodIn_r _ [23, 24, 95, 96, 97, 98, 99, 100, 101, 102, 103] (by decide +kernel) (by decide +kernel)
set_option maxRecDepth 20000 in
theorem gX9_gateAt_X9_no : GoodIn wsX9_gateAt (wsV RX9 42 RX9 yX9_no wsX9_no) := goodIn_app (goodIn_of _ (by decide +kernel)) ggX9_gateAt_X9_no
set_option maxRecDepth 20000 in
theorem ggX9_gateAt_X9_isIn : GoodIn wsX9_gateAt wsX9_isIn := goodIn_r _ [19] (by decide +kernel) (by decide +kernel)
set_option maxRecDepth 20000 in
theorem gX9_gateAt_X9_isIn : GoodIn wsX9_gateAt (va_wsS RX9 38 yX9_isIn wsX9_isIn) := goodIn_app (goodIn_of _ (by decide +kernel)) ggX9_gateAt_X9_isIn
set_option maxRecDepth 20000 in
theorem ggX9_gateAt_Jx4a65c_size_8abf5 : GoodIn wsX9_gateAt wsJx4a65c_size_8abf5 := goodIn_r _ [15, 16, 109, 110, 111] (by decide +kernel) (by decide +kernel)
set_option maxRecDepth 20000 in
theorem gX9_gateAt_Jx4a65c_size_8abf5_f32Jx4a65c : GoodIn wsX9_gateAt (va_wsF RX9 32 RJx4a65c ⟨"java/util/List", "size", "()I"⟩ yJx4a65c_size_8abf5 wsJx4a65c_size_8abf5) := goodIn_app (goodIn_of _ (by decide +kernel)) ggX9_gateAt_Jx4a65c_size_8abf5
set_option maxRecDepth 20000 in
theorem ggX9_gateAt_X7_init : GoodIn wsX9_gateAt wsX7_init := goodIn_r _ [27, 28, 29, 30, 31, 32, 33, 104, 105, 106, 107, 108] (by decide +kernel) (by decide +kernel)
set_option maxRecDepth 20000 in
theorem gX9_gateAt_X7_init : GoodIn wsX9_gateAt (wsX7_init) := ggX9_gateAt_X7_init
set_option maxRecDepth 20000 in
theorem ggX9_gateAt_X9_add : GoodIn wsX9_gateAt wsX9_add := goodIn_r _ [37, 1, 38, 39, 40, 14, 41, 42, 43, 44, 16, 45, 46, 47, 48, 49, 50, 51, 52, 53, 54, 55, 56, 57, 58, 59, 60, 61, 62, 63, 64, 65, 66, 67, 68, 69, 70, 71, 72, 73, 74, 75, 76, 77, 78, 79, 80, 81, 82, 83, 84, 85, 86, 87, 88, 89, 90, 91, 92, 93, 94, 11, 12, 13, 15, 95, 96, 97, 98, 99, 100, 101, 102, 103, 109, 110, 111, 112, 113, 114, 115] (by decide +kernel) (by decide +kernel)
set_option maxRecDepth 20000 in
theorem gX9_gateAt_X9_add : GoodIn wsX9_gateAt (wsV RX9 171 RX9 yX9_add wsX9_add) := goodIn_app (goodIn_of _ (by decide +kernel)) ggX9_gateAt_X9_add
theorem dX9_gateAt_0 : decode cX9_gateAt 0 = .ok (.aload_n 0, 1) := by decide +kernel
theorem dX9_gateAt_1 : decode cX9_gateAt 1 = .ok (.aload_n 0, 1) := by decide +kernel
theorem dX9_gateAt_2 : decode cX9_gateAt 2 = .ok (.iload_n 1, 1) := by decide +kernel
theorem dX9_gateAt_3 : decode cX9_gateAt 3 = .ok (.invokevirtual 55, 3) := by decide +kernel
theorem dX9_gateAt_6 : decode cX9_gateAt 6 = .ok (.iconst 1, 1) := by decide +kernel
theorem dX9_gateAt_7 : decode cX9_gateAt 7 = .ok (.invokevirtual 42, 3) := by decide +kernel
theorem dX9_gateAt_10 : decode cX9_gateAt 10 = .ok (.ifCond .ne 45, 3) := by decide +kernel
theorem dX9_gateAt_13 : decode cX9_gateAt 13 = .ok (.aload_n 0, 1) := by decide +kernel
theorem dX9_gateAt_14 : decode cX9_gateAt 14 = .ok (.iload_n 2, 1) := by decide +kernel
theorem dX9_gateAt_15 : decode cX9_gateAt 15 = .ok (.iconst 1, 1) := by decide +kernel
theorem dX9_gateAt_16 : decode cX9_gateAt 16 = .ok (.bipush 100, 2) := by decide +kernel
theorem dX9_gateAt_18 : decode cX9_gateAt 18 = .ok (.invokestatic 38, 3) := by decide +kernel
theorem dX9_gateAt_21 : decode cX9_gateAt 21 = .ok (.iconst 2, 1) := by decide +kernel
theorem dX9_gateAt_22 : decode cX9_gateAt 22 = .ok (.invokevirtual 42, 3) := by decide +kernel
theorem dX9_gateAt_25 : decode cX9_gateAt 25 = .ok (.ifCond .ne 30, 3) := by decide +kernel
theorem dX9_gateAt_28 : decode cX9_gateAt 28 = .ok (.aload_n 0, 1) := by decide +kernel
theorem dX9_gateAt_29 : decode cX9_gateAt 29 = .ok (.aload_n 0, 1) := by decide +kernel
theorem dX9_gateAt_30 : decode cX9_gateAt 30 = .ok (.getfield 16, 3) := by decide +kernel
theorem dX9_gateAt_33 : decode cX9_gateAt 33 = .ok (.invokeinterface 32 1, 5) := by decide +kernel
theorem dX9_gateAt_38 : decode cX9_gateAt 38 = .ok (.bipush 6, 2) := by decide +kernel
theorem dX9_gateAt_40 : decode cX9_gateAt 40 = .ok (.if_icmp .ge 7, 3) := by decide +kernel
theorem dX9_gateAt_43 : decode cX9_gateAt 43 = .ok (.iconst 1, 1) := by decide +kernel
theorem dX9_gateAt_44 : decode cX9_gateAt 44 = .ok (.goto 4, 3) := by decide +kernel
theorem dX9_gateAt_47 : decode cX9_gateAt 47 = .ok (.iconst 0, 1) := by decide +kernel
theorem dX9_gateAt_48 : decode cX9_gateAt 48 = .ok (.iconst 3, 1) := by decide +kernel
theorem dX9_gateAt_49 : decode cX9_gateAt 49 = .ok (.invokevirtual 42, 3) := by decide +kernel
theorem dX9_gateAt_52 : decode cX9_gateAt 52 = .ok (.ifCond .eq 5, 3) := by decide +kernel
theorem dX9_gateAt_55 : decode cX9_gateAt 55 = .ok (.iconst 0, 1) := by decide +kernel
theorem dX9_gateAt_56 : decode cX9_gateAt 56 = .ok (.ireturn, 1) := by decide +kernel
theorem dX9_gateAt_57 : decode cX9_gateAt 57 = .ok (.aload_n 0, 1) := by decide +kernel
theorem dX9_gateAt_58 : decode cX9_gateAt 58 = .ok (.new 120, 3) := by decide +kernel
theorem dX9_gateAt_61 : decode cX9_gateAt 61 = .ok (.dup, 1) := by decide +kernel
theorem dX9_gateAt_62 : decode cX9_gateAt 62 = .ok (.iload_n 1, 1) := by decide +kernel
theorem dX9_gateAt_63 : decode cX9_gateAt 63 = .ok (.iconst (-1), 1) := by decide +kernel
theorem dX9_gateAt_64 : decode cX9_gateAt 64 = .ok (.iload_n 2, 1) := by decide +kernel
theorem dX9_gateAt_65 : decode cX9_gateAt 65 = .ok (.invokespecial 168, 3) := by decide +kernel
theorem dX9_gateAt_68 : decode cX9_gateAt 68 = .ok (.invokevirtual 171, 3) := by decide +kernel
theorem dX9_gateAt_71 : decode cX9_gateAt 71 = .ok (.ireturn, 1) := by decide +kernel
set_option maxRecDepth 20000 in
theorem ggX9_isGate_Jx4a65c_size_8abf5 : GoodIn wsX9_isGate wsJx4a65c_size_8abf5 := goodIn_r _ [6, 7, 21, 22, 23] (by decide +kernel) (by decide +kernel)
set_option maxRecDepth 20000 in
theorem gX9_isGate_Jx4a65c_size_8abf5_f32Jx4a65c : GoodIn wsX9_isGate (va_wsF RX9 32 RJx4a65c ⟨"java/util/List", "size", "()I"⟩ yJx4a65c_size_8abf5 wsJx4a65c_size_8abf5) := goodIn_app (goodIn_of _ (by decide +kernel)) ggX9_isGate_Jx4a65c_size_8abf5
set_option maxRecDepth 20000 in
theorem ggX9_isGate_X9_isIn : GoodIn wsX9_isGate wsX9_isIn := goodIn_r _ [11] (by decide +kernel) (by decide +kernel)
set_option maxRecDepth 20000 in
theorem gX9_isGate_X9_isIn : GoodIn wsX9_isGate (va_wsS RX9 38 yX9_isIn wsX9_isIn) := goodIn_app (goodIn_of _ (by decide +kernel)) ggX9_isGate_X9_isIn
theorem dX9_isGate_0 : decode cX9_isGate 0 = .ok (.iload_n 1, 1) := by decide +kernel
theorem dX9_isGate_1 : decode cX9_isGate 1 = .ok (.iconst 0, 1) := by decide +kernel
theorem dX9_isGate_2 : decode cX9_isGate 2 = .ok (.aload_n 0, 1) := by decide +kernel
theorem dX9_isGate_3 : decode cX9_isGate 3 = .ok (.getfield 16, 3) := by decide +kernel
theorem dX9_isGate_6 : decode cX9_isGate 6 = .ok (.invokeinterface 32 1, 5) := by decide +kernel
theorem dX9_isGate_11 : decode cX9_isGate 11 = .ok (.iconst 1, 1) := by decide +kernel
theorem dX9_isGate_12 : decode cX9_isGate 12 = .ok (.isub, 1) := by decide +kernel
theorem dX9_isGate_13 : decode cX9_isGate 13 = .ok (.invokestatic 38, 3) := by decide +kernel
theorem dX9_isGate_16 : decode cX9_isGate 16 = .ok (.ireturn, 1) := by decide +kernel
set_option maxRecDepth 20000 in
theorem ggX9_gateBehind_X9_isGate : GoodIn wsX9_gateBehind wsX9_isGate := goodIn_r _ [9, 1, 10, 11, 12, 13, 14, 15, 16, 17, 8, 18, 94, 95, 96, 97, 98, 99, 100, 101, 102, 108, 109, 110] (by decide +kernel) (by decide +kernel)
set_option maxRecDepth 20000 in
theorem gX9_gateBehind_X9_isGate : GoodIn wsX9_gateBehind (wsV RX9 174 RX9 yX9_isGate wsX9_isGate) := goodIn_app (goodIn_of _ (by decide +kernel)) ggX9_gateBehind_X9_isGate
set_option maxRecDepth 20000 in
theorem ggX9_gateBehind_X9_no : GoodIn wsX9_gateBehind wsX9_no := goodIn_r _ [22, 23, 94, 95, 96, 97, 98, 99, 100, 101, 102] (by decide +kernel) (by decide +kernel)
set_option maxRecDepth 20000 in
theorem gX9_gateBehind_X9_no : GoodIn wsX9_gateBehind (wsV RX9 42 RX9 yX9_no wsX9_no) := goodIn_app (goodIn_of _ (by decide +kernel)) ggX9_gateBehind_X9_no
set_option maxRecDepth 20000 in
theorem ggX9_gateBehind_X9_isIn : GoodIn wsX9_gateBehind wsX9_isIn := goodIn_r _ [18] (by decide +kernel) (by decide +kernel)
set_option maxRecDepth 20000 in
theorem gX9_gateBehind_X9_isIn : GoodIn wsX9_gateBehind (va_wsS RX9 38 yX9_isIn wsX9_isIn) := goodIn_app (goodIn_of _ (by decide +kernel)) ggX9_gateBehind_X9_isIn
set_option maxRecDepth 20000 in
theorem ggX9_gateBehind_Jx4a65c_size_8abf5 : GoodIn wsX9_gateBehind wsJx4a65c_size_8abf5 := goodIn_r _ [14, 15, 108, 109, 110] (by decide +kernel) (by decide +kernel)
set_option maxRecDepth 20000 in
theorem gX9_gateBehind_Jx4a65c_size_8abf5_f32Jx4a65c : GoodIn wsX9_gateBehind (va_wsF RX9 32 RJx4a65c ⟨"java/util/List", "size", "()I"⟩ yJx4a65c_size_8abf5 wsJx4a65c_size_8abf5) := goodIn_app (goodIn_of _ (by decide +kernel)) ggX9_gateBehind_Jx4a65c_size_8abf5
set_option maxRecDepth 20000 in
theorem ggX9_gateBehind_X7_init : GoodIn wsX9_gateBehind wsX7_init := goodIn_r _ [26, 27, 28, 29, 30, 31, 32, 103, 104, 105, 106, 107] (by decide +kernel) (by decide +kernel)
set_option maxRecDepth 20000 in
theorem gX9_gateBehind_X7_init : GoodIn wsX9_gateBehind (wsX7_init) := ggX9_gateBehind_X7_init
set_option maxRecDepth 20000 in
theorem ggX9_gateBehind_X9_add : GoodIn wsX9_gateBehind wsX9_add := goodIn_r _ [36, 1, 37, 38, 39, 13, 40, 41, 42, 43, 15, 44, 45, 46, 47, 48, 49, 50, 51, 52, 53, 54, 55, 56, 57, 58, 59, 60, 61, 62, 63, 64, 65, 66, 67, 68, 69, 70, 71, 72, 73, 74, 75, 76, 77, 78, 79, 80, 81, 82, 83, 84, 85, 86, 87, 88, 89, 90, 91, 92, 93, 10, 11, 12, 14, 94, 95, 96, 97, 98, 99, 100, 101, 102, 108, 109, 110, 111, 112, 113, 114] (by decide +kernel) (by decide +kernel)
set_option maxRecDepth 20000 in
theorem gX9_gateBehind_X9_add : GoodIn wsX9_gateBehind (wsV RX9 171 RX9 yX9_add wsX9_add) := goodIn_app (goodIn_of _ (by decide +kernel)) ggX9_gateBehind_X9_add
theorem dX9_gateBehind_0 : decode cX9_gateBehind 0 = .ok (.aload_n 0, 1) := by decide +kernel
theorem dX9_gateBehind_1 : decode cX9_gateBehind 1 = .ok (.aload_n 0, 1) := by decide +kernel
theorem dX9_gateBehind_2 : decode cX9_gateBehind 2 = .ok (.iload_n 1, 1) := by decide +kernel
theorem dX9_gateBehind_3 : decode cX9_gateBehind 3 = .ok (.invokevirtual 174, 3) := by decide +kernel
theorem dX9_gateBehind_6 : decode cX9_gateBehind 6 = .ok (.iconst 1, 1) := by decide +kernel
theorem dX9_gateBehind_7 : decode cX9_gateBehind 7 = .ok (.invokevirtual 42, 3) := by decide +kernel
theorem dX9_gateBehind_10 : decode cX9_gateBehind 10 = .ok (.ifCond .ne 45, 3) := by decide +kernel
theorem dX9_gateBehind_13 : decode cX9_gateBehind 13 = .ok (.aload_n 0, 1) := by decide +kernel
theorem dX9_gateBehind_14 : decode cX9_gateBehind 14 = .ok (.iload_n 2, 1) := by decide +kernel
theorem dX9_gateBehind_15 : decode cX9_gateBehind 15 = .ok (.iconst 1, 1) := by decide +kernel
theorem dX9_gateBehind_16 : decode cX9_gateBehind 16 = .ok (.bipush 100, 2) := by decide +kernel
theorem dX9_gateBehind_18 : decode cX9_gateBehind 18 = .ok (.invokestatic 38, 3) := by decide +kernel
theorem dX9_gateBehind_21 : decode cX9_gateBehind 21 = .ok (.iconst 2, 1) := by decide +kernel
theorem dX9_gateBehind_22 : decode cX9_gateBehind 22 = .ok (.invokevirtual 42, 3) := by decide +kernel
theorem dX9_gateBehind_25 : decode cX9_gateBehind 25 = .ok (.ifCond .ne 30, 3) := by decide +kernel
theorem dX9_gateBehind_28 : decode cX9_gateBehind 28 = .ok (.aload_n 0, 1) := by decide +kernel
theorem dX9_gateBehind_29 : decode cX9_gateBehind 29 = .ok (.aload_n 0, 1) := by decide +kernel
theorem dX9_gateBehind_30 : decode cX9_gateBehind 30 = .ok (.getfield 16, 3) := by decide +kernel
theorem dX9_gateBehind_33 : decode cX9_gateBehind 33 = .ok (.invokeinterface 32 1, 5) := by decide +kernel
theorem dX9_gateBehind_38 : decode cX9_gateBehind 38 = .ok (.bipush 6, 2) := by decide +kernel
theorem dX9_gateBehind_40 : decode cX9_gateBehind 40 = .ok (.if_icmp .ge 7, 3) := by decide +kernel
theorem dX9_gateBehind_43 : decode cX9_gateBehind 43 = .ok (.iconst 1, 1) := by decide +kernel
theorem dX9_gateBehind_44 : decode cX9_gateBehind 44 = .ok (.goto 4, 3) := by decide +kernel
theorem dX9_gateBehind_47 : decode cX9_gateBehind 47 = .ok (.iconst 0, 1) := by decide +kernel
theorem dX9_gateBehind_48 : decode cX9_gateBehind 48 = .ok (.iconst 3, 1) := by decide +kernel
theorem dX9_gateBehind_49 : decode cX9_gateBehind 49 = .ok (.invokevirtual 42, 3) := by decide +kernel
theorem dX9_gateBehind_52 : decode cX9_gateBehind 52 = .ok (.ifCond .eq 5, 3) := by decide +kernel
theorem dX9_gateBehind_55 : decode cX9_gateBehind 55 = .ok (.iconst 0, 1) := by decide +kernel
theorem dX9_gateBehind_56 : decode cX9_gateBehind 56 = .ok (.ireturn, 1) := by decide +kernel
theorem dX9_gateBehind_57 : decode cX9_gateBehind 57 = .ok (.aload_n 0, 1) := by decide +kernel
theorem dX9_gateBehind_58 : decode cX9_gateBehind 58 = .ok (.new 120, 3) := by decide +kernel
theorem dX9_gateBehind_61 : decode cX9_gateBehind 61 = .ok (.dup, 1) := by decide +kernel
theorem dX9_gateBehind_62 : decode cX9_gateBehind 62 = .ok (.iconst (-1), 1) := by decide +kernel
theorem dX9_gateBehind_63 : decode cX9_gateBehind 63 = .ok (.iload_n 1, 1) := by decide +kernel
theorem dX9_gateBehind_64 : decode cX9_gateBehind 64 = .ok (.iload_n 2, 1) := by decide +kernel
theorem dX9_gateBehind_65 : decode cX9_gateBehind 65 = .ok (.invokespecial 168, 3) := by decide +kernel
theorem dX9_gateBehind_68 : decode cX9_gateBehind 68 = .ok (.invokevirtual 171, 3) := by decide +kernel
theorem dX9_gateBehind_71 : decode cX9_gateBehind 71 = .ok (.ireturn, 1) := by decide +kernel
set_option maxRecDepth 20000 in
theorem ggX9_tips_X9_isGate : GoodIn wsX9_tips wsX9_isGate := goodIn_r _ [8, 1, 9, 10, 11, 12, 13, 14, 15, 16, 7, 17, 40, 41, 42, 43, 44, 45, 46, 47, 48, 54, 55, 56] (by decide +kernel) (by decide +kernel)
set_option maxRecDepth 20000 in
theorem gX9_tips_X9_isGate : GoodIn wsX9_tips (wsV RX9 174 RX9 yX9_isGate wsX9_isGate) := goodIn_app (goodIn_of _ (by decide +kernel)) ggX9_tips_X9_isGate
set_option maxRecDepth 20000 in
theorem ggX9_tips_X9_no : GoodIn wsX9_tips wsX9_no := goodIn_r _ [21, 22, 40, 41, 42, 43, 44, 45, 46, 47, 48] (by decide +kernel) (by decide +kernel)
set_option maxRecDepth 20000 in
theorem gX9_tips_X9_no : GoodIn wsX9_tips (wsV RX9 42 RX9 yX9_no wsX9_no) := goodIn_app (goodIn_of _ (by decide +kernel)) ggX9_tips_X9_no
set_option maxRecDepth 20000 in
theorem ggX9_tips_Jx4a65c_get_915e3 : GoodIn wsX9_tips wsJx4a65c_get_915e3 := goodIn_r _ [26, 14, 27, 28, 29, 30, 31, 32, 33, 34, 35, 36, 37, 12, 38, 39, 54, 55, 56] (by decide +kernel) (by decide +kernel)
set_option maxRecDepth 20000 in
theorem gX9_tips_Jx4a65c_get_915e3_f59Jx4a65c : GoodIn wsX9_tips (va_wsF RX9 59 RJx4a65c ⟨"java/util/List", "get", "(I)Ljava/lang/Object;"⟩ yJx4a65c_get_915e3 wsJx4a65c_get_915e3) := goodIn_app (goodIn_of _ (by decide +kernel)) ggX9_tips_Jx4a65c_get_915e3
theorem dX9_tips_0 : decode cX9_tips 0 = .ok (.aload_n 0, 1) := by decide +kernel
theorem dX9_tips_1 : decode cX9_tips 1 = .ok (.aload_n 0, 1) := by decide +kernel
theorem dX9_tips_2 : decode cX9_tips 2 = .ok (.iload_n 1, 1) := by decide +kernel
theorem dX9_tips_3 : decode cX9_tips 3 = .ok (.invokevirtual 174, 3) := by decide +kernel
theorem dX9_tips_6 : decode cX9_tips 6 = .ok (.iconst 1, 1) := by decide +kernel
theorem dX9_tips_7 : decode cX9_tips 7 = .ok (.invokevirtual 42, 3) := by decide +kernel
theorem dX9_tips_10 : decode cX9_tips 10 = .ok (.ifCond .eq 7, 3) := by decide +kernel
theorem dX9_tips_13 : decode cX9_tips 13 = .ok (.iconst 0, 1) := by decide +kernel
theorem dX9_tips_14 : decode cX9_tips 14 = .ok (.goto 19, 3) := by decide +kernel
theorem dX9_tips_17 : decode cX9_tips 17 = .ok (.aload_n 0, 1) := by decide +kernel
theorem dX9_tips_18 : decode cX9_tips 18 = .ok (.getfield 16, 3) := by decide +kernel
theorem dX9_tips_21 : decode cX9_tips 21 = .ok (.iload_n 1, 1) := by decide +kernel
theorem dX9_tips_22 : decode cX9_tips 22 = .ok (.invokeinterface 59 2, 5) := by decide +kernel
theorem dX9_tips_27 : decode cX9_tips 27 = .ok (.checkcast 120, 3) := by decide +kernel
theorem dX9_tips_30 : decode cX9_tips 30 = .ok (.getfield 127, 3) := by decide +kernel
theorem dX9_tips_33 : decode cX9_tips 33 = .ok (.ireturn, 1) := by decide +kernel
set_option maxRecDepth 20000 in
theorem ggX9_filled_X9_isGate : GoodIn wsX9_filled wsX9_isGate := goodIn_r _ [8, 1, 9, 10, 11, 12, 13, 14, 15, 16, 7, 17, 40, 41, 42, 43, 44, 45, 46, 47, 48, 54, 55, 56] (by decide +kernel) (by decide +kernel)
set_option maxRecDepth 20000 in
theorem gX9_filled_X9_isGate : GoodIn wsX9_filled (wsV RX9 174 RX9 yX9_isGate wsX9_isGate) := goodIn_app (goodIn_of _ (by decide +kernel)) ggX9_filled_X9_isGate
set_option maxRecDepth 20000 in
theorem ggX9_filled_X9_no : GoodIn wsX9_filled wsX9_no := goodIn_r _ [21, 22, 40, 41, 42, 43, 44, 45, 46, 47, 48] (by decide +kernel) (by decide +kernel)
set_option maxRecDepth 20000 in
theorem gX9_filled_X9_no : GoodIn wsX9_filled (wsV RX9 42 RX9 yX9_no wsX9_no) := goodIn_app (goodIn_of _ (by decide +kernel)) ggX9_filled_X9_no
set_option maxRecDepth 20000 in
theorem ggX9_filled_Jx4a65c_get_915e3 : GoodIn wsX9_filled wsJx4a65c_get_915e3 := goodIn_r _ [26, 14, 27, 28, 29, 30, 31, 32, 33, 34, 35, 36, 37, 12, 38, 39, 54, 55, 56] (by decide +kernel) (by decide +kernel)
set_option maxRecDepth 20000 in
theorem gX9_filled_Jx4a65c_get_915e3_f59Jx4a65c : GoodIn wsX9_filled (va_wsF RX9 59 RJx4a65c ⟨"java/util/List", "get", "(I)Ljava/lang/Object;"⟩ yJx4a65c_get_915e3 wsJx4a65c_get_915e3) := goodIn_app (goodIn_of _ (by decide +kernel)) ggX9_filled_Jx4a65c_get_915e3
theorem dX9_filled_0 : decode cX9_filled 0 = .ok (.aload_n 0, 1) := by decide +kernel
theorem dX9_filled_1 : decode cX9_filled 1 = .ok (.aload_n 0, 1) := by decide +kernel
theorem dX9_filled_2 : decode cX9_filled 2 = .ok (.iload_n 1, 1) := by decide +kernel
theorem dX9_filled_3 : decode cX9_filled 3 = .ok (.invokevirtual 174, 3) := by decide +kernel
theorem dX9_filled_6 : decode cX9_filled 6 = .ok (.iconst 1, 1) := by decide +kernel
theorem dX9_filled_7 : decode cX9_filled 7 = .ok (.invokevirtual 42, 3) := by decide +kernel
theorem dX9_filled_10 : decode cX9_filled 10 = .ok (.ifCond .eq 7, 3) := by decide +kernel
theorem dX9_filled_13 : decode cX9_filled 13 = .ok (.iconst 0, 1) := by decide +kernel
theorem dX9_filled_14 : decode cX9_filled 14 = .ok (.goto 19, 3) := by decide +kernel
theorem dX9_filled_17 : decode cX9_filled 17 = .ok (.aload_n 0, 1) := by decide +kernel
theorem dX9_filled_18 : decode cX9_filled 18 = .ok (.getfield 16, 3) := by decide +kernel
theorem dX9_filled_21 : decode cX9_filled 21 = .ok (.iload_n 1, 1) := by decide +kernel
theorem dX9_filled_22 : decode cX9_filled 22 = .ok (.invokeinterface 59 2, 5) := by decide +kernel
theorem dX9_filled_27 : decode cX9_filled 27 = .ok (.checkcast 120, 3) := by decide +kernel
theorem dX9_filled_30 : decode cX9_filled 30 = .ok (.getfield 119, 3) := by decide +kernel
theorem dX9_filled_33 : decode cX9_filled 33 = .ok (.ireturn, 1) := by decide +kernel
set_option maxRecDepth 20000 in
theorem ggX9_runs_X9_isGlass : GoodIn wsX9_runs wsX9_isGlass := goodIn_r _ [8, 1, 9, 10, 11, 12, 13, 14, 15, 16, 7, 17, 40, 41, 42, 43, 44, 45, 46, 47, 48, 63, 64, 65] (by decide +kernel) (by decide +kernel)
set_option maxRecDepth 20000 in
theorem gX9_runs_X9_isGlass : GoodIn wsX9_runs (wsV RX9 55 RX9 yX9_isGlass wsX9_isGlass) := goodIn_app (goodIn_of _ (by decide +kernel)) ggX9_runs_X9_isGlass
set_option maxRecDepth 20000 in
theorem ggX9_runs_X9_no : GoodIn wsX9_runs wsX9_no := goodIn_r _ [21, 22, 40, 41, 42, 43, 44, 45, 46, 47, 48] (by decide +kernel) (by decide +kernel)
set_option maxRecDepth 20000 in
theorem gX9_runs_X9_no : GoodIn wsX9_runs (wsV RX9 42 RX9 yX9_no wsX9_no) := goodIn_app (goodIn_of _ (by decide +kernel)) ggX9_runs_X9_no
set_option maxRecDepth 20000 in
theorem ggX9_runs_Jx4a65c_get_915e3 : GoodIn wsX9_runs wsJx4a65c_get_915e3 := goodIn_r _ [26, 14, 27, 28, 29, 30, 31, 32, 33, 34, 35, 36, 37, 12, 38, 39, 63, 64, 65] (by decide +kernel) (by decide +kernel)
set_option maxRecDepth 20000 in
theorem gX9_runs_Jx4a65c_get_915e3_f59Jx4a65c : GoodIn wsX9_runs (va_wsF RX9 59 RJx4a65c ⟨"java/util/List", "get", "(I)Ljava/lang/Object;"⟩ yJx4a65c_get_915e3 wsJx4a65c_get_915e3) := goodIn_app (goodIn_of _ (by decide +kernel)) ggX9_runs_Jx4a65c_get_915e3
set_option maxRecDepth 20000 in
theorem ggX9_runs_Jx4a65c_size_8abf5 : GoodIn wsX9_runs wsJx4a65c_size_8abf5 := goodIn_r _ [13, 14, 63, 64, 65] (by decide +kernel) (by decide +kernel)
set_option maxRecDepth 20000 in
theorem gX9_runs_Jx4a65c_size_8abf5_f32Jx4a65c : GoodIn wsX9_runs (va_wsF RX9 32 RJx4a65c ⟨"java/util/List", "size", "()I"⟩ yJx4a65c_size_8abf5 wsJx4a65c_size_8abf5) := goodIn_app (goodIn_of _ (by decide +kernel)) ggX9_runs_Jx4a65c_size_8abf5
theorem dX9_runs_0 : decode cX9_runs 0 = .ok (.aload_n 0, 1) := by decide +kernel
theorem dX9_runs_1 : decode cX9_runs 1 = .ok (.aload_n 0, 1) := by decide +kernel
theorem dX9_runs_2 : decode cX9_runs 2 = .ok (.iload_n 1, 1) := by decide +kernel
theorem dX9_runs_3 : decode cX9_runs 3 = .ok (.invokevirtual 55, 3) := by decide +kernel
theorem dX9_runs_6 : decode cX9_runs 6 = .ok (.iconst 1, 1) := by decide +kernel
theorem dX9_runs_7 : decode cX9_runs 7 = .ok (.invokevirtual 42, 3) := by decide +kernel
theorem dX9_runs_10 : decode cX9_runs 10 = .ok (.ifCond .eq 7, 3) := by decide +kernel
theorem dX9_runs_13 : decode cX9_runs 13 = .ok (.iconst 0, 1) := by decide +kernel
theorem dX9_runs_14 : decode cX9_runs 14 = .ok (.goto 24, 3) := by decide +kernel
theorem dX9_runs_17 : decode cX9_runs 17 = .ok (.aload_n 0, 1) := by decide +kernel
theorem dX9_runs_18 : decode cX9_runs 18 = .ok (.getfield 10, 3) := by decide +kernel
theorem dX9_runs_21 : decode cX9_runs 21 = .ok (.iload_n 1, 1) := by decide +kernel
theorem dX9_runs_22 : decode cX9_runs 22 = .ok (.invokeinterface 59 2, 5) := by decide +kernel
theorem dX9_runs_27 : decode cX9_runs 27 = .ok (.checkcast 46, 3) := by decide +kernel
theorem dX9_runs_30 : decode cX9_runs 30 = .ok (.getfield 155, 3) := by decide +kernel
theorem dX9_runs_33 : decode cX9_runs 33 = .ok (.invokeinterface 32 1, 5) := by decide +kernel
theorem dX9_runs_38 : decode cX9_runs 38 = .ok (.ireturn, 1) := by decide +kernel
set_option maxRecDepth 20000 in
theorem ggX9_runAt_X9_isGlass : GoodIn wsX9_runAt wsX9_isGlass := goodIn_r _ [9, 1, 10, 11, 12, 13, 14, 15, 16, 17, 8, 18, 47, 48, 49, 50, 51, 52, 53, 54, 55, 70, 71, 72] (by decide +kernel) (by decide +kernel)
set_option maxRecDepth 20000 in
theorem gX9_runAt_X9_isGlass : GoodIn wsX9_runAt (wsV RX9 55 RX9 yX9_isGlass wsX9_isGlass) := goodIn_app (goodIn_of _ (by decide +kernel)) ggX9_runAt_X9_isGlass
set_option maxRecDepth 20000 in
theorem ggX9_runAt_X9_no : GoodIn wsX9_runAt wsX9_no := goodIn_r _ [22, 23, 47, 48, 49, 50, 51, 52, 53, 54, 55] (by decide +kernel) (by decide +kernel)
set_option maxRecDepth 20000 in
theorem gX9_runAt_X9_no : GoodIn wsX9_runAt (wsV RX9 42 RX9 yX9_no wsX9_no) := goodIn_app (goodIn_of _ (by decide +kernel)) ggX9_runAt_X9_no
set_option maxRecDepth 20000 in
theorem ggX9_runAt_Jx4a65c_get_915e3 : GoodIn wsX9_runAt wsJx4a65c_get_915e3 := goodIn_r _ [27, 15, 28, 29, 30, 31, 32, 33, 34, 35, 36, 37, 38, 13, 39, 40, 70, 71, 72] (by decide +kernel) (by decide +kernel)
set_option maxRecDepth 20000 in
theorem gX9_runAt_Jx4a65c_get_915e3_f59Jx4a65c : GoodIn wsX9_runAt (va_wsF RX9 59 RJx4a65c ⟨"java/util/List", "get", "(I)Ljava/lang/Object;"⟩ yJx4a65c_get_915e3 wsJx4a65c_get_915e3) := goodIn_app (goodIn_of _ (by decide +kernel)) ggX9_runAt_Jx4a65c_get_915e3
set_option maxRecDepth 20000 in
theorem ggX9_runAt_Jx4a65c_size_8abf5 : GoodIn wsX9_runAt wsJx4a65c_size_8abf5 := goodIn_r _ [14, 15, 70, 71, 72] (by decide +kernel) (by decide +kernel)
set_option maxRecDepth 20000 in
theorem gX9_runAt_Jx4a65c_size_8abf5_f32Jx4a65c : GoodIn wsX9_runAt (va_wsF RX9 32 RJx4a65c ⟨"java/util/List", "size", "()I"⟩ yJx4a65c_size_8abf5 wsJx4a65c_size_8abf5) := goodIn_app (goodIn_of _ (by decide +kernel)) ggX9_runAt_Jx4a65c_size_8abf5
set_option maxRecDepth 20000 in
theorem ggX9_runAt_X9_isIn : GoodIn wsX9_runAt wsX9_isIn := goodIn_r _ [18] (by decide +kernel) (by decide +kernel)
set_option maxRecDepth 20000 in
theorem gX9_runAt_X9_isIn : GoodIn wsX9_runAt (va_wsS RX9 38 yX9_isIn wsX9_isIn) := goodIn_app (goodIn_of _ (by decide +kernel)) ggX9_runAt_X9_isIn
set_option maxRecDepth 20000 in
theorem ggX9_runAt_J6_intValue_8abf5 : GoodIn wsX9_runAt wsJ6_intValue_8abf5 := goodIn_r _ [45, 46, 73] (by decide +kernel) (by decide +kernel)
set_option maxRecDepth 20000 in
theorem gX9_runAt_J6_intValue_8abf5 : GoodIn wsX9_runAt (wsV RX9 177 RJ6 yJ6_intValue_8abf5 wsJ6_intValue_8abf5) := goodIn_app (goodIn_of _ (by decide +kernel)) ggX9_runAt_J6_intValue_8abf5
theorem dX9_runAt_0 : decode cX9_runAt 0 = .ok (.aload_n 0, 1) := by decide +kernel
theorem dX9_runAt_1 : decode cX9_runAt 1 = .ok (.aload_n 0, 1) := by decide +kernel
theorem dX9_runAt_2 : decode cX9_runAt 2 = .ok (.iload_n 1, 1) := by decide +kernel
theorem dX9_runAt_3 : decode cX9_runAt 3 = .ok (.invokevirtual 55, 3) := by decide +kernel
theorem dX9_runAt_6 : decode cX9_runAt 6 = .ok (.iconst 1, 1) := by decide +kernel
theorem dX9_runAt_7 : decode cX9_runAt 7 = .ok (.invokevirtual 42, 3) := by decide +kernel
theorem dX9_runAt_10 : decode cX9_runAt 10 = .ok (.ifCond .ne 39, 3) := by decide +kernel
theorem dX9_runAt_13 : decode cX9_runAt 13 = .ok (.aload_n 0, 1) := by decide +kernel
theorem dX9_runAt_14 : decode cX9_runAt 14 = .ok (.iload_n 2, 1) := by decide +kernel
theorem dX9_runAt_15 : decode cX9_runAt 15 = .ok (.iconst 0, 1) := by decide +kernel
theorem dX9_runAt_16 : decode cX9_runAt 16 = .ok (.aload_n 0, 1) := by decide +kernel
theorem dX9_runAt_17 : decode cX9_runAt 17 = .ok (.getfield 10, 3) := by decide +kernel
theorem dX9_runAt_20 : decode cX9_runAt 20 = .ok (.iload_n 1, 1) := by decide +kernel
theorem dX9_runAt_21 : decode cX9_runAt 21 = .ok (.invokeinterface 59 2, 5) := by decide +kernel
theorem dX9_runAt_26 : decode cX9_runAt 26 = .ok (.checkcast 46, 3) := by decide +kernel
theorem dX9_runAt_29 : decode cX9_runAt 29 = .ok (.getfield 155, 3) := by decide +kernel
theorem dX9_runAt_32 : decode cX9_runAt 32 = .ok (.invokeinterface 32 1, 5) := by decide +kernel
theorem dX9_runAt_37 : decode cX9_runAt 37 = .ok (.iconst 1, 1) := by decide +kernel
theorem dX9_runAt_38 : decode cX9_runAt 38 = .ok (.isub, 1) := by decide +kernel
theorem dX9_runAt_39 : decode cX9_runAt 39 = .ok (.invokestatic 38, 3) := by decide +kernel
theorem dX9_runAt_42 : decode cX9_runAt 42 = .ok (.iconst 2, 1) := by decide +kernel
theorem dX9_runAt_43 : decode cX9_runAt 43 = .ok (.invokevirtual 42, 3) := by decide +kernel
theorem dX9_runAt_46 : decode cX9_runAt 46 = .ok (.ifCond .eq 5, 3) := by decide +kernel
theorem dX9_runAt_49 : decode cX9_runAt 49 = .ok (.iconst 0, 1) := by decide +kernel
theorem dX9_runAt_50 : decode cX9_runAt 50 = .ok (.ireturn, 1) := by decide +kernel
theorem dX9_runAt_51 : decode cX9_runAt 51 = .ok (.aload_n 0, 1) := by decide +kernel
theorem dX9_runAt_52 : decode cX9_runAt 52 = .ok (.getfield 10, 3) := by decide +kernel
theorem dX9_runAt_55 : decode cX9_runAt 55 = .ok (.iload_n 1, 1) := by decide +kernel
theorem dX9_runAt_56 : decode cX9_runAt 56 = .ok (.invokeinterface 59 2, 5) := by decide +kernel
theorem dX9_runAt_61 : decode cX9_runAt 61 = .ok (.checkcast 46, 3) := by decide +kernel
theorem dX9_runAt_64 : decode cX9_runAt 64 = .ok (.getfield 155, 3) := by decide +kernel
theorem dX9_runAt_67 : decode cX9_runAt 67 = .ok (.iload_n 2, 1) := by decide +kernel
theorem dX9_runAt_68 : decode cX9_runAt 68 = .ok (.invokeinterface 59 2, 5) := by decide +kernel
theorem dX9_runAt_73 : decode cX9_runAt 73 = .ok (.checkcast 159, 3) := by decide +kernel
theorem dX9_runAt_76 : decode cX9_runAt 76 = .ok (.invokevirtual 177, 3) := by decide +kernel
theorem dX9_runAt_79 : decode cX9_runAt 79 = .ok (.ireturn, 1) := by decide +kernel
set_option maxRecDepth 20000 in
theorem ggX9_meanRun_X9_isGlass : GoodIn wsX9_meanRun wsX9_isGlass := goodIn_r _ [9, 1, 10, 11, 12, 13, 14, 15, 16, 17, 8, 18, 83, 84, 85, 86, 87, 88, 89, 90, 91, 106, 107, 108] (by decide +kernel) (by decide +kernel)
set_option maxRecDepth 20000 in
theorem gX9_meanRun_X9_isGlass : GoodIn wsX9_meanRun (wsV RX9 55 RX9 yX9_isGlass wsX9_isGlass) := goodIn_app (goodIn_of _ (by decide +kernel)) ggX9_meanRun_X9_isGlass
set_option maxRecDepth 20000 in
theorem ggX9_meanRun_X9_no : GoodIn wsX9_meanRun wsX9_no := goodIn_r _ [22, 23, 83, 84, 85, 86, 87, 88, 89, 90, 91] (by decide +kernel) (by decide +kernel)
set_option maxRecDepth 20000 in
theorem gX9_meanRun_X9_no : GoodIn wsX9_meanRun (wsV RX9 42 RX9 yX9_no wsX9_no) := goodIn_app (goodIn_of _ (by decide +kernel)) ggX9_meanRun_X9_no
set_option maxRecDepth 20000 in
theorem ggX9_meanRun_Jx4a65c_get_915e3 : GoodIn wsX9_meanRun wsJx4a65c_get_915e3 := goodIn_r _ [27, 15, 28, 29, 30, 31, 32, 33, 34, 35, 36, 37, 38, 13, 39, 40, 106, 107, 108] (by decide +kernel) (by decide +kernel)
set_option maxRecDepth 20000 in
theorem gX9_meanRun_Jx4a65c_get_915e3_f59Jx4a65c : GoodIn wsX9_meanRun (va_wsF RX9 59 RJx4a65c ⟨"java/util/List", "get", "(I)Ljava/lang/Object;"⟩ yJx4a65c_get_915e3 wsJx4a65c_get_915e3) := goodIn_app (goodIn_of _ (by decide +kernel)) ggX9_meanRun_Jx4a65c_get_915e3
set_option maxRecDepth 20000 in
theorem ggX9_meanRun_Jx4a65c_isEmpty_aae02 : GoodIn wsX9_meanRun wsJx4a65c_isEmpty_aae02 := goodIn_r _ [44, 15, 106, 107, 108] (by decide +kernel) (by decide +kernel)
set_option maxRecDepth 20000 in
theorem gX9_meanRun_Jx4a65c_isEmpty_aae02_f180Jx4a65c : GoodIn wsX9_meanRun (va_wsF RX9 180 RJx4a65c ⟨"java/util/List", "isEmpty", "()Z"⟩ yJx4a65c_isEmpty_aae02 wsJx4a65c_isEmpty_aae02) := goodIn_app (goodIn_of _ (by decide +kernel)) ggX9_meanRun_Jx4a65c_isEmpty_aae02
set_option maxRecDepth 20000 in
theorem ggX9_meanRun_Jx4a65c_iterator_32c93 : GoodIn wsX9_meanRun wsJx4a65c_iterator_32c93 := goodIn_r _ [48, 49, 50, 51, 52, 53, 54, 55, 56, 57, 58, 59, 60, 61, 62, 109, 110, 111, 112, 106, 107, 108] (by decide +kernel) (by decide +kernel)
set_option maxRecDepth 20000 in
theorem gX9_meanRun_Jx4a65c_iterator_32c93_f102Jx4a65c : GoodIn wsX9_meanRun (va_wsF RX9 102 RJx4a65c ⟨"java/util/List", "iterator", "()Ljava/util/Iterator;"⟩ yJx4a65c_iterator_32c93 wsJx4a65c_iterator_32c93) := goodIn_app (goodIn_of _ (by decide +kernel)) ggX9_meanRun_Jx4a65c_iterator_32c93
set_option maxRecDepth 20000 in
theorem ggX9_meanRun_Jx35411_hasNext_aae02 : GoodIn wsX9_meanRun wsJx35411_hasNext_aae02 := goodIn_r _ [66, 67, 55, 109, 110, 111, 112, 106, 107, 108] (by decide +kernel) (by decide +kernel)
set_option maxRecDepth 20000 in
theorem gX9_meanRun_Jx35411_hasNext_aae02_f106Jx35411 : GoodIn wsX9_meanRun (va_wsF RX9 106 RJx35411 ⟨"java/util/Iterator", "hasNext", "()Z"⟩ yJx35411_hasNext_aae02 wsJx35411_hasNext_aae02) := goodIn_app (goodIn_of _ (by decide +kernel)) ggX9_meanRun_Jx35411_hasNext_aae02
set_option maxRecDepth 20000 in
theorem ggX9_meanRun_Jx35411_next_0502b : GoodIn wsX9_meanRun wsJx35411_next_0502b := goodIn_r _ [71, 67, 55, 72, 59, 73, 74, 75, 51, 76, 60, 61, 62, 109, 110, 111, 112, 106, 107, 108] (by decide +kernel) (by decide +kernel)
set_option maxRecDepth 20000 in
theorem gX9_meanRun_Jx35411_next_0502b_f112Jx35411 : GoodIn wsX9_meanRun (va_wsF RX9 112 RJx35411 ⟨"java/util/Iterator", "next", "()Ljava/lang/Object;"⟩ yJx35411_next_0502b wsJx35411_next_0502b) := goodIn_app (goodIn_of _ (by decide +kernel)) ggX9_meanRun_Jx35411_next_0502b
set_option maxRecDepth 20000 in
theorem ggX9_meanRun_J6_intValue_8abf5 : GoodIn wsX9_meanRun wsJ6_intValue_8abf5 := goodIn_r _ [81, 82, 113] (by decide +kernel) (by decide +kernel)
set_option maxRecDepth 20000 in
theorem gX9_meanRun_J6_intValue_8abf5 : GoodIn wsX9_meanRun (wsV RX9 177 RJ6 yJ6_intValue_8abf5 wsJ6_intValue_8abf5) := goodIn_app (goodIn_of _ (by decide +kernel)) ggX9_meanRun_J6_intValue_8abf5
set_option maxRecDepth 20000 in
theorem ggX9_meanRun_Jx4a65c_size_8abf5 : GoodIn wsX9_meanRun wsJx4a65c_size_8abf5 := goodIn_r _ [14, 15, 106, 107, 108] (by decide +kernel) (by decide +kernel)
set_option maxRecDepth 20000 in
theorem gX9_meanRun_Jx4a65c_size_8abf5_f32Jx4a65c : GoodIn wsX9_meanRun (va_wsF RX9 32 RJx4a65c ⟨"java/util/List", "size", "()I"⟩ yJx4a65c_size_8abf5 wsJx4a65c_size_8abf5) := goodIn_app (goodIn_of _ (by decide +kernel)) ggX9_meanRun_Jx4a65c_size_8abf5
theorem dX9_meanRun_0 : decode cX9_meanRun 0 = .ok (.aload_n 0, 1) := by decide +kernel
theorem dX9_meanRun_1 : decode cX9_meanRun 1 = .ok (.aload_n 0, 1) := by decide +kernel
theorem dX9_meanRun_2 : decode cX9_meanRun 2 = .ok (.iload_n 1, 1) := by decide +kernel
theorem dX9_meanRun_3 : decode cX9_meanRun 3 = .ok (.invokevirtual 55, 3) := by decide +kernel
theorem dX9_meanRun_6 : decode cX9_meanRun 6 = .ok (.iconst 1, 1) := by decide +kernel
theorem dX9_meanRun_7 : decode cX9_meanRun 7 = .ok (.invokevirtual 42, 3) := by decide +kernel
theorem dX9_meanRun_10 : decode cX9_meanRun 10 = .ok (.ifCond .ne 40, 3) := by decide +kernel
theorem dX9_meanRun_13 : decode cX9_meanRun 13 = .ok (.aload_n 0, 1) := by decide +kernel
theorem dX9_meanRun_14 : decode cX9_meanRun 14 = .ok (.aload_n 0, 1) := by decide +kernel
theorem dX9_meanRun_15 : decode cX9_meanRun 15 = .ok (.getfield 10, 3) := by decide +kernel
theorem dX9_meanRun_18 : decode cX9_meanRun 18 = .ok (.iload_n 1, 1) := by decide +kernel
theorem dX9_meanRun_19 : decode cX9_meanRun 19 = .ok (.invokeinterface 59 2, 5) := by decide +kernel
theorem dX9_meanRun_24 : decode cX9_meanRun 24 = .ok (.checkcast 46, 3) := by decide +kernel
theorem dX9_meanRun_27 : decode cX9_meanRun 27 = .ok (.getfield 155, 3) := by decide +kernel
theorem dX9_meanRun_30 : decode cX9_meanRun 30 = .ok (.invokeinterface 180 1, 5) := by decide +kernel
theorem dX9_meanRun_35 : decode cX9_meanRun 35 = .ok (.ifCond .ne 7, 3) := by decide +kernel
theorem dX9_meanRun_38 : decode cX9_meanRun 38 = .ok (.iconst 1, 1) := by decide +kernel
theorem dX9_meanRun_39 : decode cX9_meanRun 39 = .ok (.goto 4, 3) := by decide +kernel
theorem dX9_meanRun_42 : decode cX9_meanRun 42 = .ok (.iconst 0, 1) := by decide +kernel
theorem dX9_meanRun_43 : decode cX9_meanRun 43 = .ok (.iconst 2, 1) := by decide +kernel
theorem dX9_meanRun_44 : decode cX9_meanRun 44 = .ok (.invokevirtual 42, 3) := by decide +kernel
theorem dX9_meanRun_47 : decode cX9_meanRun 47 = .ok (.ifCond .eq 5, 3) := by decide +kernel
theorem dX9_meanRun_50 : decode cX9_meanRun 50 = .ok (.dconst 0, 1) := by decide +kernel
theorem dX9_meanRun_51 : decode cX9_meanRun 51 = .ok (.dreturn, 1) := by decide +kernel
theorem dX9_meanRun_52 : decode cX9_meanRun 52 = .ok (.iconst 0, 1) := by decide +kernel
theorem dX9_meanRun_53 : decode cX9_meanRun 53 = .ok (.istore_n 2, 1) := by decide +kernel
theorem dX9_meanRun_54 : decode cX9_meanRun 54 = .ok (.aload_n 0, 1) := by decide +kernel
theorem dX9_meanRun_55 : decode cX9_meanRun 55 = .ok (.getfield 10, 3) := by decide +kernel
theorem dX9_meanRun_58 : decode cX9_meanRun 58 = .ok (.iload_n 1, 1) := by decide +kernel
theorem dX9_meanRun_59 : decode cX9_meanRun 59 = .ok (.invokeinterface 59 2, 5) := by decide +kernel
theorem dX9_meanRun_64 : decode cX9_meanRun 64 = .ok (.checkcast 46, 3) := by decide +kernel
theorem dX9_meanRun_67 : decode cX9_meanRun 67 = .ok (.getfield 155, 3) := by decide +kernel
theorem dX9_meanRun_70 : decode cX9_meanRun 70 = .ok (.invokeinterface 102 1, 5) := by decide +kernel
theorem dX9_meanRun_75 : decode cX9_meanRun 75 = .ok (.astore_n 3, 1) := by decide +kernel
theorem dX9_meanRun_76 : decode cX9_meanRun 76 = .ok (.aload_n 3, 1) := by decide +kernel
theorem dX9_meanRun_77 : decode cX9_meanRun 77 = .ok (.invokeinterface 106 1, 5) := by decide +kernel
theorem dX9_meanRun_82 : decode cX9_meanRun 82 = .ok (.ifCond .eq 25, 3) := by decide +kernel
theorem dX9_meanRun_85 : decode cX9_meanRun 85 = .ok (.aload_n 3, 1) := by decide +kernel
theorem dX9_meanRun_86 : decode cX9_meanRun 86 = .ok (.invokeinterface 112 1, 5) := by decide +kernel
theorem dX9_meanRun_91 : decode cX9_meanRun 91 = .ok (.checkcast 159, 3) := by decide +kernel
theorem dX9_meanRun_94 : decode cX9_meanRun 94 = .ok (.invokevirtual 177, 3) := by decide +kernel
theorem dX9_meanRun_97 : decode cX9_meanRun 97 = .ok (.istore 4, 2) := by decide +kernel
theorem dX9_meanRun_99 : decode cX9_meanRun 99 = .ok (.iload_n 2, 1) := by decide +kernel
theorem dX9_meanRun_100 : decode cX9_meanRun 100 = .ok (.iload 4, 2) := by decide +kernel
theorem dX9_meanRun_102 : decode cX9_meanRun 102 = .ok (.iadd, 1) := by decide +kernel
theorem dX9_meanRun_103 : decode cX9_meanRun 103 = .ok (.istore_n 2, 1) := by decide +kernel
theorem dX9_meanRun_104 : decode cX9_meanRun 104 = .ok (.goto (-28), 3) := by decide +kernel
theorem dX9_meanRun_107 : decode cX9_meanRun 107 = .ok (.iload_n 2, 1) := by decide +kernel
theorem dX9_meanRun_108 : decode cX9_meanRun 108 = .ok (.i2d, 1) := by decide +kernel
theorem dX9_meanRun_109 : decode cX9_meanRun 109 = .ok (.aload_n 0, 1) := by decide +kernel
theorem dX9_meanRun_110 : decode cX9_meanRun 110 = .ok (.getfield 10, 3) := by decide +kernel
theorem dX9_meanRun_113 : decode cX9_meanRun 113 = .ok (.iload_n 1, 1) := by decide +kernel
theorem dX9_meanRun_114 : decode cX9_meanRun 114 = .ok (.invokeinterface 59 2, 5) := by decide +kernel
theorem dX9_meanRun_119 : decode cX9_meanRun 119 = .ok (.checkcast 46, 3) := by decide +kernel
theorem dX9_meanRun_122 : decode cX9_meanRun 122 = .ok (.getfield 155, 3) := by decide +kernel
theorem dX9_meanRun_125 : decode cX9_meanRun 125 = .ok (.invokeinterface 32 1, 5) := by decide +kernel
theorem dX9_meanRun_130 : decode cX9_meanRun 130 = .ok (.i2d, 1) := by decide +kernel
theorem dX9_meanRun_131 : decode cX9_meanRun 131 = .ok (.ddiv, 1) := by decide +kernel
theorem dX9_meanRun_132 : decode cX9_meanRun 132 = .ok (.dreturn, 1) := by decide +kernel
set_option maxRecDepth 20000 in
theorem ggX9_spread_X9_isGlass : GoodIn wsX9_spread wsX9_isGlass := goodIn_r _ [8, 1, 9, 10, 11, 12, 13, 14, 15, 16, 7, 17, 93, 94, 95, 96, 97, 98, 99, 100, 101, 116, 117, 118] (by decide +kernel) (by decide +kernel)
set_option maxRecDepth 20000 in
theorem gX9_spread_X9_isGlass : GoodIn wsX9_spread (wsV RX9 55 RX9 yX9_isGlass wsX9_isGlass) := goodIn_app (goodIn_of _ (by decide +kernel)) ggX9_spread_X9_isGlass
set_option maxRecDepth 20000 in
theorem ggX9_spread_X9_no : GoodIn wsX9_spread wsX9_no := goodIn_r _ [21, 22, 93, 94, 95, 96, 97, 98, 99, 100, 101] (by decide +kernel) (by decide +kernel)
set_option maxRecDepth 20000 in
theorem gX9_spread_X9_no : GoodIn wsX9_spread (wsV RX9 42 RX9 yX9_no wsX9_no) := goodIn_app (goodIn_of _ (by decide +kernel)) ggX9_spread_X9_no
set_option maxRecDepth 20000 in
theorem ggX9_spread_Jx4a65c_get_915e3 : GoodIn wsX9_spread wsJx4a65c_get_915e3 := goodIn_r _ [26, 14, 27, 28, 29, 30, 31, 32, 33, 34, 35, 36, 37, 12, 38, 39, 116, 117, 118] (by decide +kernel) (by decide +kernel)
set_option maxRecDepth 20000 in
theorem gX9_spread_Jx4a65c_get_915e3_f59Jx4a65c : GoodIn wsX9_spread (va_wsF RX9 59 RJx4a65c ⟨"java/util/List", "get", "(I)Ljava/lang/Object;"⟩ yJx4a65c_get_915e3 wsJx4a65c_get_915e3) := goodIn_app (goodIn_of _ (by decide +kernel)) ggX9_spread_Jx4a65c_get_915e3
set_option maxRecDepth 20000 in
theorem ggX9_spread_Jx4a65c_size_8abf5 : GoodIn wsX9_spread wsJx4a65c_size_8abf5 := goodIn_r _ [13, 14, 116, 117, 118] (by decide +kernel) (by decide +kernel)
set_option maxRecDepth 20000 in
theorem gX9_spread_Jx4a65c_size_8abf5_f32Jx4a65c : GoodIn wsX9_spread (va_wsF RX9 32 RJx4a65c ⟨"java/util/List", "size", "()I"⟩ yJx4a65c_size_8abf5 wsJx4a65c_size_8abf5) := goodIn_app (goodIn_of _ (by decide +kernel)) ggX9_spread_Jx4a65c_size_8abf5
set_option maxRecDepth 20000 in
theorem ggX9_spread_X8_spread : GoodIn wsX9_spread wsX8_spread := goodIn_r _ [44, 45, 46, 47, 48, 49, 50, 51, 52, 53, 54, 55, 56, 57, 12, 58, 59, 60, 61, 62, 63, 64, 65, 66, 67, 68, 69, 70, 71, 72, 73, 74, 75, 76, 77, 78, 79, 80, 81, 82, 83, 84, 85, 86, 87, 88, 89, 90, 91, 92, 102, 103, 104, 105, 106, 107, 108, 109, 110, 111, 112, 113, 114, 115, 119, 120, 121, 122, 116, 117, 118, 123] (by decide +kernel) (by decide +kernel)
set_option maxRecDepth 20000 in
theorem gX9_spread_X8_spread : GoodIn wsX9_spread (wsV RX9 183 RX8 yX8_spread wsX8_spread) := goodIn_app (goodIn_of _ (by decide +kernel)) ggX9_spread_X8_spread
theorem dX9_spread_0 : decode cX9_spread 0 = .ok (.aload_n 0, 1) := by decide +kernel
theorem dX9_spread_1 : decode cX9_spread 1 = .ok (.aload_n 0, 1) := by decide +kernel
theorem dX9_spread_2 : decode cX9_spread 2 = .ok (.iload_n 1, 1) := by decide +kernel
theorem dX9_spread_3 : decode cX9_spread 3 = .ok (.invokevirtual 55, 3) := by decide +kernel
theorem dX9_spread_6 : decode cX9_spread 6 = .ok (.iconst 1, 1) := by decide +kernel
theorem dX9_spread_7 : decode cX9_spread 7 = .ok (.invokevirtual 42, 3) := by decide +kernel
theorem dX9_spread_10 : decode cX9_spread 10 = .ok (.ifCond .ne 41, 3) := by decide +kernel
theorem dX9_spread_13 : decode cX9_spread 13 = .ok (.aload_n 0, 1) := by decide +kernel
theorem dX9_spread_14 : decode cX9_spread 14 = .ok (.aload_n 0, 1) := by decide +kernel
theorem dX9_spread_15 : decode cX9_spread 15 = .ok (.getfield 10, 3) := by decide +kernel
theorem dX9_spread_18 : decode cX9_spread 18 = .ok (.iload_n 1, 1) := by decide +kernel
theorem dX9_spread_19 : decode cX9_spread 19 = .ok (.invokeinterface 59 2, 5) := by decide +kernel
theorem dX9_spread_24 : decode cX9_spread 24 = .ok (.checkcast 46, 3) := by decide +kernel
theorem dX9_spread_27 : decode cX9_spread 27 = .ok (.getfield 155, 3) := by decide +kernel
theorem dX9_spread_30 : decode cX9_spread 30 = .ok (.invokeinterface 32 1, 5) := by decide +kernel
theorem dX9_spread_35 : decode cX9_spread 35 = .ok (.iconst 1, 1) := by decide +kernel
theorem dX9_spread_36 : decode cX9_spread 36 = .ok (.if_icmp .le 7, 3) := by decide +kernel
theorem dX9_spread_39 : decode cX9_spread 39 = .ok (.iconst 1, 1) := by decide +kernel
theorem dX9_spread_40 : decode cX9_spread 40 = .ok (.goto 4, 3) := by decide +kernel
theorem dX9_spread_43 : decode cX9_spread 43 = .ok (.iconst 0, 1) := by decide +kernel
theorem dX9_spread_44 : decode cX9_spread 44 = .ok (.iconst 2, 1) := by decide +kernel
theorem dX9_spread_45 : decode cX9_spread 45 = .ok (.invokevirtual 42, 3) := by decide +kernel
theorem dX9_spread_48 : decode cX9_spread 48 = .ok (.ifCond .eq 7, 3) := by decide +kernel
theorem dX9_spread_51 : decode cX9_spread 51 = .ok (.iconst 0, 1) := by decide +kernel
theorem dX9_spread_52 : decode cX9_spread 52 = .ok (.goto 19, 3) := by decide +kernel
theorem dX9_spread_55 : decode cX9_spread 55 = .ok (.aload_n 0, 1) := by decide +kernel
theorem dX9_spread_56 : decode cX9_spread 56 = .ok (.getfield 10, 3) := by decide +kernel
theorem dX9_spread_59 : decode cX9_spread 59 = .ok (.iload_n 1, 1) := by decide +kernel
theorem dX9_spread_60 : decode cX9_spread 60 = .ok (.invokeinterface 59 2, 5) := by decide +kernel
theorem dX9_spread_65 : decode cX9_spread 65 = .ok (.checkcast 46, 3) := by decide +kernel
theorem dX9_spread_68 : decode cX9_spread 68 = .ok (.invokevirtual 183, 3) := by decide +kernel
theorem dX9_spread_71 : decode cX9_spread 71 = .ok (.ireturn, 1) := by decide +kernel
set_option maxRecDepth 20000 in
theorem ggX9_steadiest_Jx4a65c_size_8abf5 : GoodIn wsX9_steadiest wsJx4a65c_size_8abf5 := goodIn_r _ [8, 9, 109, 110, 111] (by decide +kernel) (by decide +kernel)
set_option maxRecDepth 20000 in
theorem gX9_steadiest_Jx4a65c_size_8abf5_f32Jx4a65c : GoodIn wsX9_steadiest (va_wsF RX9 32 RJx4a65c ⟨"java/util/List", "size", "()I"⟩ yJx4a65c_size_8abf5 wsJx4a65c_size_8abf5) := goodIn_app (goodIn_of _ (by decide +kernel)) ggX9_steadiest_Jx4a65c_size_8abf5
set_option maxRecDepth 20000 in
theorem ggX9_steadiest_Jx4a65c_get_915e3 : GoodIn wsX9_steadiest wsJx4a65c_get_915e3 := goodIn_r _ [13, 9, 14, 15, 16, 17, 18, 19, 20, 21, 22, 23, 24, 7, 25, 26, 109, 110, 111] (by decide +kernel) (by decide +kernel)
set_option maxRecDepth 20000 in
theorem gX9_steadiest_Jx4a65c_get_915e3_f59Jx4a65c : GoodIn wsX9_steadiest (va_wsF RX9 59 RJx4a65c ⟨"java/util/List", "get", "(I)Ljava/lang/Object;"⟩ yJx4a65c_get_915e3 wsJx4a65c_get_915e3) := goodIn_app (goodIn_of _ (by decide +kernel)) ggX9_steadiest_Jx4a65c_get_915e3
set_option maxRecDepth 20000 in
theorem ggX9_steadiest_X8_spread : GoodIn wsX9_steadiest wsX8_spread := goodIn_r _ [31, 32, 33, 34, 35, 36, 37, 38, 39, 40, 41, 42, 43, 44, 7, 45, 46, 47, 48, 49, 50, 51, 52, 53, 54, 55, 56, 57, 58, 59, 60, 61, 62, 63, 64, 65, 66, 67, 68, 69, 70, 71, 72, 73, 74, 75, 76, 77, 78, 79, 95, 96, 97, 98, 99, 100, 101, 102, 103, 104, 105, 106, 107, 108, 112, 113, 114, 115, 109, 110, 111, 116] (by decide +kernel) (by decide +kernel)
set_option maxRecDepth 20000 in
theorem gX9_steadiest_X8_spread : GoodIn wsX9_steadiest (wsV RX9 183 RX8 yX8_spread wsX8_spread) := goodIn_app (goodIn_of _ (by decide +kernel)) ggX9_steadiest_X8_spread
set_option maxRecDepth 20000 in
theorem ggX9_steadiest_X9_no : GoodIn wsX9_steadiest wsX9_no := goodIn_r _ [84, 85, 86, 87, 88, 89, 90, 91, 92, 93, 94] (by decide +kernel) (by decide +kernel)
set_option maxRecDepth 20000 in
theorem gX9_steadiest_X9_no : GoodIn wsX9_steadiest (wsV RX9 42 RX9 yX9_no wsX9_no) := goodIn_app (goodIn_of _ (by decide +kernel)) ggX9_steadiest_X9_no
theorem dX9_steadiest_0 : decode cX9_steadiest 0 = .ok (.iconst (-1), 1) := by decide +kernel
theorem dX9_steadiest_1 : decode cX9_steadiest 1 = .ok (.istore_n 1, 1) := by decide +kernel
theorem dX9_steadiest_2 : decode cX9_steadiest 2 = .ok (.iconst 0, 1) := by decide +kernel
theorem dX9_steadiest_3 : decode cX9_steadiest 3 = .ok (.istore_n 2, 1) := by decide +kernel
theorem dX9_steadiest_4 : decode cX9_steadiest 4 = .ok (.iload_n 2, 1) := by decide +kernel
theorem dX9_steadiest_5 : decode cX9_steadiest 5 = .ok (.aload_n 0, 1) := by decide +kernel
theorem dX9_steadiest_6 : decode cX9_steadiest 6 = .ok (.getfield 10, 3) := by decide +kernel
theorem dX9_steadiest_9 : decode cX9_steadiest 9 = .ok (.invokeinterface 32 1, 5) := by decide +kernel
theorem dX9_steadiest_14 : decode cX9_steadiest 14 = .ok (.if_icmp .ge 85, 3) := by decide +kernel
theorem dX9_steadiest_17 : decode cX9_steadiest 17 = .ok (.aload_n 0, 1) := by decide +kernel
theorem dX9_steadiest_18 : decode cX9_steadiest 18 = .ok (.getfield 10, 3) := by decide +kernel
theorem dX9_steadiest_21 : decode cX9_steadiest 21 = .ok (.iload_n 2, 1) := by decide +kernel
theorem dX9_steadiest_22 : decode cX9_steadiest 22 = .ok (.invokeinterface 59 2, 5) := by decide +kernel
theorem dX9_steadiest_27 : decode cX9_steadiest 27 = .ok (.checkcast 46, 3) := by decide +kernel
theorem dX9_steadiest_30 : decode cX9_steadiest 30 = .ok (.getfield 155, 3) := by decide +kernel
theorem dX9_steadiest_33 : decode cX9_steadiest 33 = .ok (.invokeinterface 32 1, 5) := by decide +kernel
theorem dX9_steadiest_38 : decode cX9_steadiest 38 = .ok (.iconst 1, 1) := by decide +kernel
theorem dX9_steadiest_39 : decode cX9_steadiest 39 = .ok (.if_icmp .le 7, 3) := by decide +kernel
theorem dX9_steadiest_42 : decode cX9_steadiest 42 = .ok (.iconst 1, 1) := by decide +kernel
theorem dX9_steadiest_43 : decode cX9_steadiest 43 = .ok (.goto 4, 3) := by decide +kernel
theorem dX9_steadiest_46 : decode cX9_steadiest 46 = .ok (.iconst 0, 1) := by decide +kernel
theorem dX9_steadiest_47 : decode cX9_steadiest 47 = .ok (.istore_n 3, 1) := by decide +kernel
theorem dX9_steadiest_48 : decode cX9_steadiest 48 = .ok (.iload_n 3, 1) := by decide +kernel
theorem dX9_steadiest_49 : decode cX9_steadiest 49 = .ok (.ifCond .eq 44, 3) := by decide +kernel
theorem dX9_steadiest_52 : decode cX9_steadiest 52 = .ok (.iload_n 1, 1) := by decide +kernel
theorem dX9_steadiest_53 : decode cX9_steadiest 53 = .ok (.ifCond .lt 38, 3) := by decide +kernel
theorem dX9_steadiest_56 : decode cX9_steadiest 56 = .ok (.aload_n 0, 1) := by decide +kernel
theorem dX9_steadiest_57 : decode cX9_steadiest 57 = .ok (.getfield 10, 3) := by decide +kernel
theorem dX9_steadiest_60 : decode cX9_steadiest 60 = .ok (.iload_n 2, 1) := by decide +kernel
theorem dX9_steadiest_61 : decode cX9_steadiest 61 = .ok (.invokeinterface 59 2, 5) := by decide +kernel
theorem dX9_steadiest_66 : decode cX9_steadiest 66 = .ok (.checkcast 46, 3) := by decide +kernel
theorem dX9_steadiest_69 : decode cX9_steadiest 69 = .ok (.invokevirtual 183, 3) := by decide +kernel
theorem dX9_steadiest_72 : decode cX9_steadiest 72 = .ok (.aload_n 0, 1) := by decide +kernel
theorem dX9_steadiest_73 : decode cX9_steadiest 73 = .ok (.getfield 10, 3) := by decide +kernel
theorem dX9_steadiest_76 : decode cX9_steadiest 76 = .ok (.iload_n 1, 1) := by decide +kernel
theorem dX9_steadiest_77 : decode cX9_steadiest 77 = .ok (.invokeinterface 59 2, 5) := by decide +kernel
theorem dX9_steadiest_82 : decode cX9_steadiest 82 = .ok (.checkcast 46, 3) := by decide +kernel
theorem dX9_steadiest_85 : decode cX9_steadiest 85 = .ok (.invokevirtual 183, 3) := by decide +kernel
theorem dX9_steadiest_88 : decode cX9_steadiest 88 = .ok (.if_icmp .ge 5, 3) := by decide +kernel
theorem dX9_steadiest_91 : decode cX9_steadiest 91 = .ok (.iload_n 2, 1) := by decide +kernel
theorem dX9_steadiest_92 : decode cX9_steadiest 92 = .ok (.istore_n 1, 1) := by decide +kernel
theorem dX9_steadiest_93 : decode cX9_steadiest 93 = .ok (.iinc 2 1, 3) := by decide +kernel
theorem dX9_steadiest_96 : decode cX9_steadiest 96 = .ok (.goto (-92), 3) := by decide +kernel
theorem dX9_steadiest_99 : decode cX9_steadiest 99 = .ok (.aload_n 0, 1) := by decide +kernel
theorem dX9_steadiest_100 : decode cX9_steadiest 100 = .ok (.iload_n 1, 1) := by decide +kernel
theorem dX9_steadiest_101 : decode cX9_steadiest 101 = .ok (.ifCond .lt 7, 3) := by decide +kernel
theorem dX9_steadiest_104 : decode cX9_steadiest 104 = .ok (.iconst 1, 1) := by decide +kernel
theorem dX9_steadiest_105 : decode cX9_steadiest 105 = .ok (.goto 4, 3) := by decide +kernel
theorem dX9_steadiest_108 : decode cX9_steadiest 108 = .ok (.iconst 0, 1) := by decide +kernel
theorem dX9_steadiest_109 : decode cX9_steadiest 109 = .ok (.iconst 1, 1) := by decide +kernel
theorem dX9_steadiest_110 : decode cX9_steadiest 110 = .ok (.invokevirtual 42, 3) := by decide +kernel
theorem dX9_steadiest_113 : decode cX9_steadiest 113 = .ok (.ifCond .eq 7, 3) := by decide +kernel
theorem dX9_steadiest_116 : decode cX9_steadiest 116 = .ok (.iconst 0, 1) := by decide +kernel
theorem dX9_steadiest_117 : decode cX9_steadiest 117 = .ok (.goto 4, 3) := by decide +kernel
theorem dX9_steadiest_120 : decode cX9_steadiest 120 = .ok (.iload_n 1, 1) := by decide +kernel
theorem dX9_steadiest_121 : decode cX9_steadiest 121 = .ok (.ireturn, 1) := by decide +kernel
set_option maxRecDepth 20000 in
theorem ggX9_knots_X9_isGlass : GoodIn wsX9_knots wsX9_isGlass := goodIn_r _ [9, 1, 10, 11, 12, 13, 14, 15, 16, 17, 8, 18, 51, 52, 53, 54, 55, 56, 57, 58, 59, 74, 75, 76] (by decide +kernel) (by decide +kernel)
set_option maxRecDepth 20000 in
theorem gX9_knots_X9_isGlass : GoodIn wsX9_knots (wsV RX9 55 RX9 yX9_isGlass wsX9_isGlass) := goodIn_app (goodIn_of _ (by decide +kernel)) ggX9_knots_X9_isGlass
set_option maxRecDepth 20000 in
theorem ggX9_knots_X9_no : GoodIn wsX9_knots wsX9_no := goodIn_r _ [22, 23, 51, 52, 53, 54, 55, 56, 57, 58, 59] (by decide +kernel) (by decide +kernel)
set_option maxRecDepth 20000 in
theorem gX9_knots_X9_no : GoodIn wsX9_knots (wsV RX9 42 RX9 yX9_no wsX9_no) := goodIn_app (goodIn_of _ (by decide +kernel)) ggX9_knots_X9_no
set_option maxRecDepth 20000 in
theorem ggX9_knots_X9_isIn : GoodIn wsX9_knots wsX9_isIn := goodIn_r _ [18] (by decide +kernel) (by decide +kernel)
set_option maxRecDepth 20000 in
theorem gX9_knots_X9_isIn : GoodIn wsX9_knots (va_wsS RX9 38 yX9_isIn wsX9_isIn) := goodIn_app (goodIn_of _ (by decide +kernel)) ggX9_knots_X9_isIn
set_option maxRecDepth 20000 in
theorem ggX9_knots_Jx4a65c_get_915e3 : GoodIn wsX9_knots wsJx4a65c_get_915e3 := goodIn_r _ [27, 15, 28, 29, 30, 31, 32, 33, 34, 35, 36, 37, 38, 13, 39, 40, 74, 75, 76] (by decide +kernel) (by decide +kernel)
set_option maxRecDepth 20000 in
theorem gX9_knots_Jx4a65c_get_915e3_f59Jx4a65c : GoodIn wsX9_knots (va_wsF RX9 59 RJx4a65c ⟨"java/util/List", "get", "(I)Ljava/lang/Object;"⟩ yJx4a65c_get_915e3 wsJx4a65c_get_915e3) := goodIn_app (goodIn_of _ (by decide +kernel)) ggX9_knots_Jx4a65c_get_915e3
set_option maxRecDepth 20000 in
theorem ggX9_knots_Jx4a65c_isEmpty_aae02 : GoodIn wsX9_knots wsJx4a65c_isEmpty_aae02 := goodIn_r _ [44, 15, 74, 75, 76] (by decide +kernel) (by decide +kernel)
set_option maxRecDepth 20000 in
theorem gX9_knots_Jx4a65c_isEmpty_aae02_f180Jx4a65c : GoodIn wsX9_knots (va_wsF RX9 180 RJx4a65c ⟨"java/util/List", "isEmpty", "()Z"⟩ yJx4a65c_isEmpty_aae02 wsJx4a65c_isEmpty_aae02) := goodIn_app (goodIn_of _ (by decide +kernel)) ggX9_knots_Jx4a65c_isEmpty_aae02
set_option maxRecDepth 20000 in
theorem ggX9_knots_Jx4a65c_size_8abf5 : GoodIn wsX9_knots wsJx4a65c_size_8abf5 := goodIn_r _ [14, 15, 74, 75, 76] (by decide +kernel) (by decide +kernel)
set_option maxRecDepth 20000 in
theorem gX9_knots_Jx4a65c_size_8abf5_f32Jx4a65c : GoodIn wsX9_knots (va_wsF RX9 32 RJx4a65c ⟨"java/util/List", "size", "()I"⟩ yJx4a65c_size_8abf5 wsJx4a65c_size_8abf5) := goodIn_app (goodIn_of _ (by decide +kernel)) ggX9_knots_Jx4a65c_size_8abf5
set_option maxRecDepth 20000 in
theorem ggX9_knots_J6_intValue_8abf5 : GoodIn wsX9_knots wsJ6_intValue_8abf5 := goodIn_r _ [49, 50, 77] (by decide +kernel) (by decide +kernel)
set_option maxRecDepth 20000 in
theorem gX9_knots_J6_intValue_8abf5 : GoodIn wsX9_knots (wsV RX9 177 RJ6 yJ6_intValue_8abf5 wsJ6_intValue_8abf5) := goodIn_app (goodIn_of _ (by decide +kernel)) ggX9_knots_J6_intValue_8abf5
theorem dX9_knots_0 : decode cX9_knots 0 = .ok (.aload_n 0, 1) := by decide +kernel
theorem dX9_knots_1 : decode cX9_knots 1 = .ok (.aload_n 0, 1) := by decide +kernel
theorem dX9_knots_2 : decode cX9_knots 2 = .ok (.iload_n 1, 1) := by decide +kernel
theorem dX9_knots_3 : decode cX9_knots 3 = .ok (.invokevirtual 55, 3) := by decide +kernel
theorem dX9_knots_6 : decode cX9_knots 6 = .ok (.iconst 1, 1) := by decide +kernel
theorem dX9_knots_7 : decode cX9_knots 7 = .ok (.invokevirtual 42, 3) := by decide +kernel
theorem dX9_knots_10 : decode cX9_knots 10 = .ok (.ifCond .ne 55, 3) := by decide +kernel
theorem dX9_knots_13 : decode cX9_knots 13 = .ok (.aload_n 0, 1) := by decide +kernel
theorem dX9_knots_14 : decode cX9_knots 14 = .ok (.iload_n 2, 1) := by decide +kernel
theorem dX9_knots_15 : decode cX9_knots 15 = .ok (.iconst 0, 1) := by decide +kernel
theorem dX9_knots_16 : decode cX9_knots 16 = .ok (.bipush 99, 2) := by decide +kernel
theorem dX9_knots_18 : decode cX9_knots 18 = .ok (.invokestatic 38, 3) := by decide +kernel
theorem dX9_knots_21 : decode cX9_knots 21 = .ok (.iconst 2, 1) := by decide +kernel
theorem dX9_knots_22 : decode cX9_knots 22 = .ok (.invokevirtual 42, 3) := by decide +kernel
theorem dX9_knots_25 : decode cX9_knots 25 = .ok (.ifCond .ne 40, 3) := by decide +kernel
theorem dX9_knots_28 : decode cX9_knots 28 = .ok (.aload_n 0, 1) := by decide +kernel
theorem dX9_knots_29 : decode cX9_knots 29 = .ok (.aload_n 0, 1) := by decide +kernel
theorem dX9_knots_30 : decode cX9_knots 30 = .ok (.getfield 10, 3) := by decide +kernel
theorem dX9_knots_33 : decode cX9_knots 33 = .ok (.iload_n 1, 1) := by decide +kernel
theorem dX9_knots_34 : decode cX9_knots 34 = .ok (.invokeinterface 59 2, 5) := by decide +kernel
theorem dX9_knots_39 : decode cX9_knots 39 = .ok (.checkcast 46, 3) := by decide +kernel
theorem dX9_knots_42 : decode cX9_knots 42 = .ok (.getfield 155, 3) := by decide +kernel
theorem dX9_knots_45 : decode cX9_knots 45 = .ok (.invokeinterface 180 1, 5) := by decide +kernel
theorem dX9_knots_50 : decode cX9_knots 50 = .ok (.ifCond .ne 7, 3) := by decide +kernel
theorem dX9_knots_53 : decode cX9_knots 53 = .ok (.iconst 1, 1) := by decide +kernel
theorem dX9_knots_54 : decode cX9_knots 54 = .ok (.goto 4, 3) := by decide +kernel
theorem dX9_knots_57 : decode cX9_knots 57 = .ok (.iconst 0, 1) := by decide +kernel
theorem dX9_knots_58 : decode cX9_knots 58 = .ok (.iconst 3, 1) := by decide +kernel
theorem dX9_knots_59 : decode cX9_knots 59 = .ok (.invokevirtual 42, 3) := by decide +kernel
theorem dX9_knots_62 : decode cX9_knots 62 = .ok (.ifCond .eq 5, 3) := by decide +kernel
theorem dX9_knots_65 : decode cX9_knots 65 = .ok (.iconst 0, 1) := by decide +kernel
theorem dX9_knots_66 : decode cX9_knots 66 = .ok (.ireturn, 1) := by decide +kernel
theorem dX9_knots_67 : decode cX9_knots 67 = .ok (.aload_n 0, 1) := by decide +kernel
theorem dX9_knots_68 : decode cX9_knots 68 = .ok (.getfield 10, 3) := by decide +kernel
theorem dX9_knots_71 : decode cX9_knots 71 = .ok (.iload_n 1, 1) := by decide +kernel
theorem dX9_knots_72 : decode cX9_knots 72 = .ok (.invokeinterface 59 2, 5) := by decide +kernel
theorem dX9_knots_77 : decode cX9_knots 77 = .ok (.checkcast 46, 3) := by decide +kernel
theorem dX9_knots_80 : decode cX9_knots 80 = .ok (.getfield 155, 3) := by decide +kernel
theorem dX9_knots_83 : decode cX9_knots 83 = .ok (.astore_n 3, 1) := by decide +kernel
theorem dX9_knots_84 : decode cX9_knots 84 = .ok (.iload_n 2, 1) := by decide +kernel
theorem dX9_knots_85 : decode cX9_knots 85 = .ok (.sipush 280, 3) := by decide +kernel
theorem dX9_knots_88 : decode cX9_knots 88 = .ok (.imul, 1) := by decide +kernel
theorem dX9_knots_89 : decode cX9_knots 89 = .ok (.aload_n 3, 1) := by decide +kernel
theorem dX9_knots_90 : decode cX9_knots 90 = .ok (.aload_n 3, 1) := by decide +kernel
theorem dX9_knots_91 : decode cX9_knots 91 = .ok (.invokeinterface 32 1, 5) := by decide +kernel
theorem dX9_knots_96 : decode cX9_knots 96 = .ok (.iconst 1, 1) := by decide +kernel
theorem dX9_knots_97 : decode cX9_knots 97 = .ok (.isub, 1) := by decide +kernel
theorem dX9_knots_98 : decode cX9_knots 98 = .ok (.invokeinterface 59 2, 5) := by decide +kernel
theorem dX9_knots_103 : decode cX9_knots 103 = .ok (.checkcast 159, 3) := by decide +kernel
theorem dX9_knots_106 : decode cX9_knots 106 = .ok (.invokevirtual 177, 3) := by decide +kernel
theorem dX9_knots_109 : decode cX9_knots 109 = .ok (.idiv, 1) := by decide +kernel
theorem dX9_knots_110 : decode cX9_knots 110 = .ok (.ireturn, 1) := by decide +kernel
set_option maxRecDepth 20000 in
theorem ggX9_tell_X9_isIn : GoodIn wsX9_tell wsX9_isIn := goodIn_r _ [5] (by decide +kernel) (by decide +kernel)
set_option maxRecDepth 20000 in
theorem gX9_tell_X9_isIn : GoodIn wsX9_tell (va_wsS RX9 38 yX9_isIn wsX9_isIn) := goodIn_app (goodIn_of _ (by decide +kernel)) ggX9_tell_X9_isIn
set_option maxRecDepth 20000 in
theorem ggX9_tell_X9_no : GoodIn wsX9_tell wsX9_no := goodIn_r _ [9, 10, 93, 94, 95, 96, 97, 98, 99, 100, 101] (by decide +kernel) (by decide +kernel)
set_option maxRecDepth 20000 in
theorem gX9_tell_X9_no : GoodIn wsX9_tell (wsV RX9 42 RX9 yX9_no wsX9_no) := goodIn_app (goodIn_of _ (by decide +kernel)) ggX9_tell_X9_no
set_option maxRecDepth 20000 in
theorem ggX9_tell_Jx4a65c_size_8abf5 : GoodIn wsX9_tell wsJx4a65c_size_8abf5 := goodIn_r _ [15, 16, 102, 103, 104] (by decide +kernel) (by decide +kernel)
set_option maxRecDepth 20000 in
theorem gX9_tell_Jx4a65c_size_8abf5_f32Jx4a65c : GoodIn wsX9_tell (va_wsF RX9 32 RJx4a65c ⟨"java/util/List", "size", "()I"⟩ yJx4a65c_size_8abf5 wsJx4a65c_size_8abf5) := goodIn_app (goodIn_of _ (by decide +kernel)) ggX9_tell_Jx4a65c_size_8abf5
set_option maxRecDepth 20000 in
theorem ggX9_tell_J6_valueOf_2dffe : GoodIn wsX9_tell wsJ6_valueOf_2dffe := goodIn_r _ [20, 21, 22, 23, 24, 19, 25, 26, 27, 28, 29, 30, 31, 32, 33, 34, 35, 105] (by decide +kernel) (by decide +kernel)
set_option maxRecDepth 20000 in
theorem gX9_tell_J6_valueOf_2dffe : GoodIn wsX9_tell (va_wsS RX9 158 yJ6_valueOf_2dffe wsJ6_valueOf_2dffe) := goodIn_app (goodIn_of _ (by decide +kernel)) ggX9_tell_J6_valueOf_2dffe
set_option maxRecDepth 20000 in
theorem ggX9_tell_Jx4a65c_add_9ea2d : GoodIn wsX9_tell wsJx4a65c_add_9ea2d := goodIn_r _ [39, 40, 41, 42, 16, 43, 44, 45, 14, 46, 47, 48, 49, 50, 51, 52, 53, 54, 55, 56, 57, 58, 59, 60, 61, 62, 63, 64, 65, 66, 67, 68, 69, 70, 71, 72, 73, 74, 75, 76, 77, 78, 79, 80, 81, 82, 83, 84, 85, 86, 87, 88, 89, 90, 91, 92, 102, 103, 104, 106, 107, 108, 109] (by decide +kernel) (by decide +kernel)
set_option maxRecDepth 20000 in
theorem gX9_tell_Jx4a65c_add_9ea2d_f51Jx4a65c : GoodIn wsX9_tell (va_wsF RX9 51 RJx4a65c ⟨"java/util/List", "add", "(Ljava/lang/Object;)Z"⟩ yJx4a65c_add_9ea2d wsJx4a65c_add_9ea2d) := goodIn_app (goodIn_of _ (by decide +kernel)) ggX9_tell_Jx4a65c_add_9ea2d
theorem dX9_tell_0 : decode cX9_tell 0 = .ok (.aload_n 0, 1) := by decide +kernel
theorem dX9_tell_1 : decode cX9_tell 1 = .ok (.iload_n 1, 1) := by decide +kernel
theorem dX9_tell_2 : decode cX9_tell 2 = .ok (.iconst 1, 1) := by decide +kernel
theorem dX9_tell_3 : decode cX9_tell 3 = .ok (.bipush 12, 2) := by decide +kernel
theorem dX9_tell_5 : decode cX9_tell 5 = .ok (.invokestatic 38, 3) := by decide +kernel
theorem dX9_tell_8 : decode cX9_tell 8 = .ok (.iconst 1, 1) := by decide +kernel
theorem dX9_tell_9 : decode cX9_tell 9 = .ok (.invokevirtual 42, 3) := by decide +kernel
theorem dX9_tell_12 : decode cX9_tell 12 = .ok (.ifCond .ne 29, 3) := by decide +kernel
theorem dX9_tell_15 : decode cX9_tell 15 = .ok (.aload_n 0, 1) := by decide +kernel
theorem dX9_tell_16 : decode cX9_tell 16 = .ok (.aload_n 0, 1) := by decide +kernel
theorem dX9_tell_17 : decode cX9_tell 17 = .ok (.getfield 19, 3) := by decide +kernel
theorem dX9_tell_20 : decode cX9_tell 20 = .ok (.invokeinterface 32 1, 5) := by decide +kernel
theorem dX9_tell_25 : decode cX9_tell 25 = .ok (.iconst 3, 1) := by decide +kernel
theorem dX9_tell_26 : decode cX9_tell 26 = .ok (.if_icmp .ge 7, 3) := by decide +kernel
theorem dX9_tell_29 : decode cX9_tell 29 = .ok (.iconst 1, 1) := by decide +kernel
theorem dX9_tell_30 : decode cX9_tell 30 = .ok (.goto 4, 3) := by decide +kernel
theorem dX9_tell_33 : decode cX9_tell 33 = .ok (.iconst 0, 1) := by decide +kernel
theorem dX9_tell_34 : decode cX9_tell 34 = .ok (.iconst 2, 1) := by decide +kernel
theorem dX9_tell_35 : decode cX9_tell 35 = .ok (.invokevirtual 42, 3) := by decide +kernel
theorem dX9_tell_38 : decode cX9_tell 38 = .ok (.ifCond .eq 5, 3) := by decide +kernel
theorem dX9_tell_41 : decode cX9_tell 41 = .ok (.iconst 0, 1) := by decide +kernel
theorem dX9_tell_42 : decode cX9_tell 42 = .ok (.ireturn, 1) := by decide +kernel
theorem dX9_tell_43 : decode cX9_tell 43 = .ok (.aload_n 0, 1) := by decide +kernel
theorem dX9_tell_44 : decode cX9_tell 44 = .ok (.getfield 19, 3) := by decide +kernel
theorem dX9_tell_47 : decode cX9_tell 47 = .ok (.iload_n 1, 1) := by decide +kernel
theorem dX9_tell_48 : decode cX9_tell 48 = .ok (.invokestatic 158, 3) := by decide +kernel
theorem dX9_tell_51 : decode cX9_tell 51 = .ok (.invokeinterface 51 2, 5) := by decide +kernel
theorem dX9_tell_56 : decode cX9_tell 56 = .ok (.pop, 1) := by decide +kernel
theorem dX9_tell_57 : decode cX9_tell 57 = .ok (.aload_n 0, 1) := by decide +kernel
theorem dX9_tell_58 : decode cX9_tell 58 = .ok (.getfield 19, 3) := by decide +kernel
theorem dX9_tell_61 : decode cX9_tell 61 = .ok (.invokeinterface 32 1, 5) := by decide +kernel
theorem dX9_tell_66 : decode cX9_tell 66 = .ok (.ireturn, 1) := by decide +kernel
set_option maxRecDepth 20000 in
theorem ggX9_forget_Jx4a65c_size_8abf5 : GoodIn wsX9_forget wsJx4a65c_size_8abf5 := goodIn_r _ [6, 7, 24, 25, 26] (by decide +kernel) (by decide +kernel)
set_option maxRecDepth 20000 in
theorem gX9_forget_Jx4a65c_size_8abf5_f32Jx4a65c : GoodIn wsX9_forget (va_wsF RX9 32 RJx4a65c ⟨"java/util/List", "size", "()I"⟩ yJx4a65c_size_8abf5 wsJx4a65c_size_8abf5) := goodIn_app (goodIn_of _ (by decide +kernel)) ggX9_forget_Jx4a65c_size_8abf5
set_option maxRecDepth 20000 in
theorem ggX9_forget_Jx4a65c_clear_da8c8 : GoodIn wsX9_forget wsJx4a65c_clear_da8c8 := goodIn_r _ [11, 12, 13, 14, 7, 24, 25, 26] (by decide +kernel) (by decide +kernel)
set_option maxRecDepth 20000 in
theorem gX9_forget_Jx4a65c_clear_da8c8_f186Jx4a65c : GoodIn wsX9_forget (va_wsF RX9 186 RJx4a65c ⟨"java/util/List", "clear", "()V"⟩ yJx4a65c_clear_da8c8 wsJx4a65c_clear_da8c8) := goodIn_app (goodIn_of _ (by decide +kernel)) ggX9_forget_Jx4a65c_clear_da8c8
theorem dX9_forget_0 : decode cX9_forget 0 = .ok (.aload_n 0, 1) := by decide +kernel
theorem dX9_forget_1 : decode cX9_forget 1 = .ok (.getfield 19, 3) := by decide +kernel
theorem dX9_forget_4 : decode cX9_forget 4 = .ok (.invokeinterface 32 1, 5) := by decide +kernel
theorem dX9_forget_9 : decode cX9_forget 9 = .ok (.istore_n 1, 1) := by decide +kernel
theorem dX9_forget_10 : decode cX9_forget 10 = .ok (.aload_n 0, 1) := by decide +kernel
theorem dX9_forget_11 : decode cX9_forget 11 = .ok (.getfield 19, 3) := by decide +kernel
theorem dX9_forget_14 : decode cX9_forget 14 = .ok (.invokeinterface 186 1, 5) := by decide +kernel
theorem dX9_forget_19 : decode cX9_forget 19 = .ok (.iload_n 1, 1) := by decide +kernel
theorem dX9_forget_20 : decode cX9_forget 20 = .ok (.ireturn, 1) := by decide +kernel
set_option maxRecDepth 20000 in
theorem ggX9_turned_Jx4a65c_size_8abf5 : GoodIn wsX9_turned wsJx4a65c_size_8abf5 := goodIn_r _ [7, 8, 41, 42, 43] (by decide +kernel) (by decide +kernel)
set_option maxRecDepth 20000 in
theorem gX9_turned_Jx4a65c_size_8abf5_f32Jx4a65c : GoodIn wsX9_turned (va_wsF RX9 32 RJx4a65c ⟨"java/util/List", "size", "()I"⟩ yJx4a65c_size_8abf5 wsJx4a65c_size_8abf5) := goodIn_app (goodIn_of _ (by decide +kernel)) ggX9_turned_Jx4a65c_size_8abf5
set_option maxRecDepth 20000 in
theorem ggX9_turned_Jx4a65c_get_915e3 : GoodIn wsX9_turned wsJx4a65c_get_915e3 := goodIn_r _ [12, 8, 13, 14, 15, 16, 17, 18, 19, 20, 21, 22, 23, 6, 24, 25, 41, 42, 43] (by decide +kernel) (by decide +kernel)
set_option maxRecDepth 20000 in
theorem gX9_turned_Jx4a65c_get_915e3_f59Jx4a65c : GoodIn wsX9_turned (va_wsF RX9 59 RJx4a65c ⟨"java/util/List", "get", "(I)Ljava/lang/Object;"⟩ yJx4a65c_get_915e3 wsJx4a65c_get_915e3) := goodIn_app (goodIn_of _ (by decide +kernel)) ggX9_turned_Jx4a65c_get_915e3
set_option maxRecDepth 20000 in
theorem ggX9_turned_J6_intValue_8abf5 : GoodIn wsX9_turned wsJ6_intValue_8abf5 := goodIn_r _ [30, 31, 44] (by decide +kernel) (by decide +kernel)
set_option maxRecDepth 20000 in
theorem gX9_turned_J6_intValue_8abf5 : GoodIn wsX9_turned (wsV RX9 177 RJ6 yJ6_intValue_8abf5 wsJ6_intValue_8abf5) := goodIn_app (goodIn_of _ (by decide +kernel)) ggX9_turned_J6_intValue_8abf5
theorem dX9_turned_0 : decode cX9_turned 0 = .ok (.iconst 0, 1) := by decide +kernel
theorem dX9_turned_1 : decode cX9_turned 1 = .ok (.istore_n 3, 1) := by decide +kernel
theorem dX9_turned_2 : decode cX9_turned 2 = .ok (.iconst 0, 1) := by decide +kernel
theorem dX9_turned_3 : decode cX9_turned 3 = .ok (.istore 4, 2) := by decide +kernel
theorem dX9_turned_5 : decode cX9_turned 5 = .ok (.iload 4, 2) := by decide +kernel
theorem dX9_turned_7 : decode cX9_turned 7 = .ok (.aload_n 0, 1) := by decide +kernel
theorem dX9_turned_8 : decode cX9_turned 8 = .ok (.getfield 19, 3) := by decide +kernel
theorem dX9_turned_11 : decode cX9_turned 11 = .ok (.invokeinterface 32 1, 5) := by decide +kernel
theorem dX9_turned_16 : decode cX9_turned 16 = .ok (.if_icmp .ge 63, 3) := by decide +kernel
theorem dX9_turned_19 : decode cX9_turned 19 = .ok (.iload_n 1, 1) := by decide +kernel
theorem dX9_turned_20 : decode cX9_turned 20 = .ok (.iconst 4, 1) := by decide +kernel
theorem dX9_turned_21 : decode cX9_turned 21 = .ok (.iload 4, 2) := by decide +kernel
theorem dX9_turned_23 : decode cX9_turned 23 = .ok (.imul, 1) := by decide +kernel
theorem dX9_turned_24 : decode cX9_turned 24 = .ok (.ishr, 1) := by decide +kernel
theorem dX9_turned_25 : decode cX9_turned 25 = .ok (.bipush 15, 2) := by decide +kernel
theorem dX9_turned_27 : decode cX9_turned 27 = .ok (.iand, 1) := by decide +kernel
theorem dX9_turned_28 : decode cX9_turned 28 = .ok (.istore 5, 2) := by decide +kernel
theorem dX9_turned_30 : decode cX9_turned 30 = .ok (.iload_n 3, 1) := by decide +kernel
theorem dX9_turned_31 : decode cX9_turned 31 = .ok (.iload_n 2, 1) := by decide +kernel
theorem dX9_turned_32 : decode cX9_turned 32 = .ok (.iload 4, 2) := by decide +kernel
theorem dX9_turned_34 : decode cX9_turned 34 = .ok (.ishr, 1) := by decide +kernel
theorem dX9_turned_35 : decode cX9_turned 35 = .ok (.iconst 1, 1) := by decide +kernel
theorem dX9_turned_36 : decode cX9_turned 36 = .ok (.iand, 1) := by decide +kernel
theorem dX9_turned_37 : decode cX9_turned 37 = .ok (.iconst 1, 1) := by decide +kernel
theorem dX9_turned_38 : decode cX9_turned 38 = .ok (.if_icmp .ne 26, 3) := by decide +kernel
theorem dX9_turned_41 : decode cX9_turned 41 = .ok (.aload_n 0, 1) := by decide +kernel
theorem dX9_turned_42 : decode cX9_turned 42 = .ok (.getfield 19, 3) := by decide +kernel
theorem dX9_turned_45 : decode cX9_turned 45 = .ok (.iload 4, 2) := by decide +kernel
theorem dX9_turned_47 : decode cX9_turned 47 = .ok (.invokeinterface 59 2, 5) := by decide +kernel
theorem dX9_turned_52 : decode cX9_turned 52 = .ok (.checkcast 159, 3) := by decide +kernel
theorem dX9_turned_55 : decode cX9_turned 55 = .ok (.invokevirtual 177, 3) := by decide +kernel
theorem dX9_turned_58 : decode cX9_turned 58 = .ok (.iload 5, 2) := by decide +kernel
theorem dX9_turned_60 : decode cX9_turned 60 = .ok (.isub, 1) := by decide +kernel
theorem dX9_turned_61 : decode cX9_turned 61 = .ok (.goto 5, 3) := by decide +kernel
theorem dX9_turned_64 : decode cX9_turned 64 = .ok (.iload 5, 2) := by decide +kernel
theorem dX9_turned_66 : decode cX9_turned 66 = .ok (.iconst 4, 1) := by decide +kernel
theorem dX9_turned_67 : decode cX9_turned 67 = .ok (.iload 4, 2) := by decide +kernel
theorem dX9_turned_69 : decode cX9_turned 69 = .ok (.imul, 1) := by decide +kernel
theorem dX9_turned_70 : decode cX9_turned 70 = .ok (.ishl, 1) := by decide +kernel
theorem dX9_turned_71 : decode cX9_turned 71 = .ok (.ior, 1) := by decide +kernel
theorem dX9_turned_72 : decode cX9_turned 72 = .ok (.istore_n 3, 1) := by decide +kernel
theorem dX9_turned_73 : decode cX9_turned 73 = .ok (.iinc 4 1, 3) := by decide +kernel
theorem dX9_turned_76 : decode cX9_turned 76 = .ok (.goto (-71), 3) := by decide +kernel
theorem dX9_turned_79 : decode cX9_turned 79 = .ok (.iload_n 3, 1) := by decide +kernel
theorem dX9_turned_80 : decode cX9_turned 80 = .ok (.ireturn, 1) := by decide +kernel
set_option maxRecDepth 20000 in
theorem ggX9_next_Jx4a65c_size_8abf5 : GoodIn wsX9_next wsJx4a65c_size_8abf5 := goodIn_r _ [10, 11, 21, 22, 23] (by decide +kernel) (by decide +kernel)
set_option maxRecDepth 20000 in
theorem gX9_next_Jx4a65c_size_8abf5_f32Jx4a65c : GoodIn wsX9_next (va_wsF RX9 32 RJx4a65c ⟨"java/util/List", "size", "()I"⟩ yJx4a65c_size_8abf5 wsJx4a65c_size_8abf5) := goodIn_app (goodIn_of _ (by decide +kernel)) ggX9_next_Jx4a65c_size_8abf5
theorem dX9_next_0 : decode cX9_next 0 = .ok (.sipush 1000, 3) := by decide +kernel
theorem dX9_next_3 : decode cX9_next 3 = .ok (.istore_n 2, 1) := by decide +kernel
theorem dX9_next_4 : decode cX9_next 4 = .ok (.iconst 0, 1) := by decide +kernel
theorem dX9_next_5 : decode cX9_next 5 = .ok (.istore_n 3, 1) := by decide +kernel
theorem dX9_next_6 : decode cX9_next 6 = .ok (.iload_n 3, 1) := by decide +kernel
theorem dX9_next_7 : decode cX9_next 7 = .ok (.aload_n 0, 1) := by decide +kernel
theorem dX9_next_8 : decode cX9_next 8 = .ok (.getfield 19, 3) := by decide +kernel
theorem dX9_next_11 : decode cX9_next 11 = .ok (.invokeinterface 32 1, 5) := by decide +kernel
theorem dX9_next_16 : decode cX9_next 16 = .ok (.if_icmp .ge 31, 3) := by decide +kernel
theorem dX9_next_19 : decode cX9_next 19 = .ok (.iload_n 1, 1) := by decide +kernel
theorem dX9_next_20 : decode cX9_next 20 = .ok (.iconst 4, 1) := by decide +kernel
theorem dX9_next_21 : decode cX9_next 21 = .ok (.iload_n 3, 1) := by decide +kernel
theorem dX9_next_22 : decode cX9_next 22 = .ok (.imul, 1) := by decide +kernel
theorem dX9_next_23 : decode cX9_next 23 = .ok (.ishr, 1) := by decide +kernel
theorem dX9_next_24 : decode cX9_next 24 = .ok (.bipush 15, 2) := by decide +kernel
theorem dX9_next_26 : decode cX9_next 26 = .ok (.iand, 1) := by decide +kernel
theorem dX9_next_27 : decode cX9_next 27 = .ok (.istore 4, 2) := by decide +kernel
theorem dX9_next_29 : decode cX9_next 29 = .ok (.iload 4, 2) := by decide +kernel
theorem dX9_next_31 : decode cX9_next 31 = .ok (.ifCond .le 10, 3) := by decide +kernel
theorem dX9_next_34 : decode cX9_next 34 = .ok (.iload_n 2, 1) := by decide +kernel
theorem dX9_next_35 : decode cX9_next 35 = .ok (.iload 4, 2) := by decide +kernel
theorem dX9_next_37 : decode cX9_next 37 = .ok (.invokestatic 189, 3) := by decide +kernel
theorem dX9_next_40 : decode cX9_next 40 = .ok (.istore_n 2, 1) := by decide +kernel
theorem dX9_next_41 : decode cX9_next 41 = .ok (.iinc 3 1, 3) := by decide +kernel
theorem dX9_next_44 : decode cX9_next 44 = .ok (.goto (-38), 3) := by decide +kernel
theorem dX9_next_47 : decode cX9_next 47 = .ok (.iload_n 2, 1) := by decide +kernel
theorem dX9_next_48 : decode cX9_next 48 = .ok (.ireturn, 1) := by decide +kernel
set_option maxRecDepth 20000 in
theorem ggX9_later_Jx4a65c_size_8abf5 : GoodIn wsX9_later wsJx4a65c_size_8abf5 := goodIn_r _ [10, 11, 21, 22, 23] (by decide +kernel) (by decide +kernel)
set_option maxRecDepth 20000 in
theorem gX9_later_Jx4a65c_size_8abf5_f32Jx4a65c : GoodIn wsX9_later (va_wsF RX9 32 RJx4a65c ⟨"java/util/List", "size", "()I"⟩ yJx4a65c_size_8abf5 wsJx4a65c_size_8abf5) := goodIn_app (goodIn_of _ (by decide +kernel)) ggX9_later_Jx4a65c_size_8abf5
theorem dX9_later_0 : decode cX9_later 0 = .ok (.iconst 0, 1) := by decide +kernel
theorem dX9_later_1 : decode cX9_later 1 = .ok (.istore_n 3, 1) := by decide +kernel
theorem dX9_later_2 : decode cX9_later 2 = .ok (.iconst 0, 1) := by decide +kernel
theorem dX9_later_3 : decode cX9_later 3 = .ok (.istore 4, 2) := by decide +kernel
theorem dX9_later_5 : decode cX9_later 5 = .ok (.iload 4, 2) := by decide +kernel
theorem dX9_later_7 : decode cX9_later 7 = .ok (.aload_n 0, 1) := by decide +kernel
theorem dX9_later_8 : decode cX9_later 8 = .ok (.getfield 19, 3) := by decide +kernel
theorem dX9_later_11 : decode cX9_later 11 = .ok (.invokeinterface 32 1, 5) := by decide +kernel
theorem dX9_later_16 : decode cX9_later 16 = .ok (.if_icmp .ge 32, 3) := by decide +kernel
theorem dX9_later_19 : decode cX9_later 19 = .ok (.iload_n 3, 1) := by decide +kernel
theorem dX9_later_20 : decode cX9_later 20 = .ok (.iconst 0, 1) := by decide +kernel
theorem dX9_later_21 : decode cX9_later 21 = .ok (.iload_n 1, 1) := by decide +kernel
theorem dX9_later_22 : decode cX9_later 22 = .ok (.iconst 4, 1) := by decide +kernel
theorem dX9_later_23 : decode cX9_later 23 = .ok (.iload 4, 2) := by decide +kernel
theorem dX9_later_25 : decode cX9_later 25 = .ok (.imul, 1) := by decide +kernel
theorem dX9_later_26 : decode cX9_later 26 = .ok (.ishr, 1) := by decide +kernel
theorem dX9_later_27 : decode cX9_later 27 = .ok (.bipush 15, 2) := by decide +kernel
theorem dX9_later_29 : decode cX9_later 29 = .ok (.iand, 1) := by decide +kernel
theorem dX9_later_30 : decode cX9_later 30 = .ok (.iload_n 2, 1) := by decide +kernel
theorem dX9_later_31 : decode cX9_later 31 = .ok (.isub, 1) := by decide +kernel
theorem dX9_later_32 : decode cX9_later 32 = .ok (.invokestatic 195, 3) := by decide +kernel
theorem dX9_later_35 : decode cX9_later 35 = .ok (.iconst 4, 1) := by decide +kernel
theorem dX9_later_36 : decode cX9_later 36 = .ok (.iload 4, 2) := by decide +kernel
theorem dX9_later_38 : decode cX9_later 38 = .ok (.imul, 1) := by decide +kernel
theorem dX9_later_39 : decode cX9_later 39 = .ok (.ishl, 1) := by decide +kernel
theorem dX9_later_40 : decode cX9_later 40 = .ok (.ior, 1) := by decide +kernel
theorem dX9_later_41 : decode cX9_later 41 = .ok (.istore_n 3, 1) := by decide +kernel
theorem dX9_later_42 : decode cX9_later 42 = .ok (.iinc 4 1, 3) := by decide +kernel
theorem dX9_later_45 : decode cX9_later 45 = .ok (.goto (-40), 3) := by decide +kernel
theorem dX9_later_48 : decode cX9_later 48 = .ok (.iload_n 3, 1) := by decide +kernel
theorem dX9_later_49 : decode cX9_later 49 = .ok (.ireturn, 1) := by decide +kernel
set_option maxRecDepth 20000 in
theorem ggX9_fewest_J6_valueOf_2dffe : GoodIn wsX9_fewest wsJ6_valueOf_2dffe := goodIn_r _ [10, 11, 12, 13, 14, 9, 15, 16, 17, 18, 19, 20, 21, 22, 23, 24, 25, 334] (by decide +kernel) (by decide +kernel)
set_option maxRecDepth 20000 in
theorem gX9_fewest_J6_valueOf_2dffe : GoodIn wsX9_fewest (va_wsS RX9 158 yJ6_valueOf_2dffe wsJ6_valueOf_2dffe) := goodIn_app (goodIn_of _ (by decide +kernel)) ggX9_fewest_J6_valueOf_2dffe
set_option maxRecDepth 20000 in
theorem ggX9_fewest_X13_get : GoodIn wsX9_fewest wsX13_get := goodIn_r _ [30, 31, 32, 33, 34, 29, 35, 36, 37, 38, 39, 40, 41, 42, 43, 44, 45, 46, 47, 48, 49, 50, 51, 52, 53, 54, 55, 9, 56, 18, 57, 58, 59, 60, 61, 62, 63, 64, 65, 66, 67, 68, 69, 70, 71, 72, 73, 74, 75, 76, 77, 78, 79, 80, 81, 82, 83, 84, 85, 86, 87, 88, 89, 90, 91, 92, 93, 94, 95, 96, 97, 98, 99, 100, 101, 102, 103, 104, 105, 106, 107, 108, 109, 110, 111, 112, 113, 114, 115, 116, 117, 118, 119, 120, 121, 122, 123, 124, 125, 126, 127, 128, 129, 130, 131, 132, 133, 134, 135, 136, 137, 138, 139, 140, 141, 142, 143, 144, 145, 146, 147, 148, 149, 150, 151, 152, 153, 154, 155, 156, 157, 158, 159, 160, 161, 162, 335, 336, 337, 338, 339, 340, 341, 342, 343, 344, 345, 346, 347, 348, 349, 350, 351, 352, 353, 354, 355, 356, 357, 334, 358, 359, 360, 361, 362, 363, 364, 365] (by decide +kernel) (by decide +kernel)
set_option maxRecDepth 20000 in
theorem gX9_fewest_X13_get_f198X13 : GoodIn wsX9_fewest (va_wsF RX9 198 RX13 ⟨"java/util/Map", "get", "(Ljava/lang/Object;)Ljava/lang/Object;"⟩ yX13_get wsX13_get) := goodIn_app (goodIn_of _ (by decide +kernel)) ggX9_fewest_X13_get
set_option maxRecDepth 20000 in
theorem ggX9_fewest_J6_intValue_8abf5 : GoodIn wsX9_fewest wsJ6_intValue_8abf5 := goodIn_r _ [134, 18, 334] (by decide +kernel) (by decide +kernel)
set_option maxRecDepth 20000 in
theorem gX9_fewest_J6_intValue_8abf5 : GoodIn wsX9_fewest (wsV RX9 177 RJ6 yJ6_intValue_8abf5 wsJ6_intValue_8abf5) := goodIn_app (goodIn_of _ (by decide +kernel)) ggX9_fewest_J6_intValue_8abf5
set_option maxRecDepth 20000 in
theorem ggX9_fewest_Jx4a65c_size_8abf5 : GoodIn wsX9_fewest wsJx4a65c_size_8abf5 := goodIn_r _ [168, 169, 331, 332, 333] (by decide +kernel) (by decide +kernel)
set_option maxRecDepth 20000 in
theorem gX9_fewest_Jx4a65c_size_8abf5_f32Jx4a65c : GoodIn wsX9_fewest (va_wsF RX9 32 RJx4a65c ⟨"java/util/List", "size", "()I"⟩ yJx4a65c_size_8abf5 wsJx4a65c_size_8abf5) := goodIn_app (goodIn_of _ (by decide +kernel)) ggX9_fewest_Jx4a65c_size_8abf5
set_option maxRecDepth 20000 in
theorem ggX9_fewest_X9_by : GoodIn wsX9_fewest wsX9_by := goodIn_r _ [280, 3, 4, 5, 6, 281, 282, 283, 173, 284, 2, 1, 164, 165, 166, 167, 168, 169, 285, 286, 287, 288, 289, 290, 291, 292, 293, 294, 295, 296, 297, 298, 299, 300, 301, 163, 132, 133, 9, 134, 18, 302, 303, 304, 305, 306, 307, 308, 309, 310, 311, 312, 313, 314, 315, 316, 317, 318, 319, 320, 321, 0, 7, 8, 10, 11, 12, 13, 14, 15, 16, 17, 19, 20, 21, 22, 23, 24, 25, 26, 27, 28, 29, 30, 31, 32, 33, 34, 35, 36, 37, 38, 39, 40, 41, 42, 43, 44, 45, 46, 47, 48, 49, 50, 51, 52, 53, 54, 55, 56, 57, 58, 59, 60, 61, 62, 63, 64, 65, 66, 67, 68, 69, 70, 71, 72, 73, 74, 75, 76, 77, 78, 79, 80, 81, 82, 83, 84, 85, 86, 87, 88, 89, 90, 91, 92, 93, 94, 95, 96, 97, 98, 99, 100, 101, 102, 103, 104, 105, 106, 107, 108, 109, 110, 111, 112, 113, 114, 115, 116, 117, 118, 119, 120, 121, 122, 123, 124, 125, 126, 127, 128, 129, 130, 131, 135, 136, 137, 138, 139, 140, 141, 142, 143, 144, 145, 146, 147, 148, 149, 150, 151, 152, 153, 154, 155, 156, 157, 158, 159, 160, 161, 162, 170, 171, 172, 174, 175, 176, 177, 178, 179, 180, 181, 182, 183, 184, 185, 186, 187, 188, 189, 190, 191, 192, 193, 194, 195, 196, 197, 198, 199, 200, 201, 202, 203, 204, 205, 206, 207, 208, 209, 210, 211, 212, 213, 214, 215, 216, 217, 218, 219, 220, 221, 222, 223, 224, 225, 226, 227, 228, 229, 230, 231, 232, 233, 234, 235, 236, 237, 238, 239, 240, 241, 242, 243, 244, 245, 246, 247, 248, 249, 250, 251, 252, 253, 254, 255, 256, 257, 258, 259, 260, 261, 262, 263, 264, 265, 266, 267, 268, 269, 270, 271, 272, 273, 274, 275, 276, 277, 278, 279, 322, 323, 324, 325, 326, 327, 328, 329, 330, 331, 332, 333, 334, 335, 336, 337, 338, 339, 340, 341, 342, 343, 344, 345, 346, 347, 348, 349, 350, 351, 352, 353, 354, 355, 356, 357, 358, 359, 360, 361, 362, 363, 364, 365] (by decide +kernel) (by decide +kernel)
set_option maxRecDepth 20000 in
theorem gX9_fewest_X9_by : GoodIn wsX9_fewest (wsV RX9 203 RX9 yX9_by wsX9_by) := goodIn_app (goodIn_of _ (by decide +kernel)) ggX9_fewest_X9_by
set_option maxRecDepth 20000 in
theorem ggX9_fewest_X13_put : GoodIn wsX9_fewest wsX13_put := goodIn_r _ [177, 41, 42, 29, 43, 44, 45, 46, 47, 48, 49, 50, 51, 52, 53, 54, 55, 9, 56, 18, 57, 58, 59, 60, 61, 62, 63, 64, 65, 66, 67, 68, 69, 70, 71, 72, 73, 74, 75, 76, 77, 78, 79, 80, 81, 82, 83, 84, 85, 86, 87, 88, 89, 90, 91, 92, 93, 94, 95, 96, 97, 98, 99, 100, 101, 102, 103, 104, 105, 106, 107, 108, 109, 110, 111, 112, 113, 114, 115, 116, 178, 179, 180, 181, 36, 37, 38, 40, 39, 31, 182, 183, 184, 185, 186, 187, 188, 189, 190, 191, 192, 193, 194, 195, 196, 145, 197, 198, 199, 200, 158, 159, 201, 202, 203, 204, 205, 206, 207, 208, 209, 210, 211, 212, 213, 214, 215, 216, 24, 25, 217, 218, 219, 220, 221, 222, 223, 224, 157, 156, 147, 225, 160, 161, 226, 227, 228, 229, 230, 231, 232, 233, 234, 235, 236, 237, 238, 239, 240, 241, 242, 117, 118, 119, 120, 121, 122, 123, 124, 125, 126, 127, 128, 129, 130, 131, 132, 133, 134, 135, 136, 137, 138, 139, 140, 141, 243, 244, 245, 246, 148, 149, 150, 151, 162, 247, 248, 249, 250, 251, 252, 253, 254, 255, 256, 257, 258, 259, 260, 261, 262, 263, 264, 265, 266, 267, 268, 269, 270, 271, 272, 273, 274, 275, 276, 277, 278, 279, 334, 358, 359, 360, 361, 362, 363, 364, 365, 350, 351, 352, 353, 354, 355, 356, 357, 335, 336, 337, 338, 339, 340, 341, 342, 343, 344, 345, 346, 347, 348, 349] (by decide +kernel) (by decide +kernel)
set_option maxRecDepth 20000 in
theorem gX9_fewest_X13_put_f207X13 : GoodIn wsX9_fewest (va_wsF RX9 207 RX13 ⟨"java/util/Map", "put", "(Ljava/lang/Object;Ljava/lang/Object;)Ljava/lang/Object;"⟩ yX13_put wsX13_put) := goodIn_app (goodIn_of _ (by decide +kernel)) ggX9_fewest_X13_put
theorem dX9_fewest_0 : decode cX9_fewest 0 = .ok (.aload_n 3, 1) := by decide +kernel
theorem dX9_fewest_1 : decode cX9_fewest 1 = .ok (.bipush 64, 2) := by decide +kernel
theorem dX9_fewest_3 : decode cX9_fewest 3 = .ok (.iload_n 1, 1) := by decide +kernel
theorem dX9_fewest_4 : decode cX9_fewest 4 = .ok (.imul, 1) := by decide +kernel
theorem dX9_fewest_5 : decode cX9_fewest 5 = .ok (.iload_n 2, 1) := by decide +kernel
theorem dX9_fewest_6 : decode cX9_fewest 6 = .ok (.iadd, 1) := by decide +kernel
theorem dX9_fewest_7 : decode cX9_fewest 7 = .ok (.invokestatic 158, 3) := by decide +kernel
theorem dX9_fewest_10 : decode cX9_fewest 10 = .ok (.invokeinterface 198 2, 5) := by decide +kernel
theorem dX9_fewest_15 : decode cX9_fewest 15 = .ok (.checkcast 159, 3) := by decide +kernel
theorem dX9_fewest_18 : decode cX9_fewest 18 = .ok (.astore 4, 2) := by decide +kernel
theorem dX9_fewest_20 : decode cX9_fewest 20 = .ok (.aload 4, 2) := by decide +kernel
theorem dX9_fewest_22 : decode cX9_fewest 22 = .ok (.ifnull 9, 3) := by decide +kernel
theorem dX9_fewest_25 : decode cX9_fewest 25 = .ok (.aload 4, 2) := by decide +kernel
theorem dX9_fewest_27 : decode cX9_fewest 27 = .ok (.invokevirtual 177, 3) := by decide +kernel
theorem dX9_fewest_30 : decode cX9_fewest 30 = .ok (.ireturn, 1) := by decide +kernel
theorem dX9_fewest_31 : decode cX9_fewest 31 = .ok (.sipush 1000, 3) := by decide +kernel
theorem dX9_fewest_34 : decode cX9_fewest 34 = .ok (.istore 5, 2) := by decide +kernel
theorem dX9_fewest_36 : decode cX9_fewest 36 = .ok (.iconst 0, 1) := by decide +kernel
theorem dX9_fewest_37 : decode cX9_fewest 37 = .ok (.istore 6, 2) := by decide +kernel
theorem dX9_fewest_39 : decode cX9_fewest 39 = .ok (.iload 6, 2) := by decide +kernel
theorem dX9_fewest_41 : decode cX9_fewest 41 = .ok (.iconst 1, 1) := by decide +kernel
theorem dX9_fewest_42 : decode cX9_fewest 42 = .ok (.aload_n 0, 1) := by decide +kernel
theorem dX9_fewest_43 : decode cX9_fewest 43 = .ok (.getfield 19, 3) := by decide +kernel
theorem dX9_fewest_46 : decode cX9_fewest 46 = .ok (.invokeinterface 32 1, 5) := by decide +kernel
theorem dX9_fewest_51 : decode cX9_fewest 51 = .ok (.ishl, 1) := by decide +kernel
theorem dX9_fewest_52 : decode cX9_fewest 52 = .ok (.if_icmp .ge 25, 3) := by decide +kernel
theorem dX9_fewest_55 : decode cX9_fewest 55 = .ok (.iload 5, 2) := by decide +kernel
theorem dX9_fewest_57 : decode cX9_fewest 57 = .ok (.aload_n 0, 1) := by decide +kernel
theorem dX9_fewest_58 : decode cX9_fewest 58 = .ok (.iload_n 1, 1) := by decide +kernel
theorem dX9_fewest_59 : decode cX9_fewest 59 = .ok (.iload_n 2, 1) := by decide +kernel
theorem dX9_fewest_60 : decode cX9_fewest 60 = .ok (.iload 6, 2) := by decide +kernel
theorem dX9_fewest_62 : decode cX9_fewest 62 = .ok (.aload_n 3, 1) := by decide +kernel
theorem dX9_fewest_63 : decode cX9_fewest 63 = .ok (.invokevirtual 203, 3) := by decide +kernel
theorem dX9_fewest_66 : decode cX9_fewest 66 = .ok (.invokestatic 189, 3) := by decide +kernel
theorem dX9_fewest_69 : decode cX9_fewest 69 = .ok (.istore 5, 2) := by decide +kernel
theorem dX9_fewest_71 : decode cX9_fewest 71 = .ok (.iinc 6 1, 3) := by decide +kernel
theorem dX9_fewest_74 : decode cX9_fewest 74 = .ok (.goto (-35), 3) := by decide +kernel
theorem dX9_fewest_77 : decode cX9_fewest 77 = .ok (.aload_n 3, 1) := by decide +kernel
theorem dX9_fewest_78 : decode cX9_fewest 78 = .ok (.bipush 64, 2) := by decide +kernel
theorem dX9_fewest_80 : decode cX9_fewest 80 = .ok (.iload_n 1, 1) := by decide +kernel
theorem dX9_fewest_81 : decode cX9_fewest 81 = .ok (.imul, 1) := by decide +kernel
theorem dX9_fewest_82 : decode cX9_fewest 82 = .ok (.iload_n 2, 1) := by decide +kernel
theorem dX9_fewest_83 : decode cX9_fewest 83 = .ok (.iadd, 1) := by decide +kernel
theorem dX9_fewest_84 : decode cX9_fewest 84 = .ok (.invokestatic 158, 3) := by decide +kernel
theorem dX9_fewest_87 : decode cX9_fewest 87 = .ok (.iload 5, 2) := by decide +kernel
theorem dX9_fewest_89 : decode cX9_fewest 89 = .ok (.invokestatic 158, 3) := by decide +kernel
theorem dX9_fewest_92 : decode cX9_fewest 92 = .ok (.invokeinterface 207 3, 5) := by decide +kernel
theorem dX9_fewest_97 : decode cX9_fewest 97 = .ok (.pop, 1) := by decide +kernel
theorem dX9_fewest_98 : decode cX9_fewest 98 = .ok (.iload 5, 2) := by decide +kernel
theorem dX9_fewest_100 : decode cX9_fewest 100 = .ok (.ireturn, 1) := by decide +kernel
set_option maxRecDepth 20000 in
theorem ggX9_by_X9_turned : GoodIn wsX9_by wsX9_turned := goodIn_r _ [9, 10, 11, 12, 13, 14, 15, 16, 17, 18, 19, 20, 21, 22, 23, 24, 25, 26, 27, 28, 29, 30, 31, 32, 33, 34, 35, 36, 37, 38, 39, 40, 322, 323, 324, 325, 326, 327, 328, 329, 330, 331, 332, 333, 334] (by decide +kernel) (by decide +kernel)
set_option maxRecDepth 20000 in
theorem gX9_by_X9_turned : GoodIn wsX9_by (wsV RX9 211 RX9 yX9_turned wsX9_turned) := goodIn_app (goodIn_of _ (by decide +kernel)) ggX9_by_X9_turned
set_option maxRecDepth 20000 in
theorem ggX9_by_X9_next : GoodIn wsX9_by wsX9_next := goodIn_r _ [44, 10, 1, 2, 3, 4, 12, 13, 14, 15, 16, 17, 322, 323, 324, 325, 326, 327, 328, 329, 330, 331, 332, 333] (by decide +kernel) (by decide +kernel)
set_option maxRecDepth 20000 in
theorem gX9_by_X9_next : GoodIn wsX9_by (wsV RX9 214 RX9 yX9_next wsX9_next) := goodIn_app (goodIn_of _ (by decide +kernel)) ggX9_by_X9_next
set_option maxRecDepth 20000 in
theorem ggX9_by_J6_bitCount_0f7a4 : GoodIn wsX9_by wsJ6_bitCount_0f7a4 := goodIn_r _ [47, 48, 49, 50] (by decide +kernel) (by decide +kernel)
set_option maxRecDepth 20000 in
theorem gX9_by_J6_bitCount_0f7a4 : GoodIn wsX9_by (va_wsS RX9 216 yJ6_bitCount_0f7a4 wsJ6_bitCount_0f7a4) := goodIn_app (goodIn_of _ (by decide +kernel)) ggX9_by_J6_bitCount_0f7a4
set_option maxRecDepth 20000 in
theorem ggX9_by_X9_later : GoodIn wsX9_by wsX9_later := goodIn_r _ [54, 10, 55, 56, 3, 57, 12, 13, 14, 15, 16, 17, 322, 323, 324, 325, 326, 327, 328, 329, 330, 331, 332, 333] (by decide +kernel) (by decide +kernel)
set_option maxRecDepth 20000 in
theorem gX9_by_X9_later : GoodIn wsX9_by (wsV RX9 219 RX9 yX9_later wsX9_later) := goodIn_app (goodIn_of _ (by decide +kernel)) ggX9_by_X9_later
set_option maxRecDepth 20000 in
theorem ggX9_by_X9_fewest : GoodIn wsX9_by wsX9_fewest := goodIn_r _ [61, 11, 10, 1, 2, 3, 4, 62, 63, 38, 64, 65, 66, 67, 68, 69, 70, 71, 40, 72, 73, 74, 75, 76, 77, 78, 79, 80, 81, 82, 83, 84, 85, 86, 87, 88, 89, 90, 91, 92, 93, 94, 95, 96, 97, 98, 99, 100, 101, 102, 103, 104, 105, 106, 107, 108, 109, 110, 111, 112, 113, 114, 115, 116, 117, 118, 119, 120, 121, 122, 123, 124, 125, 126, 127, 128, 129, 130, 131, 132, 133, 134, 135, 136, 137, 138, 139, 140, 141, 142, 143, 144, 145, 146, 147, 148, 149, 150, 151, 152, 153, 154, 155, 156, 157, 158, 159, 160, 161, 162, 163, 164, 165, 166, 167, 168, 169, 170, 171, 172, 173, 174, 175, 176, 177, 178, 179, 180, 181, 182, 183, 184, 36, 37, 39, 185, 186, 187, 188, 189, 190, 191, 192, 193, 194, 195, 196, 197, 198, 199, 200, 201, 202, 203, 204, 205, 206, 207, 208, 209, 210, 211, 212, 35, 12, 13, 14, 15, 16, 17, 213, 214, 215, 8, 216, 217, 218, 219, 220, 221, 222, 223, 224, 225, 226, 227, 228, 229, 230, 231, 232, 233, 234, 235, 236, 237, 238, 239, 240, 241, 242, 243, 244, 245, 246, 247, 248, 249, 250, 251, 252, 253, 254, 255, 256, 257, 258, 259, 260, 261, 262, 263, 264, 265, 266, 267, 268, 269, 270, 271, 272, 273, 274, 275, 276, 277, 278, 279, 280, 281, 282, 283, 284, 285, 286, 287, 288, 289, 290, 291, 292, 293, 294, 295, 296, 297, 298, 299, 300, 301, 302, 303, 304, 305, 306, 307, 308, 309, 310, 311, 312, 313, 314, 315, 316, 317, 318, 319, 320, 321, 0, 5, 6, 7, 9, 18, 19, 20, 21, 22, 23, 24, 25, 26, 27, 28, 29, 30, 31, 32, 33, 34, 41, 42, 43, 44, 45, 46, 47, 48, 49, 50, 51, 52, 53, 54, 55, 56, 57, 58, 59, 60, 322, 323, 324, 325, 326, 327, 328, 329, 330, 331, 332, 333, 334, 335, 336, 337, 338, 339, 340, 341, 342, 343, 344, 345, 346, 347, 348, 349, 350, 351, 352, 353, 354, 355, 356, 357, 358, 359, 360, 361, 362, 363, 364, 365] (by decide +kernel) (by decide +kernel)
set_option maxRecDepth 20000 in
theorem gX9_by_X9_fewest : GoodIn wsX9_by (wsV RX9 222 RX9 yX9_fewest wsX9_fewest) := goodIn_app (goodIn_of _ (by decide +kernel)) ggX9_by_X9_fewest
theorem dX9_by_0 : decode cX9_by 0 = .ok (.aload_n 0, 1) := by decide +kernel
theorem dX9_by_1 : decode cX9_by 1 = .ok (.iload_n 1, 1) := by decide +kernel
theorem dX9_by_2 : decode cX9_by 2 = .ok (.iload_n 3, 1) := by decide +kernel
theorem dX9_by_3 : decode cX9_by 3 = .ok (.invokevirtual 211, 3) := by decide +kernel
theorem dX9_by_6 : decode cX9_by 6 = .ok (.istore 5, 2) := by decide +kernel
theorem dX9_by_8 : decode cX9_by 8 = .ok (.aload_n 0, 1) := by decide +kernel
theorem dX9_by_9 : decode cX9_by 9 = .ok (.iload 5, 2) := by decide +kernel
theorem dX9_by_11 : decode cX9_by 11 = .ok (.invokevirtual 214, 3) := by decide +kernel
theorem dX9_by_14 : decode cX9_by 14 = .ok (.istore 6, 2) := by decide +kernel
theorem dX9_by_16 : decode cX9_by 16 = .ok (.iload_n 3, 1) := by decide +kernel
theorem dX9_by_17 : decode cX9_by 17 = .ok (.invokestatic 216, 3) := by decide +kernel
theorem dX9_by_20 : decode cX9_by 20 = .ok (.istore 7, 2) := by decide +kernel
theorem dX9_by_22 : decode cX9_by 22 = .ok (.iload 6, 2) := by decide +kernel
theorem dX9_by_24 : decode cX9_by 24 = .ok (.iload_n 2, 1) := by decide +kernel
theorem dX9_by_25 : decode cX9_by 25 = .ok (.if_icmp .le 7, 3) := by decide +kernel
theorem dX9_by_28 : decode cX9_by 28 = .ok (.sipush 1000, 3) := by decide +kernel
theorem dX9_by_31 : decode cX9_by 31 = .ok (.ireturn, 1) := by decide +kernel
theorem dX9_by_32 : decode cX9_by 32 = .ok (.iload 6, 2) := by decide +kernel
theorem dX9_by_34 : decode cX9_by 34 = .ok (.iload_n 2, 1) := by decide +kernel
theorem dX9_by_35 : decode cX9_by 35 = .ok (.if_icmp .ne 6, 3) := by decide +kernel
theorem dX9_by_38 : decode cX9_by 38 = .ok (.iload 7, 2) := by decide +kernel
theorem dX9_by_40 : decode cX9_by 40 = .ok (.ireturn, 1) := by decide +kernel
theorem dX9_by_41 : decode cX9_by 41 = .ok (.sipush 1000, 3) := by decide +kernel
theorem dX9_by_44 : decode cX9_by 44 = .ok (.iload 7, 2) := by decide +kernel
theorem dX9_by_46 : decode cX9_by 46 = .ok (.aload_n 0, 1) := by decide +kernel
theorem dX9_by_47 : decode cX9_by 47 = .ok (.aload_n 0, 1) := by decide +kernel
theorem dX9_by_48 : decode cX9_by 48 = .ok (.iload 5, 2) := by decide +kernel
theorem dX9_by_50 : decode cX9_by 50 = .ok (.iload 6, 2) := by decide +kernel
theorem dX9_by_52 : decode cX9_by 52 = .ok (.invokevirtual 219, 3) := by decide +kernel
theorem dX9_by_55 : decode cX9_by 55 = .ok (.iload_n 2, 1) := by decide +kernel
theorem dX9_by_56 : decode cX9_by 56 = .ok (.iload 6, 2) := by decide +kernel
theorem dX9_by_58 : decode cX9_by 58 = .ok (.isub, 1) := by decide +kernel
theorem dX9_by_59 : decode cX9_by 59 = .ok (.aload 4, 2) := by decide +kernel
theorem dX9_by_61 : decode cX9_by 61 = .ok (.invokevirtual 222, 3) := by decide +kernel
theorem dX9_by_64 : decode cX9_by 64 = .ok (.iadd, 1) := by decide +kernel
theorem dX9_by_65 : decode cX9_by 65 = .ok (.invokestatic 189, 3) := by decide +kernel
theorem dX9_by_68 : decode cX9_by 68 = .ok (.ireturn, 1) := by decide +kernel
set_option maxRecDepth 20000 in
theorem ggX9_fewest__X13_init : GoodIn wsX9_fewest_ wsX13_init := goodIn_r _ [6, 7, 8, 9, 10, 11, 12, 13, 14, 15, 334, 335, 336, 337, 338, 339, 340, 341] (by decide +kernel) (by decide +kernel)
set_option maxRecDepth 20000 in
theorem gX9_fewest__X13_init : GoodIn wsX9_fewest_ (wsX13_init) := ggX9_fewest__X13_init
set_option maxRecDepth 20000 in
theorem ggX9_fewest__X9_fewest : GoodIn wsX9_fewest_ wsX9_fewest := goodIn_r _ [20, 21, 22, 23, 24, 25, 26, 27, 28, 29, 30, 31, 32, 33, 34, 35, 36, 37, 38, 39, 40, 41, 42, 43, 14, 15, 44, 45, 46, 3, 47, 48, 49, 50, 51, 52, 53, 54, 55, 56, 57, 58, 59, 60, 61, 62, 63, 64, 65, 66, 67, 68, 69, 70, 71, 72, 73, 74, 75, 76, 77, 78, 79, 80, 81, 82, 83, 84, 85, 86, 87, 88, 89, 90, 91, 92, 93, 94, 95, 96, 97, 98, 99, 100, 101, 102, 103, 104, 105, 106, 107, 108, 109, 110, 111, 112, 113, 114, 115, 116, 117, 118, 119, 120, 121, 122, 123, 124, 125, 126, 127, 128, 129, 130, 131, 132, 133, 134, 135, 136, 137, 138, 139, 140, 141, 142, 143, 144, 145, 146, 147, 148, 149, 150, 151, 152, 153, 154, 155, 156, 157, 158, 159, 160, 161, 162, 163, 164, 165, 166, 167, 168, 169, 170, 171, 172, 173, 174, 175, 176, 177, 178, 179, 180, 181, 182, 183, 184, 185, 186, 187, 188, 189, 19, 190, 191, 192, 193, 194, 195, 196, 197, 198, 199, 200, 201, 202, 203, 204, 205, 206, 8, 207, 208, 209, 210, 211, 212, 213, 214, 215, 216, 217, 218, 219, 220, 221, 222, 223, 224, 225, 226, 227, 228, 229, 230, 231, 232, 233, 234, 235, 236, 237, 238, 239, 240, 241, 242, 243, 244, 245, 246, 247, 248, 249, 250, 251, 252, 253, 254, 255, 256, 257, 258, 259, 260, 261, 262, 263, 264, 265, 266, 267, 268, 269, 270, 271, 272, 273, 274, 275, 276, 277, 278, 279, 280, 281, 282, 283, 284, 285, 286, 287, 288, 289, 290, 291, 292, 293, 294, 295, 296, 297, 298, 299, 300, 301, 302, 303, 304, 305, 306, 307, 308, 309, 310, 311, 312, 313, 314, 315, 316, 317, 318, 319, 320, 321, 322, 323, 324, 325, 326, 327, 328, 329, 330, 331, 332, 333, 16, 17, 18, 342, 343, 344, 345, 346, 347, 348, 349, 350, 351, 352, 353, 354, 355, 356, 357, 358, 359, 360, 361, 362, 363, 364, 365, 366, 367, 368, 369, 334, 335, 336, 337, 338, 339, 340, 341, 370, 371, 372, 373, 374, 375, 376, 377] (by decide +kernel) (by decide +kernel)
set_option maxRecDepth 20000 in
theorem gX9_fewest__X9_fewest : GoodIn wsX9_fewest_ (wsV RX9 222 RX9 yX9_fewest wsX9_fewest) := goodIn_app (goodIn_of _ (by decide +kernel)) ggX9_fewest__X9_fewest
theorem dX9_fewest__0 : decode cX9_fewest_ 0 = .ok (.aload_n 0, 1) := by decide +kernel
theorem dX9_fewest__1 : decode cX9_fewest_ 1 = .ok (.iconst 0, 1) := by decide +kernel
theorem dX9_fewest__2 : decode cX9_fewest_ 2 = .ok (.iload_n 1, 1) := by decide +kernel
theorem dX9_fewest__3 : decode cX9_fewest_ 3 = .ok (.new 226, 3) := by decide +kernel
theorem dX9_fewest__6 : decode cX9_fewest_ 6 = .ok (.dup, 1) := by decide +kernel
theorem dX9_fewest__7 : decode cX9_fewest_ 7 = .ok (.invokespecial 228, 3) := by decide +kernel
theorem dX9_fewest__10 : decode cX9_fewest_ 10 = .ok (.invokevirtual 222, 3) := by decide +kernel
theorem dX9_fewest__13 : decode cX9_fewest_ 13 = .ok (.ireturn, 1) := by decide +kernel
set_option maxRecDepth 20000 in
theorem ggX9_plan_Jx4a65c_init_da8c8 : GoodIn wsX9_plan wsJx4a65c_init_da8c8 := goodIn_r _ [10, 11, 12, 13, 14, 15, 16, 17, 18, 19, 20, 21, 22, 23, 24, 397, 398, 399] (by decide +kernel) (by decide +kernel)
set_option maxRecDepth 20000 in
theorem gX9_plan_Jx4a65c_init_da8c8 : GoodIn wsX9_plan (wsJx4a65c_init_da8c8) := ggX9_plan_Jx4a65c_init_da8c8
set_option maxRecDepth 20000 in
theorem ggX9_plan_X13_init : GoodIn wsX9_plan wsX13_init := goodIn_r _ [27, 28, 29, 30, 31, 32, 33, 34, 23, 24, 400, 401, 402, 403, 404, 405, 406, 407] (by decide +kernel) (by decide +kernel)
set_option maxRecDepth 20000 in
theorem gX9_plan_X13_init : GoodIn wsX9_plan (wsX13_init) := ggX9_plan_X13_init
set_option maxRecDepth 20000 in
theorem ggX9_plan_X9_by : GoodIn wsX9_plan wsX9_by := goodIn_r _ [39, 40, 41, 42, 43, 44, 45, 46, 38, 47, 48, 49, 50, 51, 52, 3, 53, 54, 55, 56, 57, 58, 59, 60, 61, 62, 63, 64, 65, 66, 67, 68, 69, 70, 12, 71, 72, 73, 74, 75, 76, 77, 78, 79, 80, 81, 82, 83, 84, 85, 86, 87, 88, 89, 90, 91, 92, 93, 94, 95, 96, 97, 98, 99, 100, 101, 102, 103, 104, 105, 106, 107, 108, 109, 110, 111, 112, 23, 24, 113, 114, 115, 6, 116, 117, 118, 119, 120, 121, 122, 123, 124, 125, 126, 127, 128, 129, 130, 131, 132, 133, 134, 135, 136, 137, 138, 139, 140, 141, 142, 143, 144, 145, 146, 147, 148, 149, 150, 151, 152, 153, 154, 155, 156, 157, 158, 159, 160, 161, 162, 163, 164, 165, 166, 167, 168, 169, 170, 171, 172, 173, 174, 175, 176, 177, 178, 179, 180, 181, 182, 183, 184, 185, 186, 187, 188, 189, 190, 191, 192, 193, 194, 195, 196, 197, 198, 199, 200, 201, 202, 203, 204, 205, 206, 207, 208, 209, 210, 211, 212, 213, 214, 215, 216, 217, 218, 219, 220, 221, 222, 223, 224, 225, 226, 227, 228, 229, 230, 231, 232, 233, 234, 235, 236, 237, 238, 239, 240, 241, 242, 243, 244, 245, 35, 36, 37, 246, 247, 248, 249, 250, 251, 252, 253, 254, 255, 256, 257, 258, 259, 260, 261, 262, 29, 263, 264, 265, 266, 267, 268, 269, 270, 271, 272, 273, 274, 275, 276, 277, 278, 279, 280, 281, 282, 283, 284, 285, 286, 287, 288, 289, 290, 291, 292, 293, 294, 295, 296, 297, 298, 299, 300, 301, 302, 303, 304, 305, 306, 307, 308, 309, 310, 311, 312, 313, 314, 315, 316, 317, 318, 319, 320, 321, 322, 323, 324, 325, 326, 327, 328, 329, 330, 331, 332, 333, 334, 335, 336, 337, 338, 339, 340, 341, 342, 343, 344, 345, 346, 347, 348, 349, 350, 408, 409, 410, 411, 412, 413, 414, 415, 416, 397, 398, 399, 417, 418, 419, 420, 421, 422, 423, 424, 425, 426, 427, 428, 429, 430, 431, 432, 400, 401, 402, 403, 404, 405, 406, 407, 433, 434, 435, 436, 437, 438, 439, 440] (by decide +kernel) (by decide +kernel)
set_option maxRecDepth 20000 in
theorem gX9_plan_X9_by : GoodIn wsX9_plan (wsV RX9 203 RX9 yX9_by wsX9_by) := goodIn_app (goodIn_of _ (by decide +kernel)) ggX9_plan_X9_by
set_option maxRecDepth 20000 in
theorem ggX9_plan_X9_fewest : GoodIn wsX9_plan wsX9_fewest := goodIn_r _ [97, 49, 48, 40, 41, 42, 43, 98, 99, 74, 100, 101, 102, 103, 104, 105, 106, 107, 76, 108, 109, 110, 111, 112, 23, 24, 113, 114, 115, 6, 116, 117, 118, 119, 120, 121, 122, 123, 124, 125, 126, 127, 128, 129, 130, 131, 132, 133, 134, 135, 136, 137, 138, 139, 140, 141, 142, 143, 144, 145, 146, 147, 148, 149, 150, 151, 152, 153, 154, 155, 156, 157, 158, 159, 160, 161, 162, 163, 164, 165, 166, 167, 168, 169, 170, 171, 172, 173, 174, 175, 176, 177, 178, 179, 180, 181, 182, 183, 184, 185, 186, 187, 188, 189, 190, 191, 192, 193, 194, 195, 196, 197, 198, 199, 200, 201, 202, 203, 204, 205, 206, 207, 208, 209, 210, 211, 212, 213, 214, 215, 216, 217, 72, 73, 75, 218, 219, 220, 221, 222, 223, 224, 225, 226, 227, 228, 229, 230, 231, 232, 233, 234, 235, 236, 237, 238, 239, 240, 241, 242, 243, 244, 245, 71, 50, 51, 52, 3, 53, 54, 35, 36, 37, 38, 246, 247, 248, 249, 250, 251, 252, 253, 254, 255, 256, 257, 258, 259, 260, 261, 262, 29, 263, 264, 265, 266, 267, 268, 269, 270, 271, 272, 273, 274, 275, 276, 277, 278, 279, 280, 281, 282, 283, 284, 285, 286, 287, 288, 289, 290, 291, 292, 293, 294, 295, 296, 297, 298, 299, 300, 301, 302, 303, 304, 305, 306, 307, 308, 309, 310, 311, 312, 313, 314, 315, 316, 317, 318, 319, 320, 321, 322, 323, 324, 325, 326, 327, 328, 329, 330, 331, 332, 333, 334, 335, 336, 337, 338, 339, 340, 341, 342, 343, 344, 345, 346, 347, 348, 349, 350, 39, 44, 45, 46, 47, 55, 56, 57, 58, 59, 60, 61, 62, 63, 64, 65, 66, 67, 68, 69, 70, 12, 77, 78, 79, 80, 81, 82, 83, 84, 85, 86, 87, 88, 89, 90, 91, 92, 93, 94, 95, 96, 408, 409, 410, 411, 412, 413, 414, 415, 416, 397, 398, 399, 417, 418, 419, 420, 421, 422, 423, 424, 425, 426, 427, 428, 429, 430, 431, 432, 400, 401, 402, 403, 404, 405, 406, 407, 433, 434, 435, 436, 437, 438, 439, 440] (by decide +kernel) (by decide +kernel)
set_option maxRecDepth 20000 in
theorem gX9_plan_X9_fewest : GoodIn wsX9_plan (wsV RX9 222 RX9 yX9_fewest wsX9_fewest) := goodIn_app (goodIn_of _ (by decide +kernel)) ggX9_plan_X9_fewest
set_option maxRecDepth 20000 in
theorem ggX9_plan_Jx4a65c_add_9ea2d : GoodIn wsX9_plan wsJx4a65c_add_9ea2d := goodIn_r _ [354, 355, 356, 12, 54, 357, 358, 359, 3, 360, 361, 362, 363, 364, 365, 366, 367, 368, 11, 369, 92, 42, 93, 370, 371, 372, 165, 373, 374, 375, 376, 377, 378, 171, 172, 173, 379, 380, 381, 382, 383, 384, 385, 386, 387, 388, 389, 390, 391, 392, 41, 43, 393, 394, 395, 396, 397, 398, 399, 437, 438, 439, 440] (by decide +kernel) (by decide +kernel)
set_option maxRecDepth 20000 in
theorem gX9_plan_Jx4a65c_add_9ea2d_f51Jx4a65c : GoodIn wsX9_plan (va_wsF RX9 51 RJx4a65c ⟨"java/util/List", "add", "(Ljava/lang/Object;)Z"⟩ yJx4a65c_add_9ea2d wsJx4a65c_add_9ea2d) := goodIn_app (goodIn_of _ (by decide +kernel)) ggX9_plan_Jx4a65c_add_9ea2d
set_option maxRecDepth 20000 in
theorem ggX9_plan_X9_turned : GoodIn wsX9_plan wsX9_turned := goodIn_r _ [47, 48, 49, 50, 51, 52, 3, 53, 54, 55, 56, 57, 58, 59, 60, 61, 62, 63, 64, 65, 66, 67, 68, 69, 70, 12, 71, 72, 73, 74, 75, 76, 408, 409, 410, 411, 412, 413, 414, 415, 416, 397, 398, 399, 417] (by decide +kernel) (by decide +kernel)
set_option maxRecDepth 20000 in
theorem gX9_plan_X9_turned : GoodIn wsX9_plan (wsV RX9 211 RX9 yX9_turned wsX9_turned) := goodIn_app (goodIn_of _ (by decide +kernel)) ggX9_plan_X9_turned
set_option maxRecDepth 20000 in
theorem ggX9_plan_X9_next : GoodIn wsX9_plan wsX9_next := goodIn_r _ [80, 48, 40, 41, 42, 43, 50, 51, 52, 3, 53, 54, 408, 409, 410, 411, 412, 413, 414, 415, 416, 397, 398, 399] (by decide +kernel) (by decide +kernel)
set_option maxRecDepth 20000 in
theorem gX9_plan_X9_next : GoodIn wsX9_plan (wsV RX9 214 RX9 yX9_next wsX9_next) := goodIn_app (goodIn_of _ (by decide +kernel)) ggX9_plan_X9_next
set_option maxRecDepth 20000 in
theorem ggX9_plan_X9_later : GoodIn wsX9_plan wsX9_later := goodIn_r _ [90, 48, 91, 92, 42, 93, 50, 51, 52, 3, 53, 54, 408, 409, 410, 411, 412, 413, 414, 415, 416, 397, 398, 399] (by decide +kernel) (by decide +kernel)
set_option maxRecDepth 20000 in
theorem gX9_plan_X9_later : GoodIn wsX9_plan (wsV RX9 219 RX9 yX9_later wsX9_later) := goodIn_app (goodIn_of _ (by decide +kernel)) ggX9_plan_X9_later
theorem dX9_plan_0 : decode cX9_plan 0 = .ok (.new 7, 3) := by decide +kernel
theorem dX9_plan_3 : decode cX9_plan 3 = .ok (.dup, 1) := by decide +kernel
theorem dX9_plan_4 : decode cX9_plan 4 = .ok (.invokespecial 9, 3) := by decide +kernel
theorem dX9_plan_7 : decode cX9_plan 7 = .ok (.astore_n 2, 1) := by decide +kernel
theorem dX9_plan_8 : decode cX9_plan 8 = .ok (.new 226, 3) := by decide +kernel
theorem dX9_plan_11 : decode cX9_plan 11 = .ok (.dup, 1) := by decide +kernel
theorem dX9_plan_12 : decode cX9_plan 12 = .ok (.invokespecial 228, 3) := by decide +kernel
theorem dX9_plan_15 : decode cX9_plan 15 = .ok (.astore_n 3, 1) := by decide +kernel
theorem dX9_plan_16 : decode cX9_plan 16 = .ok (.iconst 0, 1) := by decide +kernel
theorem dX9_plan_17 : decode cX9_plan 17 = .ok (.istore 4, 2) := by decide +kernel
theorem dX9_plan_19 : decode cX9_plan 19 = .ok (.iconst 0, 1) := by decide +kernel
theorem dX9_plan_20 : decode cX9_plan 20 = .ok (.istore 5, 2) := by decide +kernel
theorem dX9_plan_22 : decode cX9_plan 22 = .ok (.iload 5, 2) := by decide +kernel
theorem dX9_plan_24 : decode cX9_plan 24 = .ok (.iload_n 1, 1) := by decide +kernel
theorem dX9_plan_25 : decode cX9_plan 25 = .ok (.if_icmp .ge 97, 3) := by decide +kernel
theorem dX9_plan_28 : decode cX9_plan 28 = .ok (.iconst 0, 1) := by decide +kernel
theorem dX9_plan_29 : decode cX9_plan 29 = .ok (.istore 6, 2) := by decide +kernel
theorem dX9_plan_31 : decode cX9_plan 31 = .ok (.aload_n 0, 1) := by decide +kernel
theorem dX9_plan_32 : decode cX9_plan 32 = .ok (.iload 4, 2) := by decide +kernel
theorem dX9_plan_34 : decode cX9_plan 34 = .ok (.iload_n 1, 1) := by decide +kernel
theorem dX9_plan_35 : decode cX9_plan 35 = .ok (.iload 5, 2) := by decide +kernel
theorem dX9_plan_37 : decode cX9_plan 37 = .ok (.isub, 1) := by decide +kernel
theorem dX9_plan_38 : decode cX9_plan 38 = .ok (.iload 6, 2) := by decide +kernel
theorem dX9_plan_40 : decode cX9_plan 40 = .ok (.aload_n 3, 1) := by decide +kernel
theorem dX9_plan_41 : decode cX9_plan 41 = .ok (.invokevirtual 203, 3) := by decide +kernel
theorem dX9_plan_44 : decode cX9_plan 44 = .ok (.aload_n 0, 1) := by decide +kernel
theorem dX9_plan_45 : decode cX9_plan 45 = .ok (.iload 4, 2) := by decide +kernel
theorem dX9_plan_47 : decode cX9_plan 47 = .ok (.iload_n 1, 1) := by decide +kernel
theorem dX9_plan_48 : decode cX9_plan 48 = .ok (.iload 5, 2) := by decide +kernel
theorem dX9_plan_50 : decode cX9_plan 50 = .ok (.isub, 1) := by decide +kernel
theorem dX9_plan_51 : decode cX9_plan 51 = .ok (.aload_n 3, 1) := by decide +kernel
theorem dX9_plan_52 : decode cX9_plan 52 = .ok (.invokevirtual 222, 3) := by decide +kernel
theorem dX9_plan_55 : decode cX9_plan 55 = .ok (.if_icmp .eq 9, 3) := by decide +kernel
theorem dX9_plan_58 : decode cX9_plan 58 = .ok (.iinc 6 1, 3) := by decide +kernel
theorem dX9_plan_61 : decode cX9_plan 61 = .ok (.goto (-30), 3) := by decide +kernel
theorem dX9_plan_64 : decode cX9_plan 64 = .ok (.aload_n 2, 1) := by decide +kernel
theorem dX9_plan_65 : decode cX9_plan 65 = .ok (.iconst 2, 1) := by decide +kernel
theorem dX9_plan_66 : decode cX9_plan 66 = .ok (.newarray .int, 2) := by decide +kernel
theorem dX9_plan_68 : decode cX9_plan 68 = .ok (.dup, 1) := by decide +kernel
theorem dX9_plan_69 : decode cX9_plan 69 = .ok (.iconst 0, 1) := by decide +kernel
theorem dX9_plan_70 : decode cX9_plan 70 = .ok (.iload 5, 2) := by decide +kernel
theorem dX9_plan_72 : decode cX9_plan 72 = .ok (.iastore, 1) := by decide +kernel
theorem dX9_plan_73 : decode cX9_plan 73 = .ok (.dup, 1) := by decide +kernel
theorem dX9_plan_74 : decode cX9_plan 74 = .ok (.iconst 1, 1) := by decide +kernel
theorem dX9_plan_75 : decode cX9_plan 75 = .ok (.iload 6, 2) := by decide +kernel
theorem dX9_plan_77 : decode cX9_plan 77 = .ok (.iastore, 1) := by decide +kernel
theorem dX9_plan_78 : decode cX9_plan 78 = .ok (.invokeinterface 51 2, 5) := by decide +kernel
theorem dX9_plan_83 : decode cX9_plan 83 = .ok (.pop, 1) := by decide +kernel
theorem dX9_plan_84 : decode cX9_plan 84 = .ok (.aload_n 0, 1) := by decide +kernel
theorem dX9_plan_85 : decode cX9_plan 85 = .ok (.iload 4, 2) := by decide +kernel
theorem dX9_plan_87 : decode cX9_plan 87 = .ok (.iload 6, 2) := by decide +kernel
theorem dX9_plan_89 : decode cX9_plan 89 = .ok (.invokevirtual 211, 3) := by decide +kernel
theorem dX9_plan_92 : decode cX9_plan 92 = .ok (.istore 7, 2) := by decide +kernel
theorem dX9_plan_94 : decode cX9_plan 94 = .ok (.aload_n 0, 1) := by decide +kernel
theorem dX9_plan_95 : decode cX9_plan 95 = .ok (.iload 7, 2) := by decide +kernel
theorem dX9_plan_97 : decode cX9_plan 97 = .ok (.invokevirtual 214, 3) := by decide +kernel
theorem dX9_plan_100 : decode cX9_plan 100 = .ok (.istore 8, 2) := by decide +kernel
theorem dX9_plan_102 : decode cX9_plan 102 = .ok (.aload_n 0, 1) := by decide +kernel
theorem dX9_plan_103 : decode cX9_plan 103 = .ok (.iload 7, 2) := by decide +kernel
theorem dX9_plan_105 : decode cX9_plan 105 = .ok (.iload 8, 2) := by decide +kernel
theorem dX9_plan_107 : decode cX9_plan 107 = .ok (.invokevirtual 219, 3) := by decide +kernel
theorem dX9_plan_110 : decode cX9_plan 110 = .ok (.istore 4, 2) := by decide +kernel
theorem dX9_plan_112 : decode cX9_plan 112 = .ok (.iload 5, 2) := by decide +kernel
theorem dX9_plan_114 : decode cX9_plan 114 = .ok (.iload 8, 2) := by decide +kernel
theorem dX9_plan_116 : decode cX9_plan 116 = .ok (.iadd, 1) := by decide +kernel
theorem dX9_plan_117 : decode cX9_plan 117 = .ok (.istore 5, 2) := by decide +kernel
theorem dX9_plan_119 : decode cX9_plan 119 = .ok (.goto (-97), 3) := by decide +kernel
theorem dX9_plan_122 : decode cX9_plan 122 = .ok (.aload_n 2, 1) := by decide +kernel
theorem dX9_plan_123 : decode cX9_plan 123 = .ok (.areturn, 1) := by decide +kernel
set_option maxRecDepth 20000 in
theorem ggX9_isMinute_X9_isIn : GoodIn wsX9_isMinute wsX9_isIn := goodIn_r _ [4] (by decide +kernel) (by decide +kernel)
set_option maxRecDepth 20000 in
theorem gX9_isMinute_X9_isIn : GoodIn wsX9_isMinute (va_wsS RX9 38 yX9_isIn wsX9_isIn) := goodIn_app (goodIn_of _ (by decide +kernel)) ggX9_isMinute_X9_isIn
theorem dX9_isMinute_0 : decode cX9_isMinute 0 = .ok (.iload_n 0, 1) := by decide +kernel
theorem dX9_isMinute_1 : decode cX9_isMinute 1 = .ok (.iconst 1, 1) := by decide +kernel
theorem dX9_isMinute_2 : decode cX9_isMinute 2 = .ok (.bipush 40, 2) := by decide +kernel
theorem dX9_isMinute_4 : decode cX9_isMinute 4 = .ok (.invokestatic 38, 3) := by decide +kernel
theorem dX9_isMinute_7 : decode cX9_isMinute 7 = .ok (.ireturn, 1) := by decide +kernel
set_option maxRecDepth 20000 in
theorem ggX9_canMeasure_X9_isMinute : GoodIn wsX9_canMeasure wsX9_isMinute := goodIn_r _ [4, 5, 6, 3, 7] (by decide +kernel) (by decide +kernel)
set_option maxRecDepth 20000 in
theorem gX9_canMeasure_X9_isMinute : GoodIn wsX9_canMeasure (va_wsS RX9 229 yX9_isMinute wsX9_isMinute) := goodIn_app (goodIn_of _ (by decide +kernel)) ggX9_canMeasure_X9_isMinute
set_option maxRecDepth 20000 in
theorem ggX9_canMeasure_X9_no : GoodIn wsX9_canMeasure wsX9_no := goodIn_r _ [11, 12, 349, 350, 351, 352, 353, 354, 355, 356, 357] (by decide +kernel) (by decide +kernel)
set_option maxRecDepth 20000 in
theorem gX9_canMeasure_X9_no : GoodIn wsX9_canMeasure (wsV RX9 42 RX9 yX9_no wsX9_no) := goodIn_app (goodIn_of _ (by decide +kernel)) ggX9_canMeasure_X9_no
set_option maxRecDepth 20000 in
theorem ggX9_canMeasure_X9_fewest_ : GoodIn wsX9_canMeasure wsX9_fewest_ := goodIn_r _ [16, 17, 18, 19, 20, 21, 22, 23, 24, 25, 26, 27, 28, 29, 30, 31, 32, 33, 34, 3, 35, 36, 37, 38, 39, 40, 41, 42, 43, 44, 45, 46, 47, 48, 49, 50, 51, 52, 53, 54, 55, 56, 57, 58, 59, 60, 61, 62, 63, 64, 65, 66, 67, 68, 69, 70, 71, 72, 73, 74, 75, 76, 77, 78, 79, 80, 81, 82, 83, 84, 85, 86, 87, 88, 89, 90, 91, 92, 93, 94, 95, 96, 97, 98, 99, 100, 101, 102, 103, 104, 105, 106, 107, 108, 109, 110, 111, 112, 113, 114, 115, 116, 117, 118, 119, 120, 121, 122, 123, 124, 125, 126, 127, 128, 129, 130, 131, 132, 133, 134, 135, 136, 137, 138, 139, 140, 141, 142, 143, 144, 145, 146, 147, 148, 149, 150, 151, 152, 153, 154, 155, 156, 157, 158, 159, 160, 161, 162, 163, 164, 165, 166, 167, 168, 169, 170, 171, 172, 173, 174, 175, 176, 177, 178, 179, 180, 181, 182, 183, 184, 185, 186, 187, 188, 189, 190, 191, 192, 193, 194, 195, 196, 197, 198, 199, 200, 201, 202, 203, 204, 205, 206, 207, 208, 209, 210, 211, 212, 213, 214, 215, 216, 217, 218, 219, 220, 221, 222, 223, 224, 225, 226, 227, 228, 229, 230, 231, 232, 233, 234, 235, 236, 237, 238, 239, 240, 241, 242, 243, 244, 245, 246, 247, 248, 249, 250, 251, 252, 253, 254, 255, 256, 257, 258, 259, 260, 261, 262, 263, 264, 265, 266, 267, 268, 269, 270, 271, 272, 273, 274, 275, 276, 277, 278, 279, 280, 281, 282, 283, 284, 285, 286, 287, 288, 289, 290, 291, 292, 293, 294, 295, 296, 297, 298, 299, 300, 301, 302, 303, 304, 305, 306, 307, 308, 309, 310, 311, 312, 313, 314, 315, 316, 317, 318, 319, 320, 321, 322, 323, 324, 325, 326, 327, 328, 329, 330, 331, 332, 333, 334, 335, 336, 337, 338, 339, 340, 341, 342, 343, 344, 345, 346, 347, 348, 358, 359, 360, 361, 362, 363, 364, 365, 349, 350, 351, 352, 353, 354, 355, 356, 357, 366, 367, 368, 369, 370, 371, 372, 373, 374, 375, 376, 377, 378, 379, 380, 381, 382, 383, 384, 385, 386, 387, 388, 389, 390, 391, 392] (by decide +kernel) (by decide +kernel)
set_option maxRecDepth 20000 in
theorem gX9_canMeasure_X9_fewest_ : GoodIn wsX9_canMeasure (wsV RX9 232 RX9 yX9_fewest_ wsX9_fewest_) := goodIn_app (goodIn_of _ (by decide +kernel)) ggX9_canMeasure_X9_fewest_
theorem dX9_canMeasure_0 : decode cX9_canMeasure 0 = .ok (.aload_n 0, 1) := by decide +kernel
theorem dX9_canMeasure_1 : decode cX9_canMeasure 1 = .ok (.iload_n 1, 1) := by decide +kernel
theorem dX9_canMeasure_2 : decode cX9_canMeasure 2 = .ok (.invokestatic 229, 3) := by decide +kernel
theorem dX9_canMeasure_5 : decode cX9_canMeasure 5 = .ok (.iconst 1, 1) := by decide +kernel
theorem dX9_canMeasure_6 : decode cX9_canMeasure 6 = .ok (.invokevirtual 42, 3) := by decide +kernel
theorem dX9_canMeasure_9 : decode cX9_canMeasure 9 = .ok (.ifCond .ne 18, 3) := by decide +kernel
theorem dX9_canMeasure_12 : decode cX9_canMeasure 12 = .ok (.aload_n 0, 1) := by decide +kernel
theorem dX9_canMeasure_13 : decode cX9_canMeasure 13 = .ok (.iload_n 1, 1) := by decide +kernel
theorem dX9_canMeasure_14 : decode cX9_canMeasure 14 = .ok (.invokevirtual 232, 3) := by decide +kernel
theorem dX9_canMeasure_17 : decode cX9_canMeasure 17 = .ok (.sipush 1000, 3) := by decide +kernel
theorem dX9_canMeasure_20 : decode cX9_canMeasure 20 = .ok (.if_icmp .ge 7, 3) := by decide +kernel
theorem dX9_canMeasure_23 : decode cX9_canMeasure 23 = .ok (.iconst 1, 1) := by decide +kernel
theorem dX9_canMeasure_24 : decode cX9_canMeasure 24 = .ok (.goto 4, 3) := by decide +kernel
theorem dX9_canMeasure_27 : decode cX9_canMeasure 27 = .ok (.iconst 0, 1) := by decide +kernel
theorem dX9_canMeasure_28 : decode cX9_canMeasure 28 = .ok (.ireturn, 1) := by decide +kernel
set_option maxRecDepth 20000 in
theorem ggX9_fewestTurns_X9_isMinute : GoodIn wsX9_fewestTurns wsX9_isMinute := goodIn_r _ [4, 5, 6, 3, 7] (by decide +kernel) (by decide +kernel)
set_option maxRecDepth 20000 in
theorem gX9_fewestTurns_X9_isMinute : GoodIn wsX9_fewestTurns (va_wsS RX9 229 yX9_isMinute wsX9_isMinute) := goodIn_app (goodIn_of _ (by decide +kernel)) ggX9_fewestTurns_X9_isMinute
set_option maxRecDepth 20000 in
theorem ggX9_fewestTurns_X9_no : GoodIn wsX9_fewestTurns wsX9_no := goodIn_r _ [11, 12, 349, 350, 351, 352, 353, 354, 355, 356, 357] (by decide +kernel) (by decide +kernel)
set_option maxRecDepth 20000 in
theorem gX9_fewestTurns_X9_no : GoodIn wsX9_fewestTurns (wsV RX9 42 RX9 yX9_no wsX9_no) := goodIn_app (goodIn_of _ (by decide +kernel)) ggX9_fewestTurns_X9_no
set_option maxRecDepth 20000 in
theorem ggX9_fewestTurns_X9_fewest_ : GoodIn wsX9_fewestTurns wsX9_fewest_ := goodIn_r _ [16, 17, 18, 19, 20, 21, 22, 23, 24, 25, 26, 27, 28, 29, 30, 31, 32, 33, 34, 3, 35, 36, 37, 38, 39, 40, 41, 42, 43, 44, 45, 46, 47, 48, 49, 50, 51, 52, 53, 54, 55, 56, 57, 58, 59, 60, 61, 62, 63, 64, 65, 66, 67, 68, 69, 70, 71, 72, 73, 74, 75, 76, 77, 78, 79, 80, 81, 82, 83, 84, 85, 86, 87, 88, 89, 90, 91, 92, 93, 94, 95, 96, 97, 98, 99, 100, 101, 102, 103, 104, 105, 106, 107, 108, 109, 110, 111, 112, 113, 114, 115, 116, 117, 118, 119, 120, 121, 122, 123, 124, 125, 126, 127, 128, 129, 130, 131, 132, 133, 134, 135, 136, 137, 138, 139, 140, 141, 142, 143, 144, 145, 146, 147, 148, 149, 150, 151, 152, 153, 154, 155, 156, 157, 158, 159, 160, 161, 162, 163, 164, 165, 166, 167, 168, 169, 170, 171, 172, 173, 174, 175, 176, 177, 178, 179, 180, 181, 182, 183, 184, 185, 186, 187, 188, 189, 190, 191, 192, 193, 194, 195, 196, 197, 198, 199, 200, 201, 202, 203, 204, 205, 206, 207, 208, 209, 210, 211, 212, 213, 214, 215, 216, 217, 218, 219, 220, 221, 222, 223, 224, 225, 226, 227, 228, 229, 230, 231, 232, 233, 234, 235, 236, 237, 238, 239, 240, 241, 242, 243, 244, 245, 246, 247, 248, 249, 250, 251, 252, 253, 254, 255, 256, 257, 258, 259, 260, 261, 262, 263, 264, 265, 266, 267, 268, 269, 270, 271, 272, 273, 274, 275, 276, 277, 278, 279, 280, 281, 282, 283, 284, 285, 286, 287, 288, 289, 290, 291, 292, 293, 294, 295, 296, 297, 298, 299, 300, 301, 302, 303, 304, 305, 306, 307, 308, 309, 310, 311, 312, 313, 314, 315, 316, 317, 318, 319, 320, 321, 322, 323, 324, 325, 326, 327, 328, 329, 330, 331, 332, 333, 334, 335, 336, 337, 338, 339, 340, 341, 342, 343, 344, 345, 346, 347, 348, 358, 359, 360, 361, 362, 363, 364, 365, 349, 350, 351, 352, 353, 354, 355, 356, 357, 366, 367, 368, 369, 370, 371, 372, 373, 374, 375, 376, 377, 378, 379, 380, 381, 382, 383, 384, 385, 386, 387, 388, 389, 390, 391, 392] (by decide +kernel) (by decide +kernel)
set_option maxRecDepth 20000 in
theorem gX9_fewestTurns_X9_fewest_ : GoodIn wsX9_fewestTurns (wsV RX9 232 RX9 yX9_fewest_ wsX9_fewest_) := goodIn_app (goodIn_of _ (by decide +kernel)) ggX9_fewestTurns_X9_fewest_
theorem dX9_fewestTurns_0 : decode cX9_fewestTurns 0 = .ok (.aload_n 0, 1) := by decide +kernel
theorem dX9_fewestTurns_1 : decode cX9_fewestTurns 1 = .ok (.iload_n 1, 1) := by decide +kernel
theorem dX9_fewestTurns_2 : decode cX9_fewestTurns 2 = .ok (.invokestatic 229, 3) := by decide +kernel
theorem dX9_fewestTurns_5 : decode cX9_fewestTurns 5 = .ok (.iconst 1, 1) := by decide +kernel
theorem dX9_fewestTurns_6 : decode cX9_fewestTurns 6 = .ok (.invokevirtual 42, 3) := by decide +kernel
theorem dX9_fewestTurns_9 : decode cX9_fewestTurns 9 = .ok (.ifCond .ne 27, 3) := by decide +kernel
theorem dX9_fewestTurns_12 : decode cX9_fewestTurns 12 = .ok (.aload_n 0, 1) := by decide +kernel
theorem dX9_fewestTurns_13 : decode cX9_fewestTurns 13 = .ok (.aload_n 0, 1) := by decide +kernel
theorem dX9_fewestTurns_14 : decode cX9_fewestTurns 14 = .ok (.iload_n 1, 1) := by decide +kernel
theorem dX9_fewestTurns_15 : decode cX9_fewestTurns 15 = .ok (.invokevirtual 232, 3) := by decide +kernel
theorem dX9_fewestTurns_18 : decode cX9_fewestTurns 18 = .ok (.sipush 1000, 3) := by decide +kernel
theorem dX9_fewestTurns_21 : decode cX9_fewestTurns 21 = .ok (.if_icmp .ge 7, 3) := by decide +kernel
theorem dX9_fewestTurns_24 : decode cX9_fewestTurns 24 = .ok (.iconst 1, 1) := by decide +kernel
theorem dX9_fewestTurns_25 : decode cX9_fewestTurns 25 = .ok (.goto 4, 3) := by decide +kernel
theorem dX9_fewestTurns_28 : decode cX9_fewestTurns 28 = .ok (.iconst 0, 1) := by decide +kernel
theorem dX9_fewestTurns_29 : decode cX9_fewestTurns 29 = .ok (.iconst 2, 1) := by decide +kernel
theorem dX9_fewestTurns_30 : decode cX9_fewestTurns 30 = .ok (.invokevirtual 42, 3) := by decide +kernel
theorem dX9_fewestTurns_33 : decode cX9_fewestTurns 33 = .ok (.ifCond .eq 7, 3) := by decide +kernel
theorem dX9_fewestTurns_36 : decode cX9_fewestTurns 36 = .ok (.iconst 0, 1) := by decide +kernel
theorem dX9_fewestTurns_37 : decode cX9_fewestTurns 37 = .ok (.goto 8, 3) := by decide +kernel
theorem dX9_fewestTurns_40 : decode cX9_fewestTurns 40 = .ok (.aload_n 0, 1) := by decide +kernel
theorem dX9_fewestTurns_41 : decode cX9_fewestTurns 41 = .ok (.iload_n 1, 1) := by decide +kernel
theorem dX9_fewestTurns_42 : decode cX9_fewestTurns 42 = .ok (.invokevirtual 232, 3) := by decide +kernel
theorem dX9_fewestTurns_45 : decode cX9_fewestTurns 45 = .ok (.ireturn, 1) := by decide +kernel
set_option maxRecDepth 20000 in
theorem ggX9_decisions_X9_isMinute : GoodIn wsX9_decisions wsX9_isMinute := goodIn_r _ [4, 5, 6, 3, 7] (by decide +kernel) (by decide +kernel)
set_option maxRecDepth 20000 in
theorem gX9_decisions_X9_isMinute : GoodIn wsX9_decisions (va_wsS RX9 229 yX9_isMinute wsX9_isMinute) := goodIn_app (goodIn_of _ (by decide +kernel)) ggX9_decisions_X9_isMinute
set_option maxRecDepth 20000 in
theorem ggX9_decisions_X9_no : GoodIn wsX9_decisions wsX9_no := goodIn_r _ [11, 12, 416, 417, 418, 419, 420, 421, 422, 423, 424] (by decide +kernel) (by decide +kernel)
set_option maxRecDepth 20000 in
theorem gX9_decisions_X9_no : GoodIn wsX9_decisions (wsV RX9 42 RX9 yX9_no wsX9_no) := goodIn_app (goodIn_of _ (by decide +kernel)) ggX9_decisions_X9_no
set_option maxRecDepth 20000 in
theorem ggX9_decisions_X9_fewest_ : GoodIn wsX9_decisions wsX9_fewest_ := goodIn_r _ [16, 17, 18, 19, 20, 21, 22, 23, 24, 25, 26, 27, 28, 29, 30, 31, 32, 33, 34, 3, 35, 36, 37, 38, 39, 40, 41, 42, 43, 44, 45, 46, 47, 48, 49, 50, 51, 52, 53, 54, 55, 56, 57, 58, 59, 60, 61, 62, 63, 64, 65, 66, 67, 68, 69, 70, 71, 72, 73, 74, 75, 76, 77, 78, 79, 80, 81, 82, 83, 84, 85, 86, 87, 88, 89, 90, 91, 92, 93, 94, 95, 96, 97, 98, 99, 100, 101, 102, 103, 104, 105, 106, 107, 108, 109, 110, 111, 112, 113, 114, 115, 116, 117, 118, 119, 120, 121, 122, 123, 124, 125, 126, 127, 128, 129, 130, 131, 132, 133, 134, 135, 136, 137, 138, 139, 140, 141, 142, 143, 144, 145, 146, 147, 148, 149, 150, 151, 152, 153, 154, 155, 156, 157, 158, 159, 160, 161, 162, 163, 164, 165, 166, 167, 168, 169, 170, 171, 172, 173, 174, 175, 176, 177, 178, 179, 180, 181, 182, 183, 184, 185, 186, 187, 188, 189, 190, 191, 192, 193, 194, 195, 196, 197, 198, 199, 200, 201, 202, 203, 204, 205, 206, 207, 208, 209, 210, 211, 212, 213, 214, 215, 216, 217, 218, 219, 220, 221, 222, 223, 224, 225, 226, 227, 228, 229, 230, 231, 232, 233, 234, 235, 236, 237, 238, 239, 240, 241, 242, 243, 244, 245, 246, 247, 248, 249, 250, 251, 252, 253, 254, 255, 256, 257, 258, 259, 260, 261, 262, 263, 264, 265, 266, 267, 268, 269, 270, 271, 272, 273, 274, 275, 276, 277, 278, 279, 280, 281, 282, 283, 284, 285, 286, 287, 288, 289, 290, 291, 292, 293, 294, 295, 296, 297, 298, 299, 300, 301, 302, 303, 304, 305, 306, 307, 308, 309, 310, 311, 312, 313, 314, 315, 316, 317, 318, 319, 320, 321, 322, 323, 324, 325, 326, 327, 328, 329, 330, 331, 332, 333, 334, 335, 336, 337, 338, 339, 340, 341, 342, 343, 344, 345, 346, 347, 348, 425, 426, 427, 428, 429, 430, 431, 432, 416, 417, 418, 419, 420, 421, 422, 423, 424, 433, 434, 435, 436, 437, 438, 439, 440, 441, 442, 443, 444, 445, 446, 447, 448, 449, 450, 451, 452, 453, 454, 455, 456, 457, 458, 459] (by decide +kernel) (by decide +kernel)
set_option maxRecDepth 20000 in
theorem gX9_decisions_X9_fewest_ : GoodIn wsX9_decisions (wsV RX9 232 RX9 yX9_fewest_ wsX9_fewest_) := goodIn_app (goodIn_of _ (by decide +kernel)) ggX9_decisions_X9_fewest_
set_option maxRecDepth 20000 in
theorem ggX9_decisions_X9_plan : GoodIn wsX9_decisions wsX9_plan := goodIn_r _ [352, 353, 354, 199, 17, 18, 19, 355, 356, 357, 358, 359, 331, 360, 361, 362, 363, 364, 365, 366, 367, 368, 369, 30, 31, 20, 21, 22, 23, 24, 25, 26, 27, 28, 29, 202, 203, 204, 3, 310, 38, 39, 40, 41, 311, 312, 313, 314, 37, 36, 196, 197, 198, 200, 201, 315, 316, 317, 318, 319, 320, 321, 322, 323, 324, 325, 326, 327, 328, 329, 330, 195, 164, 165, 44, 166, 53, 332, 333, 334, 335, 336, 337, 338, 339, 340, 341, 342, 343, 344, 345, 346, 347, 348, 32, 33, 34, 35, 42, 43, 45, 46, 47, 48, 49, 50, 51, 52, 54, 55, 56, 57, 58, 59, 60, 61, 62, 63, 64, 65, 66, 67, 68, 69, 70, 71, 72, 73, 74, 75, 76, 77, 78, 79, 80, 81, 82, 83, 84, 85, 86, 87, 88, 89, 90, 91, 92, 93, 94, 95, 96, 97, 98, 99, 100, 101, 102, 103, 104, 105, 106, 107, 108, 109, 110, 111, 112, 113, 114, 115, 116, 117, 118, 119, 120, 121, 122, 123, 124, 125, 126, 127, 128, 129, 130, 131, 132, 133, 134, 135, 136, 137, 138, 139, 140, 141, 142, 143, 144, 145, 146, 147, 148, 149, 150, 151, 152, 153, 154, 155, 156, 157, 158, 159, 160, 161, 162, 163, 167, 168, 169, 170, 171, 172, 173, 174, 175, 176, 177, 178, 179, 180, 181, 182, 183, 184, 185, 186, 187, 188, 189, 190, 191, 192, 193, 194, 205, 206, 207, 208, 209, 210, 211, 212, 213, 214, 215, 216, 217, 218, 219, 220, 221, 222, 223, 224, 225, 226, 227, 228, 229, 230, 231, 232, 233, 234, 235, 236, 237, 238, 239, 240, 241, 242, 243, 244, 245, 246, 247, 248, 249, 250, 251, 252, 253, 254, 255, 256, 257, 258, 259, 260, 261, 262, 263, 264, 265, 266, 267, 268, 269, 270, 271, 272, 273, 274, 275, 276, 277, 278, 279, 280, 281, 282, 283, 284, 285, 286, 287, 288, 289, 290, 291, 292, 293, 294, 295, 296, 297, 298, 299, 300, 301, 302, 303, 304, 305, 306, 307, 308, 309, 370, 371, 372, 373, 374, 375, 376, 377, 378, 379, 380, 381, 382, 383, 384, 385, 386, 387, 388, 389, 390, 391, 392, 393, 394, 395, 396, 397, 398, 399, 400, 401, 402, 403, 404, 405, 406, 407, 408, 409, 410, 411, 412, 413, 414, 415, 433, 434, 435, 425, 426, 427, 428, 429, 430, 431, 432, 416, 417, 418, 419, 420, 421, 422, 423, 424, 436, 437, 438, 439, 440, 441, 442, 443, 444, 445, 446, 447, 448, 449, 450, 451, 452, 453, 454, 455, 456, 457, 458, 459] (by decide +kernel) (by decide +kernel)
set_option maxRecDepth 20000 in
theorem gX9_decisions_X9_plan : GoodIn wsX9_decisions (wsV RX9 234 RX9 yX9_plan wsX9_plan) := goodIn_app (goodIn_of _ (by decide +kernel)) ggX9_decisions_X9_plan
set_option maxRecDepth 20000 in
theorem ggX9_decisions_Jx4a65c_size_8abf5 : GoodIn wsX9_decisions wsJx4a65c_size_8abf5 := goodIn_r _ [200, 201, 433, 434, 435] (by decide +kernel) (by decide +kernel)
set_option maxRecDepth 20000 in
theorem gX9_decisions_Jx4a65c_size_8abf5_f32Jx4a65c : GoodIn wsX9_decisions (va_wsF RX9 32 RJx4a65c ⟨"java/util/List", "size", "()I"⟩ yJx4a65c_size_8abf5 wsJx4a65c_size_8abf5) := goodIn_app (goodIn_of _ (by decide +kernel)) ggX9_decisions_Jx4a65c_size_8abf5
theorem dX9_decisions_0 : decode cX9_decisions 0 = .ok (.aload_n 0, 1) := by decide +kernel
theorem dX9_decisions_1 : decode cX9_decisions 1 = .ok (.iload_n 1, 1) := by decide +kernel
theorem dX9_decisions_2 : decode cX9_decisions 2 = .ok (.invokestatic 229, 3) := by decide +kernel
theorem dX9_decisions_5 : decode cX9_decisions 5 = .ok (.iconst 1, 1) := by decide +kernel
theorem dX9_decisions_6 : decode cX9_decisions 6 = .ok (.invokevirtual 42, 3) := by decide +kernel
theorem dX9_decisions_9 : decode cX9_decisions 9 = .ok (.ifCond .ne 27, 3) := by decide +kernel
theorem dX9_decisions_12 : decode cX9_decisions 12 = .ok (.aload_n 0, 1) := by decide +kernel
theorem dX9_decisions_13 : decode cX9_decisions 13 = .ok (.aload_n 0, 1) := by decide +kernel
theorem dX9_decisions_14 : decode cX9_decisions 14 = .ok (.iload_n 1, 1) := by decide +kernel
theorem dX9_decisions_15 : decode cX9_decisions 15 = .ok (.invokevirtual 232, 3) := by decide +kernel
theorem dX9_decisions_18 : decode cX9_decisions 18 = .ok (.sipush 1000, 3) := by decide +kernel
theorem dX9_decisions_21 : decode cX9_decisions 21 = .ok (.if_icmp .ge 7, 3) := by decide +kernel
theorem dX9_decisions_24 : decode cX9_decisions 24 = .ok (.iconst 1, 1) := by decide +kernel
theorem dX9_decisions_25 : decode cX9_decisions 25 = .ok (.goto 4, 3) := by decide +kernel
theorem dX9_decisions_28 : decode cX9_decisions 28 = .ok (.iconst 0, 1) := by decide +kernel
theorem dX9_decisions_29 : decode cX9_decisions 29 = .ok (.iconst 2, 1) := by decide +kernel
theorem dX9_decisions_30 : decode cX9_decisions 30 = .ok (.invokevirtual 42, 3) := by decide +kernel
theorem dX9_decisions_33 : decode cX9_decisions 33 = .ok (.ifCond .eq 7, 3) := by decide +kernel
theorem dX9_decisions_36 : decode cX9_decisions 36 = .ok (.iconst 0, 1) := by decide +kernel
theorem dX9_decisions_37 : decode cX9_decisions 37 = .ok (.goto 13, 3) := by decide +kernel
theorem dX9_decisions_40 : decode cX9_decisions 40 = .ok (.aload_n 0, 1) := by decide +kernel
theorem dX9_decisions_41 : decode cX9_decisions 41 = .ok (.iload_n 1, 1) := by decide +kernel
theorem dX9_decisions_42 : decode cX9_decisions 42 = .ok (.invokevirtual 234, 3) := by decide +kernel
theorem dX9_decisions_45 : decode cX9_decisions 45 = .ok (.invokeinterface 32 1, 5) := by decide +kernel
theorem dX9_decisions_50 : decode cX9_decisions 50 = .ok (.ireturn, 1) := by decide +kernel
set_option maxRecDepth 20000 in
theorem ggX9_at_X9_isMinute : GoodIn wsX9_at wsX9_isMinute := goodIn_r _ [5, 6, 7, 4, 8] (by decide +kernel) (by decide +kernel)
set_option maxRecDepth 20000 in
theorem gX9_at_X9_isMinute : GoodIn wsX9_at (va_wsS RX9 229 yX9_isMinute wsX9_isMinute) := goodIn_app (goodIn_of _ (by decide +kernel)) ggX9_at_X9_isMinute
set_option maxRecDepth 20000 in
theorem ggX9_at_X9_no : GoodIn wsX9_at wsX9_no := goodIn_r _ [12, 13, 417, 418, 419, 420, 421, 422, 423, 424, 425] (by decide +kernel) (by decide +kernel)
set_option maxRecDepth 20000 in
theorem gX9_at_X9_no : GoodIn wsX9_at (wsV RX9 42 RX9 yX9_no wsX9_no) := goodIn_app (goodIn_of _ (by decide +kernel)) ggX9_at_X9_no
set_option maxRecDepth 20000 in
theorem ggX9_at_X9_fewest_ : GoodIn wsX9_at wsX9_fewest_ := goodIn_r _ [17, 18, 19, 20, 21, 22, 23, 24, 25, 26, 27, 28, 29, 30, 31, 32, 33, 34, 35, 4, 36, 37, 38, 39, 40, 41, 42, 43, 44, 45, 46, 47, 48, 49, 50, 51, 52, 53, 54, 55, 56, 57, 58, 59, 60, 61, 62, 63, 64, 65, 66, 67, 68, 69, 70, 71, 72, 73, 74, 75, 76, 77, 78, 79, 80, 81, 82, 83, 84, 85, 86, 87, 88, 89, 90, 91, 92, 93, 94, 95, 96, 97, 98, 99, 100, 101, 102, 103, 104, 105, 106, 107, 108, 109, 110, 111, 112, 113, 114, 115, 116, 117, 118, 119, 120, 121, 122, 123, 124, 125, 126, 127, 128, 129, 130, 131, 132, 133, 134, 135, 136, 137, 138, 139, 140, 141, 142, 143, 144, 145, 146, 147, 148, 149, 150, 151, 152, 153, 154, 155, 156, 157, 158, 159, 160, 161, 162, 163, 164, 165, 166, 167, 168, 169, 170, 171, 172, 173, 174, 175, 176, 177, 178, 179, 180, 181, 182, 183, 184, 185, 186, 187, 188, 189, 190, 191, 192, 193, 194, 195, 196, 197, 198, 199, 200, 201, 202, 203, 204, 205, 206, 207, 208, 209, 210, 211, 212, 213, 214, 215, 216, 217, 218, 219, 220, 221, 222, 223, 224, 225, 226, 227, 228, 229, 230, 231, 232, 233, 234, 235, 236, 237, 238, 239, 240, 241, 242, 243, 244, 245, 246, 247, 248, 249, 250, 251, 252, 253, 254, 255, 256, 257, 258, 259, 260, 261, 262, 263, 264, 265, 266, 267, 268, 269, 270, 271, 272, 273, 274, 275, 276, 277, 278, 279, 280, 281, 282, 283, 284, 285, 286, 287, 288, 289, 290, 291, 292, 293, 294, 295, 296, 297, 298, 299, 300, 301, 302, 303, 304, 305, 306, 307, 308, 309, 310, 311, 312, 313, 314, 315, 316, 317, 318, 319, 320, 321, 322, 323, 324, 325, 326, 327, 328, 329, 330, 331, 332, 333, 334, 335, 336, 337, 338, 339, 340, 341, 342, 343, 344, 345, 346, 347, 348, 349, 426, 427, 428, 429, 430, 431, 432, 433, 417, 418, 419, 420, 421, 422, 423, 424, 425, 434, 435, 436, 437, 438, 439, 440, 441, 442, 443, 444, 445, 446, 447, 448, 449, 450, 451, 452, 453, 454, 455, 456, 457, 458, 459, 460] (by decide +kernel) (by decide +kernel)
set_option maxRecDepth 20000 in
theorem gX9_at_X9_fewest_ : GoodIn wsX9_at (wsV RX9 232 RX9 yX9_fewest_ wsX9_fewest_) := goodIn_app (goodIn_of _ (by decide +kernel)) ggX9_at_X9_fewest_
set_option maxRecDepth 20000 in
theorem ggX9_at_X9_plan : GoodIn wsX9_at wsX9_plan := goodIn_r _ [353, 354, 355, 200, 18, 19, 20, 356, 357, 358, 359, 360, 332, 361, 362, 363, 364, 365, 366, 367, 368, 369, 370, 31, 32, 21, 22, 23, 24, 25, 26, 27, 28, 29, 30, 203, 204, 205, 4, 311, 39, 40, 41, 42, 312, 313, 314, 315, 38, 37, 197, 198, 199, 201, 202, 316, 317, 318, 319, 320, 321, 322, 323, 324, 325, 326, 327, 328, 329, 330, 331, 196, 165, 166, 45, 167, 54, 333, 334, 335, 336, 337, 338, 339, 340, 341, 342, 343, 344, 345, 346, 347, 348, 349, 33, 34, 35, 36, 43, 44, 46, 47, 48, 49, 50, 51, 52, 53, 55, 56, 57, 58, 59, 60, 61, 62, 63, 64, 65, 66, 67, 68, 69, 70, 71, 72, 73, 74, 75, 76, 77, 78, 79, 80, 81, 82, 83, 84, 85, 86, 87, 88, 89, 90, 91, 92, 93, 94, 95, 96, 97, 98, 99, 100, 101, 102, 103, 104, 105, 106, 107, 108, 109, 110, 111, 112, 113, 114, 115, 116, 117, 118, 119, 120, 121, 122, 123, 124, 125, 126, 127, 128, 129, 130, 131, 132, 133, 134, 135, 136, 137, 138, 139, 140, 141, 142, 143, 144, 145, 146, 147, 148, 149, 150, 151, 152, 153, 154, 155, 156, 157, 158, 159, 160, 161, 162, 163, 164, 168, 169, 170, 171, 172, 173, 174, 175, 176, 177, 178, 179, 180, 181, 182, 183, 184, 185, 186, 187, 188, 189, 190, 191, 192, 193, 194, 195, 206, 207, 208, 209, 210, 211, 212, 213, 214, 215, 216, 217, 218, 219, 220, 221, 222, 223, 224, 225, 226, 227, 228, 229, 230, 231, 232, 233, 234, 235, 236, 237, 238, 239, 240, 241, 242, 243, 244, 245, 246, 247, 248, 249, 250, 251, 252, 253, 254, 255, 256, 257, 258, 259, 260, 261, 262, 263, 264, 265, 266, 267, 268, 269, 270, 271, 272, 273, 274, 275, 276, 277, 278, 279, 280, 281, 282, 283, 284, 285, 286, 287, 288, 289, 290, 291, 292, 293, 294, 295, 296, 297, 298, 299, 300, 301, 302, 303, 304, 305, 306, 307, 308, 309, 310, 371, 372, 373, 374, 375, 376, 377, 378, 379, 380, 381, 382, 383, 384, 385, 386, 387, 388, 389, 390, 391, 392, 393, 394, 395, 396, 397, 398, 399, 400, 401, 402, 403, 404, 405, 406, 407, 408, 409, 410, 411, 412, 413, 414, 415, 416, 434, 435, 436, 426, 427, 428, 429, 430, 431, 432, 433, 417, 418, 419, 420, 421, 422, 423, 424, 425, 437, 438, 439, 440, 441, 442, 443, 444, 445, 446, 447, 448, 449, 450, 451, 452, 453, 454, 455, 456, 457, 458, 459, 460] (by decide +kernel) (by decide +kernel)
set_option maxRecDepth 20000 in
theorem gX9_at_X9_plan : GoodIn wsX9_at (wsV RX9 234 RX9 yX9_plan wsX9_plan) := goodIn_app (goodIn_of _ (by decide +kernel)) ggX9_at_X9_plan
set_option maxRecDepth 20000 in
theorem ggX9_at_Jx4a65c_size_8abf5 : GoodIn wsX9_at wsJx4a65c_size_8abf5 := goodIn_r _ [201, 202, 434, 435, 436] (by decide +kernel) (by decide +kernel)
set_option maxRecDepth 20000 in
theorem gX9_at_Jx4a65c_size_8abf5_f32Jx4a65c : GoodIn wsX9_at (va_wsF RX9 32 RJx4a65c ⟨"java/util/List", "size", "()I"⟩ yJx4a65c_size_8abf5 wsJx4a65c_size_8abf5) := goodIn_app (goodIn_of _ (by decide +kernel)) ggX9_at_Jx4a65c_size_8abf5
set_option maxRecDepth 20000 in
theorem ggX9_at_X9_isIn : GoodIn wsX9_at wsX9_isIn := goodIn_r _ [8] (by decide +kernel) (by decide +kernel)
set_option maxRecDepth 20000 in
theorem gX9_at_X9_isIn : GoodIn wsX9_at (va_wsS RX9 38 yX9_isIn wsX9_isIn) := goodIn_app (goodIn_of _ (by decide +kernel)) ggX9_at_X9_isIn
set_option maxRecDepth 20000 in
theorem ggX9_at_Jx4a65c_get_915e3 : GoodIn wsX9_at wsJx4a65c_get_915e3 := goodIn_r _ [319, 202, 320, 321, 322, 323, 324, 325, 326, 327, 328, 329, 330, 200, 331, 332, 434, 435, 436] (by decide +kernel) (by decide +kernel)
set_option maxRecDepth 20000 in
theorem gX9_at_Jx4a65c_get_915e3_f59Jx4a65c : GoodIn wsX9_at (va_wsF RX9 59 RJx4a65c ⟨"java/util/List", "get", "(I)Ljava/lang/Object;"⟩ yJx4a65c_get_915e3 wsJx4a65c_get_915e3) := goodIn_app (goodIn_of _ (by decide +kernel)) ggX9_at_Jx4a65c_get_915e3
theorem dX9_at_0 : decode cX9_at 0 = .ok (.aload_n 0, 1) := by decide +kernel
theorem dX9_at_1 : decode cX9_at 1 = .ok (.iload_n 1, 1) := by decide +kernel
theorem dX9_at_2 : decode cX9_at 2 = .ok (.invokestatic 229, 3) := by decide +kernel
theorem dX9_at_5 : decode cX9_at 5 = .ok (.iconst 1, 1) := by decide +kernel
theorem dX9_at_6 : decode cX9_at 6 = .ok (.invokevirtual 42, 3) := by decide +kernel
theorem dX9_at_9 : decode cX9_at 9 = .ok (.ifCond .ne 27, 3) := by decide +kernel
theorem dX9_at_12 : decode cX9_at 12 = .ok (.aload_n 0, 1) := by decide +kernel
theorem dX9_at_13 : decode cX9_at 13 = .ok (.aload_n 0, 1) := by decide +kernel
theorem dX9_at_14 : decode cX9_at 14 = .ok (.iload_n 1, 1) := by decide +kernel
theorem dX9_at_15 : decode cX9_at 15 = .ok (.invokevirtual 232, 3) := by decide +kernel
theorem dX9_at_18 : decode cX9_at 18 = .ok (.sipush 1000, 3) := by decide +kernel
theorem dX9_at_21 : decode cX9_at 21 = .ok (.if_icmp .ge 7, 3) := by decide +kernel
theorem dX9_at_24 : decode cX9_at 24 = .ok (.iconst 1, 1) := by decide +kernel
theorem dX9_at_25 : decode cX9_at 25 = .ok (.goto 4, 3) := by decide +kernel
theorem dX9_at_28 : decode cX9_at 28 = .ok (.iconst 0, 1) := by decide +kernel
theorem dX9_at_29 : decode cX9_at 29 = .ok (.iconst 2, 1) := by decide +kernel
theorem dX9_at_30 : decode cX9_at 30 = .ok (.invokevirtual 42, 3) := by decide +kernel
theorem dX9_at_33 : decode cX9_at 33 = .ok (.ifCond .eq 5, 3) := by decide +kernel
theorem dX9_at_36 : decode cX9_at 36 = .ok (.iconst 0, 1) := by decide +kernel
theorem dX9_at_37 : decode cX9_at 37 = .ok (.ireturn, 1) := by decide +kernel
theorem dX9_at_38 : decode cX9_at 38 = .ok (.aload_n 0, 1) := by decide +kernel
theorem dX9_at_39 : decode cX9_at 39 = .ok (.iload_n 1, 1) := by decide +kernel
theorem dX9_at_40 : decode cX9_at 40 = .ok (.invokevirtual 234, 3) := by decide +kernel
theorem dX9_at_43 : decode cX9_at 43 = .ok (.astore 4, 2) := by decide +kernel
theorem dX9_at_45 : decode cX9_at 45 = .ok (.aload_n 0, 1) := by decide +kernel
theorem dX9_at_46 : decode cX9_at 46 = .ok (.iload_n 2, 1) := by decide +kernel
theorem dX9_at_47 : decode cX9_at 47 = .ok (.iconst 0, 1) := by decide +kernel
theorem dX9_at_48 : decode cX9_at 48 = .ok (.aload 4, 2) := by decide +kernel
theorem dX9_at_50 : decode cX9_at 50 = .ok (.invokeinterface 32 1, 5) := by decide +kernel
theorem dX9_at_55 : decode cX9_at 55 = .ok (.iconst 1, 1) := by decide +kernel
theorem dX9_at_56 : decode cX9_at 56 = .ok (.isub, 1) := by decide +kernel
theorem dX9_at_57 : decode cX9_at 57 = .ok (.invokestatic 38, 3) := by decide +kernel
theorem dX9_at_60 : decode cX9_at 60 = .ok (.iconst 2, 1) := by decide +kernel
theorem dX9_at_61 : decode cX9_at 61 = .ok (.invokevirtual 42, 3) := by decide +kernel
theorem dX9_at_64 : decode cX9_at 64 = .ok (.ifCond .eq 7, 3) := by decide +kernel
theorem dX9_at_67 : decode cX9_at 67 = .ok (.iconst 0, 1) := by decide +kernel
theorem dX9_at_68 : decode cX9_at 68 = .ok (.goto 16, 3) := by decide +kernel
theorem dX9_at_71 : decode cX9_at 71 = .ok (.aload 4, 2) := by decide +kernel
theorem dX9_at_73 : decode cX9_at 73 = .ok (.iload_n 2, 1) := by decide +kernel
theorem dX9_at_74 : decode cX9_at 74 = .ok (.invokeinterface 59 2, 5) := by decide +kernel
theorem dX9_at_79 : decode cX9_at 79 = .ok (.checkcast 238, 3) := by decide +kernel
theorem dX9_at_82 : decode cX9_at 82 = .ok (.iload_n 3, 1) := by decide +kernel
theorem dX9_at_83 : decode cX9_at 83 = .ok (.iaload, 1) := by decide +kernel
theorem dX9_at_84 : decode cX9_at 84 = .ok (.ireturn, 1) := by decide +kernel
set_option maxRecDepth 20000 in
theorem ggX9_turnedAt_X9_at : GoodIn wsX9_turnedAt wsX9_at := goodIn_r _ [5, 6, 7, 8, 4, 9, 10, 11, 12, 13, 14, 15, 16, 17, 18, 19, 20, 21, 22, 23, 24, 25, 26, 27, 28, 29, 30, 31, 32, 33, 34, 35, 36, 37, 38, 39, 40, 41, 42, 43, 44, 45, 46, 47, 48, 49, 50, 51, 52, 53, 54, 55, 56, 57, 58, 59, 60, 61, 62, 63, 64, 65, 66, 67, 68, 69, 70, 71, 72, 73, 74, 75, 76, 77, 78, 79, 80, 81, 82, 83, 84, 85, 86, 87, 88, 89, 90, 91, 92, 93, 94, 95, 96, 97, 98, 99, 100, 101, 102, 103, 104, 105, 106, 107, 108, 109, 110, 111, 112, 113, 114, 115, 116, 117, 118, 119, 120, 121, 122, 123, 124, 125, 126, 127, 128, 129, 130, 131, 132, 133, 134, 135, 136, 137, 138, 139, 140, 141, 142, 143, 144, 145, 146, 147, 148, 149, 150, 151, 152, 153, 154, 155, 156, 157, 158, 159, 160, 161, 162, 163, 164, 165, 166, 167, 168, 169, 170, 171, 172, 173, 174, 175, 176, 177, 178, 179, 180, 181, 182, 183, 184, 185, 186, 187, 188, 189, 190, 191, 192, 193, 194, 195, 196, 197, 198, 199, 200, 201, 202, 203, 204, 205, 206, 207, 208, 209, 210, 211, 212, 213, 214, 215, 216, 217, 218, 219, 220, 221, 222, 223, 224, 225, 226, 227, 228, 229, 230, 231, 232, 233, 234, 235, 236, 237, 238, 239, 240, 241, 242, 243, 244, 245, 246, 247, 248, 249, 250, 251, 252, 253, 254, 255, 256, 257, 258, 259, 260, 261, 262, 263, 264, 265, 266, 267, 268, 269, 270, 271, 272, 273, 274, 275, 276, 277, 278, 279, 280, 281, 282, 283, 284, 285, 286, 287, 288, 289, 290, 291, 292, 293, 294, 295, 296, 297, 298, 299, 300, 301, 302, 303, 304, 305, 306, 307, 308, 309, 310, 311, 312, 313, 314, 315, 316, 317, 318, 319, 320, 321, 322, 323, 324, 325, 326, 327, 328, 329, 330, 331, 332, 333, 334, 335, 336, 337, 338, 339, 340, 341, 342, 343, 344, 345, 346, 347, 348, 349, 350, 351, 352, 353, 354, 355, 356, 357, 358, 359, 360, 361, 362, 363, 364, 365, 366, 367, 368, 369, 370, 371, 372, 373, 374, 375, 376, 377, 378, 379, 380, 381, 382, 383, 384, 385, 386, 387, 388, 389, 390, 391, 392, 393, 394, 395, 396, 397, 398, 399, 400, 401, 402, 403, 404, 405, 406, 407, 408, 409, 410, 411, 412, 413, 414, 415, 416, 417, 418, 419, 420, 421, 422, 423, 424, 425, 426, 427, 428, 429, 430, 431, 432, 433, 434, 435, 436, 437, 438, 439, 440, 441, 442, 443, 444, 445, 446, 447, 448, 449, 450, 451, 452, 453, 454, 455, 456, 457, 458, 459, 460, 461, 462, 463, 464] (by decide +kernel) (by decide +kernel)
set_option maxRecDepth 20000 in
theorem gX9_turnedAt_X9_at : GoodIn wsX9_turnedAt (wsV RX9 240 RX9 yX9_at wsX9_at) := goodIn_app (goodIn_of _ (by decide +kernel)) ggX9_turnedAt_X9_at
theorem dX9_turnedAt_0 : decode cX9_turnedAt 0 = .ok (.aload_n 0, 1) := by decide +kernel
theorem dX9_turnedAt_1 : decode cX9_turnedAt 1 = .ok (.iload_n 1, 1) := by decide +kernel
theorem dX9_turnedAt_2 : decode cX9_turnedAt 2 = .ok (.iload_n 2, 1) := by decide +kernel
theorem dX9_turnedAt_3 : decode cX9_turnedAt 3 = .ok (.iconst 1, 1) := by decide +kernel
theorem dX9_turnedAt_4 : decode cX9_turnedAt 4 = .ok (.invokevirtual 240, 3) := by decide +kernel
theorem dX9_turnedAt_7 : decode cX9_turnedAt 7 = .ok (.ireturn, 1) := by decide +kernel
set_option maxRecDepth 20000 in
theorem ggX9_minuteAt_X9_at : GoodIn wsX9_minuteAt wsX9_at := goodIn_r _ [5, 6, 7, 8, 4, 9, 10, 11, 12, 13, 14, 15, 16, 17, 18, 19, 20, 21, 22, 23, 24, 25, 26, 27, 28, 29, 30, 31, 32, 33, 34, 35, 36, 37, 38, 39, 40, 41, 42, 43, 44, 45, 46, 47, 48, 49, 50, 51, 52, 53, 54, 55, 56, 57, 58, 59, 60, 61, 62, 63, 64, 65, 66, 67, 68, 69, 70, 71, 72, 73, 74, 75, 76, 77, 78, 79, 80, 81, 82, 83, 84, 85, 86, 87, 88, 89, 90, 91, 92, 93, 94, 95, 96, 97, 98, 99, 100, 101, 102, 103, 104, 105, 106, 107, 108, 109, 110, 111, 112, 113, 114, 115, 116, 117, 118, 119, 120, 121, 122, 123, 124, 125, 126, 127, 128, 129, 130, 131, 132, 133, 134, 135, 136, 137, 138, 139, 140, 141, 142, 143, 144, 145, 146, 147, 148, 149, 150, 151, 152, 153, 154, 155, 156, 157, 158, 159, 160, 161, 162, 163, 164, 165, 166, 167, 168, 169, 170, 171, 172, 173, 174, 175, 176, 177, 178, 179, 180, 181, 182, 183, 184, 185, 186, 187, 188, 189, 190, 191, 192, 193, 194, 195, 196, 197, 198, 199, 200, 201, 202, 203, 204, 205, 206, 207, 208, 209, 210, 211, 212, 213, 214, 215, 216, 217, 218, 219, 220, 221, 222, 223, 224, 225, 226, 227, 228, 229, 230, 231, 232, 233, 234, 235, 236, 237, 238, 239, 240, 241, 242, 243, 244, 245, 246, 247, 248, 249, 250, 251, 252, 253, 254, 255, 256, 257, 258, 259, 260, 261, 262, 263, 264, 265, 266, 267, 268, 269, 270, 271, 272, 273, 274, 275, 276, 277, 278, 279, 280, 281, 282, 283, 284, 285, 286, 287, 288, 289, 290, 291, 292, 293, 294, 295, 296, 297, 298, 299, 300, 301, 302, 303, 304, 305, 306, 307, 308, 309, 310, 311, 312, 313, 314, 315, 316, 317, 318, 319, 320, 321, 322, 323, 324, 325, 326, 327, 328, 329, 330, 331, 332, 333, 334, 335, 336, 337, 338, 339, 340, 341, 342, 343, 344, 345, 346, 347, 348, 349, 350, 351, 352, 353, 354, 355, 356, 357, 358, 359, 360, 361, 362, 363, 364, 365, 366, 367, 368, 369, 370, 371, 372, 373, 374, 375, 376, 377, 378, 379, 380, 381, 382, 383, 384, 385, 386, 387, 388, 389, 390, 391, 392, 393, 394, 395, 396, 397, 398, 399, 400, 401, 402, 403, 404, 405, 406, 407, 408, 409, 410, 411, 412, 413, 414, 415, 416, 417, 418, 419, 420, 421, 422, 423, 424, 425, 426, 427, 428, 429, 430, 431, 432, 433, 434, 435, 436, 437, 438, 439, 440, 441, 442, 443, 444, 445, 446, 447, 448, 449, 450, 451, 452, 453, 454, 455, 456, 457, 458, 459, 460, 461, 462, 463, 464] (by decide +kernel) (by decide +kernel)
set_option maxRecDepth 20000 in
theorem gX9_minuteAt_X9_at : GoodIn wsX9_minuteAt (wsV RX9 240 RX9 yX9_at wsX9_at) := goodIn_app (goodIn_of _ (by decide +kernel)) ggX9_minuteAt_X9_at
theorem dX9_minuteAt_0 : decode cX9_minuteAt 0 = .ok (.aload_n 0, 1) := by decide +kernel
theorem dX9_minuteAt_1 : decode cX9_minuteAt 1 = .ok (.iload_n 1, 1) := by decide +kernel
theorem dX9_minuteAt_2 : decode cX9_minuteAt 2 = .ok (.iload_n 2, 1) := by decide +kernel
theorem dX9_minuteAt_3 : decode cX9_minuteAt 3 = .ok (.iconst 0, 1) := by decide +kernel
theorem dX9_minuteAt_4 : decode cX9_minuteAt 4 = .ok (.invokevirtual 240, 3) := by decide +kernel
theorem dX9_minuteAt_7 : decode cX9_minuteAt 7 = .ok (.ireturn, 1) := by decide +kernel
set_option maxRecDepth 20000 in
theorem ggX9_measurable_X9_isMinute : GoodIn wsX9_measurable wsX9_isMinute := goodIn_r _ [4, 5, 6, 3, 7] (by decide +kernel) (by decide +kernel)
set_option maxRecDepth 20000 in
theorem gX9_measurable_X9_isMinute : GoodIn wsX9_measurable (va_wsS RX9 229 yX9_isMinute wsX9_isMinute) := goodIn_app (goodIn_of _ (by decide +kernel)) ggX9_measurable_X9_isMinute
set_option maxRecDepth 20000 in
theorem ggX9_measurable_X9_no : GoodIn wsX9_measurable wsX9_no := goodIn_r _ [11, 12, 349, 350, 351, 352, 353, 354, 355, 356, 357] (by decide +kernel) (by decide +kernel)
set_option maxRecDepth 20000 in
theorem gX9_measurable_X9_no : GoodIn wsX9_measurable (wsV RX9 42 RX9 yX9_no wsX9_no) := goodIn_app (goodIn_of _ (by decide +kernel)) ggX9_measurable_X9_no
set_option maxRecDepth 20000 in
theorem ggX9_measurable_X9_fewest_ : GoodIn wsX9_measurable wsX9_fewest_ := goodIn_r _ [16, 17, 18, 19, 20, 21, 22, 23, 24, 25, 26, 27, 28, 29, 30, 31, 32, 33, 34, 3, 35, 36, 37, 38, 39, 40, 41, 42, 43, 44, 45, 46, 47, 48, 49, 50, 51, 52, 53, 54, 55, 56, 57, 58, 59, 60, 61, 62, 63, 64, 65, 66, 67, 68, 69, 70, 71, 72, 73, 74, 75, 76, 77, 78, 79, 80, 81, 82, 83, 84, 85, 86, 87, 88, 89, 90, 91, 92, 93, 94, 95, 96, 97, 98, 99, 100, 101, 102, 103, 104, 105, 106, 107, 108, 109, 110, 111, 112, 113, 114, 115, 116, 117, 118, 119, 120, 121, 122, 123, 124, 125, 126, 127, 128, 129, 130, 131, 132, 133, 134, 135, 136, 137, 138, 139, 140, 141, 142, 143, 144, 145, 146, 147, 148, 149, 150, 151, 152, 153, 154, 155, 156, 157, 158, 159, 160, 161, 162, 163, 164, 165, 166, 167, 168, 169, 170, 171, 172, 173, 174, 175, 176, 177, 178, 179, 180, 181, 182, 183, 184, 185, 186, 187, 188, 189, 190, 191, 192, 193, 194, 195, 196, 197, 198, 199, 200, 201, 202, 203, 204, 205, 206, 207, 208, 209, 210, 211, 212, 213, 214, 215, 216, 217, 218, 219, 220, 221, 222, 223, 224, 225, 226, 227, 228, 229, 230, 231, 232, 233, 234, 235, 236, 237, 238, 239, 240, 241, 242, 243, 244, 245, 246, 247, 248, 249, 250, 251, 252, 253, 254, 255, 256, 257, 258, 259, 260, 261, 262, 263, 264, 265, 266, 267, 268, 269, 270, 271, 272, 273, 274, 275, 276, 277, 278, 279, 280, 281, 282, 283, 284, 285, 286, 287, 288, 289, 290, 291, 292, 293, 294, 295, 296, 297, 298, 299, 300, 301, 302, 303, 304, 305, 306, 307, 308, 309, 310, 311, 312, 313, 314, 315, 316, 317, 318, 319, 320, 321, 322, 323, 324, 325, 326, 327, 328, 329, 330, 331, 332, 333, 334, 335, 336, 337, 338, 339, 340, 341, 342, 343, 344, 345, 346, 347, 348, 358, 359, 360, 361, 362, 363, 364, 365, 349, 350, 351, 352, 353, 354, 355, 356, 357, 366, 367, 368, 369, 370, 371, 372, 373, 374, 375, 376, 377, 378, 379, 380, 381, 382, 383, 384, 385, 386, 387, 388, 389, 390, 391, 392] (by decide +kernel) (by decide +kernel)
set_option maxRecDepth 20000 in
theorem gX9_measurable_X9_fewest_ : GoodIn wsX9_measurable (wsV RX9 232 RX9 yX9_fewest_ wsX9_fewest_) := goodIn_app (goodIn_of _ (by decide +kernel)) ggX9_measurable_X9_fewest_
theorem dX9_measurable_0 : decode cX9_measurable 0 = .ok (.aload_n 0, 1) := by decide +kernel
theorem dX9_measurable_1 : decode cX9_measurable 1 = .ok (.iload_n 1, 1) := by decide +kernel
theorem dX9_measurable_2 : decode cX9_measurable 2 = .ok (.invokestatic 229, 3) := by decide +kernel
theorem dX9_measurable_5 : decode cX9_measurable 5 = .ok (.iconst 1, 1) := by decide +kernel
theorem dX9_measurable_6 : decode cX9_measurable 6 = .ok (.invokevirtual 42, 3) := by decide +kernel
theorem dX9_measurable_9 : decode cX9_measurable 9 = .ok (.ifCond .eq 5, 3) := by decide +kernel
theorem dX9_measurable_12 : decode cX9_measurable 12 = .ok (.iconst 0, 1) := by decide +kernel
theorem dX9_measurable_13 : decode cX9_measurable 13 = .ok (.ireturn, 1) := by decide +kernel
theorem dX9_measurable_14 : decode cX9_measurable 14 = .ok (.iconst 0, 1) := by decide +kernel
theorem dX9_measurable_15 : decode cX9_measurable 15 = .ok (.istore_n 2, 1) := by decide +kernel
theorem dX9_measurable_16 : decode cX9_measurable 16 = .ok (.iconst 1, 1) := by decide +kernel
theorem dX9_measurable_17 : decode cX9_measurable 17 = .ok (.istore_n 3, 1) := by decide +kernel
theorem dX9_measurable_18 : decode cX9_measurable 18 = .ok (.iload_n 3, 1) := by decide +kernel
theorem dX9_measurable_19 : decode cX9_measurable 19 = .ok (.iload_n 1, 1) := by decide +kernel
theorem dX9_measurable_20 : decode cX9_measurable 20 = .ok (.if_icmp .gt 28, 3) := by decide +kernel
theorem dX9_measurable_23 : decode cX9_measurable 23 = .ok (.iload_n 2, 1) := by decide +kernel
theorem dX9_measurable_24 : decode cX9_measurable 24 = .ok (.aload_n 0, 1) := by decide +kernel
theorem dX9_measurable_25 : decode cX9_measurable 25 = .ok (.iload_n 3, 1) := by decide +kernel
theorem dX9_measurable_26 : decode cX9_measurable 26 = .ok (.invokevirtual 232, 3) := by decide +kernel
theorem dX9_measurable_29 : decode cX9_measurable 29 = .ok (.sipush 1000, 3) := by decide +kernel
theorem dX9_measurable_32 : decode cX9_measurable 32 = .ok (.if_icmp .ge 7, 3) := by decide +kernel
theorem dX9_measurable_35 : decode cX9_measurable 35 = .ok (.iconst 1, 1) := by decide +kernel
theorem dX9_measurable_36 : decode cX9_measurable 36 = .ok (.goto 4, 3) := by decide +kernel
theorem dX9_measurable_39 : decode cX9_measurable 39 = .ok (.iconst 0, 1) := by decide +kernel
theorem dX9_measurable_40 : decode cX9_measurable 40 = .ok (.iadd, 1) := by decide +kernel
theorem dX9_measurable_41 : decode cX9_measurable 41 = .ok (.istore_n 2, 1) := by decide +kernel
theorem dX9_measurable_42 : decode cX9_measurable 42 = .ok (.iinc 3 1, 3) := by decide +kernel
theorem dX9_measurable_45 : decode cX9_measurable 45 = .ok (.goto (-27), 3) := by decide +kernel
theorem dX9_measurable_48 : decode cX9_measurable 48 = .ok (.iload_n 2, 1) := by decide +kernel
theorem dX9_measurable_49 : decode cX9_measurable 49 = .ok (.ireturn, 1) := by decide +kernel
set_option maxRecDepth 20000 in
theorem ggX9_canStretch_X9_isMinute : GoodIn wsX9_canStretch wsX9_isMinute := goodIn_r _ [13, 14, 15, 12, 16] (by decide +kernel) (by decide +kernel)
set_option maxRecDepth 20000 in
theorem gX9_canStretch_X9_isMinute : GoodIn wsX9_canStretch (va_wsS RX9 229 yX9_isMinute wsX9_isMinute) := goodIn_app (goodIn_of _ (by decide +kernel)) ggX9_canStretch_X9_isMinute
set_option maxRecDepth 20000 in
theorem ggX9_canStretch_X9_no : GoodIn wsX9_canStretch wsX9_no := goodIn_r _ [20, 21, 425, 426, 427, 428, 429, 430, 431, 432, 433] (by decide +kernel) (by decide +kernel)
set_option maxRecDepth 20000 in
theorem gX9_canStretch_X9_no : GoodIn wsX9_canStretch (wsV RX9 42 RX9 yX9_no wsX9_no) := goodIn_app (goodIn_of _ (by decide +kernel)) ggX9_canStretch_X9_no
set_option maxRecDepth 20000 in
theorem ggX9_canStretch_X13_init : GoodIn wsX9_canStretch wsX13_init := goodIn_r _ [24, 25, 26, 27, 28, 29, 30, 31, 32, 33, 414, 415, 416, 417, 418, 419, 420, 421] (by decide +kernel) (by decide +kernel)
set_option maxRecDepth 20000 in
theorem gX9_canStretch_X13_init : GoodIn wsX9_canStretch (wsX13_init) := ggX9_canStretch_X13_init
set_option maxRecDepth 20000 in
theorem ggX9_canStretch_Jx4a65c_init_da8c8 : GoodIn wsX9_canStretch wsJx4a65c_init_da8c8 := goodIn_r _ [36, 37, 38, 39, 40, 41, 42, 43, 44, 45, 46, 47, 48, 32, 33, 422, 423, 424] (by decide +kernel) (by decide +kernel)
set_option maxRecDepth 20000 in
theorem gX9_canStretch_Jx4a65c_init_da8c8 : GoodIn wsX9_canStretch (wsJx4a65c_init_da8c8) := ggX9_canStretch_Jx4a65c_init_da8c8
set_option maxRecDepth 20000 in
theorem ggX9_canStretch_Jx4a65c_add_9ea2d : GoodIn wsX9_canStretch wsJx4a65c_add_9ea2d := goodIn_r _ [52, 53, 54, 38, 55, 56, 57, 58, 6, 59, 60, 61, 62, 63, 64, 65, 66, 67, 37, 68, 69, 70, 71, 72, 73, 74, 75, 76, 77, 78, 79, 80, 81, 82, 83, 84, 85, 86, 87, 88, 89, 90, 91, 92, 93, 94, 95, 96, 97, 98, 99, 100, 101, 102, 103, 104, 422, 423, 424, 434, 435, 436, 437] (by decide +kernel) (by decide +kernel)
set_option maxRecDepth 20000 in
theorem gX9_canStretch_Jx4a65c_add_9ea2d_f51Jx4a65c : GoodIn wsX9_canStretch (va_wsF RX9 51 RJx4a65c ⟨"java/util/List", "add", "(Ljava/lang/Object;)Z"⟩ yJx4a65c_add_9ea2d wsJx4a65c_add_9ea2d) := goodIn_app (goodIn_of _ (by decide +kernel)) ggX9_canStretch_Jx4a65c_add_9ea2d
set_option maxRecDepth 20000 in
theorem ggX9_canStretch_J6_valueOf_2dffe : GoodIn wsX9_canStretch wsJ6_valueOf_2dffe := goodIn_r _ [108, 109, 110, 111, 112, 107, 113, 114, 115, 116, 117, 118, 119, 120, 121, 32, 33, 438] (by decide +kernel) (by decide +kernel)
set_option maxRecDepth 20000 in
theorem gX9_canStretch_J6_valueOf_2dffe : GoodIn wsX9_canStretch (va_wsS RX9 158 yJ6_valueOf_2dffe wsJ6_valueOf_2dffe) := goodIn_app (goodIn_of _ (by decide +kernel)) ggX9_canStretch_J6_valueOf_2dffe
set_option maxRecDepth 20000 in
theorem ggX9_canStretch_J14_valueOf_4531c : GoodIn wsX9_canStretch wsJ14_valueOf_4531c := goodIn_r _ [125, 126, 127] (by decide +kernel) (by decide +kernel)
set_option maxRecDepth 20000 in
theorem gX9_canStretch_J14_valueOf_4531c : GoodIn wsX9_canStretch (va_wsS RX9 244 yJ14_valueOf_4531c wsJ14_valueOf_4531c) := goodIn_app (goodIn_of _ (by decide +kernel)) ggX9_canStretch_J14_valueOf_4531c
set_option maxRecDepth 20000 in
theorem ggX9_canStretch_X13_put : GoodIn wsX9_canStretch wsX13_put := goodIn_r _ [131, 132, 133, 3, 134, 135, 136, 137, 138, 124, 139, 140, 141, 142, 143, 144, 145, 107, 146, 116, 147, 148, 149, 150, 151, 152, 153, 154, 155, 156, 157, 158, 159, 160, 161, 162, 163, 164, 165, 166, 167, 168, 75, 169, 170, 171, 172, 173, 82, 83, 84, 174, 175, 176, 177, 178, 179, 180, 181, 182, 183, 184, 185, 186, 187, 188, 189, 190, 191, 192, 193, 194, 195, 196, 197, 198, 199, 200, 201, 202, 203, 204, 205, 206, 207, 208, 209, 210, 211, 212, 213, 214, 215, 216, 217, 218, 219, 220, 221, 26, 222, 223, 224, 225, 226, 227, 228, 229, 230, 231, 232, 233, 234, 235, 236, 237, 238, 239, 240, 241, 242, 243, 244, 245, 246, 247, 248, 249, 32, 33, 250, 251, 252, 253, 254, 255, 256, 257, 258, 259, 260, 261, 262, 263, 264, 265, 266, 267, 268, 269, 270, 271, 272, 273, 274, 275, 276, 277, 278, 279, 280, 281, 282, 283, 284, 285, 286, 287, 288, 289, 290, 291, 292, 293, 294, 295, 296, 297, 298, 299, 300, 301, 302, 303, 304, 305, 306, 307, 308, 309, 310, 311, 312, 313, 314, 315, 316, 317, 318, 319, 320, 321, 322, 323, 324, 325, 326, 327, 328, 329, 330, 331, 332, 333, 334, 335, 336, 337, 338, 339, 340, 341, 342, 343, 344, 345, 346, 347, 438, 439, 440, 441, 442, 434, 435, 436, 437, 414, 415, 416, 417, 418, 419, 420, 421, 443, 444, 445, 446, 447, 448, 449, 450, 451, 452, 453, 454, 455, 456, 457] (by decide +kernel) (by decide +kernel)
set_option maxRecDepth 20000 in
theorem gX9_canStretch_X13_put_f207X13 : GoodIn wsX9_canStretch (va_wsF RX9 207 RX13 ⟨"java/util/Map", "put", "(Ljava/lang/Object;Ljava/lang/Object;)Ljava/lang/Object;"⟩ yX13_put wsX13_put) := goodIn_app (goodIn_of _ (by decide +kernel)) ggX9_canStretch_X13_put
set_option maxRecDepth 20000 in
theorem ggX9_canStretch_Jx4a65c_size_8abf5 : GoodIn wsX9_canStretch wsJx4a65c_size_8abf5 := goodIn_r _ [351, 55, 422, 423, 424] (by decide +kernel) (by decide +kernel)
set_option maxRecDepth 20000 in
theorem gX9_canStretch_Jx4a65c_size_8abf5_f32Jx4a65c : GoodIn wsX9_canStretch (va_wsF RX9 32 RJx4a65c ⟨"java/util/List", "size", "()I"⟩ yJx4a65c_size_8abf5 wsJx4a65c_size_8abf5) := goodIn_app (goodIn_of _ (by decide +kernel)) ggX9_canStretch_Jx4a65c_size_8abf5
set_option maxRecDepth 20000 in
theorem ggX9_canStretch_Jx4a65c_get_915e3 : GoodIn wsX9_canStretch wsJx4a65c_get_915e3 := goodIn_r _ [355, 55, 356, 357, 358, 359, 360, 361, 362, 363, 364, 365, 366, 6, 367, 38, 422, 423, 424] (by decide +kernel) (by decide +kernel)
set_option maxRecDepth 20000 in
theorem gX9_canStretch_Jx4a65c_get_915e3_f59Jx4a65c : GoodIn wsX9_canStretch (va_wsF RX9 59 RJx4a65c ⟨"java/util/List", "get", "(I)Ljava/lang/Object;"⟩ yJx4a65c_get_915e3 wsJx4a65c_get_915e3) := goodIn_app (goodIn_of _ (by decide +kernel)) ggX9_canStretch_Jx4a65c_get_915e3
set_option maxRecDepth 20000 in
theorem ggX9_canStretch_X9_fewest : GoodIn wsX9_canStretch wsX9_fewest := goodIn_r _ [371, 372, 9, 373, 99, 70, 100, 105, 106, 107, 108, 109, 110, 111, 112, 113, 114, 115, 116, 117, 118, 119, 120, 121, 32, 33, 374, 375, 376, 3, 377, 212, 378, 379, 380, 381, 207, 208, 209, 211, 210, 132, 133, 134, 135, 136, 137, 138, 124, 139, 140, 141, 142, 143, 144, 145, 146, 147, 148, 149, 150, 151, 152, 153, 154, 155, 156, 157, 158, 159, 160, 161, 162, 163, 164, 165, 166, 167, 168, 75, 169, 170, 171, 172, 173, 82, 83, 84, 174, 175, 176, 177, 178, 179, 180, 181, 182, 183, 184, 185, 186, 187, 188, 189, 190, 191, 192, 193, 194, 195, 196, 197, 198, 199, 200, 201, 202, 281, 282, 283, 284, 285, 286, 287, 288, 289, 290, 291, 292, 293, 294, 295, 296, 297, 298, 299, 300, 301, 302, 303, 304, 305, 382, 383, 384, 227, 385, 260, 310, 311, 312, 313, 386, 387, 388, 389, 259, 258, 232, 233, 262, 263, 314, 390, 348, 349, 350, 6, 351, 55, 391, 392, 393, 12, 128, 129, 130, 131, 203, 204, 205, 206, 213, 214, 215, 216, 217, 218, 219, 220, 221, 26, 222, 223, 224, 225, 226, 228, 229, 230, 231, 234, 235, 236, 237, 238, 239, 240, 241, 242, 243, 244, 245, 246, 247, 248, 249, 250, 251, 252, 253, 254, 255, 256, 257, 261, 264, 265, 266, 267, 268, 269, 270, 271, 272, 273, 274, 275, 276, 277, 278, 279, 280, 306, 307, 308, 309, 315, 316, 317, 318, 319, 320, 321, 322, 323, 324, 325, 326, 327, 328, 329, 330, 331, 332, 333, 334, 335, 336, 337, 338, 339, 340, 341, 342, 343, 344, 345, 346, 347, 394, 395, 396, 397, 398, 352, 353, 354, 355, 356, 357, 358, 359, 360, 361, 362, 363, 364, 365, 366, 367, 38, 399, 400, 401, 402, 403, 404, 405, 406, 407, 408, 409, 410, 411, 412, 413, 69, 71, 368, 369, 370, 425, 426, 427, 428, 429, 430, 431, 432, 433, 422, 423, 424, 438, 443, 444, 445, 446, 447, 448, 449, 450, 451, 452, 453, 454, 455, 456, 457, 414, 415, 416, 417, 418, 419, 420, 421, 439, 440, 441, 442, 434, 435, 436, 437] (by decide +kernel) (by decide +kernel)
set_option maxRecDepth 20000 in
theorem gX9_canStretch_X9_fewest : GoodIn wsX9_canStretch (wsV RX9 222 RX9 yX9_fewest wsX9_fewest) := goodIn_app (goodIn_of _ (by decide +kernel)) ggX9_canStretch_X9_fewest
set_option maxRecDepth 20000 in
theorem ggX9_canStretch_X9_turned : GoodIn wsX9_canStretch wsX9_turned := goodIn_r _ [398, 9, 372, 348, 349, 350, 6, 351, 55, 352, 353, 354, 355, 356, 357, 358, 359, 360, 361, 362, 363, 364, 365, 366, 367, 38, 390, 296, 297, 107, 298, 116, 425, 426, 427, 428, 429, 430, 431, 432, 433, 422, 423, 424, 438] (by decide +kernel) (by decide +kernel)
set_option maxRecDepth 20000 in
theorem gX9_canStretch_X9_turned : GoodIn wsX9_canStretch (wsV RX9 211 RX9 yX9_turned wsX9_turned) := goodIn_app (goodIn_of _ (by decide +kernel)) ggX9_canStretch_X9_turned
set_option maxRecDepth 20000 in
theorem ggX9_canStretch_X9_next : GoodIn wsX9_canStretch wsX9_next := goodIn_r _ [402, 9, 373, 99, 70, 100, 348, 349, 350, 6, 351, 55, 425, 426, 427, 428, 429, 430, 431, 432, 433, 422, 423, 424] (by decide +kernel) (by decide +kernel)
set_option maxRecDepth 20000 in
theorem gX9_canStretch_X9_next : GoodIn wsX9_canStretch (wsV RX9 214 RX9 yX9_next wsX9_next) := goodIn_app (goodIn_of _ (by decide +kernel)) ggX9_canStretch_X9_next
set_option maxRecDepth 20000 in
theorem ggX9_canStretch_X9_later : GoodIn wsX9_canStretch wsX9_later := goodIn_r _ [412, 9, 413, 69, 70, 71, 348, 349, 350, 6, 351, 55, 425, 426, 427, 428, 429, 430, 431, 432, 433, 422, 423, 424] (by decide +kernel) (by decide +kernel)
set_option maxRecDepth 20000 in
theorem gX9_canStretch_X9_later : GoodIn wsX9_canStretch (wsV RX9 219 RX9 yX9_later wsX9_later) := goodIn_app (goodIn_of _ (by decide +kernel)) ggX9_canStretch_X9_later
theorem dX9_canStretch_0 : decode cX9_canStretch 0 = .ok (.aload_n 0, 1) := by decide +kernel
theorem dX9_canStretch_1 : decode cX9_canStretch 1 = .ok (.iload_n 1, 1) := by decide +kernel
theorem dX9_canStretch_2 : decode cX9_canStretch 2 = .ok (.invokestatic 229, 3) := by decide +kernel
theorem dX9_canStretch_5 : decode cX9_canStretch 5 = .ok (.iconst 1, 1) := by decide +kernel
theorem dX9_canStretch_6 : decode cX9_canStretch 6 = .ok (.invokevirtual 42, 3) := by decide +kernel
theorem dX9_canStretch_9 : decode cX9_canStretch 9 = .ok (.ifCond .eq 5, 3) := by decide +kernel
theorem dX9_canStretch_12 : decode cX9_canStretch 12 = .ok (.iconst 0, 1) := by decide +kernel
theorem dX9_canStretch_13 : decode cX9_canStretch 13 = .ok (.ireturn, 1) := by decide +kernel
theorem dX9_canStretch_14 : decode cX9_canStretch 14 = .ok (.new 226, 3) := by decide +kernel
theorem dX9_canStretch_17 : decode cX9_canStretch 17 = .ok (.dup, 1) := by decide +kernel
theorem dX9_canStretch_18 : decode cX9_canStretch 18 = .ok (.invokespecial 228, 3) := by decide +kernel
theorem dX9_canStretch_21 : decode cX9_canStretch 21 = .ok (.astore_n 2, 1) := by decide +kernel
theorem dX9_canStretch_22 : decode cX9_canStretch 22 = .ok (.new 226, 3) := by decide +kernel
theorem dX9_canStretch_25 : decode cX9_canStretch 25 = .ok (.dup, 1) := by decide +kernel
