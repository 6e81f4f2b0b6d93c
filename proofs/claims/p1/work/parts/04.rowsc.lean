theorem dX9_canStretch_26 : decode cX9_canStretch 26 = .ok (.invokespecial 228, 3) := by decide +kernel
theorem dX9_canStretch_29 : decode cX9_canStretch 29 = .ok (.astore_n 3, 1) := by decide +kernel
theorem dX9_canStretch_30 : decode cX9_canStretch 30 = .ok (.new 7, 3) := by decide +kernel
theorem dX9_canStretch_33 : decode cX9_canStretch 33 = .ok (.dup, 1) := by decide +kernel
theorem dX9_canStretch_34 : decode cX9_canStretch 34 = .ok (.invokespecial 9, 3) := by decide +kernel
theorem dX9_canStretch_37 : decode cX9_canStretch 37 = .ok (.astore 4, 2) := by decide +kernel
theorem dX9_canStretch_39 : decode cX9_canStretch 39 = .ok (.aload 4, 2) := by decide +kernel
theorem dX9_canStretch_41 : decode cX9_canStretch 41 = .ok (.iconst 2, 1) := by decide +kernel
theorem dX9_canStretch_42 : decode cX9_canStretch 42 = .ok (.newarray .int, 2) := by decide +kernel
theorem dX9_canStretch_44 : decode cX9_canStretch 44 = .ok (.dup, 1) := by decide +kernel
theorem dX9_canStretch_45 : decode cX9_canStretch 45 = .ok (.iconst 0, 1) := by decide +kernel
theorem dX9_canStretch_46 : decode cX9_canStretch 46 = .ok (.iconst 0, 1) := by decide +kernel
theorem dX9_canStretch_47 : decode cX9_canStretch 47 = .ok (.iastore, 1) := by decide +kernel
theorem dX9_canStretch_48 : decode cX9_canStretch 48 = .ok (.dup, 1) := by decide +kernel
theorem dX9_canStretch_49 : decode cX9_canStretch 49 = .ok (.iconst 1, 1) := by decide +kernel
theorem dX9_canStretch_50 : decode cX9_canStretch 50 = .ok (.iconst 0, 1) := by decide +kernel
theorem dX9_canStretch_51 : decode cX9_canStretch 51 = .ok (.iastore, 1) := by decide +kernel
theorem dX9_canStretch_52 : decode cX9_canStretch 52 = .ok (.invokeinterface 51 2, 5) := by decide +kernel
theorem dX9_canStretch_57 : decode cX9_canStretch 57 = .ok (.pop, 1) := by decide +kernel
theorem dX9_canStretch_58 : decode cX9_canStretch 58 = .ok (.aload_n 2, 1) := by decide +kernel
theorem dX9_canStretch_59 : decode cX9_canStretch 59 = .ok (.iconst 0, 1) := by decide +kernel
theorem dX9_canStretch_60 : decode cX9_canStretch 60 = .ok (.invokestatic 158, 3) := by decide +kernel
theorem dX9_canStretch_63 : decode cX9_canStretch 63 = .ok (.iconst 1, 1) := by decide +kernel
theorem dX9_canStretch_64 : decode cX9_canStretch 64 = .ok (.invokestatic 244, 3) := by decide +kernel
theorem dX9_canStretch_67 : decode cX9_canStretch 67 = .ok (.invokeinterface 207 3, 5) := by decide +kernel
theorem dX9_canStretch_72 : decode cX9_canStretch 72 = .ok (.pop, 1) := by decide +kernel
theorem dX9_canStretch_73 : decode cX9_canStretch 73 = .ok (.iconst 0, 1) := by decide +kernel
theorem dX9_canStretch_74 : decode cX9_canStretch 74 = .ok (.istore 5, 2) := by decide +kernel
theorem dX9_canStretch_76 : decode cX9_canStretch 76 = .ok (.iload 5, 2) := by decide +kernel
theorem dX9_canStretch_78 : decode cX9_canStretch 78 = .ok (.aload 4, 2) := by decide +kernel
theorem dX9_canStretch_80 : decode cX9_canStretch 80 = .ok (.invokeinterface 32 1, 5) := by decide +kernel
theorem dX9_canStretch_85 : decode cX9_canStretch 85 = .ok (.if_icmp .ge 184, 3) := by decide +kernel
theorem dX9_canStretch_88 : decode cX9_canStretch 88 = .ok (.aload 4, 2) := by decide +kernel
theorem dX9_canStretch_90 : decode cX9_canStretch 90 = .ok (.iload 5, 2) := by decide +kernel
theorem dX9_canStretch_92 : decode cX9_canStretch 92 = .ok (.invokeinterface 59 2, 5) := by decide +kernel
theorem dX9_canStretch_97 : decode cX9_canStretch 97 = .ok (.checkcast 238, 3) := by decide +kernel
theorem dX9_canStretch_100 : decode cX9_canStretch 100 = .ok (.iconst 0, 1) := by decide +kernel
theorem dX9_canStretch_101 : decode cX9_canStretch 101 = .ok (.iaload, 1) := by decide +kernel
theorem dX9_canStretch_102 : decode cX9_canStretch 102 = .ok (.istore 6, 2) := by decide +kernel
theorem dX9_canStretch_104 : decode cX9_canStretch 104 = .ok (.aload 4, 2) := by decide +kernel
theorem dX9_canStretch_106 : decode cX9_canStretch 106 = .ok (.iload 5, 2) := by decide +kernel
theorem dX9_canStretch_108 : decode cX9_canStretch 108 = .ok (.invokeinterface 59 2, 5) := by decide +kernel
theorem dX9_canStretch_113 : decode cX9_canStretch 113 = .ok (.checkcast 238, 3) := by decide +kernel
theorem dX9_canStretch_116 : decode cX9_canStretch 116 = .ok (.iconst 1, 1) := by decide +kernel
theorem dX9_canStretch_117 : decode cX9_canStretch 117 = .ok (.iaload, 1) := by decide +kernel
theorem dX9_canStretch_118 : decode cX9_canStretch 118 = .ok (.istore 7, 2) := by decide +kernel
theorem dX9_canStretch_120 : decode cX9_canStretch 120 = .ok (.iload 7, 2) := by decide +kernel
theorem dX9_canStretch_122 : decode cX9_canStretch 122 = .ok (.iload_n 1, 1) := by decide +kernel
theorem dX9_canStretch_123 : decode cX9_canStretch 123 = .ok (.iadd, 1) := by decide +kernel
theorem dX9_canStretch_124 : decode cX9_canStretch 124 = .ok (.bipush 40, 2) := by decide +kernel
theorem dX9_canStretch_126 : decode cX9_canStretch 126 = .ok (.if_icmp .gt 19, 3) := by decide +kernel
theorem dX9_canStretch_129 : decode cX9_canStretch 129 = .ok (.aload_n 0, 1) := by decide +kernel
theorem dX9_canStretch_130 : decode cX9_canStretch 130 = .ok (.iload 6, 2) := by decide +kernel
theorem dX9_canStretch_132 : decode cX9_canStretch 132 = .ok (.iload_n 1, 1) := by decide +kernel
theorem dX9_canStretch_133 : decode cX9_canStretch 133 = .ok (.aload_n 3, 1) := by decide +kernel
theorem dX9_canStretch_134 : decode cX9_canStretch 134 = .ok (.invokevirtual 222, 3) := by decide +kernel
theorem dX9_canStretch_137 : decode cX9_canStretch 137 = .ok (.sipush 1000, 3) := by decide +kernel
theorem dX9_canStretch_140 : decode cX9_canStretch 140 = .ok (.if_icmp .ge 5, 3) := by decide +kernel
theorem dX9_canStretch_143 : decode cX9_canStretch 143 = .ok (.iconst 1, 1) := by decide +kernel
theorem dX9_canStretch_144 : decode cX9_canStretch 144 = .ok (.ireturn, 1) := by decide +kernel
theorem dX9_canStretch_145 : decode cX9_canStretch 145 = .ok (.iconst 0, 1) := by decide +kernel
theorem dX9_canStretch_146 : decode cX9_canStretch 146 = .ok (.istore 8, 2) := by decide +kernel
theorem dX9_canStretch_148 : decode cX9_canStretch 148 = .ok (.iload 8, 2) := by decide +kernel
theorem dX9_canStretch_150 : decode cX9_canStretch 150 = .ok (.iconst 1, 1) := by decide +kernel
theorem dX9_canStretch_151 : decode cX9_canStretch 151 = .ok (.aload_n 0, 1) := by decide +kernel
theorem dX9_canStretch_152 : decode cX9_canStretch 152 = .ok (.getfield 19, 3) := by decide +kernel
theorem dX9_canStretch_155 : decode cX9_canStretch 155 = .ok (.invokeinterface 32 1, 5) := by decide +kernel
theorem dX9_canStretch_160 : decode cX9_canStretch 160 = .ok (.ishl, 1) := by decide +kernel
theorem dX9_canStretch_161 : decode cX9_canStretch 161 = .ok (.if_icmp .ge 102, 3) := by decide +kernel
theorem dX9_canStretch_164 : decode cX9_canStretch 164 = .ok (.aload_n 0, 1) := by decide +kernel
theorem dX9_canStretch_165 : decode cX9_canStretch 165 = .ok (.iload 6, 2) := by decide +kernel
theorem dX9_canStretch_167 : decode cX9_canStretch 167 = .ok (.iload 8, 2) := by decide +kernel
theorem dX9_canStretch_169 : decode cX9_canStretch 169 = .ok (.invokevirtual 211, 3) := by decide +kernel
theorem dX9_canStretch_172 : decode cX9_canStretch 172 = .ok (.istore 9, 2) := by decide +kernel
theorem dX9_canStretch_174 : decode cX9_canStretch 174 = .ok (.aload_n 0, 1) := by decide +kernel
theorem dX9_canStretch_175 : decode cX9_canStretch 175 = .ok (.iload 9, 2) := by decide +kernel
theorem dX9_canStretch_177 : decode cX9_canStretch 177 = .ok (.invokevirtual 214, 3) := by decide +kernel
theorem dX9_canStretch_180 : decode cX9_canStretch 180 = .ok (.istore 10, 2) := by decide +kernel
theorem dX9_canStretch_182 : decode cX9_canStretch 182 = .ok (.iload 7, 2) := by decide +kernel
theorem dX9_canStretch_184 : decode cX9_canStretch 184 = .ok (.iload 10, 2) := by decide +kernel
theorem dX9_canStretch_186 : decode cX9_canStretch 186 = .ok (.iadd, 1) := by decide +kernel
theorem dX9_canStretch_187 : decode cX9_canStretch 187 = .ok (.bipush 40, 2) := by decide +kernel
theorem dX9_canStretch_189 : decode cX9_canStretch 189 = .ok (.if_icmp .le 6, 3) := by decide +kernel
theorem dX9_canStretch_192 : decode cX9_canStretch 192 = .ok (.goto 65, 3) := by decide +kernel
theorem dX9_canStretch_195 : decode cX9_canStretch 195 = .ok (.iconst 2, 1) := by decide +kernel
theorem dX9_canStretch_196 : decode cX9_canStretch 196 = .ok (.newarray .int, 2) := by decide +kernel
theorem dX9_canStretch_198 : decode cX9_canStretch 198 = .ok (.dup, 1) := by decide +kernel
theorem dX9_canStretch_199 : decode cX9_canStretch 199 = .ok (.iconst 0, 1) := by decide +kernel
theorem dX9_canStretch_200 : decode cX9_canStretch 200 = .ok (.aload_n 0, 1) := by decide +kernel
theorem dX9_canStretch_201 : decode cX9_canStretch 201 = .ok (.iload 9, 2) := by decide +kernel
theorem dX9_canStretch_203 : decode cX9_canStretch 203 = .ok (.iload 10, 2) := by decide +kernel
theorem dX9_canStretch_205 : decode cX9_canStretch 205 = .ok (.invokevirtual 219, 3) := by decide +kernel
theorem dX9_canStretch_208 : decode cX9_canStretch 208 = .ok (.iastore, 1) := by decide +kernel
theorem dX9_canStretch_209 : decode cX9_canStretch 209 = .ok (.dup, 1) := by decide +kernel
theorem dX9_canStretch_210 : decode cX9_canStretch 210 = .ok (.iconst 1, 1) := by decide +kernel
theorem dX9_canStretch_211 : decode cX9_canStretch 211 = .ok (.iload 7, 2) := by decide +kernel
theorem dX9_canStretch_213 : decode cX9_canStretch 213 = .ok (.iload 10, 2) := by decide +kernel
theorem dX9_canStretch_215 : decode cX9_canStretch 215 = .ok (.iadd, 1) := by decide +kernel
theorem dX9_canStretch_216 : decode cX9_canStretch 216 = .ok (.iastore, 1) := by decide +kernel
theorem dX9_canStretch_217 : decode cX9_canStretch 217 = .ok (.astore 11, 2) := by decide +kernel
theorem dX9_canStretch_219 : decode cX9_canStretch 219 = .ok (.aload_n 2, 1) := by decide +kernel
theorem dX9_canStretch_220 : decode cX9_canStretch 220 = .ok (.bipush 64, 2) := by decide +kernel
theorem dX9_canStretch_222 : decode cX9_canStretch 222 = .ok (.aload 11, 2) := by decide +kernel
theorem dX9_canStretch_224 : decode cX9_canStretch 224 = .ok (.iconst 0, 1) := by decide +kernel
theorem dX9_canStretch_225 : decode cX9_canStretch 225 = .ok (.iaload, 1) := by decide +kernel
theorem dX9_canStretch_226 : decode cX9_canStretch 226 = .ok (.imul, 1) := by decide +kernel
theorem dX9_canStretch_227 : decode cX9_canStretch 227 = .ok (.aload 11, 2) := by decide +kernel
theorem dX9_canStretch_229 : decode cX9_canStretch 229 = .ok (.iconst 1, 1) := by decide +kernel
theorem dX9_canStretch_230 : decode cX9_canStretch 230 = .ok (.iaload, 1) := by decide +kernel
theorem dX9_canStretch_231 : decode cX9_canStretch 231 = .ok (.iadd, 1) := by decide +kernel
theorem dX9_canStretch_232 : decode cX9_canStretch 232 = .ok (.invokestatic 158, 3) := by decide +kernel
theorem dX9_canStretch_235 : decode cX9_canStretch 235 = .ok (.iconst 1, 1) := by decide +kernel
theorem dX9_canStretch_236 : decode cX9_canStretch 236 = .ok (.invokestatic 244, 3) := by decide +kernel
theorem dX9_canStretch_239 : decode cX9_canStretch 239 = .ok (.invokeinterface 207 3, 5) := by decide +kernel
theorem dX9_canStretch_244 : decode cX9_canStretch 244 = .ok (.ifnonnull 13, 3) := by decide +kernel
theorem dX9_canStretch_247 : decode cX9_canStretch 247 = .ok (.aload 4, 2) := by decide +kernel
theorem dX9_canStretch_249 : decode cX9_canStretch 249 = .ok (.aload 11, 2) := by decide +kernel
theorem dX9_canStretch_251 : decode cX9_canStretch 251 = .ok (.invokeinterface 51 2, 5) := by decide +kernel
theorem dX9_canStretch_256 : decode cX9_canStretch 256 = .ok (.pop, 1) := by decide +kernel
theorem dX9_canStretch_257 : decode cX9_canStretch 257 = .ok (.iinc 8 1, 3) := by decide +kernel
theorem dX9_canStretch_260 : decode cX9_canStretch 260 = .ok (.goto (-112), 3) := by decide +kernel
theorem dX9_canStretch_263 : decode cX9_canStretch 263 = .ok (.iinc 5 1, 3) := by decide +kernel
theorem dX9_canStretch_266 : decode cX9_canStretch 266 = .ok (.goto (-190), 3) := by decide +kernel
theorem dX9_canStretch_269 : decode cX9_canStretch 269 = .ok (.iconst 0, 1) := by decide +kernel
theorem dX9_canStretch_270 : decode cX9_canStretch 270 = .ok (.ireturn, 1) := by decide +kernel
set_option maxRecDepth 20000 in
theorem ggX9_divisor_Jx4a65c_iterator_32c93 : GoodIn wsX9_divisor wsJx4a65c_iterator_32c93 := goodIn_r _ [7, 8, 9, 10, 11, 12, 13, 14, 15, 16, 17, 18, 19, 20, 21, 51, 52, 53, 54, 55, 56, 57] (by decide +kernel) (by decide +kernel)
set_option maxRecDepth 20000 in
theorem gX9_divisor_Jx4a65c_iterator_32c93_f102Jx4a65c : GoodIn wsX9_divisor (va_wsF RX9 102 RJx4a65c ⟨"java/util/List", "iterator", "()Ljava/util/Iterator;"⟩ yJx4a65c_iterator_32c93 wsJx4a65c_iterator_32c93) := goodIn_app (goodIn_of _ (by decide +kernel)) ggX9_divisor_Jx4a65c_iterator_32c93
set_option maxRecDepth 20000 in
theorem ggX9_divisor_Jx35411_hasNext_aae02 : GoodIn wsX9_divisor wsJx35411_hasNext_aae02 := goodIn_r _ [25, 26, 14, 51, 52, 53, 54, 55, 56, 57] (by decide +kernel) (by decide +kernel)
set_option maxRecDepth 20000 in
theorem gX9_divisor_Jx35411_hasNext_aae02_f106Jx35411 : GoodIn wsX9_divisor (va_wsF RX9 106 RJx35411 ⟨"java/util/Iterator", "hasNext", "()Z"⟩ yJx35411_hasNext_aae02 wsJx35411_hasNext_aae02) := goodIn_app (goodIn_of _ (by decide +kernel)) ggX9_divisor_Jx35411_hasNext_aae02
set_option maxRecDepth 20000 in
theorem ggX9_divisor_Jx35411_next_0502b : GoodIn wsX9_divisor wsJx35411_next_0502b := goodIn_r _ [30, 26, 14, 31, 18, 32, 33, 34, 10, 35, 19, 20, 21, 51, 52, 53, 54, 55, 56, 57] (by decide +kernel) (by decide +kernel)
set_option maxRecDepth 20000 in
theorem gX9_divisor_Jx35411_next_0502b_f112Jx35411 : GoodIn wsX9_divisor (va_wsF RX9 112 RJx35411 ⟨"java/util/Iterator", "next", "()Ljava/lang/Object;"⟩ yJx35411_next_0502b wsJx35411_next_0502b) := goodIn_app (goodIn_of _ (by decide +kernel)) ggX9_divisor_Jx35411_next_0502b
set_option maxRecDepth 20000 in
theorem ggX9_divisor_J6_intValue_8abf5 : GoodIn wsX9_divisor wsJ6_intValue_8abf5 := goodIn_r _ [40, 41, 58] (by decide +kernel) (by decide +kernel)
set_option maxRecDepth 20000 in
theorem gX9_divisor_J6_intValue_8abf5 : GoodIn wsX9_divisor (wsV RX9 177 RJ6 yJ6_intValue_8abf5 wsJ6_intValue_8abf5) := goodIn_app (goodIn_of _ (by decide +kernel)) ggX9_divisor_J6_intValue_8abf5
theorem dX9_divisor_0 : decode cX9_divisor 0 = .ok (.iconst 0, 1) := by decide +kernel
theorem dX9_divisor_1 : decode cX9_divisor 1 = .ok (.istore_n 1, 1) := by decide +kernel
theorem dX9_divisor_2 : decode cX9_divisor 2 = .ok (.aload_n 0, 1) := by decide +kernel
theorem dX9_divisor_3 : decode cX9_divisor 3 = .ok (.getfield 19, 3) := by decide +kernel
theorem dX9_divisor_6 : decode cX9_divisor 6 = .ok (.invokeinterface 102 1, 5) := by decide +kernel
theorem dX9_divisor_11 : decode cX9_divisor 11 = .ok (.astore_n 2, 1) := by decide +kernel
theorem dX9_divisor_12 : decode cX9_divisor 12 = .ok (.aload_n 2, 1) := by decide +kernel
theorem dX9_divisor_13 : decode cX9_divisor 13 = .ok (.invokeinterface 106 1, 5) := by decide +kernel
theorem dX9_divisor_18 : decode cX9_divisor 18 = .ok (.ifCond .eq 51, 3) := by decide +kernel
theorem dX9_divisor_21 : decode cX9_divisor 21 = .ok (.aload_n 2, 1) := by decide +kernel
theorem dX9_divisor_22 : decode cX9_divisor 22 = .ok (.invokeinterface 112 1, 5) := by decide +kernel
theorem dX9_divisor_27 : decode cX9_divisor 27 = .ok (.checkcast 159, 3) := by decide +kernel
theorem dX9_divisor_30 : decode cX9_divisor 30 = .ok (.invokevirtual 177, 3) := by decide +kernel
theorem dX9_divisor_33 : decode cX9_divisor 33 = .ok (.istore_n 3, 1) := by decide +kernel
theorem dX9_divisor_34 : decode cX9_divisor 34 = .ok (.iload_n 1, 1) := by decide +kernel
theorem dX9_divisor_35 : decode cX9_divisor 35 = .ok (.istore 4, 2) := by decide +kernel
theorem dX9_divisor_37 : decode cX9_divisor 37 = .ok (.iload_n 3, 1) := by decide +kernel
theorem dX9_divisor_38 : decode cX9_divisor 38 = .ok (.istore 5, 2) := by decide +kernel
theorem dX9_divisor_40 : decode cX9_divisor 40 = .ok (.iload 5, 2) := by decide +kernel
theorem dX9_divisor_42 : decode cX9_divisor 42 = .ok (.ifCond .le 21, 3) := by decide +kernel
theorem dX9_divisor_45 : decode cX9_divisor 45 = .ok (.iload 4, 2) := by decide +kernel
theorem dX9_divisor_47 : decode cX9_divisor 47 = .ok (.iload 5, 2) := by decide +kernel
theorem dX9_divisor_49 : decode cX9_divisor 49 = .ok (.irem, 1) := by decide +kernel
theorem dX9_divisor_50 : decode cX9_divisor 50 = .ok (.istore 6, 2) := by decide +kernel
theorem dX9_divisor_52 : decode cX9_divisor 52 = .ok (.iload 5, 2) := by decide +kernel
theorem dX9_divisor_54 : decode cX9_divisor 54 = .ok (.istore 4, 2) := by decide +kernel
theorem dX9_divisor_56 : decode cX9_divisor 56 = .ok (.iload 6, 2) := by decide +kernel
theorem dX9_divisor_58 : decode cX9_divisor 58 = .ok (.istore 5, 2) := by decide +kernel
theorem dX9_divisor_60 : decode cX9_divisor 60 = .ok (.goto (-20), 3) := by decide +kernel
theorem dX9_divisor_63 : decode cX9_divisor 63 = .ok (.iload 4, 2) := by decide +kernel
theorem dX9_divisor_65 : decode cX9_divisor 65 = .ok (.istore_n 1, 1) := by decide +kernel
theorem dX9_divisor_66 : decode cX9_divisor 66 = .ok (.goto (-54), 3) := by decide +kernel
theorem dX9_divisor_69 : decode cX9_divisor 69 = .ok (.iload_n 1, 1) := by decide +kernel
theorem dX9_divisor_70 : decode cX9_divisor 70 = .ok (.ireturn, 1) := by decide +kernel
set_option maxRecDepth 20000 in
theorem ggX9_setShip_X9_isGlass : GoodIn wsX9_setShip wsX9_isGlass := goodIn_r _ [6, 7, 8, 9, 10, 11, 12, 13, 14, 15, 5, 16, 22, 23, 24, 25, 26, 27, 28, 29, 30, 31, 32, 33] (by decide +kernel) (by decide +kernel)
set_option maxRecDepth 20000 in
theorem gX9_setShip_X9_isGlass : GoodIn wsX9_setShip (wsV RX9 55 RX9 yX9_isGlass wsX9_isGlass) := goodIn_app (goodIn_of _ (by decide +kernel)) ggX9_setShip_X9_isGlass
set_option maxRecDepth 20000 in
theorem ggX9_setShip_X9_no : GoodIn wsX9_setShip wsX9_no := goodIn_r _ [20, 21, 22, 23, 24, 25, 26, 27, 28, 29, 30] (by decide +kernel) (by decide +kernel)
set_option maxRecDepth 20000 in
theorem gX9_setShip_X9_no : GoodIn wsX9_setShip (wsV RX9 42 RX9 yX9_no wsX9_no) := goodIn_app (goodIn_of _ (by decide +kernel)) ggX9_setShip_X9_no
theorem dX9_setShip_0 : decode cX9_setShip 0 = .ok (.aload_n 0, 1) := by decide +kernel
theorem dX9_setShip_1 : decode cX9_setShip 1 = .ok (.aload_n 0, 1) := by decide +kernel
theorem dX9_setShip_2 : decode cX9_setShip 2 = .ok (.iload_n 1, 1) := by decide +kernel
theorem dX9_setShip_3 : decode cX9_setShip 3 = .ok (.invokevirtual 55, 3) := by decide +kernel
theorem dX9_setShip_6 : decode cX9_setShip 6 = .ok (.iconst 1, 1) := by decide +kernel
theorem dX9_setShip_7 : decode cX9_setShip 7 = .ok (.invokevirtual 42, 3) := by decide +kernel
theorem dX9_setShip_10 : decode cX9_setShip 10 = .ok (.ifCond .eq 5, 3) := by decide +kernel
theorem dX9_setShip_13 : decode cX9_setShip 13 = .ok (.iconst 0, 1) := by decide +kernel
theorem dX9_setShip_14 : decode cX9_setShip 14 = .ok (.ireturn, 1) := by decide +kernel
theorem dX9_setShip_15 : decode cX9_setShip 15 = .ok (.aload_n 0, 1) := by decide +kernel
theorem dX9_setShip_16 : decode cX9_setShip 16 = .ok (.getfield 26, 3) := by decide +kernel
theorem dX9_setShip_19 : decode cX9_setShip 19 = .ok (.istore_n 2, 1) := by decide +kernel
theorem dX9_setShip_20 : decode cX9_setShip 20 = .ok (.aload_n 0, 1) := by decide +kernel
theorem dX9_setShip_21 : decode cX9_setShip 21 = .ok (.iload_n 1, 1) := by decide +kernel
theorem dX9_setShip_22 : decode cX9_setShip 22 = .ok (.putfield 26, 3) := by decide +kernel
theorem dX9_setShip_25 : decode cX9_setShip 25 = .ok (.iload_n 2, 1) := by decide +kernel
theorem dX9_setShip_26 : decode cX9_setShip 26 = .ok (.ireturn, 1) := by decide +kernel
set_option maxRecDepth 20000 in
theorem ggX9_boy_X9_no : GoodIn wsX9_boy wsX9_no := goodIn_r _ [9, 10, 41, 42, 43, 44, 45, 46, 47, 48, 49] (by decide +kernel) (by decide +kernel)
set_option maxRecDepth 20000 in
theorem gX9_boy_X9_no : GoodIn wsX9_boy (wsV RX9 42 RX9 yX9_no wsX9_no) := goodIn_app (goodIn_of _ (by decide +kernel)) ggX9_boy_X9_no
set_option maxRecDepth 20000 in
theorem ggX9_boy_Jx4a65c_get_915e3 : GoodIn wsX9_boy wsJx4a65c_get_915e3 := goodIn_r _ [15, 16, 17, 18, 19, 20, 21, 22, 23, 24, 25, 26, 27, 14, 28, 29, 50, 51, 52] (by decide +kernel) (by decide +kernel)
set_option maxRecDepth 20000 in
theorem gX9_boy_Jx4a65c_get_915e3_f59Jx4a65c : GoodIn wsX9_boy (va_wsF RX9 59 RJx4a65c ⟨"java/util/List", "get", "(I)Ljava/lang/Object;"⟩ yJx4a65c_get_915e3 wsJx4a65c_get_915e3) := goodIn_app (goodIn_of _ (by decide +kernel)) ggX9_boy_Jx4a65c_get_915e3
set_option maxRecDepth 20000 in
theorem ggX9_boy_X9_turns : GoodIn wsX9_boy wsX9_turns := goodIn_r _ [33, 34, 35, 36, 37, 38, 39, 40, 53, 54, 55, 56, 57, 58, 59, 60, 61, 62, 63, 64, 65, 66, 41, 42, 43, 44, 45, 46, 47, 48, 49] (by decide +kernel) (by decide +kernel)
set_option maxRecDepth 20000 in
theorem gX9_boy_X9_turns : GoodIn wsX9_boy (wsV RX9 89 RX9 yX9_turns wsX9_turns) := goodIn_app (goodIn_of _ (by decide +kernel)) ggX9_boy_X9_turns
theorem dX9_boy_0 : decode cX9_boy 0 = .ok (.aload_n 0, 1) := by decide +kernel
theorem dX9_boy_1 : decode cX9_boy 1 = .ok (.aload_n 0, 1) := by decide +kernel
theorem dX9_boy_2 : decode cX9_boy 2 = .ok (.getfield 26, 3) := by decide +kernel
theorem dX9_boy_5 : decode cX9_boy 5 = .ok (.ifCond .lt 7, 3) := by decide +kernel
theorem dX9_boy_8 : decode cX9_boy 8 = .ok (.iconst 1, 1) := by decide +kernel
theorem dX9_boy_9 : decode cX9_boy 9 = .ok (.goto 4, 3) := by decide +kernel
theorem dX9_boy_12 : decode cX9_boy 12 = .ok (.iconst 0, 1) := by decide +kernel
theorem dX9_boy_13 : decode cX9_boy 13 = .ok (.iconst 1, 1) := by decide +kernel
theorem dX9_boy_14 : decode cX9_boy 14 = .ok (.invokevirtual 42, 3) := by decide +kernel
theorem dX9_boy_17 : decode cX9_boy 17 = .ok (.ifCond .eq 5, 3) := by decide +kernel
theorem dX9_boy_20 : decode cX9_boy 20 = .ok (.iconst 0, 1) := by decide +kernel
theorem dX9_boy_21 : decode cX9_boy 21 = .ok (.ireturn, 1) := by decide +kernel
theorem dX9_boy_22 : decode cX9_boy 22 = .ok (.aload_n 0, 1) := by decide +kernel
theorem dX9_boy_23 : decode cX9_boy 23 = .ok (.aload_n 0, 1) := by decide +kernel
theorem dX9_boy_24 : decode cX9_boy 24 = .ok (.getfield 10, 3) := by decide +kernel
theorem dX9_boy_27 : decode cX9_boy 27 = .ok (.aload_n 0, 1) := by decide +kernel
theorem dX9_boy_28 : decode cX9_boy 28 = .ok (.getfield 26, 3) := by decide +kernel
theorem dX9_boy_31 : decode cX9_boy 31 = .ok (.invokeinterface 59 2, 5) := by decide +kernel
theorem dX9_boy_36 : decode cX9_boy 36 = .ok (.checkcast 46, 3) := by decide +kernel
theorem dX9_boy_39 : decode cX9_boy 39 = .ok (.invokevirtual 89, 3) := by decide +kernel
theorem dX9_boy_42 : decode cX9_boy 42 = .ok (.pop, 1) := by decide +kernel
theorem dX9_boy_43 : decode cX9_boy 43 = .ok (.aload_n 0, 1) := by decide +kernel
theorem dX9_boy_44 : decode cX9_boy 44 = .ok (.dup, 1) := by decide +kernel
theorem dX9_boy_45 : decode cX9_boy 45 = .ok (.getfield 249, 3) := by decide +kernel
theorem dX9_boy_48 : decode cX9_boy 48 = .ok (.iconst 1, 1) := by decide +kernel
theorem dX9_boy_49 : decode cX9_boy 49 = .ok (.iadd, 1) := by decide +kernel
theorem dX9_boy_50 : decode cX9_boy 50 = .ok (.putfield 249, 3) := by decide +kernel
theorem dX9_boy_53 : decode cX9_boy 53 = .ok (.aload_n 0, 1) := by decide +kernel
theorem dX9_boy_54 : decode cX9_boy 54 = .ok (.getfield 249, 3) := by decide +kernel
theorem dX9_boy_57 : decode cX9_boy 57 = .ok (.ireturn, 1) := by decide +kernel
theorem dX9_noon_0 : decode cX9_noon 0 = .ok (.aload_n 0, 1) := by decide +kernel
theorem dX9_noon_1 : decode cX9_noon 1 = .ok (.getfield 249, 3) := by decide +kernel
theorem dX9_noon_4 : decode cX9_noon 4 = .ok (.istore_n 1, 1) := by decide +kernel
theorem dX9_noon_5 : decode cX9_noon 5 = .ok (.aload_n 0, 1) := by decide +kernel
theorem dX9_noon_6 : decode cX9_noon 6 = .ok (.iconst 0, 1) := by decide +kernel
theorem dX9_noon_7 : decode cX9_noon 7 = .ok (.putfield 249, 3) := by decide +kernel
theorem dX9_noon_10 : decode cX9_noon 10 = .ok (.aload_n 0, 1) := by decide +kernel
theorem dX9_noon_11 : decode cX9_noon 11 = .ok (.aload_n 0, 1) := by decide +kernel
theorem dX9_noon_12 : decode cX9_noon 12 = .ok (.getfield 83, 3) := by decide +kernel
theorem dX9_noon_15 : decode cX9_noon 15 = .ok (.putfield 252, 3) := by decide +kernel
theorem dX9_noon_18 : decode cX9_noon 18 = .ok (.iload_n 1, 1) := by decide +kernel
theorem dX9_noon_19 : decode cX9_noon 19 = .ok (.ireturn, 1) := by decide +kernel
theorem dX9_bells_0 : decode cX9_bells 0 = .ok (.aload_n 0, 1) := by decide +kernel
theorem dX9_bells_1 : decode cX9_bells 1 = .ok (.getfield 249, 3) := by decide +kernel
theorem dX9_bells_4 : decode cX9_bells 4 = .ok (.ifCond .ne 7, 3) := by decide +kernel
theorem dX9_bells_7 : decode cX9_bells 7 = .ok (.iconst 0, 1) := by decide +kernel
theorem dX9_bells_8 : decode cX9_bells 8 = .ok (.goto 14, 3) := by decide +kernel
theorem dX9_bells_11 : decode cX9_bells 11 = .ok (.aload_n 0, 1) := by decide +kernel
theorem dX9_bells_12 : decode cX9_bells 12 = .ok (.getfield 249, 3) := by decide +kernel
theorem dX9_bells_15 : decode cX9_bells 15 = .ok (.iconst 1, 1) := by decide +kernel
theorem dX9_bells_16 : decode cX9_bells 16 = .ok (.isub, 1) := by decide +kernel
theorem dX9_bells_17 : decode cX9_bells 17 = .ok (.bipush 8, 2) := by decide +kernel
theorem dX9_bells_19 : decode cX9_bells 19 = .ok (.irem, 1) := by decide +kernel
theorem dX9_bells_20 : decode cX9_bells 20 = .ok (.iconst 1, 1) := by decide +kernel
theorem dX9_bells_21 : decode cX9_bells 21 = .ok (.iadd, 1) := by decide +kernel
theorem dX9_bells_22 : decode cX9_bells 22 = .ok (.ireturn, 1) := by decide +kernel
theorem dX9_watch_0 : decode cX9_watch 0 = .ok (.aload_n 0, 1) := by decide +kernel
theorem dX9_watch_1 : decode cX9_watch 1 = .ok (.getfield 249, 3) := by decide +kernel
theorem dX9_watch_4 : decode cX9_watch 4 = .ok (.bipush 8, 2) := by decide +kernel
theorem dX9_watch_6 : decode cX9_watch 6 = .ok (.idiv, 1) := by decide +kernel
theorem dX9_watch_7 : decode cX9_watch 7 = .ok (.bipush 6, 2) := by decide +kernel
theorem dX9_watch_9 : decode cX9_watch 9 = .ok (.irem, 1) := by decide +kernel
theorem dX9_watch_10 : decode cX9_watch 10 = .ok (.ireturn, 1) := by decide +kernel
theorem dX9_wrongBy_0 : decode cX9_wrongBy 0 = .ok (.sipush 1800, 3) := by decide +kernel
theorem dX9_wrongBy_3 : decode cX9_wrongBy 3 = .ok (.aload_n 0, 1) := by decide +kernel
theorem dX9_wrongBy_4 : decode cX9_wrongBy 4 = .ok (.getfield 249, 3) := by decide +kernel
theorem dX9_wrongBy_7 : decode cX9_wrongBy 7 = .ok (.imul, 1) := by decide +kernel
theorem dX9_wrongBy_8 : decode cX9_wrongBy 8 = .ok (.aload_n 0, 1) := by decide +kernel
theorem dX9_wrongBy_9 : decode cX9_wrongBy 9 = .ok (.getfield 83, 3) := by decide +kernel
theorem dX9_wrongBy_12 : decode cX9_wrongBy 12 = .ok (.aload_n 0, 1) := by decide +kernel
theorem dX9_wrongBy_13 : decode cX9_wrongBy 13 = .ok (.getfield 252, 3) := by decide +kernel
theorem dX9_wrongBy_16 : decode cX9_wrongBy 16 = .ok (.isub, 1) := by decide +kernel
theorem dX9_wrongBy_17 : decode cX9_wrongBy 17 = .ok (.isub, 1) := by decide +kernel
theorem dX9_wrongBy_18 : decode cX9_wrongBy 18 = .ok (.ireturn, 1) := by decide +kernel
set_option maxRecDepth 20000 in
theorem ggX9_checksum_Jx4a65c_iterator_32c93 : GoodIn wsX9_checksum wsJx4a65c_iterator_32c93 := goodIn_r _ [18, 19, 20, 21, 22, 23, 24, 25, 26, 27, 28, 29, 30, 31, 32, 75, 76, 77, 78, 79, 80, 81] (by decide +kernel) (by decide +kernel)
set_option maxRecDepth 20000 in
theorem gX9_checksum_Jx4a65c_iterator_32c93_f102Jx4a65c : GoodIn wsX9_checksum (va_wsF RX9 102 RJx4a65c ⟨"java/util/List", "iterator", "()Ljava/util/Iterator;"⟩ yJx4a65c_iterator_32c93 wsJx4a65c_iterator_32c93) := goodIn_app (goodIn_of _ (by decide +kernel)) ggX9_checksum_Jx4a65c_iterator_32c93
set_option maxRecDepth 20000 in
theorem ggX9_checksum_Jx35411_hasNext_aae02 : GoodIn wsX9_checksum wsJx35411_hasNext_aae02 := goodIn_r _ [36, 37, 25, 75, 76, 77, 78, 79, 80, 81] (by decide +kernel) (by decide +kernel)
set_option maxRecDepth 20000 in
theorem gX9_checksum_Jx35411_hasNext_aae02_f106Jx35411 : GoodIn wsX9_checksum (va_wsF RX9 106 RJx35411 ⟨"java/util/Iterator", "hasNext", "()Z"⟩ yJx35411_hasNext_aae02 wsJx35411_hasNext_aae02) := goodIn_app (goodIn_of _ (by decide +kernel)) ggX9_checksum_Jx35411_hasNext_aae02
set_option maxRecDepth 20000 in
theorem ggX9_checksum_Jx35411_next_0502b : GoodIn wsX9_checksum wsJx35411_next_0502b := goodIn_r _ [41, 37, 25, 42, 29, 43, 44, 45, 21, 46, 30, 31, 32, 75, 76, 77, 78, 79, 80, 81] (by decide +kernel) (by decide +kernel)
set_option maxRecDepth 20000 in
theorem gX9_checksum_Jx35411_next_0502b_f112Jx35411 : GoodIn wsX9_checksum (va_wsF RX9 112 RJx35411 ⟨"java/util/Iterator", "next", "()Ljava/lang/Object;"⟩ yJx35411_next_0502b wsJx35411_next_0502b) := goodIn_app (goodIn_of _ (by decide +kernel)) ggX9_checksum_Jx35411_next_0502b
theorem dX9_checksum_0 : decode cX9_checksum 0 = .ok (.ldc2_w 255, 3) := by decide +kernel
theorem dX9_checksum_3 : decode cX9_checksum 3 = .ok (.lstore_n 1, 1) := by decide +kernel
theorem dX9_checksum_4 : decode cX9_checksum 4 = .ok (.aload_n 0, 1) := by decide +kernel
theorem dX9_checksum_5 : decode cX9_checksum 5 = .ok (.getfield 10, 3) := by decide +kernel
theorem dX9_checksum_8 : decode cX9_checksum 8 = .ok (.invokeinterface 102 1, 5) := by decide +kernel
theorem dX9_checksum_13 : decode cX9_checksum 13 = .ok (.astore_n 3, 1) := by decide +kernel
theorem dX9_checksum_14 : decode cX9_checksum 14 = .ok (.aload_n 3, 1) := by decide +kernel
theorem dX9_checksum_15 : decode cX9_checksum 15 = .ok (.invokeinterface 106 1, 5) := by decide +kernel
theorem dX9_checksum_20 : decode cX9_checksum 20 = .ok (.ifCond .eq 56, 3) := by decide +kernel
theorem dX9_checksum_23 : decode cX9_checksum 23 = .ok (.aload_n 3, 1) := by decide +kernel
theorem dX9_checksum_24 : decode cX9_checksum 24 = .ok (.invokeinterface 112 1, 5) := by decide +kernel
theorem dX9_checksum_29 : decode cX9_checksum 29 = .ok (.checkcast 46, 3) := by decide +kernel
theorem dX9_checksum_32 : decode cX9_checksum 32 = .ok (.astore 4, 2) := by decide +kernel
theorem dX9_checksum_34 : decode cX9_checksum 34 = .ok (.ldc2_w 257, 3) := by decide +kernel
theorem dX9_checksum_37 : decode cX9_checksum 37 = .ok (.lload_n 1, 1) := by decide +kernel
theorem dX9_checksum_38 : decode cX9_checksum 38 = .ok (.lmul, 1) := by decide +kernel
theorem dX9_checksum_39 : decode cX9_checksum 39 = .ok (.aload 4, 2) := by decide +kernel
theorem dX9_checksum_41 : decode cX9_checksum 41 = .ok (.getfield 63, 3) := by decide +kernel
theorem dX9_checksum_44 : decode cX9_checksum 44 = .ok (.i2l, 1) := by decide +kernel
theorem dX9_checksum_45 : decode cX9_checksum 45 = .ok (.ladd, 1) := by decide +kernel
theorem dX9_checksum_46 : decode cX9_checksum 46 = .ok (.lstore_n 1, 1) := by decide +kernel
theorem dX9_checksum_47 : decode cX9_checksum 47 = .ok (.ldc2_w 257, 3) := by decide +kernel
theorem dX9_checksum_50 : decode cX9_checksum 50 = .ok (.lload_n 1, 1) := by decide +kernel
theorem dX9_checksum_51 : decode cX9_checksum 51 = .ok (.lmul, 1) := by decide +kernel
theorem dX9_checksum_52 : decode cX9_checksum 52 = .ok (.aload 4, 2) := by decide +kernel
theorem dX9_checksum_54 : decode cX9_checksum 54 = .ok (.getfield 66, 3) := by decide +kernel
theorem dX9_checksum_57 : decode cX9_checksum 57 = .ok (.i2l, 1) := by decide +kernel
theorem dX9_checksum_58 : decode cX9_checksum 58 = .ok (.ladd, 1) := by decide +kernel
theorem dX9_checksum_59 : decode cX9_checksum 59 = .ok (.lstore_n 1, 1) := by decide +kernel
theorem dX9_checksum_60 : decode cX9_checksum 60 = .ok (.ldc2_w 257, 3) := by decide +kernel
theorem dX9_checksum_63 : decode cX9_checksum 63 = .ok (.lload_n 1, 1) := by decide +kernel
theorem dX9_checksum_64 : decode cX9_checksum 64 = .ok (.lmul, 1) := by decide +kernel
theorem dX9_checksum_65 : decode cX9_checksum 65 = .ok (.aload 4, 2) := by decide +kernel
theorem dX9_checksum_67 : decode cX9_checksum 67 = .ok (.getfield 80, 3) := by decide +kernel
theorem dX9_checksum_70 : decode cX9_checksum 70 = .ok (.i2l, 1) := by decide +kernel
theorem dX9_checksum_71 : decode cX9_checksum 71 = .ok (.ladd, 1) := by decide +kernel
theorem dX9_checksum_72 : decode cX9_checksum 72 = .ok (.lstore_n 1, 1) := by decide +kernel
theorem dX9_checksum_73 : decode cX9_checksum 73 = .ok (.goto (-59), 3) := by decide +kernel
theorem dX9_checksum_76 : decode cX9_checksum 76 = .ok (.aload_n 0, 1) := by decide +kernel
theorem dX9_checksum_77 : decode cX9_checksum 77 = .ok (.getfield 16, 3) := by decide +kernel
theorem dX9_checksum_80 : decode cX9_checksum 80 = .ok (.invokeinterface 102 1, 5) := by decide +kernel
theorem dX9_checksum_85 : decode cX9_checksum 85 = .ok (.astore_n 3, 1) := by decide +kernel
theorem dX9_checksum_86 : decode cX9_checksum 86 = .ok (.aload_n 3, 1) := by decide +kernel
theorem dX9_checksum_87 : decode cX9_checksum 87 = .ok (.invokeinterface 106 1, 5) := by decide +kernel
theorem dX9_checksum_92 : decode cX9_checksum 92 = .ok (.ifCond .eq 43, 3) := by decide +kernel
theorem dX9_checksum_95 : decode cX9_checksum 95 = .ok (.aload_n 3, 1) := by decide +kernel
theorem dX9_checksum_96 : decode cX9_checksum 96 = .ok (.invokeinterface 112 1, 5) := by decide +kernel
theorem dX9_checksum_101 : decode cX9_checksum 101 = .ok (.checkcast 120, 3) := by decide +kernel
theorem dX9_checksum_104 : decode cX9_checksum 104 = .ok (.astore 4, 2) := by decide +kernel
theorem dX9_checksum_106 : decode cX9_checksum 106 = .ok (.ldc2_w 257, 3) := by decide +kernel
theorem dX9_checksum_109 : decode cX9_checksum 109 = .ok (.lload_n 1, 1) := by decide +kernel
theorem dX9_checksum_110 : decode cX9_checksum 110 = .ok (.lmul, 1) := by decide +kernel
theorem dX9_checksum_111 : decode cX9_checksum 111 = .ok (.aload 4, 2) := by decide +kernel
theorem dX9_checksum_113 : decode cX9_checksum 113 = .ok (.getfield 127, 3) := by decide +kernel
theorem dX9_checksum_116 : decode cX9_checksum 116 = .ok (.i2l, 1) := by decide +kernel
theorem dX9_checksum_117 : decode cX9_checksum 117 = .ok (.ladd, 1) := by decide +kernel
theorem dX9_checksum_118 : decode cX9_checksum 118 = .ok (.lstore_n 1, 1) := by decide +kernel
theorem dX9_checksum_119 : decode cX9_checksum 119 = .ok (.ldc2_w 257, 3) := by decide +kernel
theorem dX9_checksum_122 : decode cX9_checksum 122 = .ok (.lload_n 1, 1) := by decide +kernel
theorem dX9_checksum_123 : decode cX9_checksum 123 = .ok (.lmul, 1) := by decide +kernel
theorem dX9_checksum_124 : decode cX9_checksum 124 = .ok (.aload 4, 2) := by decide +kernel
theorem dX9_checksum_126 : decode cX9_checksum 126 = .ok (.getfield 119, 3) := by decide +kernel
theorem dX9_checksum_129 : decode cX9_checksum 129 = .ok (.i2l, 1) := by decide +kernel
theorem dX9_checksum_130 : decode cX9_checksum 130 = .ok (.ladd, 1) := by decide +kernel
theorem dX9_checksum_131 : decode cX9_checksum 131 = .ok (.lstore_n 1, 1) := by decide +kernel
theorem dX9_checksum_132 : decode cX9_checksum 132 = .ok (.goto (-46), 3) := by decide +kernel
theorem dX9_checksum_135 : decode cX9_checksum 135 = .ok (.ldc2_w 257, 3) := by decide +kernel
theorem dX9_checksum_138 : decode cX9_checksum 138 = .ok (.lload_n 1, 1) := by decide +kernel
theorem dX9_checksum_139 : decode cX9_checksum 139 = .ok (.lmul, 1) := by decide +kernel
theorem dX9_checksum_140 : decode cX9_checksum 140 = .ok (.aload_n 0, 1) := by decide +kernel
theorem dX9_checksum_141 : decode cX9_checksum 141 = .ok (.getfield 83, 3) := by decide +kernel
theorem dX9_checksum_144 : decode cX9_checksum 144 = .ok (.i2l, 1) := by decide +kernel
theorem dX9_checksum_145 : decode cX9_checksum 145 = .ok (.ladd, 1) := by decide +kernel
theorem dX9_checksum_146 : decode cX9_checksum 146 = .ok (.lstore_n 1, 1) := by decide +kernel
theorem dX9_checksum_147 : decode cX9_checksum 147 = .ok (.ldc2_w 257, 3) := by decide +kernel
theorem dX9_checksum_150 : decode cX9_checksum 150 = .ok (.lload_n 1, 1) := by decide +kernel
theorem dX9_checksum_151 : decode cX9_checksum 151 = .ok (.lmul, 1) := by decide +kernel
theorem dX9_checksum_152 : decode cX9_checksum 152 = .ok (.aload_n 0, 1) := by decide +kernel
theorem dX9_checksum_153 : decode cX9_checksum 153 = .ok (.getfield 22, 3) := by decide +kernel
theorem dX9_checksum_156 : decode cX9_checksum 156 = .ok (.i2l, 1) := by decide +kernel
theorem dX9_checksum_157 : decode cX9_checksum 157 = .ok (.ladd, 1) := by decide +kernel
theorem dX9_checksum_158 : decode cX9_checksum 158 = .ok (.lreturn, 1) := by decide +kernel
set_option maxRecDepth 20000 in
theorem ggX9_aboveShare_Jx4a65c_iterator_32c93 : GoodIn wsX9_aboveShare wsJx4a65c_iterator_32c93 := goodIn_r _ [8, 9, 10, 11, 12, 13, 14, 15, 16, 17, 18, 19, 20, 21, 22, 76, 77, 78, 79, 80, 81, 82] (by decide +kernel) (by decide +kernel)
set_option maxRecDepth 20000 in
theorem gX9_aboveShare_Jx4a65c_iterator_32c93_f102Jx4a65c : GoodIn wsX9_aboveShare (va_wsF RX9 102 RJx4a65c ⟨"java/util/List", "iterator", "()Ljava/util/Iterator;"⟩ yJx4a65c_iterator_32c93 wsJx4a65c_iterator_32c93) := goodIn_app (goodIn_of _ (by decide +kernel)) ggX9_aboveShare_Jx4a65c_iterator_32c93
set_option maxRecDepth 20000 in
theorem ggX9_aboveShare_Jx35411_hasNext_aae02 : GoodIn wsX9_aboveShare wsJx35411_hasNext_aae02 := goodIn_r _ [26, 27, 15, 76, 77, 78, 79, 80, 81, 82] (by decide +kernel) (by decide +kernel)
set_option maxRecDepth 20000 in
theorem gX9_aboveShare_Jx35411_hasNext_aae02_f106Jx35411 : GoodIn wsX9_aboveShare (va_wsF RX9 106 RJx35411 ⟨"java/util/Iterator", "hasNext", "()Z"⟩ yJx35411_hasNext_aae02 wsJx35411_hasNext_aae02) := goodIn_app (goodIn_of _ (by decide +kernel)) ggX9_aboveShare_Jx35411_hasNext_aae02
set_option maxRecDepth 20000 in
theorem ggX9_aboveShare_Jx35411_next_0502b : GoodIn wsX9_aboveShare wsJx35411_next_0502b := goodIn_r _ [31, 27, 15, 32, 19, 33, 34, 35, 11, 36, 20, 21, 22, 76, 77, 78, 79, 80, 81, 82] (by decide +kernel) (by decide +kernel)
set_option maxRecDepth 20000 in
theorem gX9_aboveShare_Jx35411_next_0502b_f112Jx35411 : GoodIn wsX9_aboveShare (va_wsF RX9 112 RJx35411 ⟨"java/util/Iterator", "next", "()Ljava/lang/Object;"⟩ yJx35411_next_0502b wsJx35411_next_0502b) := goodIn_app (goodIn_of _ (by decide +kernel)) ggX9_aboveShare_Jx35411_next_0502b
set_option maxRecDepth 20000 in
theorem ggX9_aboveShare_Jx4a65c_isEmpty_aae02 : GoodIn wsX9_aboveShare wsJx4a65c_isEmpty_aae02 := goodIn_r _ [40, 41, 80, 81, 82] (by decide +kernel) (by decide +kernel)
set_option maxRecDepth 20000 in
theorem gX9_aboveShare_Jx4a65c_isEmpty_aae02_f180Jx4a65c : GoodIn wsX9_aboveShare (va_wsF RX9 180 RJx4a65c ⟨"java/util/List", "isEmpty", "()Z"⟩ yJx4a65c_isEmpty_aae02 wsJx4a65c_isEmpty_aae02) := goodIn_app (goodIn_of _ (by decide +kernel)) ggX9_aboveShare_Jx4a65c_isEmpty_aae02
set_option maxRecDepth 20000 in
theorem ggX9_aboveShare_X9_no : GoodIn wsX9_aboveShare wsX9_no := goodIn_r _ [46, 47, 53, 54, 55, 56, 57, 58, 59, 60, 61] (by decide +kernel) (by decide +kernel)
set_option maxRecDepth 20000 in
theorem gX9_aboveShare_X9_no : GoodIn wsX9_aboveShare (wsV RX9 42 RX9 yX9_no wsX9_no) := goodIn_app (goodIn_of _ (by decide +kernel)) ggX9_aboveShare_X9_no
set_option maxRecDepth 20000 in
theorem ggX9_aboveShare_X9_all : GoodIn wsX9_aboveShare wsX9_all := goodIn_r _ [51, 1, 2, 3, 52, 4, 5, 6, 7, 8, 9, 10, 11, 12, 13, 14, 15, 16, 17, 18, 19, 20, 21, 22, 23, 24, 25, 26, 27, 28, 29, 30, 31, 32, 33, 34, 35, 36, 53, 54, 55, 56, 57, 58, 59, 60, 61, 62, 63, 64, 65, 66, 67, 68, 69, 70, 71, 72, 73, 74, 75, 76, 77, 78, 79, 80, 81, 82] (by decide +kernel) (by decide +kernel)
set_option maxRecDepth 20000 in
theorem gX9_aboveShare_X9_all : GoodIn wsX9_aboveShare (wsV RX9 116 RX9 yX9_all wsX9_all) := goodIn_app (goodIn_of _ (by decide +kernel)) ggX9_aboveShare_X9_all
theorem dX9_aboveShare_0 : decode cX9_aboveShare 0 = .ok (.iconst 0, 1) := by decide +kernel
theorem dX9_aboveShare_1 : decode cX9_aboveShare 1 = .ok (.istore_n 1, 1) := by decide +kernel
theorem dX9_aboveShare_2 : decode cX9_aboveShare 2 = .ok (.aload_n 0, 1) := by decide +kernel
theorem dX9_aboveShare_3 : decode cX9_aboveShare 3 = .ok (.getfield 10, 3) := by decide +kernel
theorem dX9_aboveShare_6 : decode cX9_aboveShare 6 = .ok (.invokeinterface 102 1, 5) := by decide +kernel
theorem dX9_aboveShare_11 : decode cX9_aboveShare 11 = .ok (.astore_n 2, 1) := by decide +kernel
theorem dX9_aboveShare_12 : decode cX9_aboveShare 12 = .ok (.aload_n 2, 1) := by decide +kernel
theorem dX9_aboveShare_13 : decode cX9_aboveShare 13 = .ok (.invokeinterface 106 1, 5) := by decide +kernel
theorem dX9_aboveShare_18 : decode cX9_aboveShare 18 = .ok (.ifCond .eq 23, 3) := by decide +kernel
theorem dX9_aboveShare_21 : decode cX9_aboveShare 21 = .ok (.aload_n 2, 1) := by decide +kernel
theorem dX9_aboveShare_22 : decode cX9_aboveShare 22 = .ok (.invokeinterface 112 1, 5) := by decide +kernel
theorem dX9_aboveShare_27 : decode cX9_aboveShare 27 = .ok (.checkcast 46, 3) := by decide +kernel
theorem dX9_aboveShare_30 : decode cX9_aboveShare 30 = .ok (.astore_n 3, 1) := by decide +kernel
theorem dX9_aboveShare_31 : decode cX9_aboveShare 31 = .ok (.iload_n 1, 1) := by decide +kernel
theorem dX9_aboveShare_32 : decode cX9_aboveShare 32 = .ok (.aload_n 3, 1) := by decide +kernel
theorem dX9_aboveShare_33 : decode cX9_aboveShare 33 = .ok (.getfield 63, 3) := by decide +kernel
theorem dX9_aboveShare_36 : decode cX9_aboveShare 36 = .ok (.iadd, 1) := by decide +kernel
theorem dX9_aboveShare_37 : decode cX9_aboveShare 37 = .ok (.istore_n 1, 1) := by decide +kernel
theorem dX9_aboveShare_38 : decode cX9_aboveShare 38 = .ok (.goto (-26), 3) := by decide +kernel
theorem dX9_aboveShare_41 : decode cX9_aboveShare 41 = .ok (.aload_n 0, 1) := by decide +kernel
theorem dX9_aboveShare_42 : decode cX9_aboveShare 42 = .ok (.aload_n 0, 1) := by decide +kernel
theorem dX9_aboveShare_43 : decode cX9_aboveShare 43 = .ok (.getfield 10, 3) := by decide +kernel
theorem dX9_aboveShare_46 : decode cX9_aboveShare 46 = .ok (.invokeinterface 180 1, 5) := by decide +kernel
theorem dX9_aboveShare_51 : decode cX9_aboveShare 51 = .ok (.ifCond .ne 7, 3) := by decide +kernel
theorem dX9_aboveShare_54 : decode cX9_aboveShare 54 = .ok (.iconst 1, 1) := by decide +kernel
theorem dX9_aboveShare_55 : decode cX9_aboveShare 55 = .ok (.goto 4, 3) := by decide +kernel
theorem dX9_aboveShare_58 : decode cX9_aboveShare 58 = .ok (.iconst 0, 1) := by decide +kernel
theorem dX9_aboveShare_59 : decode cX9_aboveShare 59 = .ok (.iconst 1, 1) := by decide +kernel
theorem dX9_aboveShare_60 : decode cX9_aboveShare 60 = .ok (.invokevirtual 42, 3) := by decide +kernel
theorem dX9_aboveShare_63 : decode cX9_aboveShare 63 = .ok (.ifCond .eq 7, 3) := by decide +kernel
theorem dX9_aboveShare_66 : decode cX9_aboveShare 66 = .ok (.fconst 0, 1) := by decide +kernel
theorem dX9_aboveShare_67 : decode cX9_aboveShare 67 = .ok (.goto 11, 3) := by decide +kernel
theorem dX9_aboveShare_70 : decode cX9_aboveShare 70 = .ok (.iload_n 1, 1) := by decide +kernel
theorem dX9_aboveShare_71 : decode cX9_aboveShare 71 = .ok (.i2f, 1) := by decide +kernel
theorem dX9_aboveShare_72 : decode cX9_aboveShare 72 = .ok (.aload_n 0, 1) := by decide +kernel
theorem dX9_aboveShare_73 : decode cX9_aboveShare 73 = .ok (.invokevirtual 116, 3) := by decide +kernel
theorem dX9_aboveShare_76 : decode cX9_aboveShare 76 = .ok (.i2f, 1) := by decide +kernel
theorem dX9_aboveShare_77 : decode cX9_aboveShare 77 = .ok (.fdiv, 1) := by decide +kernel
theorem dX9_aboveShare_78 : decode cX9_aboveShare 78 = .ok (.freturn, 1) := by decide +kernel
theorem dX9_isSound_0 : decode cX9_isSound 0 = .ok (.iconst 1, 1) := by decide +kernel
theorem dX9_isSound_1 : decode cX9_isSound 1 = .ok (.ireturn, 1) := by decide +kernel
theorem dJ14_valueOf_4531c_0 : decode cJ14_valueOf_4531c 0 = .ok (.iload_n 0, 1) := by decide +kernel
theorem dJ14_valueOf_4531c_1 : decode cJ14_valueOf_4531c 1 = .ok (.ifCond .eq 9, 3) := by decide +kernel
theorem dJ14_valueOf_4531c_4 : decode cJ14_valueOf_4531c 4 = .ok (.getstatic 27, 3) := by decide +kernel
theorem dJ14_valueOf_4531c_7 : decode cJ14_valueOf_4531c 7 = .ok (.goto 6, 3) := by decide +kernel
theorem dJ14_valueOf_4531c_10 : decode cJ14_valueOf_4531c 10 = .ok (.getstatic 31, 3) := by decide +kernel
theorem dJ14_valueOf_4531c_13 : decode cJ14_valueOf_4531c 13 = .ok (.areturn, 1) := by decide +kernel
set_option maxRecDepth 20000 in
theorem ggJ6_valueOf_2dffe_J6_init_d00df : GoodIn wsJ6_valueOf_2dffe wsJ6_init_d00df := goodIn_r _ [8, 9, 10, 11, 12, 13, 14, 15, 16, 17] (by decide +kernel) (by decide +kernel)
set_option maxRecDepth 20000 in
theorem gJ6_valueOf_2dffe_J6_init_d00df : GoodIn wsJ6_valueOf_2dffe (wsJ6_init_d00df) := ggJ6_valueOf_2dffe_J6_init_d00df
theorem dJ6_valueOf_2dffe_0 : decode cJ6_valueOf_2dffe 0 = .ok (.iload_n 0, 1) := by decide +kernel
theorem dJ6_valueOf_2dffe_1 : decode cJ6_valueOf_2dffe 1 = .ok (.bipush (-128), 2) := by decide +kernel
theorem dJ6_valueOf_2dffe_3 : decode cJ6_valueOf_2dffe 3 = .ok (.if_icmp .lt 20, 3) := by decide +kernel
theorem dJ6_valueOf_2dffe_6 : decode cJ6_valueOf_2dffe 6 = .ok (.iload_n 0, 1) := by decide +kernel
theorem dJ6_valueOf_2dffe_7 : decode cJ6_valueOf_2dffe 7 = .ok (.getstatic 191, 3) := by decide +kernel
theorem dJ6_valueOf_2dffe_10 : decode cJ6_valueOf_2dffe 10 = .ok (.if_icmp .gt 13, 3) := by decide +kernel
theorem dJ6_valueOf_2dffe_13 : decode cJ6_valueOf_2dffe 13 = .ok (.getstatic 195, 3) := by decide +kernel
theorem dJ6_valueOf_2dffe_16 : decode cJ6_valueOf_2dffe 16 = .ok (.iload_n 0, 1) := by decide +kernel
theorem dJ6_valueOf_2dffe_17 : decode cJ6_valueOf_2dffe 17 = .ok (.sipush 128, 3) := by decide +kernel
theorem dJ6_valueOf_2dffe_20 : decode cJ6_valueOf_2dffe 20 = .ok (.iadd, 1) := by decide +kernel
theorem dJ6_valueOf_2dffe_21 : decode cJ6_valueOf_2dffe 21 = .ok (.aaload, 1) := by decide +kernel
theorem dJ6_valueOf_2dffe_22 : decode cJ6_valueOf_2dffe 22 = .ok (.areturn, 1) := by decide +kernel
theorem dJ6_valueOf_2dffe_23 : decode cJ6_valueOf_2dffe 23 = .ok (.new 1, 3) := by decide +kernel
theorem dJ6_valueOf_2dffe_26 : decode cJ6_valueOf_2dffe 26 = .ok (.dup, 1) := by decide +kernel
theorem dJ6_valueOf_2dffe_27 : decode cJ6_valueOf_2dffe 27 = .ok (.iload_n 0, 1) := by decide +kernel
theorem dJ6_valueOf_2dffe_28 : decode cJ6_valueOf_2dffe 28 = .ok (.invokespecial 199, 3) := by decide +kernel
theorem dJ6_valueOf_2dffe_31 : decode cJ6_valueOf_2dffe 31 = .ok (.areturn, 1) := by decide +kernel
set_option maxRecDepth 20000 in
theorem ggJ6_init_d00df_Jxd2413_init_da8c8 : GoodIn wsJ6_init_d00df wsJxd2413_init_da8c8 := goodIn_r _ [5, 6, 7, 8] (by decide +kernel) (by decide +kernel)
set_option maxRecDepth 20000 in
theorem gJ6_init_d00df_Jxd2413_init_da8c8 : GoodIn wsJ6_init_d00df (wsJxd2413_init_da8c8) := ggJ6_init_d00df_Jxd2413_init_da8c8
theorem dJ6_init_d00df_0 : decode cJ6_init_d00df 0 = .ok (.aload_n 0, 1) := by decide +kernel
theorem dJ6_init_d00df_1 : decode cJ6_init_d00df 1 = .ok (.invokespecial 202, 3) := by decide +kernel
theorem dJ6_init_d00df_4 : decode cJ6_init_d00df 4 = .ok (.aload_n 0, 1) := by decide +kernel
theorem dJ6_init_d00df_5 : decode cJ6_init_d00df 5 = .ok (.iload_n 1, 1) := by decide +kernel
theorem dJ6_init_d00df_6 : decode cJ6_init_d00df 6 = .ok (.putfield 205, 3) := by decide +kernel
theorem dJ6_init_d00df_9 : decode cJ6_init_d00df 9 = .ok (.return_, 1) := by decide +kernel
theorem dJ6_intValue_8abf5_0 : decode cJ6_intValue_8abf5 0 = .ok (.aload_n 0, 1) := by decide +kernel
theorem dJ6_intValue_8abf5_1 : decode cJ6_intValue_8abf5 1 = .ok (.getfield 205, 3) := by decide +kernel
theorem dJ6_intValue_8abf5_4 : decode cJ6_intValue_8abf5 4 = .ok (.ireturn, 1) := by decide +kernel
set_option maxRecDepth 20000 in
theorem ggJ6_hashCode_8abf5_J6_hashCode_0f7a4 : GoodIn wsJ6_hashCode_8abf5 wsJ6_hashCode_0f7a4 := goodIn_r _ [5] (by decide +kernel) (by decide +kernel)
set_option maxRecDepth 20000 in
theorem gJ6_hashCode_8abf5_J6_hashCode_0f7a4 : GoodIn wsJ6_hashCode_8abf5 (va_wsS RJ6 208 yJ6_hashCode_0f7a4 wsJ6_hashCode_0f7a4) := goodIn_app (goodIn_of _ (by decide +kernel)) ggJ6_hashCode_8abf5_J6_hashCode_0f7a4
theorem dJ6_hashCode_8abf5_0 : decode cJ6_hashCode_8abf5 0 = .ok (.aload_n 0, 1) := by decide +kernel
theorem dJ6_hashCode_8abf5_1 : decode cJ6_hashCode_8abf5 1 = .ok (.getfield 205, 3) := by decide +kernel
theorem dJ6_hashCode_8abf5_4 : decode cJ6_hashCode_8abf5 4 = .ok (.invokestatic 208, 3) := by decide +kernel
theorem dJ6_hashCode_8abf5_7 : decode cJ6_hashCode_8abf5 7 = .ok (.ireturn, 1) := by decide +kernel
theorem dJ6_hashCode_0f7a4_0 : decode cJ6_hashCode_0f7a4 0 = .ok (.iload_n 0, 1) := by decide +kernel
theorem dJ6_hashCode_0f7a4_1 : decode cJ6_hashCode_0f7a4 1 = .ok (.ireturn, 1) := by decide +kernel
theorem dJ6_bitCount_0f7a4_0 : decode cJ6_bitCount_0f7a4 0 = .ok (.iload_n 0, 1) := by decide +kernel
theorem dJ6_bitCount_0f7a4_1 : decode cJ6_bitCount_0f7a4 1 = .ok (.iload_n 0, 1) := by decide +kernel
theorem dJ6_bitCount_0f7a4_2 : decode cJ6_bitCount_0f7a4 2 = .ok (.iconst 1, 1) := by decide +kernel
theorem dJ6_bitCount_0f7a4_3 : decode cJ6_bitCount_0f7a4 3 = .ok (.iushr, 1) := by decide +kernel
theorem dJ6_bitCount_0f7a4_4 : decode cJ6_bitCount_0f7a4 4 = .ok (.ldc_w 265, 3) := by decide +kernel
theorem dJ6_bitCount_0f7a4_7 : decode cJ6_bitCount_0f7a4 7 = .ok (.iand, 1) := by decide +kernel
theorem dJ6_bitCount_0f7a4_8 : decode cJ6_bitCount_0f7a4 8 = .ok (.isub, 1) := by decide +kernel
theorem dJ6_bitCount_0f7a4_9 : decode cJ6_bitCount_0f7a4 9 = .ok (.istore_n 0, 1) := by decide +kernel
theorem dJ6_bitCount_0f7a4_10 : decode cJ6_bitCount_0f7a4 10 = .ok (.iload_n 0, 1) := by decide +kernel
theorem dJ6_bitCount_0f7a4_11 : decode cJ6_bitCount_0f7a4 11 = .ok (.ldc_w 266, 3) := by decide +kernel
theorem dJ6_bitCount_0f7a4_14 : decode cJ6_bitCount_0f7a4 14 = .ok (.iand, 1) := by decide +kernel
theorem dJ6_bitCount_0f7a4_15 : decode cJ6_bitCount_0f7a4 15 = .ok (.iload_n 0, 1) := by decide +kernel
theorem dJ6_bitCount_0f7a4_16 : decode cJ6_bitCount_0f7a4 16 = .ok (.iconst 2, 1) := by decide +kernel
theorem dJ6_bitCount_0f7a4_17 : decode cJ6_bitCount_0f7a4 17 = .ok (.iushr, 1) := by decide +kernel
theorem dJ6_bitCount_0f7a4_18 : decode cJ6_bitCount_0f7a4 18 = .ok (.ldc_w 266, 3) := by decide +kernel
theorem dJ6_bitCount_0f7a4_21 : decode cJ6_bitCount_0f7a4 21 = .ok (.iand, 1) := by decide +kernel
theorem dJ6_bitCount_0f7a4_22 : decode cJ6_bitCount_0f7a4 22 = .ok (.iadd, 1) := by decide +kernel
theorem dJ6_bitCount_0f7a4_23 : decode cJ6_bitCount_0f7a4 23 = .ok (.istore_n 0, 1) := by decide +kernel
theorem dJ6_bitCount_0f7a4_24 : decode cJ6_bitCount_0f7a4 24 = .ok (.iload_n 0, 1) := by decide +kernel
theorem dJ6_bitCount_0f7a4_25 : decode cJ6_bitCount_0f7a4 25 = .ok (.iload_n 0, 1) := by decide +kernel
theorem dJ6_bitCount_0f7a4_26 : decode cJ6_bitCount_0f7a4 26 = .ok (.iconst 4, 1) := by decide +kernel
theorem dJ6_bitCount_0f7a4_27 : decode cJ6_bitCount_0f7a4 27 = .ok (.iushr, 1) := by decide +kernel
theorem dJ6_bitCount_0f7a4_28 : decode cJ6_bitCount_0f7a4 28 = .ok (.iadd, 1) := by decide +kernel
theorem dJ6_bitCount_0f7a4_29 : decode cJ6_bitCount_0f7a4 29 = .ok (.ldc_w 267, 3) := by decide +kernel
theorem dJ6_bitCount_0f7a4_32 : decode cJ6_bitCount_0f7a4 32 = .ok (.iand, 1) := by decide +kernel
theorem dJ6_bitCount_0f7a4_33 : decode cJ6_bitCount_0f7a4 33 = .ok (.istore_n 0, 1) := by decide +kernel
theorem dJ6_bitCount_0f7a4_34 : decode cJ6_bitCount_0f7a4 34 = .ok (.iload_n 0, 1) := by decide +kernel
theorem dJ6_bitCount_0f7a4_35 : decode cJ6_bitCount_0f7a4 35 = .ok (.iload_n 0, 1) := by decide +kernel
theorem dJ6_bitCount_0f7a4_36 : decode cJ6_bitCount_0f7a4 36 = .ok (.bipush 8, 2) := by decide +kernel
theorem dJ6_bitCount_0f7a4_38 : decode cJ6_bitCount_0f7a4 38 = .ok (.iushr, 1) := by decide +kernel
theorem dJ6_bitCount_0f7a4_39 : decode cJ6_bitCount_0f7a4 39 = .ok (.iadd, 1) := by decide +kernel
theorem dJ6_bitCount_0f7a4_40 : decode cJ6_bitCount_0f7a4 40 = .ok (.istore_n 0, 1) := by decide +kernel
theorem dJ6_bitCount_0f7a4_41 : decode cJ6_bitCount_0f7a4 41 = .ok (.iload_n 0, 1) := by decide +kernel
theorem dJ6_bitCount_0f7a4_42 : decode cJ6_bitCount_0f7a4 42 = .ok (.iload_n 0, 1) := by decide +kernel
theorem dJ6_bitCount_0f7a4_43 : decode cJ6_bitCount_0f7a4 43 = .ok (.bipush 16, 2) := by decide +kernel
theorem dJ6_bitCount_0f7a4_45 : decode cJ6_bitCount_0f7a4 45 = .ok (.iushr, 1) := by decide +kernel
theorem dJ6_bitCount_0f7a4_46 : decode cJ6_bitCount_0f7a4 46 = .ok (.iadd, 1) := by decide +kernel
theorem dJ6_bitCount_0f7a4_47 : decode cJ6_bitCount_0f7a4 47 = .ok (.istore_n 0, 1) := by decide +kernel
theorem dJ6_bitCount_0f7a4_48 : decode cJ6_bitCount_0f7a4 48 = .ok (.iload_n 0, 1) := by decide +kernel
theorem dJ6_bitCount_0f7a4_49 : decode cJ6_bitCount_0f7a4 49 = .ok (.bipush 63, 2) := by decide +kernel
theorem dJ6_bitCount_0f7a4_51 : decode cJ6_bitCount_0f7a4 51 = .ok (.iand, 1) := by decide +kernel
theorem dJ6_bitCount_0f7a4_52 : decode cJ6_bitCount_0f7a4 52 = .ok (.ireturn, 1) := by decide +kernel
theorem dJ9_max_7cf53_0 : decode cJ9_max_7cf53 0 = .ok (.iload_n 0, 1) := by decide +kernel
theorem dJ9_max_7cf53_1 : decode cJ9_max_7cf53 1 = .ok (.iload_n 1, 1) := by decide +kernel
theorem dJ9_max_7cf53_2 : decode cJ9_max_7cf53 2 = .ok (.if_icmp .lt 7, 3) := by decide +kernel
theorem dJ9_max_7cf53_5 : decode cJ9_max_7cf53 5 = .ok (.iload_n 0, 1) := by decide +kernel
theorem dJ9_max_7cf53_6 : decode cJ9_max_7cf53 6 = .ok (.goto 4, 3) := by decide +kernel
theorem dJ9_max_7cf53_9 : decode cJ9_max_7cf53 9 = .ok (.iload_n 1, 1) := by decide +kernel
theorem dJ9_max_7cf53_10 : decode cJ9_max_7cf53 10 = .ok (.ireturn, 1) := by decide +kernel
theorem dJ9_min_7cf53_0 : decode cJ9_min_7cf53 0 = .ok (.iload_n 0, 1) := by decide +kernel
theorem dJ9_min_7cf53_1 : decode cJ9_min_7cf53 1 = .ok (.iload_n 1, 1) := by decide +kernel
theorem dJ9_min_7cf53_2 : decode cJ9_min_7cf53 2 = .ok (.if_icmp .gt 7, 3) := by decide +kernel
theorem dJ9_min_7cf53_5 : decode cJ9_min_7cf53 5 = .ok (.iload_n 0, 1) := by decide +kernel
theorem dJ9_min_7cf53_6 : decode cJ9_min_7cf53 6 = .ok (.goto 4, 3) := by decide +kernel
theorem dJ9_min_7cf53_9 : decode cJ9_min_7cf53 9 = .ok (.iload_n 1, 1) := by decide +kernel
theorem dJ9_min_7cf53_10 : decode cJ9_min_7cf53 10 = .ok (.ireturn, 1) := by decide +kernel
theorem dJxd2413_init_da8c8_0 : decode cJxd2413_init_da8c8 0 = .ok (.aload_n 0, 1) := by decide +kernel
theorem dJxd2413_init_da8c8_1 : decode cJxd2413_init_da8c8 1 = .ok (.invokespecial 1, 3) := by decide +kernel
theorem dJxd2413_init_da8c8_4 : decode cJxd2413_init_da8c8 4 = .ok (.return_, 1) := by decide +kernel
theorem dJxa1e45_init_da8c8_0 : decode cJxa1e45_init_da8c8 0 = .ok (.aload_n 0, 1) := by decide +kernel
theorem dJxa1e45_init_da8c8_1 : decode cJxa1e45_init_da8c8 1 = .ok (.invokespecial 1, 3) := by decide +kernel
theorem dJxa1e45_init_da8c8_4 : decode cJxa1e45_init_da8c8 4 = .ok (.return_, 1) := by decide +kernel
set_option maxRecDepth 20000 in
theorem ggJxc12de_init_da8c8_Jxa1e45_init_da8c8 : GoodIn wsJxc12de_init_da8c8 wsJxa1e45_init_da8c8 := goodIn_r _ [5, 6, 7, 8] (by decide +kernel) (by decide +kernel)
set_option maxRecDepth 20000 in
theorem gJxc12de_init_da8c8_Jxa1e45_init_da8c8 : GoodIn wsJxc12de_init_da8c8 (wsJxa1e45_init_da8c8) := ggJxc12de_init_da8c8_Jxa1e45_init_da8c8
theorem dJxc12de_init_da8c8_0 : decode cJxc12de_init_da8c8 0 = .ok (.aload_n 0, 1) := by decide +kernel
theorem dJxc12de_init_da8c8_1 : decode cJxc12de_init_da8c8 1 = .ok (.invokespecial 1, 3) := by decide +kernel
theorem dJxc12de_init_da8c8_4 : decode cJxc12de_init_da8c8 4 = .ok (.aload_n 0, 1) := by decide +kernel
theorem dJxc12de_init_da8c8_5 : decode cJxc12de_init_da8c8 5 = .ok (.iconst 0, 1) := by decide +kernel
theorem dJxc12de_init_da8c8_6 : decode cJxc12de_init_da8c8 6 = .ok (.putfield 7, 3) := by decide +kernel
theorem dJxc12de_init_da8c8_9 : decode cJxc12de_init_da8c8 9 = .ok (.return_, 1) := by decide +kernel
theorem dX10_init_0 : decode cX10_init 0 = .ok (.aload_n 0, 1) := by decide +kernel
theorem dX10_init_1 : decode cX10_init 1 = .ok (.invokespecial 1, 3) := by decide +kernel
theorem dX10_init_4 : decode cX10_init 4 = .ok (.return_, 1) := by decide +kernel
theorem dJx35411_init_45d68_0 : decode cJx35411_init_45d68 0 = .ok (.aload_n 0, 1) := by decide +kernel
theorem dJx35411_init_45d68_1 : decode cJx35411_init_45d68 1 = .ok (.aload_n 1, 1) := by decide +kernel
theorem dJx35411_init_45d68_2 : decode cJx35411_init_45d68 2 = .ok (.putfield 1, 3) := by decide +kernel
theorem dJx35411_init_45d68_5 : decode cJx35411_init_45d68 5 = .ok (.aload_n 0, 1) := by decide +kernel
theorem dJx35411_init_45d68_6 : decode cJx35411_init_45d68 6 = .ok (.invokespecial 7, 3) := by decide +kernel
theorem dJx35411_init_45d68_9 : decode cJx35411_init_45d68 9 = .ok (.aload_n 0, 1) := by decide +kernel
theorem dJx35411_init_45d68_10 : decode cJx35411_init_45d68 10 = .ok (.iconst (-1), 1) := by decide +kernel
theorem dJx35411_init_45d68_11 : decode cJx35411_init_45d68 11 = .ok (.putfield 13, 3) := by decide +kernel
theorem dJx35411_init_45d68_14 : decode cJx35411_init_45d68 14 = .ok (.aload_n 0, 1) := by decide +kernel
theorem dJx35411_init_45d68_15 : decode cJx35411_init_45d68 15 = .ok (.aload_n 0, 1) := by decide +kernel
theorem dJx35411_init_45d68_16 : decode cJx35411_init_45d68 16 = .ok (.getfield 1, 3) := by decide +kernel
theorem dJx35411_init_45d68_19 : decode cJx35411_init_45d68 19 = .ok (.getfield 17, 3) := by decide +kernel
theorem dJx35411_init_45d68_22 : decode cJx35411_init_45d68 22 = .ok (.putfield 22, 3) := by decide +kernel
theorem dJx35411_init_45d68_25 : decode cJx35411_init_45d68 25 = .ok (.return_, 1) := by decide +kernel
theorem dJx35411_hasNext_aae02_0 : decode cJx35411_hasNext_aae02 0 = .ok (.aload_n 0, 1) := by decide +kernel
theorem dJx35411_hasNext_aae02_1 : decode cJx35411_hasNext_aae02 1 = .ok (.getfield 25, 3) := by decide +kernel
theorem dJx35411_hasNext_aae02_4 : decode cJx35411_hasNext_aae02 4 = .ok (.aload_n 0, 1) := by decide +kernel
theorem dJx35411_hasNext_aae02_5 : decode cJx35411_hasNext_aae02 5 = .ok (.getfield 1, 3) := by decide +kernel
theorem dJx35411_hasNext_aae02_8 : decode cJx35411_hasNext_aae02 8 = .ok (.getfield 28, 3) := by decide +kernel
theorem dJx35411_hasNext_aae02_11 : decode cJx35411_hasNext_aae02 11 = .ok (.if_icmp .eq 7, 3) := by decide +kernel
theorem dJx35411_hasNext_aae02_14 : decode cJx35411_hasNext_aae02 14 = .ok (.iconst 1, 1) := by decide +kernel
theorem dJx35411_hasNext_aae02_15 : decode cJx35411_hasNext_aae02 15 = .ok (.goto 4, 3) := by decide +kernel
theorem dJx35411_hasNext_aae02_18 : decode cJx35411_hasNext_aae02 18 = .ok (.iconst 0, 1) := by decide +kernel
theorem dJx35411_hasNext_aae02_19 : decode cJx35411_hasNext_aae02 19 = .ok (.ireturn, 1) := by decide +kernel
set_option maxRecDepth 20000 in
theorem ggJx35411_next_0502b_Jx35411_checkForComodification_da8c8 : GoodIn wsJx35411_next_0502b wsJx35411_checkForComodification_da8c8 := goodIn_r _ [9, 2, 10, 11, 12, 13, 14, 15, 16, 17, 18, 19] (by decide +kernel) (by decide +kernel)
set_option maxRecDepth 20000 in
theorem gJx35411_next_0502b_Jx35411_checkForComodification_da8c8 : GoodIn wsJx35411_next_0502b (wsV RJx35411 31 RJx35411 yJx35411_checkForComodification_da8c8 wsJx35411_checkForComodification_da8c8) := goodIn_app (goodIn_of _ (by decide +kernel)) ggJx35411_next_0502b_Jx35411_checkForComodification_da8c8
theorem dJx35411_next_0502b_0 : decode cJx35411_next_0502b 0 = .ok (.aload_n 0, 1) := by decide +kernel
theorem dJx35411_next_0502b_1 : decode cJx35411_next_0502b 1 = .ok (.invokevirtual 31, 3) := by decide +kernel
theorem dJx35411_next_0502b_4 : decode cJx35411_next_0502b 4 = .ok (.aload_n 0, 1) := by decide +kernel
theorem dJx35411_next_0502b_5 : decode cJx35411_next_0502b 5 = .ok (.getfield 25, 3) := by decide +kernel
theorem dJx35411_next_0502b_8 : decode cJx35411_next_0502b 8 = .ok (.istore_n 1, 1) := by decide +kernel
theorem dJx35411_next_0502b_9 : decode cJx35411_next_0502b 9 = .ok (.iload_n 1, 1) := by decide +kernel
theorem dJx35411_next_0502b_10 : decode cJx35411_next_0502b 10 = .ok (.aload_n 0, 1) := by decide +kernel
theorem dJx35411_next_0502b_11 : decode cJx35411_next_0502b 11 = .ok (.getfield 1, 3) := by decide +kernel
theorem dJx35411_next_0502b_14 : decode cJx35411_next_0502b 14 = .ok (.getfield 28, 3) := by decide +kernel
theorem dJx35411_next_0502b_17 : decode cJx35411_next_0502b 17 = .ok (.if_icmp .lt 11, 3) := by decide +kernel
theorem dJx35411_next_0502b_20 : decode cJx35411_next_0502b 20 = .ok (.new 34, 3) := by decide +kernel
theorem dJx35411_next_0502b_23 : decode cJx35411_next_0502b 23 = .ok (.dup, 1) := by decide +kernel
theorem dJx35411_next_0502b_24 : decode cJx35411_next_0502b 24 = .ok (.invokespecial 36, 3) := by decide +kernel
theorem dJx35411_next_0502b_27 : decode cJx35411_next_0502b 27 = .ok (.athrow, 1) := by decide +kernel
theorem dJx35411_next_0502b_28 : decode cJx35411_next_0502b 28 = .ok (.aload_n 0, 1) := by decide +kernel
theorem dJx35411_next_0502b_29 : decode cJx35411_next_0502b 29 = .ok (.getfield 1, 3) := by decide +kernel
theorem dJx35411_next_0502b_32 : decode cJx35411_next_0502b 32 = .ok (.getfield 37, 3) := by decide +kernel
theorem dJx35411_next_0502b_35 : decode cJx35411_next_0502b 35 = .ok (.astore_n 2, 1) := by decide +kernel
theorem dJx35411_next_0502b_36 : decode cJx35411_next_0502b 36 = .ok (.iload_n 1, 1) := by decide +kernel
theorem dJx35411_next_0502b_37 : decode cJx35411_next_0502b 37 = .ok (.aload_n 2, 1) := by decide +kernel
theorem dJx35411_next_0502b_38 : decode cJx35411_next_0502b 38 = .ok (.arraylength, 1) := by decide +kernel
theorem dJx35411_next_0502b_39 : decode cJx35411_next_0502b 39 = .ok (.if_icmp .lt 11, 3) := by decide +kernel
theorem dJx35411_next_0502b_42 : decode cJx35411_next_0502b 42 = .ok (.new 41, 3) := by decide +kernel
theorem dJx35411_next_0502b_45 : decode cJx35411_next_0502b 45 = .ok (.dup, 1) := by decide +kernel
theorem dJx35411_next_0502b_46 : decode cJx35411_next_0502b 46 = .ok (.invokespecial 43, 3) := by decide +kernel
theorem dJx35411_next_0502b_49 : decode cJx35411_next_0502b 49 = .ok (.athrow, 1) := by decide +kernel
theorem dJx35411_next_0502b_50 : decode cJx35411_next_0502b 50 = .ok (.aload_n 0, 1) := by decide +kernel
theorem dJx35411_next_0502b_51 : decode cJx35411_next_0502b 51 = .ok (.iload_n 1, 1) := by decide +kernel
theorem dJx35411_next_0502b_52 : decode cJx35411_next_0502b 52 = .ok (.iconst 1, 1) := by decide +kernel
theorem dJx35411_next_0502b_53 : decode cJx35411_next_0502b 53 = .ok (.iadd, 1) := by decide +kernel
theorem dJx35411_next_0502b_54 : decode cJx35411_next_0502b 54 = .ok (.putfield 25, 3) := by decide +kernel
theorem dJx35411_next_0502b_57 : decode cJx35411_next_0502b 57 = .ok (.aload_n 2, 1) := by decide +kernel
theorem dJx35411_next_0502b_58 : decode cJx35411_next_0502b 58 = .ok (.aload_n 0, 1) := by decide +kernel
theorem dJx35411_next_0502b_59 : decode cJx35411_next_0502b 59 = .ok (.iload_n 1, 1) := by decide +kernel
theorem dJx35411_next_0502b_60 : decode cJx35411_next_0502b 60 = .ok (.dup_x1, 1) := by decide +kernel
theorem dJx35411_next_0502b_61 : decode cJx35411_next_0502b 61 = .ok (.putfield 13, 3) := by decide +kernel
theorem dJx35411_next_0502b_64 : decode cJx35411_next_0502b 64 = .ok (.aaload, 1) := by decide +kernel
theorem dJx35411_next_0502b_65 : decode cJx35411_next_0502b 65 = .ok (.areturn, 1) := by decide +kernel
theorem dJx35411_checkForComodification_da8c8_0 : decode cJx35411_checkForComodification_da8c8 0 = .ok (.aload_n 0, 1) := by decide +kernel
theorem dJx35411_checkForComodification_da8c8_1 : decode cJx35411_checkForComodification_da8c8 1 = .ok (.getfield 1, 3) := by decide +kernel
theorem dJx35411_checkForComodification_da8c8_4 : decode cJx35411_checkForComodification_da8c8 4 = .ok (.getfield 17, 3) := by decide +kernel
theorem dJx35411_checkForComodification_da8c8_7 : decode cJx35411_checkForComodification_da8c8 7 = .ok (.aload_n 0, 1) := by decide +kernel
theorem dJx35411_checkForComodification_da8c8_8 : decode cJx35411_checkForComodification_da8c8 8 = .ok (.getfield 22, 3) := by decide +kernel
theorem dJx35411_checkForComodification_da8c8_11 : decode cJx35411_checkForComodification_da8c8 11 = .ok (.if_icmp .eq 11, 3) := by decide +kernel
theorem dJx35411_checkForComodification_da8c8_14 : decode cJx35411_checkForComodification_da8c8 14 = .ok (.new 41, 3) := by decide +kernel
theorem dJx35411_checkForComodification_da8c8_17 : decode cJx35411_checkForComodification_da8c8 17 = .ok (.dup, 1) := by decide +kernel
theorem dJx35411_checkForComodification_da8c8_18 : decode cJx35411_checkForComodification_da8c8 18 = .ok (.invokespecial 43, 3) := by decide +kernel
theorem dJx35411_checkForComodification_da8c8_21 : decode cJx35411_checkForComodification_da8c8 21 = .ok (.athrow, 1) := by decide +kernel
theorem dJx35411_checkForComodification_da8c8_22 : decode cJx35411_checkForComodification_da8c8 22 = .ok (.return_, 1) := by decide +kernel
set_option maxRecDepth 20000 in
theorem ggJx4a65c_init_da8c8_Jxc12de_init_da8c8 : GoodIn wsJx4a65c_init_da8c8 wsJxc12de_init_da8c8 := goodIn_r _ [6, 7, 8, 9, 10, 11, 12, 13, 14, 15, 16, 17] (by decide +kernel) (by decide +kernel)
set_option maxRecDepth 20000 in
theorem gJx4a65c_init_da8c8_Jxc12de_init_da8c8 : GoodIn wsJx4a65c_init_da8c8 (wsJxc12de_init_da8c8) := ggJx4a65c_init_da8c8_Jxc12de_init_da8c8
theorem dJx4a65c_init_da8c8_0 : decode cJx4a65c_init_da8c8 0 = .ok (.aload_n 0, 1) := by decide +kernel
theorem dJx4a65c_init_da8c8_1 : decode cJx4a65c_init_da8c8 1 = .ok (.invokespecial 1, 3) := by decide +kernel
theorem dJx4a65c_init_da8c8_4 : decode cJx4a65c_init_da8c8 4 = .ok (.aload_n 0, 1) := by decide +kernel
theorem dJx4a65c_init_da8c8_5 : decode cJx4a65c_init_da8c8 5 = .ok (.getstatic 39, 3) := by decide +kernel
theorem dJx4a65c_init_da8c8_8 : decode cJx4a65c_init_da8c8 8 = .ok (.putfield 9, 3) := by decide +kernel
theorem dJx4a65c_init_da8c8_11 : decode cJx4a65c_init_da8c8 11 = .ok (.return_, 1) := by decide +kernel
set_option maxRecDepth 20000 in
theorem ggJx4a65c_grow_92f84_J8_newLength_cabcc : GoodIn wsJx4a65c_grow_92f84 wsJ8_newLength_cabcc := goodIn_r _ [11, 12, 4, 5, 6, 13, 14, 15, 10, 16, 17, 18, 19, 43, 44, 45, 46] (by decide +kernel) (by decide +kernel)
set_option maxRecDepth 20000 in
theorem gJx4a65c_grow_92f84_J8_newLength_cabcc : GoodIn wsJx4a65c_grow_92f84 (va_wsS RJx4a65c 73 yJ8_newLength_cabcc wsJ8_newLength_cabcc) := goodIn_app (goodIn_of _ (by decide +kernel)) ggJx4a65c_grow_92f84_J8_newLength_cabcc
set_option maxRecDepth 20000 in
theorem ggJx4a65c_grow_92f84_J7_copyOf_1904c : GoodIn wsJx4a65c_grow_92f84 wsJ7_copyOf_1904c := goodIn_r _ [23, 24, 25, 26, 27, 28, 29, 22, 30, 31, 32, 33, 34, 5, 35, 36, 37, 38, 39] (by decide +kernel) (by decide +kernel)
set_option maxRecDepth 20000 in
theorem gJx4a65c_grow_92f84_J7_copyOf_1904c : GoodIn wsJx4a65c_grow_92f84 (va_wsS RJx4a65c 66 yJ7_copyOf_1904c wsJ7_copyOf_1904c) := goodIn_app (goodIn_of _ (by decide +kernel)) ggJx4a65c_grow_92f84_J7_copyOf_1904c
theorem dJx4a65c_grow_92f84_0 : decode cJx4a65c_grow_92f84 0 = .ok (.aload_n 0, 1) := by decide +kernel
theorem dJx4a65c_grow_92f84_1 : decode cJx4a65c_grow_92f84 1 = .ok (.getfield 9, 3) := by decide +kernel
theorem dJx4a65c_grow_92f84_4 : decode cJx4a65c_grow_92f84 4 = .ok (.arraylength, 1) := by decide +kernel
theorem dJx4a65c_grow_92f84_5 : decode cJx4a65c_grow_92f84 5 = .ok (.istore_n 2, 1) := by decide +kernel
theorem dJx4a65c_grow_92f84_6 : decode cJx4a65c_grow_92f84 6 = .ok (.iload_n 2, 1) := by decide +kernel
theorem dJx4a65c_grow_92f84_7 : decode cJx4a65c_grow_92f84 7 = .ok (.ifCond .gt 13, 3) := by decide +kernel
theorem dJx4a65c_grow_92f84_10 : decode cJx4a65c_grow_92f84 10 = .ok (.aload_n 0, 1) := by decide +kernel
theorem dJx4a65c_grow_92f84_11 : decode cJx4a65c_grow_92f84 11 = .ok (.getfield 9, 3) := by decide +kernel
theorem dJx4a65c_grow_92f84_14 : decode cJx4a65c_grow_92f84 14 = .ok (.getstatic 39, 3) := by decide +kernel
theorem dJx4a65c_grow_92f84_17 : decode cJx4a65c_grow_92f84 17 = .ok (.if_acmp .eq 28, 3) := by decide +kernel
theorem dJx4a65c_grow_92f84_20 : decode cJx4a65c_grow_92f84 20 = .ok (.iload_n 2, 1) := by decide +kernel
theorem dJx4a65c_grow_92f84_21 : decode cJx4a65c_grow_92f84 21 = .ok (.iload_n 1, 1) := by decide +kernel
theorem dJx4a65c_grow_92f84_22 : decode cJx4a65c_grow_92f84 22 = .ok (.iload_n 2, 1) := by decide +kernel
theorem dJx4a65c_grow_92f84_23 : decode cJx4a65c_grow_92f84 23 = .ok (.isub, 1) := by decide +kernel
theorem dJx4a65c_grow_92f84_24 : decode cJx4a65c_grow_92f84 24 = .ok (.iload_n 2, 1) := by decide +kernel
theorem dJx4a65c_grow_92f84_25 : decode cJx4a65c_grow_92f84 25 = .ok (.iconst 1, 1) := by decide +kernel
theorem dJx4a65c_grow_92f84_26 : decode cJx4a65c_grow_92f84 26 = .ok (.ishr, 1) := by decide +kernel
theorem dJx4a65c_grow_92f84_27 : decode cJx4a65c_grow_92f84 27 = .ok (.invokestatic 73, 3) := by decide +kernel
theorem dJx4a65c_grow_92f84_30 : decode cJx4a65c_grow_92f84 30 = .ok (.istore_n 3, 1) := by decide +kernel
theorem dJx4a65c_grow_92f84_31 : decode cJx4a65c_grow_92f84 31 = .ok (.aload_n 0, 1) := by decide +kernel
theorem dJx4a65c_grow_92f84_32 : decode cJx4a65c_grow_92f84 32 = .ok (.aload_n 0, 1) := by decide +kernel
theorem dJx4a65c_grow_92f84_33 : decode cJx4a65c_grow_92f84 33 = .ok (.getfield 9, 3) := by decide +kernel
theorem dJx4a65c_grow_92f84_36 : decode cJx4a65c_grow_92f84 36 = .ok (.iload_n 3, 1) := by decide +kernel
theorem dJx4a65c_grow_92f84_37 : decode cJx4a65c_grow_92f84 37 = .ok (.invokestatic 66, 3) := by decide +kernel
theorem dJx4a65c_grow_92f84_40 : decode cJx4a65c_grow_92f84 40 = .ok (.dup_x1, 1) := by decide +kernel
theorem dJx4a65c_grow_92f84_41 : decode cJx4a65c_grow_92f84 41 = .ok (.putfield 9, 3) := by decide +kernel
theorem dJx4a65c_grow_92f84_44 : decode cJx4a65c_grow_92f84 44 = .ok (.areturn, 1) := by decide +kernel
theorem dJx4a65c_grow_92f84_45 : decode cJx4a65c_grow_92f84 45 = .ok (.aload_n 0, 1) := by decide +kernel
theorem dJx4a65c_grow_92f84_46 : decode cJx4a65c_grow_92f84 46 = .ok (.bipush 10, 2) := by decide +kernel
theorem dJx4a65c_grow_92f84_48 : decode cJx4a65c_grow_92f84 48 = .ok (.iload_n 1, 1) := by decide +kernel
theorem dJx4a65c_grow_92f84_49 : decode cJx4a65c_grow_92f84 49 = .ok (.invokestatic 79, 3) := by decide +kernel
theorem dJx4a65c_grow_92f84_52 : decode cJx4a65c_grow_92f84 52 = .ok (.anewarray 7, 3) := by decide +kernel
theorem dJx4a65c_grow_92f84_55 : decode cJx4a65c_grow_92f84 55 = .ok (.dup_x1, 1) := by decide +kernel
theorem dJx4a65c_grow_92f84_56 : decode cJx4a65c_grow_92f84 56 = .ok (.putfield 9, 3) := by decide +kernel
theorem dJx4a65c_grow_92f84_59 : decode cJx4a65c_grow_92f84 59 = .ok (.areturn, 1) := by decide +kernel
set_option maxRecDepth 20000 in
theorem ggJx4a65c_grow_d5877_Jx4a65c_grow_92f84 : GoodIn wsJx4a65c_grow_d5877 wsJx4a65c_grow_92f84 := goodIn_r _ [6, 7, 8, 9, 10, 11, 12, 13, 14, 15, 16, 17, 18, 19, 20, 21, 22, 23, 24, 25, 26, 27, 28, 29, 30, 31, 32, 33, 34, 35, 36, 37, 38, 39, 40, 41, 42, 43, 44, 45, 46, 47, 48, 49, 50, 51, 52] (by decide +kernel) (by decide +kernel)
set_option maxRecDepth 20000 in
theorem gJx4a65c_grow_d5877_Jx4a65c_grow_92f84 : GoodIn wsJx4a65c_grow_d5877 (wsV RJx4a65c 69 RJx4a65c yJx4a65c_grow_92f84 wsJx4a65c_grow_92f84) := goodIn_app (goodIn_of _ (by decide +kernel)) ggJx4a65c_grow_d5877_Jx4a65c_grow_92f84
theorem dJx4a65c_grow_d5877_0 : decode cJx4a65c_grow_d5877 0 = .ok (.aload_n 0, 1) := by decide +kernel
theorem dJx4a65c_grow_d5877_1 : decode cJx4a65c_grow_d5877 1 = .ok (.aload_n 0, 1) := by decide +kernel
theorem dJx4a65c_grow_d5877_2 : decode cJx4a65c_grow_d5877 2 = .ok (.getfield 48, 3) := by decide +kernel
theorem dJx4a65c_grow_d5877_5 : decode cJx4a65c_grow_d5877 5 = .ok (.iconst 1, 1) := by decide +kernel
theorem dJx4a65c_grow_d5877_6 : decode cJx4a65c_grow_d5877 6 = .ok (.iadd, 1) := by decide +kernel
theorem dJx4a65c_grow_d5877_7 : decode cJx4a65c_grow_d5877 7 = .ok (.invokevirtual 69, 3) := by decide +kernel
theorem dJx4a65c_grow_d5877_10 : decode cJx4a65c_grow_d5877 10 = .ok (.areturn, 1) := by decide +kernel
theorem dJx4a65c_size_8abf5_0 : decode cJx4a65c_size_8abf5 0 = .ok (.aload_n 0, 1) := by decide +kernel
theorem dJx4a65c_size_8abf5_1 : decode cJx4a65c_size_8abf5 1 = .ok (.getfield 48, 3) := by decide +kernel
theorem dJx4a65c_size_8abf5_4 : decode cJx4a65c_size_8abf5 4 = .ok (.ireturn, 1) := by decide +kernel
theorem dJx4a65c_isEmpty_aae02_0 : decode cJx4a65c_isEmpty_aae02 0 = .ok (.aload_n 0, 1) := by decide +kernel
theorem dJx4a65c_isEmpty_aae02_1 : decode cJx4a65c_isEmpty_aae02 1 = .ok (.getfield 48, 3) := by decide +kernel
theorem dJx4a65c_isEmpty_aae02_4 : decode cJx4a65c_isEmpty_aae02 4 = .ok (.ifCond .ne 7, 3) := by decide +kernel
theorem dJx4a65c_isEmpty_aae02_7 : decode cJx4a65c_isEmpty_aae02 7 = .ok (.iconst 1, 1) := by decide +kernel
theorem dJx4a65c_isEmpty_aae02_8 : decode cJx4a65c_isEmpty_aae02 8 = .ok (.goto 4, 3) := by decide +kernel
theorem dJx4a65c_isEmpty_aae02_11 : decode cJx4a65c_isEmpty_aae02 11 = .ok (.iconst 0, 1) := by decide +kernel
theorem dJx4a65c_isEmpty_aae02_12 : decode cJx4a65c_isEmpty_aae02 12 = .ok (.ireturn, 1) := by decide +kernel
theorem dJx4a65c_elementData_915e3_0 : decode cJx4a65c_elementData_915e3 0 = .ok (.aload_n 0, 1) := by decide +kernel
theorem dJx4a65c_elementData_915e3_1 : decode cJx4a65c_elementData_915e3 1 = .ok (.getfield 9, 3) := by decide +kernel
theorem dJx4a65c_elementData_915e3_4 : decode cJx4a65c_elementData_915e3 4 = .ok (.iload_n 1, 1) := by decide +kernel
theorem dJx4a65c_elementData_915e3_5 : decode cJx4a65c_elementData_915e3 5 = .ok (.aaload, 1) := by decide +kernel
theorem dJx4a65c_elementData_915e3_6 : decode cJx4a65c_elementData_915e3 6 = .ok (.areturn, 1) := by decide +kernel
set_option maxRecDepth 20000 in
theorem ggJx4a65c_get_915e3_J15_checkIndex_7cf53 : GoodIn wsJx4a65c_get_915e3 wsJ15_checkIndex_7cf53 := goodIn_r _ [5, 6, 7, 8, 9] (by decide +kernel) (by decide +kernel)
set_option maxRecDepth 20000 in
theorem gJx4a65c_get_915e3_J15_checkIndex_7cf53 : GoodIn wsJx4a65c_get_915e3 (va_wsS RJx4a65c 118 yJ15_checkIndex_7cf53 wsJ15_checkIndex_7cf53) := goodIn_app (goodIn_of _ (by decide +kernel)) ggJx4a65c_get_915e3_J15_checkIndex_7cf53
set_option maxRecDepth 20000 in
theorem ggJx4a65c_get_915e3_Jx4a65c_elementData_915e3 : GoodIn wsJx4a65c_get_915e3 wsJx4a65c_elementData_915e3 := goodIn_r _ [14, 15, 16, 17, 18] (by decide +kernel) (by decide +kernel)
set_option maxRecDepth 20000 in
theorem gJx4a65c_get_915e3_Jx4a65c_elementData_915e3 : GoodIn wsJx4a65c_get_915e3 (wsV RJx4a65c 123 RJx4a65c yJx4a65c_elementData_915e3 wsJx4a65c_elementData_915e3) := goodIn_app (goodIn_of _ (by decide +kernel)) ggJx4a65c_get_915e3_Jx4a65c_elementData_915e3
theorem dJx4a65c_get_915e3_0 : decode cJx4a65c_get_915e3 0 = .ok (.iload_n 1, 1) := by decide +kernel
theorem dJx4a65c_get_915e3_1 : decode cJx4a65c_get_915e3 1 = .ok (.aload_n 0, 1) := by decide +kernel
theorem dJx4a65c_get_915e3_2 : decode cJx4a65c_get_915e3 2 = .ok (.getfield 48, 3) := by decide +kernel
theorem dJx4a65c_get_915e3_5 : decode cJx4a65c_get_915e3 5 = .ok (.invokestatic 118, 3) := by decide +kernel
theorem dJx4a65c_get_915e3_8 : decode cJx4a65c_get_915e3 8 = .ok (.pop, 1) := by decide +kernel
theorem dJx4a65c_get_915e3_9 : decode cJx4a65c_get_915e3 9 = .ok (.aload_n 0, 1) := by decide +kernel
theorem dJx4a65c_get_915e3_10 : decode cJx4a65c_get_915e3 10 = .ok (.iload_n 1, 1) := by decide +kernel
theorem dJx4a65c_get_915e3_11 : decode cJx4a65c_get_915e3 11 = .ok (.invokevirtual 123, 3) := by decide +kernel
theorem dJx4a65c_get_915e3_14 : decode cJx4a65c_get_915e3 14 = .ok (.areturn, 1) := by decide +kernel
set_option maxRecDepth 20000 in
theorem ggJx4a65c_add_72be8_Jx4a65c_grow_d5877 : GoodIn wsJx4a65c_add_72be8 wsJx4a65c_grow_d5877 := goodIn_r _ [6, 1, 7, 8, 9, 5, 10, 11, 12, 13, 14, 15, 16, 17, 18, 19, 20, 21, 22, 23, 24, 25, 26, 27, 28, 29, 30, 31, 32, 33, 34, 35, 36, 37, 38, 39, 40, 41, 42, 43, 44, 45, 46, 47, 48, 49, 50, 51, 52, 53, 54, 55, 56] (by decide +kernel) (by decide +kernel)
set_option maxRecDepth 20000 in
theorem gJx4a65c_add_72be8_Jx4a65c_grow_d5877 : GoodIn wsJx4a65c_add_72be8 (wsV RJx4a65c 129 RJx4a65c yJx4a65c_grow_d5877 wsJx4a65c_grow_d5877) := goodIn_app (goodIn_of _ (by decide +kernel)) ggJx4a65c_add_72be8_Jx4a65c_grow_d5877
theorem dJx4a65c_add_72be8_0 : decode cJx4a65c_add_72be8 0 = .ok (.iload_n 3, 1) := by decide +kernel
theorem dJx4a65c_add_72be8_1 : decode cJx4a65c_add_72be8 1 = .ok (.aload_n 2, 1) := by decide +kernel
theorem dJx4a65c_add_72be8_2 : decode cJx4a65c_add_72be8 2 = .ok (.arraylength, 1) := by decide +kernel
theorem dJx4a65c_add_72be8_3 : decode cJx4a65c_add_72be8 3 = .ok (.if_icmp .ne 8, 3) := by decide +kernel
theorem dJx4a65c_add_72be8_6 : decode cJx4a65c_add_72be8 6 = .ok (.aload_n 0, 1) := by decide +kernel
theorem dJx4a65c_add_72be8_7 : decode cJx4a65c_add_72be8 7 = .ok (.invokevirtual 129, 3) := by decide +kernel
theorem dJx4a65c_add_72be8_10 : decode cJx4a65c_add_72be8 10 = .ok (.astore_n 2, 1) := by decide +kernel
theorem dJx4a65c_add_72be8_11 : decode cJx4a65c_add_72be8 11 = .ok (.aload_n 2, 1) := by decide +kernel
theorem dJx4a65c_add_72be8_12 : decode cJx4a65c_add_72be8 12 = .ok (.iload_n 3, 1) := by decide +kernel
theorem dJx4a65c_add_72be8_13 : decode cJx4a65c_add_72be8 13 = .ok (.aload_n 1, 1) := by decide +kernel
theorem dJx4a65c_add_72be8_14 : decode cJx4a65c_add_72be8 14 = .ok (.aastore, 1) := by decide +kernel
theorem dJx4a65c_add_72be8_15 : decode cJx4a65c_add_72be8 15 = .ok (.aload_n 0, 1) := by decide +kernel
theorem dJx4a65c_add_72be8_16 : decode cJx4a65c_add_72be8 16 = .ok (.iload_n 3, 1) := by decide +kernel
theorem dJx4a65c_add_72be8_17 : decode cJx4a65c_add_72be8 17 = .ok (.iconst 1, 1) := by decide +kernel
theorem dJx4a65c_add_72be8_18 : decode cJx4a65c_add_72be8 18 = .ok (.iadd, 1) := by decide +kernel
theorem dJx4a65c_add_72be8_19 : decode cJx4a65c_add_72be8 19 = .ok (.putfield 48, 3) := by decide +kernel
theorem dJx4a65c_add_72be8_22 : decode cJx4a65c_add_72be8 22 = .ok (.return_, 1) := by decide +kernel
set_option maxRecDepth 20000 in
theorem ggJx4a65c_add_9ea2d_Jx4a65c_add_72be8 : GoodIn wsJx4a65c_add_9ea2d wsJx4a65c_add_72be8 := goodIn_r _ [9, 4, 10, 11, 12, 8, 13, 14, 15, 16, 17, 3, 18, 19, 20, 21, 22, 23, 24, 25, 26, 27, 28, 29, 30, 31, 32, 33, 34, 35, 36, 37, 38, 39, 40, 41, 42, 43, 44, 45, 46, 47, 48, 49, 50, 51, 52, 53, 54, 55, 56, 57, 58, 59, 60, 61, 62] (by decide +kernel) (by decide +kernel)
set_option maxRecDepth 20000 in
theorem gJx4a65c_add_9ea2d_Jx4a65c_add_72be8 : GoodIn wsJx4a65c_add_9ea2d (wsV RJx4a65c 131 RJx4a65c yJx4a65c_add_72be8 wsJx4a65c_add_72be8) := goodIn_app (goodIn_of _ (by decide +kernel)) ggJx4a65c_add_9ea2d_Jx4a65c_add_72be8
theorem dJx4a65c_add_9ea2d_0 : decode cJx4a65c_add_9ea2d 0 = .ok (.aload_n 0, 1) := by decide +kernel
theorem dJx4a65c_add_9ea2d_1 : decode cJx4a65c_add_9ea2d 1 = .ok (.dup, 1) := by decide +kernel
theorem dJx4a65c_add_9ea2d_2 : decode cJx4a65c_add_9ea2d 2 = .ok (.getfield 63, 3) := by decide +kernel
theorem dJx4a65c_add_9ea2d_5 : decode cJx4a65c_add_9ea2d 5 = .ok (.iconst 1, 1) := by decide +kernel
theorem dJx4a65c_add_9ea2d_6 : decode cJx4a65c_add_9ea2d 6 = .ok (.iadd, 1) := by decide +kernel
theorem dJx4a65c_add_9ea2d_7 : decode cJx4a65c_add_9ea2d 7 = .ok (.putfield 63, 3) := by decide +kernel
theorem dJx4a65c_add_9ea2d_10 : decode cJx4a65c_add_9ea2d 10 = .ok (.aload_n 0, 1) := by decide +kernel
theorem dJx4a65c_add_9ea2d_11 : decode cJx4a65c_add_9ea2d 11 = .ok (.aload_n 1, 1) := by decide +kernel
theorem dJx4a65c_add_9ea2d_12 : decode cJx4a65c_add_9ea2d 12 = .ok (.aload_n 0, 1) := by decide +kernel
theorem dJx4a65c_add_9ea2d_13 : decode cJx4a65c_add_9ea2d 13 = .ok (.getfield 9, 3) := by decide +kernel
theorem dJx4a65c_add_9ea2d_16 : decode cJx4a65c_add_9ea2d 16 = .ok (.aload_n 0, 1) := by decide +kernel
theorem dJx4a65c_add_9ea2d_17 : decode cJx4a65c_add_9ea2d 17 = .ok (.getfield 48, 3) := by decide +kernel
theorem dJx4a65c_add_9ea2d_20 : decode cJx4a65c_add_9ea2d 20 = .ok (.invokevirtual 131, 3) := by decide +kernel
theorem dJx4a65c_add_9ea2d_23 : decode cJx4a65c_add_9ea2d 23 = .ok (.iconst 1, 1) := by decide +kernel
theorem dJx4a65c_add_9ea2d_24 : decode cJx4a65c_add_9ea2d 24 = .ok (.ireturn, 1) := by decide +kernel
theorem dJx4a65c_clear_da8c8_0 : decode cJx4a65c_clear_da8c8 0 = .ok (.aload_n 0, 1) := by decide +kernel
theorem dJx4a65c_clear_da8c8_1 : decode cJx4a65c_clear_da8c8 1 = .ok (.dup, 1) := by decide +kernel
theorem dJx4a65c_clear_da8c8_2 : decode cJx4a65c_clear_da8c8 2 = .ok (.getfield 63, 3) := by decide +kernel
theorem dJx4a65c_clear_da8c8_5 : decode cJx4a65c_clear_da8c8 5 = .ok (.iconst 1, 1) := by decide +kernel
theorem dJx4a65c_clear_da8c8_6 : decode cJx4a65c_clear_da8c8 6 = .ok (.iadd, 1) := by decide +kernel
theorem dJx4a65c_clear_da8c8_7 : decode cJx4a65c_clear_da8c8 7 = .ok (.putfield 63, 3) := by decide +kernel
theorem dJx4a65c_clear_da8c8_10 : decode cJx4a65c_clear_da8c8 10 = .ok (.aload_n 0, 1) := by decide +kernel
theorem dJx4a65c_clear_da8c8_11 : decode cJx4a65c_clear_da8c8 11 = .ok (.getfield 9, 3) := by decide +kernel
theorem dJx4a65c_clear_da8c8_14 : decode cJx4a65c_clear_da8c8 14 = .ok (.astore_n 1, 1) := by decide +kernel
theorem dJx4a65c_clear_da8c8_15 : decode cJx4a65c_clear_da8c8 15 = .ok (.aload_n 0, 1) := by decide +kernel
theorem dJx4a65c_clear_da8c8_16 : decode cJx4a65c_clear_da8c8 16 = .ok (.getfield 48, 3) := by decide +kernel
theorem dJx4a65c_clear_da8c8_19 : decode cJx4a65c_clear_da8c8 19 = .ok (.istore_n 2, 1) := by decide +kernel
theorem dJx4a65c_clear_da8c8_20 : decode cJx4a65c_clear_da8c8 20 = .ok (.aload_n 0, 1) := by decide +kernel
theorem dJx4a65c_clear_da8c8_21 : decode cJx4a65c_clear_da8c8 21 = .ok (.iconst 0, 1) := by decide +kernel
theorem dJx4a65c_clear_da8c8_22 : decode cJx4a65c_clear_da8c8 22 = .ok (.dup_x1, 1) := by decide +kernel
theorem dJx4a65c_clear_da8c8_23 : decode cJx4a65c_clear_da8c8 23 = .ok (.putfield 48, 3) := by decide +kernel
theorem dJx4a65c_clear_da8c8_26 : decode cJx4a65c_clear_da8c8 26 = .ok (.istore_n 3, 1) := by decide +kernel
theorem dJx4a65c_clear_da8c8_27 : decode cJx4a65c_clear_da8c8 27 = .ok (.iload_n 3, 1) := by decide +kernel
theorem dJx4a65c_clear_da8c8_28 : decode cJx4a65c_clear_da8c8 28 = .ok (.iload_n 2, 1) := by decide +kernel
theorem dJx4a65c_clear_da8c8_29 : decode cJx4a65c_clear_da8c8 29 = .ok (.if_icmp .ge 13, 3) := by decide +kernel
theorem dJx4a65c_clear_da8c8_32 : decode cJx4a65c_clear_da8c8 32 = .ok (.aload_n 1, 1) := by decide +kernel
theorem dJx4a65c_clear_da8c8_33 : decode cJx4a65c_clear_da8c8 33 = .ok (.iload_n 3, 1) := by decide +kernel
theorem dJx4a65c_clear_da8c8_34 : decode cJx4a65c_clear_da8c8 34 = .ok (.aconst_null, 1) := by decide +kernel
theorem dJx4a65c_clear_da8c8_35 : decode cJx4a65c_clear_da8c8 35 = .ok (.aastore, 1) := by decide +kernel
theorem dJx4a65c_clear_da8c8_36 : decode cJx4a65c_clear_da8c8 36 = .ok (.iinc 3 1, 3) := by decide +kernel
theorem dJx4a65c_clear_da8c8_39 : decode cJx4a65c_clear_da8c8 39 = .ok (.goto (-12), 3) := by decide +kernel
theorem dJx4a65c_clear_da8c8_42 : decode cJx4a65c_clear_da8c8 42 = .ok (.return_, 1) := by decide +kernel
set_option maxRecDepth 20000 in
theorem ggJx4a65c_iterator_32c93_Jx35411_init_45d68 : GoodIn wsJx4a65c_iterator_32c93 wsJx35411_init_45d68 := goodIn_r _ [6, 7, 8, 9, 10, 11, 12, 13, 14, 15, 16, 17, 18, 19, 20, 21] (by decide +kernel) (by decide +kernel)
set_option maxRecDepth 20000 in
theorem gJx4a65c_iterator_32c93_Jx35411_init_45d68 : GoodIn wsJx4a65c_iterator_32c93 (wsJx35411_init_45d68) := ggJx4a65c_iterator_32c93_Jx35411_init_45d68
theorem dJx4a65c_iterator_32c93_0 : decode cJx4a65c_iterator_32c93 0 = .ok (.new 267, 3) := by decide +kernel
theorem dJx4a65c_iterator_32c93_3 : decode cJx4a65c_iterator_32c93 3 = .ok (.dup, 1) := by decide +kernel
theorem dJx4a65c_iterator_32c93_4 : decode cJx4a65c_iterator_32c93 4 = .ok (.aload_n 0, 1) := by decide +kernel
theorem dJx4a65c_iterator_32c93_5 : decode cJx4a65c_iterator_32c93 5 = .ok (.invokespecial 269, 3) := by decide +kernel
theorem dJx4a65c_iterator_32c93_8 : decode cJx4a65c_iterator_32c93 8 = .ok (.areturn, 1) := by decide +kernel
theorem dX11_init_0 : decode cX11_init 0 = .ok (.aload_n 0, 1) := by decide +kernel
theorem dX11_init_1 : decode cX11_init 1 = .ok (.invokespecial 1, 3) := by decide +kernel
theorem dX11_init_4 : decode cX11_init 4 = .ok (.aload_n 0, 1) := by decide +kernel
theorem dX11_init_5 : decode cX11_init 5 = .ok (.iload_n 1, 1) := by decide +kernel
theorem dX11_init_6 : decode cX11_init 6 = .ok (.putfield 7, 3) := by decide +kernel
theorem dX11_init_9 : decode cX11_init 9 = .ok (.aload_n 0, 1) := by decide +kernel
theorem dX11_init_10 : decode cX11_init 10 = .ok (.aload_n 2, 1) := by decide +kernel
theorem dX11_init_11 : decode cX11_init 11 = .ok (.putfield 13, 3) := by decide +kernel
theorem dX11_init_14 : decode cX11_init 14 = .ok (.aload_n 0, 1) := by decide +kernel
theorem dX11_init_15 : decode cX11_init 15 = .ok (.aload_n 3, 1) := by decide +kernel
theorem dX11_init_16 : decode cX11_init 16 = .ok (.putfield 17, 3) := by decide +kernel
theorem dX11_init_19 : decode cX11_init 19 = .ok (.aload_n 0, 1) := by decide +kernel
theorem dX11_init_20 : decode cX11_init 20 = .ok (.aload 4, 2) := by decide +kernel
theorem dX11_init_22 : decode cX11_init 22 = .ok (.putfield 20, 3) := by decide +kernel
theorem dX11_init_25 : decode cX11_init 25 = .ok (.return_, 1) := by decide +kernel
set_option maxRecDepth 20000 in
theorem ggX13_hash_J14_hashCode_8abf5 : GoodIn wsX13_hash wsJ14_hashCode_8abf5 := goodIn_r _ [6, 7, 8, 9, 5, 10] (by decide +kernel) (by decide +kernel)
set_option maxRecDepth 20000 in
theorem gX13_hash_J14_hashCode_8abf5_u1J14 : GoodIn wsX13_hash (va_wsU RX13 1 RJ14 "java/lang/Object" ⟨"java/lang/Object", "hashCode", "()I"⟩ yJ14_hashCode_8abf5 wsJ14_hashCode_8abf5) := goodIn_app (goodIn_of _ (by decide +kernel)) ggX13_hash_J14_hashCode_8abf5
set_option maxRecDepth 20000 in
theorem ggX13_hash_J6_hashCode_8abf5 : GoodIn wsX13_hash wsJ6_hashCode_8abf5 := goodIn_r _ [14, 15, 16, 17, 13, 18, 76] (by decide +kernel) (by decide +kernel)
set_option maxRecDepth 20000 in
theorem gX13_hash_J6_hashCode_8abf5_u1J6 : GoodIn wsX13_hash (va_wsU RX13 1 RJ6 "java/lang/Object" ⟨"java/lang/Object", "hashCode", "()I"⟩ yJ6_hashCode_8abf5 wsJ6_hashCode_8abf5) := goodIn_app (goodIn_of _ (by decide +kernel)) ggX13_hash_J6_hashCode_8abf5
set_option maxRecDepth 20000 in
theorem ggX13_hash_J0_hashCode_8abf5 : GoodIn wsX13_hash wsJ0_hashCode_8abf5 := goodIn_r _ [22, 23, 24, 25, 26, 27, 28, 21, 29, 30, 31, 32, 33, 34, 35, 36, 37, 38, 39, 40, 41, 42, 43, 44, 45, 46, 47, 48, 49, 50, 51, 52, 53, 54, 55, 56, 57, 58, 59, 60, 61, 62, 63, 64, 65, 66, 67, 68, 69, 70, 71, 72, 73, 74, 75, 77, 78, 79, 80, 81, 82, 83, 84] (by decide +kernel) (by decide +kernel)
set_option maxRecDepth 20000 in
theorem gX13_hash_J0_hashCode_8abf5_u1J0 : GoodIn wsX13_hash (va_wsU RX13 1 RJ0 "java/lang/Object" ⟨"java/lang/Object", "hashCode", "()I"⟩ yJ0_hashCode_8abf5 wsJ0_hashCode_8abf5) := goodIn_app (goodIn_of _ (by decide +kernel)) ggX13_hash_J0_hashCode_8abf5
theorem dX13_hash_0 : decode cX13_hash 0 = .ok (.aload_n 0, 1) := by decide +kernel
theorem dX13_hash_1 : decode cX13_hash 1 = .ok (.ifnonnull 7, 3) := by decide +kernel
theorem dX13_hash_4 : decode cX13_hash 4 = .ok (.iconst 0, 1) := by decide +kernel
theorem dX13_hash_5 : decode cX13_hash 5 = .ok (.goto 14, 3) := by decide +kernel
theorem dX13_hash_8 : decode cX13_hash 8 = .ok (.aload_n 0, 1) := by decide +kernel
theorem dX13_hash_9 : decode cX13_hash 9 = .ok (.invokevirtual 1, 3) := by decide +kernel
theorem dX13_hash_12 : decode cX13_hash 12 = .ok (.dup, 1) := by decide +kernel
theorem dX13_hash_13 : decode cX13_hash 13 = .ok (.istore_n 1, 1) := by decide +kernel
theorem dX13_hash_14 : decode cX13_hash 14 = .ok (.iload_n 1, 1) := by decide +kernel
theorem dX13_hash_15 : decode cX13_hash 15 = .ok (.bipush 16, 2) := by decide +kernel
theorem dX13_hash_17 : decode cX13_hash 17 = .ok (.iushr, 1) := by decide +kernel
theorem dX13_hash_18 : decode cX13_hash 18 = .ok (.ixor, 1) := by decide +kernel
theorem dX13_hash_19 : decode cX13_hash 19 = .ok (.ireturn, 1) := by decide +kernel
set_option maxRecDepth 20000 in
theorem ggX13_init_X10_init : GoodIn wsX13_init wsX10_init := goodIn_r _ [6, 7, 8, 9] (by decide +kernel) (by decide +kernel)
set_option maxRecDepth 20000 in
theorem gX13_init_X10_init : GoodIn wsX13_init (wsX10_init) := ggX13_init_X10_init
theorem dX13_init_0 : decode cX13_init 0 = .ok (.aload_n 0, 1) := by decide +kernel
theorem dX13_init_1 : decode cX13_init 1 = .ok (.invokespecial 43, 3) := by decide +kernel
theorem dX13_init_4 : decode cX13_init 4 = .ok (.aload_n 0, 1) := by decide +kernel
theorem dX13_init_5 : decode cX13_init 5 = .ok (.ldc 92, 2) := by decide +kernel
theorem dX13_init_7 : decode cX13_init 7 = .ok (.putfield 81, 3) := by decide +kernel
theorem dX13_init_10 : decode cX13_init 10 = .ok (.return_, 1) := by decide +kernel
set_option maxRecDepth 20000 in
theorem ggX13_get_X13_getNode : GoodIn wsX13_get wsX13_getNode := goodIn_r _ [6, 7, 8, 9, 10, 11, 12, 13, 5, 14, 15, 16, 17, 18, 19, 20, 21, 22, 23, 24, 25, 26, 27, 28, 29, 30, 31, 32, 33, 34, 35, 36, 37, 38, 39, 40, 41, 42, 43, 44, 45, 46, 47, 48, 49, 50, 51, 52, 53, 54, 55, 56, 57, 58, 59, 60, 61, 62, 63, 64, 65, 66, 67, 68, 69, 70, 71, 72, 73, 74, 75, 76, 77, 78, 79, 80, 81, 82, 83, 84, 85, 86, 87, 88, 89, 90, 91, 92, 93, 94, 95, 96, 97, 98, 99, 100, 101, 102, 103, 104, 105, 106, 107, 108, 109, 110, 111, 112, 113, 114, 115, 116, 117, 118, 119, 120, 121, 122, 123, 124, 125, 126, 127, 128, 129, 130, 131, 132, 133, 134, 135, 151, 152, 153, 154, 155, 156, 157, 158, 136, 137, 138, 139, 140, 141, 142, 143, 144, 145, 146, 147, 148, 149, 150, 159, 160, 161, 162, 163, 164, 165, 166, 167] (by decide +kernel) (by decide +kernel)
set_option maxRecDepth 20000 in
theorem gX13_get_X13_getNode : GoodIn wsX13_get (wsV RX13 158 RX13 yX13_getNode wsX13_getNode) := goodIn_app (goodIn_of _ (by decide +kernel)) ggX13_get_X13_getNode
theorem dX13_get_0 : decode cX13_get 0 = .ok (.aload_n 0, 1) := by decide +kernel
theorem dX13_get_1 : decode cX13_get 1 = .ok (.aload_n 1, 1) := by decide +kernel
theorem dX13_get_2 : decode cX13_get 2 = .ok (.invokevirtual 158, 3) := by decide +kernel
theorem dX13_get_5 : decode cX13_get 5 = .ok (.dup, 1) := by decide +kernel
theorem dX13_get_6 : decode cX13_get 6 = .ok (.astore_n 2, 1) := by decide +kernel
theorem dX13_get_7 : decode cX13_get 7 = .ok (.ifnonnull 7, 3) := by decide +kernel
theorem dX13_get_10 : decode cX13_get 10 = .ok (.aconst_null, 1) := by decide +kernel
theorem dX13_get_11 : decode cX13_get 11 = .ok (.goto 7, 3) := by decide +kernel
theorem dX13_get_14 : decode cX13_get 14 = .ok (.aload_n 2, 1) := by decide +kernel
theorem dX13_get_15 : decode cX13_get 15 = .ok (.getfield 162, 3) := by decide +kernel
theorem dX13_get_18 : decode cX13_get 18 = .ok (.areturn, 1) := by decide +kernel
set_option maxRecDepth 20000 in
theorem ggX13_getNode_X13_hash : GoodIn wsX13_getNode wsX13_hash := goodIn_r _ [9, 10, 11, 12, 13, 14, 15, 16, 17, 18, 19, 20, 21, 22, 23, 24, 25, 26, 27, 28, 29, 30, 31, 32, 33, 34, 35, 36, 37, 38, 39, 40, 41, 42, 43, 44, 45, 46, 47, 48, 49, 50, 51, 52, 53, 54, 55, 56, 57, 58, 59, 60, 61, 62, 63, 64, 65, 66, 67, 68, 69, 70, 71, 72, 73, 74, 75, 76, 77, 78, 79, 80, 81, 82, 83, 84, 154, 155, 156, 157, 158, 159, 160, 161, 162] (by decide +kernel) (by decide +kernel)
set_option maxRecDepth 20000 in
theorem gX13_getNode_X13_hash : GoodIn wsX13_getNode (va_wsS RX13 149 yX13_hash wsX13_hash) := goodIn_app (goodIn_of _ (by decide +kernel)) ggX13_getNode_X13_hash
set_option maxRecDepth 20000 in
theorem ggX13_getNode_J14_equals_9ea2d : GoodIn wsX13_getNode wsJ14_equals_9ea2d := goodIn_r _ [89, 90, 16, 91, 92, 93, 14, 94] (by decide +kernel) (by decide +kernel)
set_option maxRecDepth 20000 in
theorem gX13_getNode_J14_equals_9ea2d_u173J14 : GoodIn wsX13_getNode (va_wsU RX13 173 RJ14 "java/lang/Object" ⟨"java/lang/Object", "equals", "(Ljava/lang/Object;)Z"⟩ yJ14_equals_9ea2d wsJ14_equals_9ea2d) := goodIn_app (goodIn_of _ (by decide +kernel)) ggX13_getNode_J14_equals_9ea2d
set_option maxRecDepth 20000 in
theorem ggX13_getNode_J6_equals_9ea2d : GoodIn wsX13_getNode wsJ6_equals_9ea2d := goodIn_r _ [97, 98, 24, 99, 100, 101, 22, 102, 154] (by decide +kernel) (by decide +kernel)
set_option maxRecDepth 20000 in
theorem gX13_getNode_J6_equals_9ea2d_u173J6 : GoodIn wsX13_getNode (va_wsU RX13 173 RJ6 "java/lang/Object" ⟨"java/lang/Object", "equals", "(Ljava/lang/Object;)Z"⟩ yJ6_equals_9ea2d wsJ6_equals_9ea2d) := goodIn_app (goodIn_of _ (by decide +kernel)) ggX13_getNode_J6_equals_9ea2d
set_option maxRecDepth 20000 in
theorem ggX13_getNode_J0_equals_9ea2d : GoodIn wsX13_getNode wsJ0_equals_9ea2d := goodIn_r _ [105, 106, 39, 40, 34, 107, 108, 43, 109, 155, 156, 157, 158] (by decide +kernel) (by decide +kernel)
set_option maxRecDepth 20000 in
theorem gX13_getNode_J0_equals_9ea2d_u173J0 : GoodIn wsX13_getNode (va_wsU RX13 173 RJ0 "java/lang/Object" ⟨"java/lang/Object", "equals", "(Ljava/lang/Object;)Z"⟩ yJ0_equals_9ea2d wsJ0_equals_9ea2d) := goodIn_app (goodIn_of _ (by decide +kernel)) ggX13_getNode_J0_equals_9ea2d
set_option maxRecDepth 20000 in
theorem ggX13_getNode_X12_getTreeNode : GoodIn wsX13_getNode wsX12_getTreeNode := goodIn_r _ [114, 115, 116, 117, 118, 113, 119, 120, 121, 122, 123, 124, 125, 126, 127, 128, 129, 130, 86, 87, 88, 14, 89, 90, 16, 91, 92, 93, 94, 95, 96, 22, 97, 98, 24, 99, 100, 101, 102, 103, 104, 30, 105, 106, 39, 40, 34, 107, 108, 43, 109, 143, 144, 145, 146, 147, 148, 149, 150, 151, 152, 153, 139, 140, 141, 142, 154, 155, 156, 157, 158] (by decide +kernel) (by decide +kernel)
set_option maxRecDepth 20000 in
theorem gX13_getNode_X12_getTreeNode : GoodIn wsX13_getNode (wsV RX13 182 RX12 yX12_getTreeNode wsX12_getTreeNode) := goodIn_app (goodIn_of _ (by decide +kernel)) ggX13_getNode_X12_getTreeNode
theorem dX13_getNode_0 : decode cX13_getNode 0 = .ok (.aload_n 0, 1) := by decide +kernel
theorem dX13_getNode_1 : decode cX13_getNode 1 = .ok (.getfield 105, 3) := by decide +kernel
theorem dX13_getNode_4 : decode cX13_getNode 4 = .ok (.dup, 1) := by decide +kernel
theorem dX13_getNode_5 : decode cX13_getNode 5 = .ok (.astore_n 2, 1) := by decide +kernel
theorem dX13_getNode_6 : decode cX13_getNode 6 = .ok (.ifnull 142, 3) := by decide +kernel
theorem dX13_getNode_9 : decode cX13_getNode 9 = .ok (.aload_n 2, 1) := by decide +kernel
theorem dX13_getNode_10 : decode cX13_getNode 10 = .ok (.arraylength, 1) := by decide +kernel
theorem dX13_getNode_11 : decode cX13_getNode 11 = .ok (.dup, 1) := by decide +kernel
theorem dX13_getNode_12 : decode cX13_getNode 12 = .ok (.istore 5, 2) := by decide +kernel
theorem dX13_getNode_14 : decode cX13_getNode 14 = .ok (.ifCond .le 134, 3) := by decide +kernel
theorem dX13_getNode_17 : decode cX13_getNode 17 = .ok (.aload_n 2, 1) := by decide +kernel
theorem dX13_getNode_18 : decode cX13_getNode 18 = .ok (.iload 5, 2) := by decide +kernel
theorem dX13_getNode_20 : decode cX13_getNode 20 = .ok (.iconst 1, 1) := by decide +kernel
theorem dX13_getNode_21 : decode cX13_getNode 21 = .ok (.isub, 1) := by decide +kernel
theorem dX13_getNode_22 : decode cX13_getNode 22 = .ok (.aload_n 1, 1) := by decide +kernel
theorem dX13_getNode_23 : decode cX13_getNode 23 = .ok (.invokestatic 149, 3) := by decide +kernel
theorem dX13_getNode_26 : decode cX13_getNode 26 = .ok (.dup, 1) := by decide +kernel
theorem dX13_getNode_27 : decode cX13_getNode 27 = .ok (.istore 6, 2) := by decide +kernel
theorem dX13_getNode_29 : decode cX13_getNode 29 = .ok (.iand, 1) := by decide +kernel
theorem dX13_getNode_30 : decode cX13_getNode 30 = .ok (.aaload, 1) := by decide +kernel
theorem dX13_getNode_31 : decode cX13_getNode 31 = .ok (.dup, 1) := by decide +kernel
theorem dX13_getNode_32 : decode cX13_getNode 32 = .ok (.astore_n 3, 1) := by decide +kernel
theorem dX13_getNode_33 : decode cX13_getNode 33 = .ok (.ifnull 115, 3) := by decide +kernel
theorem dX13_getNode_36 : decode cX13_getNode 36 = .ok (.aload_n 3, 1) := by decide +kernel
theorem dX13_getNode_37 : decode cX13_getNode 37 = .ok (.getfield 168, 3) := by decide +kernel
theorem dX13_getNode_40 : decode cX13_getNode 40 = .ok (.iload 6, 2) := by decide +kernel
theorem dX13_getNode_42 : decode cX13_getNode 42 = .ok (.if_icmp .ne 29, 3) := by decide +kernel
theorem dX13_getNode_45 : decode cX13_getNode 45 = .ok (.aload_n 3, 1) := by decide +kernel
theorem dX13_getNode_46 : decode cX13_getNode 46 = .ok (.getfield 170, 3) := by decide +kernel
theorem dX13_getNode_49 : decode cX13_getNode 49 = .ok (.dup, 1) := by decide +kernel
theorem dX13_getNode_50 : decode cX13_getNode 50 = .ok (.astore 7, 2) := by decide +kernel
theorem dX13_getNode_52 : decode cX13_getNode 52 = .ok (.aload_n 1, 1) := by decide +kernel
theorem dX13_getNode_53 : decode cX13_getNode 53 = .ok (.if_acmp .eq 16, 3) := by decide +kernel
theorem dX13_getNode_56 : decode cX13_getNode 56 = .ok (.aload_n 1, 1) := by decide +kernel
theorem dX13_getNode_57 : decode cX13_getNode 57 = .ok (.ifnull 14, 3) := by decide +kernel
theorem dX13_getNode_60 : decode cX13_getNode 60 = .ok (.aload_n 1, 1) := by decide +kernel
theorem dX13_getNode_61 : decode cX13_getNode 61 = .ok (.aload 7, 2) := by decide +kernel
theorem dX13_getNode_63 : decode cX13_getNode 63 = .ok (.invokevirtual 173, 3) := by decide +kernel
theorem dX13_getNode_66 : decode cX13_getNode 66 = .ok (.ifCond .eq 5, 3) := by decide +kernel
theorem dX13_getNode_69 : decode cX13_getNode 69 = .ok (.aload_n 3, 1) := by decide +kernel
theorem dX13_getNode_70 : decode cX13_getNode 70 = .ok (.areturn, 1) := by decide +kernel
theorem dX13_getNode_71 : decode cX13_getNode 71 = .ok (.aload_n 3, 1) := by decide +kernel
theorem dX13_getNode_72 : decode cX13_getNode 72 = .ok (.getfield 177, 3) := by decide +kernel
theorem dX13_getNode_75 : decode cX13_getNode 75 = .ok (.dup, 1) := by decide +kernel
theorem dX13_getNode_76 : decode cX13_getNode 76 = .ok (.astore 4, 2) := by decide +kernel
theorem dX13_getNode_78 : decode cX13_getNode 78 = .ok (.ifnull 70, 3) := by decide +kernel
theorem dX13_getNode_81 : decode cX13_getNode 81 = .ok (.aload_n 3, 1) := by decide +kernel
theorem dX13_getNode_82 : decode cX13_getNode 82 = .ok (.instanceof 180, 3) := by decide +kernel
theorem dX13_getNode_85 : decode cX13_getNode 85 = .ok (.ifCond .eq 14, 3) := by decide +kernel
theorem dX13_getNode_88 : decode cX13_getNode 88 = .ok (.aload_n 3, 1) := by decide +kernel
theorem dX13_getNode_89 : decode cX13_getNode 89 = .ok (.checkcast 180, 3) := by decide +kernel
theorem dX13_getNode_92 : decode cX13_getNode 92 = .ok (.iload 6, 2) := by decide +kernel
theorem dX13_getNode_94 : decode cX13_getNode 94 = .ok (.aload_n 1, 1) := by decide +kernel
theorem dX13_getNode_95 : decode cX13_getNode 95 = .ok (.invokevirtual 182, 3) := by decide +kernel
theorem dX13_getNode_98 : decode cX13_getNode 98 = .ok (.areturn, 1) := by decide +kernel
theorem dX13_getNode_99 : decode cX13_getNode 99 = .ok (.aload 4, 2) := by decide +kernel
theorem dX13_getNode_101 : decode cX13_getNode 101 = .ok (.getfield 168, 3) := by decide +kernel
theorem dX13_getNode_104 : decode cX13_getNode 104 = .ok (.iload 6, 2) := by decide +kernel
theorem dX13_getNode_106 : decode cX13_getNode 106 = .ok (.if_icmp .ne 31, 3) := by decide +kernel
theorem dX13_getNode_109 : decode cX13_getNode 109 = .ok (.aload 4, 2) := by decide +kernel
theorem dX13_getNode_111 : decode cX13_getNode 111 = .ok (.getfield 170, 3) := by decide +kernel
theorem dX13_getNode_114 : decode cX13_getNode 114 = .ok (.dup, 1) := by decide +kernel
theorem dX13_getNode_115 : decode cX13_getNode 115 = .ok (.astore 7, 2) := by decide +kernel
theorem dX13_getNode_117 : decode cX13_getNode 117 = .ok (.aload_n 1, 1) := by decide +kernel
theorem dX13_getNode_118 : decode cX13_getNode 118 = .ok (.if_acmp .eq 16, 3) := by decide +kernel
theorem dX13_getNode_121 : decode cX13_getNode 121 = .ok (.aload_n 1, 1) := by decide +kernel
theorem dX13_getNode_122 : decode cX13_getNode 122 = .ok (.ifnull 15, 3) := by decide +kernel
theorem dX13_getNode_125 : decode cX13_getNode 125 = .ok (.aload_n 1, 1) := by decide +kernel
theorem dX13_getNode_126 : decode cX13_getNode 126 = .ok (.aload 7, 2) := by decide +kernel
theorem dX13_getNode_128 : decode cX13_getNode 128 = .ok (.invokevirtual 173, 3) := by decide +kernel
theorem dX13_getNode_131 : decode cX13_getNode 131 = .ok (.ifCond .eq 6, 3) := by decide +kernel
theorem dX13_getNode_134 : decode cX13_getNode 134 = .ok (.aload 4, 2) := by decide +kernel
theorem dX13_getNode_136 : decode cX13_getNode 136 = .ok (.areturn, 1) := by decide +kernel
theorem dX13_getNode_137 : decode cX13_getNode 137 = .ok (.aload 4, 2) := by decide +kernel
theorem dX13_getNode_139 : decode cX13_getNode 139 = .ok (.getfield 177, 3) := by decide +kernel
theorem dX13_getNode_142 : decode cX13_getNode 142 = .ok (.dup, 1) := by decide +kernel
theorem dX13_getNode_143 : decode cX13_getNode 143 = .ok (.astore 4, 2) := by decide +kernel
theorem dX13_getNode_145 : decode cX13_getNode 145 = .ok (.ifnonnull (-46), 3) := by decide +kernel
theorem dX13_getNode_148 : decode cX13_getNode 148 = .ok (.aconst_null, 1) := by decide +kernel
theorem dX13_getNode_149 : decode cX13_getNode 149 = .ok (.areturn, 1) := by decide +kernel
set_option maxRecDepth 20000 in
theorem ggX13_put_X13_hash : GoodIn wsX13_put wsX13_hash := goodIn_r _ [4, 5, 6, 7, 8, 9, 10, 11, 12, 13, 14, 15, 16, 17, 18, 19, 20, 21, 22, 23, 24, 25, 26, 27, 28, 29, 30, 31, 32, 33, 34, 35, 36, 37, 38, 39, 40, 41, 42, 43, 44, 45, 46, 47, 48, 49, 50, 51, 52, 53, 54, 55, 56, 57, 58, 59, 60, 61, 62, 63, 64, 65, 66, 67, 68, 69, 70, 71, 72, 73, 74, 75, 76, 77, 78, 79, 228, 229, 230, 231, 232, 233, 234, 235, 236] (by decide +kernel) (by decide +kernel)
set_option maxRecDepth 20000 in
theorem gX13_put_X13_hash : GoodIn wsX13_put (va_wsS RX13 149 yX13_hash wsX13_hash) := goodIn_app (goodIn_of _ (by decide +kernel)) ggX13_put_X13_hash
set_option maxRecDepth 20000 in
theorem ggX13_put_X13_putVal : GoodIn wsX13_put wsX13_putVal := goodIn_r _ [83, 84, 85, 86, 87, 88, 89, 90, 91, 92, 93, 94, 95, 3, 96, 97, 98, 99, 100, 101, 102, 103, 104, 105, 106, 107, 108, 109, 110, 111, 112, 113, 114, 115, 116, 117, 118, 119, 120, 121, 122, 123, 124, 125, 126, 127, 128, 129, 130, 131, 132, 133, 134, 135, 136, 137, 138, 139, 140, 141, 142, 143, 144, 145, 146, 147, 148, 149, 150, 151, 152, 153, 154, 155, 156, 157, 158, 159, 160, 161, 162, 163, 164, 9, 165, 166, 11, 167, 168, 169, 170, 171, 172, 17, 173, 174, 19, 175, 176, 177, 178, 179, 180, 25, 181, 182, 34, 35, 29, 183, 184, 38, 185, 186, 187, 188, 189, 190, 191, 192, 193, 194, 195, 196, 197, 198, 199, 200, 201, 202, 203, 204, 205, 206, 207, 208, 209, 210, 211, 212, 213, 214, 215, 216, 217, 218, 219, 220, 221, 222, 223, 224, 225, 226, 227, 237, 238, 239, 240, 241, 242, 243, 244, 245, 246, 247, 248, 249, 250, 251, 252, 253, 254, 255, 256, 257, 258, 259, 228, 229, 230, 231, 232] (by decide +kernel) (by decide +kernel)
set_option maxRecDepth 20000 in
theorem gX13_put_X13_putVal : GoodIn wsX13_put (wsV RX13 152 RX13 yX13_putVal wsX13_putVal) := goodIn_app (goodIn_of _ (by decide +kernel)) ggX13_put_X13_putVal
theorem dX13_put_0 : decode cX13_put 0 = .ok (.aload_n 0, 1) := by decide +kernel
theorem dX13_put_1 : decode cX13_put 1 = .ok (.aload_n 1, 1) := by decide +kernel
theorem dX13_put_2 : decode cX13_put 2 = .ok (.invokestatic 149, 3) := by decide +kernel
theorem dX13_put_5 : decode cX13_put 5 = .ok (.aload_n 1, 1) := by decide +kernel
theorem dX13_put_6 : decode cX13_put 6 = .ok (.aload_n 2, 1) := by decide +kernel
theorem dX13_put_7 : decode cX13_put 7 = .ok (.iconst 0, 1) := by decide +kernel
theorem dX13_put_8 : decode cX13_put 8 = .ok (.iconst 1, 1) := by decide +kernel
theorem dX13_put_9 : decode cX13_put 9 = .ok (.invokevirtual 152, 3) := by decide +kernel
theorem dX13_put_12 : decode cX13_put 12 = .ok (.areturn, 1) := by decide +kernel
set_option maxRecDepth 20000 in
theorem ggX13_putVal_X13_resize : GoodIn wsX13_putVal wsX13_resize := goodIn_r _ [14, 1, 9, 15, 16, 17, 18, 19, 5, 2, 4, 20, 21, 22, 23, 24, 25, 26, 27, 28, 29, 30, 31, 32, 33, 34, 35, 36, 37, 38, 13, 39, 40, 41, 3, 6, 42, 43, 44, 45, 46, 47, 48, 49, 50, 51, 52, 53, 54, 55, 56, 57, 58, 59, 60, 61, 62, 63, 64, 65, 66, 67, 68, 69, 70, 71, 72, 73, 74, 155, 156, 157, 158, 159, 160, 161, 162, 163, 164, 165, 166, 167, 168, 169, 170, 171, 172, 173, 174, 175, 176, 177] (by decide +kernel) (by decide +kernel)
set_option maxRecDepth 20000 in
theorem gX13_putVal_X13_resize : GoodIn wsX13_putVal (wsV RX13 117 RX13 yX13_resize wsX13_resize) := goodIn_app (goodIn_of _ (by decide +kernel)) ggX13_putVal_X13_resize
set_option maxRecDepth 20000 in
theorem ggX13_putVal_X13_newNode : GoodIn wsX13_putVal wsX13_newNode := goodIn_r _ [78, 19, 40, 41, 42, 43, 44, 45, 46, 47, 48, 49, 50, 51, 163, 164, 165, 166, 167, 168, 169, 170, 171, 172, 173, 174, 175, 176, 177] (by decide +kernel) (by decide +kernel)
set_option maxRecDepth 20000 in
theorem gX13_putVal_X13_newNode : GoodIn wsX13_putVal (wsV RX13 186 RX13 yX13_newNode wsX13_newNode) := goodIn_app (goodIn_of _ (by decide +kernel)) ggX13_putVal_X13_newNode
set_option maxRecDepth 20000 in
theorem ggX13_putVal_J14_equals_9ea2d : GoodIn wsX13_putVal wsJ14_equals_9ea2d := goodIn_r _ [84, 85, 86, 87, 88, 89, 83, 90] (by decide +kernel) (by decide +kernel)
set_option maxRecDepth 20000 in
theorem gX13_putVal_J14_equals_9ea2d_u173J14 : GoodIn wsX13_putVal (va_wsU RX13 173 RJ14 "java/lang/Object" ⟨"java/lang/Object", "equals", "(Ljava/lang/Object;)Z"⟩ yJ14_equals_9ea2d wsJ14_equals_9ea2d) := goodIn_app (goodIn_of _ (by decide +kernel)) ggX13_putVal_J14_equals_9ea2d
set_option maxRecDepth 20000 in
theorem ggX13_putVal_J6_equals_9ea2d : GoodIn wsX13_putVal wsJ6_equals_9ea2d := goodIn_r _ [94, 95, 96, 97, 98, 99, 93, 100, 178] (by decide +kernel) (by decide +kernel)
set_option maxRecDepth 20000 in
theorem gX13_putVal_J6_equals_9ea2d_u173J6 : GoodIn wsX13_putVal (va_wsU RX13 173 RJ6 "java/lang/Object" ⟨"java/lang/Object", "equals", "(Ljava/lang/Object;)Z"⟩ yJ6_equals_9ea2d wsJ6_equals_9ea2d) := goodIn_app (goodIn_of _ (by decide +kernel)) ggX13_putVal_J6_equals_9ea2d
set_option maxRecDepth 20000 in
theorem ggX13_putVal_J0_equals_9ea2d : GoodIn wsX13_putVal wsJ0_equals_9ea2d := goodIn_r _ [104, 105, 106, 107, 108, 109, 110, 111, 112, 179, 180, 181, 182] (by decide +kernel) (by decide +kernel)
set_option maxRecDepth 20000 in
theorem gX13_putVal_J0_equals_9ea2d_u173J0 : GoodIn wsX13_putVal (va_wsU RX13 173 RJ0 "java/lang/Object" ⟨"java/lang/Object", "equals", "(Ljava/lang/Object;)Z"⟩ yJ0_equals_9ea2d wsJ0_equals_9ea2d) := goodIn_app (goodIn_of _ (by decide +kernel)) ggX13_putVal_J0_equals_9ea2d
set_option maxRecDepth 20000 in
theorem ggX13_putVal_X12_putTreeVal : GoodIn wsX13_putVal wsX12_putTreeVal := goodIn_r _ [116, 58, 28, 29, 60, 61, 57, 56, 25, 26, 30, 27, 117, 118, 119, 23, 120, 121, 80, 81, 82, 83, 84, 85, 86, 87, 88, 89, 90, 91, 92, 93, 94, 95, 96, 97, 98, 99, 100, 101, 102, 103, 104, 105, 106, 107, 108, 109, 110, 111, 112, 122, 123, 124, 13, 125, 126, 127, 128, 129, 130, 131, 132, 133, 134, 135, 43, 41, 44, 45, 46, 47, 48, 49, 50, 51, 62, 63, 64, 59, 65, 66, 67, 68, 69, 70, 71, 72, 73, 74, 167, 168, 169, 170, 171, 172, 173, 174, 175, 176, 177, 163, 164, 165, 166, 178, 179, 180, 181, 182] (by decide +kernel) (by decide +kernel)
set_option maxRecDepth 20000 in
theorem gX13_putVal_X12_putTreeVal : GoodIn wsX13_putVal (wsV RX13 190 RX12 yX12_putTreeVal wsX12_putTreeVal) := goodIn_app (goodIn_of _ (by decide +kernel)) ggX13_putVal_X12_putTreeVal
set_option maxRecDepth 20000 in
theorem ggX13_putVal_X13_treeifyBin : GoodIn wsX13_putVal wsX13_treeifyBin := goodIn_r _ [139, 140, 141, 26, 5, 10, 11, 12, 13, 14, 1, 9, 15, 16, 17, 18, 19, 2, 4, 20, 21, 22, 23, 24, 25, 27, 28, 29, 30, 31, 32, 33, 34, 35, 36, 37, 38, 39, 40, 41, 3, 6, 42, 43, 44, 45, 46, 47, 48, 49, 50, 51, 52, 53, 54, 55, 56, 57, 58, 59, 60, 61, 62, 63, 64, 65, 66, 67, 68, 69, 70, 71, 72, 73, 74, 142, 143, 144, 145, 126, 127, 128, 129, 130, 131, 132, 133, 134, 135, 146, 167, 168, 169, 170, 171, 172, 173, 174, 175, 176, 177, 163, 164, 165, 166, 155, 156, 157, 158, 159, 160, 161, 162] (by decide +kernel) (by decide +kernel)
set_option maxRecDepth 20000 in
theorem gX13_putVal_X13_treeifyBin : GoodIn wsX13_putVal (wsV RX13 194 RX13 yX13_treeifyBin wsX13_treeifyBin) := goodIn_app (goodIn_of _ (by decide +kernel)) ggX13_putVal_X13_treeifyBin
set_option maxRecDepth 20000 in
theorem ggX13_putVal_X13_afterNodeAccess : GoodIn wsX13_putVal wsX13_afterNodeAccess := goodIn_r _ [150] (by decide +kernel) (by decide +kernel)
set_option maxRecDepth 20000 in
theorem gX13_putVal_X13_afterNodeAccess : GoodIn wsX13_putVal (wsV RX13 198 RX13 yX13_afterNodeAccess wsX13_afterNodeAccess) := goodIn_app (goodIn_of _ (by decide +kernel)) ggX13_putVal_X13_afterNodeAccess
set_option maxRecDepth 20000 in
theorem ggX13_putVal_X13_afterNodeInsertion : GoodIn wsX13_putVal wsX13_afterNodeInsertion := goodIn_r _ [154] (by decide +kernel) (by decide +kernel)
set_option maxRecDepth 20000 in
theorem gX13_putVal_X13_afterNodeInsertion : GoodIn wsX13_putVal (wsV RX13 205 RX13 yX13_afterNodeInsertion wsX13_afterNodeInsertion) := goodIn_app (goodIn_of _ (by decide +kernel)) ggX13_putVal_X13_afterNodeInsertion
theorem dX13_putVal_0 : decode cX13_putVal 0 = .ok (.aload_n 0, 1) := by decide +kernel
theorem dX13_putVal_1 : decode cX13_putVal 1 = .ok (.getfield 105, 3) := by decide +kernel
theorem dX13_putVal_4 : decode cX13_putVal 4 = .ok (.dup, 1) := by decide +kernel
theorem dX13_putVal_5 : decode cX13_putVal 5 = .ok (.astore 6, 2) := by decide +kernel
theorem dX13_putVal_7 : decode cX13_putVal 7 = .ok (.ifnull 12, 3) := by decide +kernel
theorem dX13_putVal_10 : decode cX13_putVal 10 = .ok (.aload 6, 2) := by decide +kernel
theorem dX13_putVal_12 : decode cX13_putVal 12 = .ok (.arraylength, 1) := by decide +kernel
theorem dX13_putVal_13 : decode cX13_putVal 13 = .ok (.dup, 1) := by decide +kernel
theorem dX13_putVal_14 : decode cX13_putVal 14 = .ok (.istore 8, 2) := by decide +kernel
theorem dX13_putVal_16 : decode cX13_putVal 16 = .ok (.ifCond .ne 13, 3) := by decide +kernel
theorem dX13_putVal_19 : decode cX13_putVal 19 = .ok (.aload_n 0, 1) := by decide +kernel
theorem dX13_putVal_20 : decode cX13_putVal 20 = .ok (.invokevirtual 117, 3) := by decide +kernel
theorem dX13_putVal_23 : decode cX13_putVal 23 = .ok (.dup, 1) := by decide +kernel
theorem dX13_putVal_24 : decode cX13_putVal 24 = .ok (.astore 6, 2) := by decide +kernel
theorem dX13_putVal_26 : decode cX13_putVal 26 = .ok (.arraylength, 1) := by decide +kernel
theorem dX13_putVal_27 : decode cX13_putVal 27 = .ok (.istore 8, 2) := by decide +kernel
theorem dX13_putVal_29 : decode cX13_putVal 29 = .ok (.aload 6, 2) := by decide +kernel
theorem dX13_putVal_31 : decode cX13_putVal 31 = .ok (.iload 8, 2) := by decide +kernel
theorem dX13_putVal_33 : decode cX13_putVal 33 = .ok (.iconst 1, 1) := by decide +kernel
theorem dX13_putVal_34 : decode cX13_putVal 34 = .ok (.isub, 1) := by decide +kernel
theorem dX13_putVal_35 : decode cX13_putVal 35 = .ok (.iload_n 1, 1) := by decide +kernel
theorem dX13_putVal_36 : decode cX13_putVal 36 = .ok (.iand, 1) := by decide +kernel
theorem dX13_putVal_37 : decode cX13_putVal 37 = .ok (.dup, 1) := by decide +kernel
theorem dX13_putVal_38 : decode cX13_putVal 38 = .ok (.istore 9, 2) := by decide +kernel
theorem dX13_putVal_40 : decode cX13_putVal 40 = .ok (.aaload, 1) := by decide +kernel
theorem dX13_putVal_41 : decode cX13_putVal 41 = .ok (.dup, 1) := by decide +kernel
theorem dX13_putVal_42 : decode cX13_putVal 42 = .ok (.astore 7, 2) := by decide +kernel
theorem dX13_putVal_44 : decode cX13_putVal 44 = .ok (.ifnonnull 19, 3) := by decide +kernel
theorem dX13_putVal_47 : decode cX13_putVal 47 = .ok (.aload 6, 2) := by decide +kernel
theorem dX13_putVal_49 : decode cX13_putVal 49 = .ok (.iload 9, 2) := by decide +kernel
theorem dX13_putVal_51 : decode cX13_putVal 51 = .ok (.aload_n 0, 1) := by decide +kernel
theorem dX13_putVal_52 : decode cX13_putVal 52 = .ok (.iload_n 1, 1) := by decide +kernel
theorem dX13_putVal_53 : decode cX13_putVal 53 = .ok (.aload_n 2, 1) := by decide +kernel
theorem dX13_putVal_54 : decode cX13_putVal 54 = .ok (.aload_n 3, 1) := by decide +kernel
theorem dX13_putVal_55 : decode cX13_putVal 55 = .ok (.aconst_null, 1) := by decide +kernel
theorem dX13_putVal_56 : decode cX13_putVal 56 = .ok (.invokevirtual 186, 3) := by decide +kernel
theorem dX13_putVal_59 : decode cX13_putVal 59 = .ok (.aastore, 1) := by decide +kernel
theorem dX13_putVal_60 : decode cX13_putVal 60 = .ok (.goto 199, 3) := by decide +kernel
theorem dX13_putVal_63 : decode cX13_putVal 63 = .ok (.aload 7, 2) := by decide +kernel
theorem dX13_putVal_65 : decode cX13_putVal 65 = .ok (.getfield 168, 3) := by decide +kernel
theorem dX13_putVal_68 : decode cX13_putVal 68 = .ok (.iload_n 1, 1) := by decide +kernel
theorem dX13_putVal_69 : decode cX13_putVal 69 = .ok (.if_icmp .ne 35, 3) := by decide +kernel
theorem dX13_putVal_72 : decode cX13_putVal 72 = .ok (.aload 7, 2) := by decide +kernel
theorem dX13_putVal_74 : decode cX13_putVal 74 = .ok (.getfield 170, 3) := by decide +kernel
theorem dX13_putVal_77 : decode cX13_putVal 77 = .ok (.dup, 1) := by decide +kernel
theorem dX13_putVal_78 : decode cX13_putVal 78 = .ok (.astore 11, 2) := by decide +kernel
theorem dX13_putVal_80 : decode cX13_putVal 80 = .ok (.aload_n 2, 1) := by decide +kernel
theorem dX13_putVal_81 : decode cX13_putVal 81 = .ok (.if_acmp .eq 16, 3) := by decide +kernel
theorem dX13_putVal_84 : decode cX13_putVal 84 = .ok (.aload_n 2, 1) := by decide +kernel
theorem dX13_putVal_85 : decode cX13_putVal 85 = .ok (.ifnull 19, 3) := by decide +kernel
theorem dX13_putVal_88 : decode cX13_putVal 88 = .ok (.aload_n 2, 1) := by decide +kernel
theorem dX13_putVal_89 : decode cX13_putVal 89 = .ok (.aload 11, 2) := by decide +kernel
theorem dX13_putVal_91 : decode cX13_putVal 91 = .ok (.invokevirtual 173, 3) := by decide +kernel
theorem dX13_putVal_94 : decode cX13_putVal 94 = .ok (.ifCond .eq 10, 3) := by decide +kernel
theorem dX13_putVal_97 : decode cX13_putVal 97 = .ok (.aload 7, 2) := by decide +kernel
theorem dX13_putVal_99 : decode cX13_putVal 99 = .ok (.astore 10, 2) := by decide +kernel
theorem dX13_putVal_101 : decode cX13_putVal 101 = .ok (.goto 121, 3) := by decide +kernel
theorem dX13_putVal_104 : decode cX13_putVal 104 = .ok (.aload 7, 2) := by decide +kernel
theorem dX13_putVal_106 : decode cX13_putVal 106 = .ok (.instanceof 180, 3) := by decide +kernel
theorem dX13_putVal_109 : decode cX13_putVal 109 = .ok (.ifCond .eq 22, 3) := by decide +kernel
theorem dX13_putVal_112 : decode cX13_putVal 112 = .ok (.aload 7, 2) := by decide +kernel
theorem dX13_putVal_114 : decode cX13_putVal 114 = .ok (.checkcast 180, 3) := by decide +kernel
theorem dX13_putVal_117 : decode cX13_putVal 117 = .ok (.aload_n 0, 1) := by decide +kernel
theorem dX13_putVal_118 : decode cX13_putVal 118 = .ok (.aload 6, 2) := by decide +kernel
theorem dX13_putVal_120 : decode cX13_putVal 120 = .ok (.iload_n 1, 1) := by decide +kernel
theorem dX13_putVal_121 : decode cX13_putVal 121 = .ok (.aload_n 2, 1) := by decide +kernel
theorem dX13_putVal_122 : decode cX13_putVal 122 = .ok (.aload_n 3, 1) := by decide +kernel
theorem dX13_putVal_123 : decode cX13_putVal 123 = .ok (.invokevirtual 190, 3) := by decide +kernel
theorem dX13_putVal_126 : decode cX13_putVal 126 = .ok (.astore 10, 2) := by decide +kernel
theorem dX13_putVal_128 : decode cX13_putVal 128 = .ok (.goto 94, 3) := by decide +kernel
theorem dX13_putVal_131 : decode cX13_putVal 131 = .ok (.iconst 0, 1) := by decide +kernel
theorem dX13_putVal_132 : decode cX13_putVal 132 = .ok (.istore 12, 2) := by decide +kernel
theorem dX13_putVal_134 : decode cX13_putVal 134 = .ok (.aload 7, 2) := by decide +kernel
theorem dX13_putVal_136 : decode cX13_putVal 136 = .ok (.getfield 177, 3) := by decide +kernel
theorem dX13_putVal_139 : decode cX13_putVal 139 = .ok (.dup, 1) := by decide +kernel
theorem dX13_putVal_140 : decode cX13_putVal 140 = .ok (.astore 10, 2) := by decide +kernel
theorem dX13_putVal_142 : decode cX13_putVal 142 = .ok (.ifnonnull 33, 3) := by decide +kernel
theorem dX13_putVal_145 : decode cX13_putVal 145 = .ok (.aload 7, 2) := by decide +kernel
theorem dX13_putVal_147 : decode cX13_putVal 147 = .ok (.aload_n 0, 1) := by decide +kernel
theorem dX13_putVal_148 : decode cX13_putVal 148 = .ok (.iload_n 1, 1) := by decide +kernel
theorem dX13_putVal_149 : decode cX13_putVal 149 = .ok (.aload_n 2, 1) := by decide +kernel
theorem dX13_putVal_150 : decode cX13_putVal 150 = .ok (.aload_n 3, 1) := by decide +kernel
theorem dX13_putVal_151 : decode cX13_putVal 151 = .ok (.aconst_null, 1) := by decide +kernel
theorem dX13_putVal_152 : decode cX13_putVal 152 = .ok (.invokevirtual 186, 3) := by decide +kernel
theorem dX13_putVal_155 : decode cX13_putVal 155 = .ok (.putfield 177, 3) := by decide +kernel
theorem dX13_putVal_158 : decode cX13_putVal 158 = .ok (.iload 12, 2) := by decide +kernel
theorem dX13_putVal_160 : decode cX13_putVal 160 = .ok (.bipush 7, 2) := by decide +kernel
theorem dX13_putVal_162 : decode cX13_putVal 162 = .ok (.if_icmp .lt 60, 3) := by decide +kernel
theorem dX13_putVal_165 : decode cX13_putVal 165 = .ok (.aload_n 0, 1) := by decide +kernel
theorem dX13_putVal_166 : decode cX13_putVal 166 = .ok (.aload 6, 2) := by decide +kernel
theorem dX13_putVal_168 : decode cX13_putVal 168 = .ok (.iload_n 1, 1) := by decide +kernel
theorem dX13_putVal_169 : decode cX13_putVal 169 = .ok (.invokevirtual 194, 3) := by decide +kernel
theorem dX13_putVal_172 : decode cX13_putVal 172 = .ok (.goto 50, 3) := by decide +kernel
theorem dX13_putVal_175 : decode cX13_putVal 175 = .ok (.aload 10, 2) := by decide +kernel
theorem dX13_putVal_177 : decode cX13_putVal 177 = .ok (.getfield 168, 3) := by decide +kernel
theorem dX13_putVal_180 : decode cX13_putVal 180 = .ok (.iload_n 1, 1) := by decide +kernel
theorem dX13_putVal_181 : decode cX13_putVal 181 = .ok (.if_icmp .ne 31, 3) := by decide +kernel
theorem dX13_putVal_184 : decode cX13_putVal 184 = .ok (.aload 10, 2) := by decide +kernel
theorem dX13_putVal_186 : decode cX13_putVal 186 = .ok (.getfield 170, 3) := by decide +kernel
theorem dX13_putVal_189 : decode cX13_putVal 189 = .ok (.dup, 1) := by decide +kernel
theorem dX13_putVal_190 : decode cX13_putVal 190 = .ok (.astore 11, 2) := by decide +kernel
theorem dX13_putVal_192 : decode cX13_putVal 192 = .ok (.aload_n 2, 1) := by decide +kernel
theorem dX13_putVal_193 : decode cX13_putVal 193 = .ok (.if_acmp .eq 29, 3) := by decide +kernel
theorem dX13_putVal_196 : decode cX13_putVal 196 = .ok (.aload_n 2, 1) := by decide +kernel
theorem dX13_putVal_197 : decode cX13_putVal 197 = .ok (.ifnull 15, 3) := by decide +kernel
theorem dX13_putVal_200 : decode cX13_putVal 200 = .ok (.aload_n 2, 1) := by decide +kernel
theorem dX13_putVal_201 : decode cX13_putVal 201 = .ok (.aload 11, 2) := by decide +kernel
theorem dX13_putVal_203 : decode cX13_putVal 203 = .ok (.invokevirtual 173, 3) := by decide +kernel
theorem dX13_putVal_206 : decode cX13_putVal 206 = .ok (.ifCond .eq 6, 3) := by decide +kernel
theorem dX13_putVal_209 : decode cX13_putVal 209 = .ok (.goto 13, 3) := by decide +kernel
theorem dX13_putVal_212 : decode cX13_putVal 212 = .ok (.aload 10, 2) := by decide +kernel
theorem dX13_putVal_214 : decode cX13_putVal 214 = .ok (.astore 7, 2) := by decide +kernel
theorem dX13_putVal_216 : decode cX13_putVal 216 = .ok (.iinc 12 1, 3) := by decide +kernel
theorem dX13_putVal_219 : decode cX13_putVal 219 = .ok (.goto (-85), 3) := by decide +kernel
theorem dX13_putVal_222 : decode cX13_putVal 222 = .ok (.aload 10, 2) := by decide +kernel
theorem dX13_putVal_224 : decode cX13_putVal 224 = .ok (.ifnull 35, 3) := by decide +kernel
theorem dX13_putVal_227 : decode cX13_putVal 227 = .ok (.aload 10, 2) := by decide +kernel
theorem dX13_putVal_229 : decode cX13_putVal 229 = .ok (.getfield 162, 3) := by decide +kernel
theorem dX13_putVal_232 : decode cX13_putVal 232 = .ok (.astore 12, 2) := by decide +kernel
theorem dX13_putVal_234 : decode cX13_putVal 234 = .ok (.iload 4, 2) := by decide +kernel
theorem dX13_putVal_236 : decode cX13_putVal 236 = .ok (.ifCond .eq 8, 3) := by decide +kernel
theorem dX13_putVal_239 : decode cX13_putVal 239 = .ok (.aload 12, 2) := by decide +kernel
theorem dX13_putVal_241 : decode cX13_putVal 241 = .ok (.ifnonnull 9, 3) := by decide +kernel
theorem dX13_putVal_244 : decode cX13_putVal 244 = .ok (.aload 10, 2) := by decide +kernel
theorem dX13_putVal_246 : decode cX13_putVal 246 = .ok (.aload_n 3, 1) := by decide +kernel
theorem dX13_putVal_247 : decode cX13_putVal 247 = .ok (.putfield 162, 3) := by decide +kernel
theorem dX13_putVal_250 : decode cX13_putVal 250 = .ok (.aload_n 0, 1) := by decide +kernel
theorem dX13_putVal_251 : decode cX13_putVal 251 = .ok (.aload 10, 2) := by decide +kernel
theorem dX13_putVal_253 : decode cX13_putVal 253 = .ok (.invokevirtual 198, 3) := by decide +kernel
theorem dX13_putVal_256 : decode cX13_putVal 256 = .ok (.aload 12, 2) := by decide +kernel
theorem dX13_putVal_258 : decode cX13_putVal 258 = .ok (.areturn, 1) := by decide +kernel
theorem dX13_putVal_259 : decode cX13_putVal 259 = .ok (.aload_n 0, 1) := by decide +kernel
theorem dX13_putVal_260 : decode cX13_putVal 260 = .ok (.dup, 1) := by decide +kernel
theorem dX13_putVal_261 : decode cX13_putVal 261 = .ok (.getfield 202, 3) := by decide +kernel
theorem dX13_putVal_264 : decode cX13_putVal 264 = .ok (.iconst 1, 1) := by decide +kernel
theorem dX13_putVal_265 : decode cX13_putVal 265 = .ok (.iadd, 1) := by decide +kernel
theorem dX13_putVal_266 : decode cX13_putVal 266 = .ok (.putfield 202, 3) := by decide +kernel
theorem dX13_putVal_269 : decode cX13_putVal 269 = .ok (.aload_n 0, 1) := by decide +kernel
theorem dX13_putVal_270 : decode cX13_putVal 270 = .ok (.dup, 1) := by decide +kernel
theorem dX13_putVal_271 : decode cX13_putVal 271 = .ok (.getfield 156, 3) := by decide +kernel
theorem dX13_putVal_274 : decode cX13_putVal 274 = .ok (.iconst 1, 1) := by decide +kernel
theorem dX13_putVal_275 : decode cX13_putVal 275 = .ok (.iadd, 1) := by decide +kernel
theorem dX13_putVal_276 : decode cX13_putVal 276 = .ok (.dup_x1, 1) := by decide +kernel
theorem dX13_putVal_277 : decode cX13_putVal 277 = .ok (.putfield 156, 3) := by decide +kernel
theorem dX13_putVal_280 : decode cX13_putVal 280 = .ok (.aload_n 0, 1) := by decide +kernel
theorem dX13_putVal_281 : decode cX13_putVal 281 = .ok (.getfield 88, 3) := by decide +kernel
theorem dX13_putVal_284 : decode cX13_putVal 284 = .ok (.if_icmp .le 8, 3) := by decide +kernel
theorem dX13_putVal_287 : decode cX13_putVal 287 = .ok (.aload_n 0, 1) := by decide +kernel
theorem dX13_putVal_288 : decode cX13_putVal 288 = .ok (.invokevirtual 117, 3) := by decide +kernel
theorem dX13_putVal_291 : decode cX13_putVal 291 = .ok (.pop, 1) := by decide +kernel
theorem dX13_putVal_292 : decode cX13_putVal 292 = .ok (.aload_n 0, 1) := by decide +kernel
theorem dX13_putVal_293 : decode cX13_putVal 293 = .ok (.iload 5, 2) := by decide +kernel
theorem dX13_putVal_295 : decode cX13_putVal 295 = .ok (.invokevirtual 205, 3) := by decide +kernel
theorem dX13_putVal_298 : decode cX13_putVal 298 = .ok (.aconst_null, 1) := by decide +kernel
theorem dX13_putVal_299 : decode cX13_putVal 299 = .ok (.areturn, 1) := by decide +kernel
set_option maxRecDepth 20000 in
theorem ggX13_resize_X12_split : GoodIn wsX13_resize wsX12_split := goodIn_r _ [15, 16, 17, 18, 19, 20, 21, 22, 23, 24, 14, 25, 26, 27, 28, 29, 30, 31, 7, 32, 33, 9, 34, 35, 36, 37, 38, 39, 40, 41, 42, 43, 44, 45, 46, 47, 48, 49, 50, 51, 52, 53, 54, 55, 56, 57, 58, 59, 60, 61, 62, 63, 64, 65, 66, 67, 68, 77, 78, 79, 80, 81, 82, 83, 84, 85, 86, 87, 88, 89, 90, 91] (by decide +kernel) (by decide +kernel)
set_option maxRecDepth 20000 in
theorem gX13_resize_X12_split : GoodIn wsX13_resize (wsV RX13 211 RX12 yX12_split wsX12_split) := goodIn_app (goodIn_of _ (by decide +kernel)) ggX13_resize_X12_split
theorem dX13_resize_0 : decode cX13_resize 0 = .ok (.aload_n 0, 1) := by decide +kernel
theorem dX13_resize_1 : decode cX13_resize 1 = .ok (.getfield 105, 3) := by decide +kernel
theorem dX13_resize_4 : decode cX13_resize 4 = .ok (.astore_n 1, 1) := by decide +kernel
theorem dX13_resize_5 : decode cX13_resize 5 = .ok (.aload_n 1, 1) := by decide +kernel
theorem dX13_resize_6 : decode cX13_resize 6 = .ok (.ifnonnull 7, 3) := by decide +kernel
theorem dX13_resize_9 : decode cX13_resize 9 = .ok (.iconst 0, 1) := by decide +kernel
theorem dX13_resize_10 : decode cX13_resize 10 = .ok (.goto 5, 3) := by decide +kernel
theorem dX13_resize_13 : decode cX13_resize 13 = .ok (.aload_n 1, 1) := by decide +kernel
theorem dX13_resize_14 : decode cX13_resize 14 = .ok (.arraylength, 1) := by decide +kernel
theorem dX13_resize_15 : decode cX13_resize 15 = .ok (.istore_n 2, 1) := by decide +kernel
theorem dX13_resize_16 : decode cX13_resize 16 = .ok (.aload_n 0, 1) := by decide +kernel
theorem dX13_resize_17 : decode cX13_resize 17 = .ok (.getfield 88, 3) := by decide +kernel
theorem dX13_resize_20 : decode cX13_resize 20 = .ok (.istore_n 3, 1) := by decide +kernel
theorem dX13_resize_21 : decode cX13_resize 21 = .ok (.iconst 0, 1) := by decide +kernel
theorem dX13_resize_22 : decode cX13_resize 22 = .ok (.istore 5, 2) := by decide +kernel
theorem dX13_resize_24 : decode cX13_resize 24 = .ok (.iload_n 2, 1) := by decide +kernel
theorem dX13_resize_25 : decode cX13_resize 25 = .ok (.ifCond .le 42, 3) := by decide +kernel
theorem dX13_resize_28 : decode cX13_resize 28 = .ok (.iload_n 2, 1) := by decide +kernel
theorem dX13_resize_29 : decode cX13_resize 29 = .ok (.ldc 42, 2) := by decide +kernel
theorem dX13_resize_31 : decode cX13_resize 31 = .ok (.if_icmp .lt 11, 3) := by decide +kernel
theorem dX13_resize_34 : decode cX13_resize 34 = .ok (.aload_n 0, 1) := by decide +kernel
theorem dX13_resize_35 : decode cX13_resize 35 = .ok (.ldc 209, 2) := by decide +kernel
theorem dX13_resize_37 : decode cX13_resize 37 = .ok (.putfield 88, 3) := by decide +kernel
theorem dX13_resize_40 : decode cX13_resize 40 = .ok (.aload_n 1, 1) := by decide +kernel
theorem dX13_resize_41 : decode cX13_resize 41 = .ok (.areturn, 1) := by decide +kernel
theorem dX13_resize_42 : decode cX13_resize 42 = .ok (.iload_n 2, 1) := by decide +kernel
theorem dX13_resize_43 : decode cX13_resize 43 = .ok (.iconst 1, 1) := by decide +kernel
theorem dX13_resize_44 : decode cX13_resize 44 = .ok (.ishl, 1) := by decide +kernel
theorem dX13_resize_45 : decode cX13_resize 45 = .ok (.dup, 1) := by decide +kernel
theorem dX13_resize_46 : decode cX13_resize 46 = .ok (.istore 4, 2) := by decide +kernel
theorem dX13_resize_48 : decode cX13_resize 48 = .ok (.ldc 42, 2) := by decide +kernel
theorem dX13_resize_50 : decode cX13_resize 50 = .ok (.if_icmp .ge 35, 3) := by decide +kernel
theorem dX13_resize_53 : decode cX13_resize 53 = .ok (.iload_n 2, 1) := by decide +kernel
theorem dX13_resize_54 : decode cX13_resize 54 = .ok (.bipush 16, 2) := by decide +kernel
theorem dX13_resize_56 : decode cX13_resize 56 = .ok (.if_icmp .lt 29, 3) := by decide +kernel
theorem dX13_resize_59 : decode cX13_resize 59 = .ok (.iload_n 3, 1) := by decide +kernel
theorem dX13_resize_60 : decode cX13_resize 60 = .ok (.iconst 1, 1) := by decide +kernel
theorem dX13_resize_61 : decode cX13_resize 61 = .ok (.ishl, 1) := by decide +kernel
theorem dX13_resize_62 : decode cX13_resize 62 = .ok (.istore 5, 2) := by decide +kernel
theorem dX13_resize_64 : decode cX13_resize 64 = .ok (.goto 21, 3) := by decide +kernel
theorem dX13_resize_67 : decode cX13_resize 67 = .ok (.iload_n 3, 1) := by decide +kernel
theorem dX13_resize_68 : decode cX13_resize 68 = .ok (.ifCond .le 9, 3) := by decide +kernel
theorem dX13_resize_71 : decode cX13_resize 71 = .ok (.iload_n 3, 1) := by decide +kernel
theorem dX13_resize_72 : decode cX13_resize 72 = .ok (.istore 4, 2) := by decide +kernel
theorem dX13_resize_74 : decode cX13_resize 74 = .ok (.goto 11, 3) := by decide +kernel
theorem dX13_resize_77 : decode cX13_resize 77 = .ok (.bipush 16, 2) := by decide +kernel
theorem dX13_resize_79 : decode cX13_resize 79 = .ok (.istore 4, 2) := by decide +kernel
theorem dX13_resize_81 : decode cX13_resize 81 = .ok (.bipush 12, 2) := by decide +kernel
theorem dX13_resize_83 : decode cX13_resize 83 = .ok (.istore 5, 2) := by decide +kernel
theorem dX13_resize_85 : decode cX13_resize 85 = .ok (.iload 5, 2) := by decide +kernel
theorem dX13_resize_87 : decode cX13_resize 87 = .ok (.ifCond .ne 38, 3) := by decide +kernel
theorem dX13_resize_90 : decode cX13_resize 90 = .ok (.iload 4, 2) := by decide +kernel
theorem dX13_resize_92 : decode cX13_resize 92 = .ok (.i2f, 1) := by decide +kernel
theorem dX13_resize_93 : decode cX13_resize 93 = .ok (.aload_n 0, 1) := by decide +kernel
theorem dX13_resize_94 : decode cX13_resize 94 = .ok (.getfield 81, 3) := by decide +kernel
theorem dX13_resize_97 : decode cX13_resize 97 = .ok (.fmul, 1) := by decide +kernel
theorem dX13_resize_98 : decode cX13_resize 98 = .ok (.fstore 6, 2) := by decide +kernel
theorem dX13_resize_100 : decode cX13_resize 100 = .ok (.iload 4, 2) := by decide +kernel
theorem dX13_resize_102 : decode cX13_resize 102 = .ok (.ldc 42, 2) := by decide +kernel
theorem dX13_resize_104 : decode cX13_resize 104 = .ok (.if_icmp .ge 17, 3) := by decide +kernel
theorem dX13_resize_107 : decode cX13_resize 107 = .ok (.fload 6, 2) := by decide +kernel
theorem dX13_resize_109 : decode cX13_resize 109 = .ok (.ldc 210, 2) := by decide +kernel
theorem dX13_resize_111 : decode cX13_resize 111 = .ok (.fcmp .g, 1) := by decide +kernel
theorem dX13_resize_112 : decode cX13_resize 112 = .ok (.ifCond .ge 9, 3) := by decide +kernel
theorem dX13_resize_115 : decode cX13_resize 115 = .ok (.fload 6, 2) := by decide +kernel
theorem dX13_resize_117 : decode cX13_resize 117 = .ok (.f2i, 1) := by decide +kernel
theorem dX13_resize_118 : decode cX13_resize 118 = .ok (.goto 5, 3) := by decide +kernel
theorem dX13_resize_121 : decode cX13_resize 121 = .ok (.ldc 209, 2) := by decide +kernel
theorem dX13_resize_123 : decode cX13_resize 123 = .ok (.istore 5, 2) := by decide +kernel
theorem dX13_resize_125 : decode cX13_resize 125 = .ok (.aload_n 0, 1) := by decide +kernel
theorem dX13_resize_126 : decode cX13_resize 126 = .ok (.iload 5, 2) := by decide +kernel
theorem dX13_resize_128 : decode cX13_resize 128 = .ok (.putfield 88, 3) := by decide +kernel
theorem dX13_resize_131 : decode cX13_resize 131 = .ok (.iload 4, 2) := by decide +kernel
theorem dX13_resize_133 : decode cX13_resize 133 = .ok (.anewarray 163, 3) := by decide +kernel
theorem dX13_resize_136 : decode cX13_resize 136 = .ok (.astore 6, 2) := by decide +kernel
theorem dX13_resize_138 : decode cX13_resize 138 = .ok (.aload_n 0, 1) := by decide +kernel
theorem dX13_resize_139 : decode cX13_resize 139 = .ok (.aload 6, 2) := by decide +kernel
theorem dX13_resize_141 : decode cX13_resize 141 = .ok (.putfield 105, 3) := by decide +kernel
theorem dX13_resize_144 : decode cX13_resize 144 = .ok (.aload_n 1, 1) := by decide +kernel
theorem dX13_resize_145 : decode cX13_resize 145 = .ok (.ifnull 208, 3) := by decide +kernel
theorem dX13_resize_148 : decode cX13_resize 148 = .ok (.iconst 0, 1) := by decide +kernel
theorem dX13_resize_149 : decode cX13_resize 149 = .ok (.istore 7, 2) := by decide +kernel
theorem dX13_resize_151 : decode cX13_resize 151 = .ok (.iload 7, 2) := by decide +kernel
theorem dX13_resize_153 : decode cX13_resize 153 = .ok (.iload_n 2, 1) := by decide +kernel
theorem dX13_resize_154 : decode cX13_resize 154 = .ok (.if_icmp .ge 199, 3) := by decide +kernel
theorem dX13_resize_157 : decode cX13_resize 157 = .ok (.aload_n 1, 1) := by decide +kernel
theorem dX13_resize_158 : decode cX13_resize 158 = .ok (.iload 7, 2) := by decide +kernel
theorem dX13_resize_160 : decode cX13_resize 160 = .ok (.aaload, 1) := by decide +kernel
theorem dX13_resize_161 : decode cX13_resize 161 = .ok (.dup, 1) := by decide +kernel
theorem dX13_resize_162 : decode cX13_resize 162 = .ok (.astore 8, 2) := by decide +kernel
theorem dX13_resize_164 : decode cX13_resize 164 = .ok (.ifnull 183, 3) := by decide +kernel
theorem dX13_resize_167 : decode cX13_resize 167 = .ok (.aload_n 1, 1) := by decide +kernel
theorem dX13_resize_168 : decode cX13_resize 168 = .ok (.iload 7, 2) := by decide +kernel
theorem dX13_resize_170 : decode cX13_resize 170 = .ok (.aconst_null, 1) := by decide +kernel
theorem dX13_resize_171 : decode cX13_resize 171 = .ok (.aastore, 1) := by decide +kernel
theorem dX13_resize_172 : decode cX13_resize 172 = .ok (.aload 8, 2) := by decide +kernel
theorem dX13_resize_174 : decode cX13_resize 174 = .ok (.getfield 177, 3) := by decide +kernel
theorem dX13_resize_177 : decode cX13_resize 177 = .ok (.ifnonnull 21, 3) := by decide +kernel
theorem dX13_resize_180 : decode cX13_resize 180 = .ok (.aload 6, 2) := by decide +kernel
theorem dX13_resize_182 : decode cX13_resize 182 = .ok (.aload 8, 2) := by decide +kernel
theorem dX13_resize_184 : decode cX13_resize 184 = .ok (.getfield 168, 3) := by decide +kernel
theorem dX13_resize_187 : decode cX13_resize 187 = .ok (.iload 4, 2) := by decide +kernel
theorem dX13_resize_189 : decode cX13_resize 189 = .ok (.iconst 1, 1) := by decide +kernel
theorem dX13_resize_190 : decode cX13_resize 190 = .ok (.isub, 1) := by decide +kernel
theorem dX13_resize_191 : decode cX13_resize 191 = .ok (.iand, 1) := by decide +kernel
theorem dX13_resize_192 : decode cX13_resize 192 = .ok (.aload 8, 2) := by decide +kernel
theorem dX13_resize_194 : decode cX13_resize 194 = .ok (.aastore, 1) := by decide +kernel
theorem dX13_resize_195 : decode cX13_resize 195 = .ok (.goto 152, 3) := by decide +kernel
theorem dX13_resize_198 : decode cX13_resize 198 = .ok (.aload 8, 2) := by decide +kernel
theorem dX13_resize_200 : decode cX13_resize 200 = .ok (.instanceof 180, 3) := by decide +kernel
theorem dX13_resize_203 : decode cX13_resize 203 = .ok (.ifCond .eq 20, 3) := by decide +kernel
theorem dX13_resize_206 : decode cX13_resize 206 = .ok (.aload 8, 2) := by decide +kernel
theorem dX13_resize_208 : decode cX13_resize 208 = .ok (.checkcast 180, 3) := by decide +kernel
theorem dX13_resize_211 : decode cX13_resize 211 = .ok (.aload_n 0, 1) := by decide +kernel
theorem dX13_resize_212 : decode cX13_resize 212 = .ok (.aload 6, 2) := by decide +kernel
theorem dX13_resize_214 : decode cX13_resize 214 = .ok (.iload 7, 2) := by decide +kernel
theorem dX13_resize_216 : decode cX13_resize 216 = .ok (.iload_n 2, 1) := by decide +kernel
theorem dX13_resize_217 : decode cX13_resize 217 = .ok (.invokevirtual 211, 3) := by decide +kernel
theorem dX13_resize_220 : decode cX13_resize 220 = .ok (.goto 127, 3) := by decide +kernel
theorem dX13_resize_223 : decode cX13_resize 223 = .ok (.aconst_null, 1) := by decide +kernel
theorem dX13_resize_224 : decode cX13_resize 224 = .ok (.astore 9, 2) := by decide +kernel
theorem dX13_resize_226 : decode cX13_resize 226 = .ok (.aconst_null, 1) := by decide +kernel
theorem dX13_resize_227 : decode cX13_resize 227 = .ok (.astore 10, 2) := by decide +kernel
theorem dX13_resize_229 : decode cX13_resize 229 = .ok (.aconst_null, 1) := by decide +kernel
theorem dX13_resize_230 : decode cX13_resize 230 = .ok (.astore 11, 2) := by decide +kernel
theorem dX13_resize_232 : decode cX13_resize 232 = .ok (.aconst_null, 1) := by decide +kernel
theorem dX13_resize_233 : decode cX13_resize 233 = .ok (.astore 12, 2) := by decide +kernel
theorem dX13_resize_235 : decode cX13_resize 235 = .ok (.aload 8, 2) := by decide +kernel
theorem dX13_resize_237 : decode cX13_resize 237 = .ok (.getfield 177, 3) := by decide +kernel
theorem dX13_resize_240 : decode cX13_resize 240 = .ok (.astore 13, 2) := by decide +kernel
theorem dX13_resize_242 : decode cX13_resize 242 = .ok (.aload 8, 2) := by decide +kernel
theorem dX13_resize_244 : decode cX13_resize 244 = .ok (.getfield 168, 3) := by decide +kernel
theorem dX13_resize_247 : decode cX13_resize 247 = .ok (.iload_n 2, 1) := by decide +kernel
theorem dX13_resize_248 : decode cX13_resize 248 = .ok (.iand, 1) := by decide +kernel
theorem dX13_resize_249 : decode cX13_resize 249 = .ok (.ifCond .ne 29, 3) := by decide +kernel
theorem dX13_resize_252 : decode cX13_resize 252 = .ok (.aload 10, 2) := by decide +kernel
theorem dX13_resize_254 : decode cX13_resize 254 = .ok (.ifnonnull 10, 3) := by decide +kernel
theorem dX13_resize_257 : decode cX13_resize 257 = .ok (.aload 8, 2) := by decide +kernel
theorem dX13_resize_259 : decode cX13_resize 259 = .ok (.astore 9, 2) := by decide +kernel
theorem dX13_resize_261 : decode cX13_resize 261 = .ok (.goto 10, 3) := by decide +kernel
theorem dX13_resize_264 : decode cX13_resize 264 = .ok (.aload 10, 2) := by decide +kernel
theorem dX13_resize_266 : decode cX13_resize 266 = .ok (.aload 8, 2) := by decide +kernel
theorem dX13_resize_268 : decode cX13_resize 268 = .ok (.putfield 177, 3) := by decide +kernel
theorem dX13_resize_271 : decode cX13_resize 271 = .ok (.aload 8, 2) := by decide +kernel
theorem dX13_resize_273 : decode cX13_resize 273 = .ok (.astore 10, 2) := by decide +kernel
theorem dX13_resize_275 : decode cX13_resize 275 = .ok (.goto 26, 3) := by decide +kernel
theorem dX13_resize_278 : decode cX13_resize 278 = .ok (.aload 12, 2) := by decide +kernel
theorem dX13_resize_280 : decode cX13_resize 280 = .ok (.ifnonnull 10, 3) := by decide +kernel
theorem dX13_resize_283 : decode cX13_resize 283 = .ok (.aload 8, 2) := by decide +kernel
theorem dX13_resize_285 : decode cX13_resize 285 = .ok (.astore 11, 2) := by decide +kernel
theorem dX13_resize_287 : decode cX13_resize 287 = .ok (.goto 10, 3) := by decide +kernel
theorem dX13_resize_290 : decode cX13_resize 290 = .ok (.aload 12, 2) := by decide +kernel
theorem dX13_resize_292 : decode cX13_resize 292 = .ok (.aload 8, 2) := by decide +kernel
theorem dX13_resize_294 : decode cX13_resize 294 = .ok (.putfield 177, 3) := by decide +kernel
theorem dX13_resize_297 : decode cX13_resize 297 = .ok (.aload 8, 2) := by decide +kernel
theorem dX13_resize_299 : decode cX13_resize 299 = .ok (.astore 12, 2) := by decide +kernel
theorem dX13_resize_301 : decode cX13_resize 301 = .ok (.aload 13, 2) := by decide +kernel
theorem dX13_resize_303 : decode cX13_resize 303 = .ok (.dup, 1) := by decide +kernel
theorem dX13_resize_304 : decode cX13_resize 304 = .ok (.astore 8, 2) := by decide +kernel
theorem dX13_resize_306 : decode cX13_resize 306 = .ok (.ifnonnull (-71), 3) := by decide +kernel
theorem dX13_resize_309 : decode cX13_resize 309 = .ok (.aload 10, 2) := by decide +kernel
theorem dX13_resize_311 : decode cX13_resize 311 = .ok (.ifnull 16, 3) := by decide +kernel
theorem dX13_resize_314 : decode cX13_resize 314 = .ok (.aload 10, 2) := by decide +kernel
theorem dX13_resize_316 : decode cX13_resize 316 = .ok (.aconst_null, 1) := by decide +kernel
theorem dX13_resize_317 : decode cX13_resize 317 = .ok (.putfield 177, 3) := by decide +kernel
theorem dX13_resize_320 : decode cX13_resize 320 = .ok (.aload 6, 2) := by decide +kernel
theorem dX13_resize_322 : decode cX13_resize 322 = .ok (.iload 7, 2) := by decide +kernel
theorem dX13_resize_324 : decode cX13_resize 324 = .ok (.aload 9, 2) := by decide +kernel
theorem dX13_resize_326 : decode cX13_resize 326 = .ok (.aastore, 1) := by decide +kernel
theorem dX13_resize_327 : decode cX13_resize 327 = .ok (.aload 12, 2) := by decide +kernel
theorem dX13_resize_329 : decode cX13_resize 329 = .ok (.ifnull 18, 3) := by decide +kernel
theorem dX13_resize_332 : decode cX13_resize 332 = .ok (.aload 12, 2) := by decide +kernel
theorem dX13_resize_334 : decode cX13_resize 334 = .ok (.aconst_null, 1) := by decide +kernel
theorem dX13_resize_335 : decode cX13_resize 335 = .ok (.putfield 177, 3) := by decide +kernel
theorem dX13_resize_338 : decode cX13_resize 338 = .ok (.aload 6, 2) := by decide +kernel
theorem dX13_resize_340 : decode cX13_resize 340 = .ok (.iload 7, 2) := by decide +kernel
theorem dX13_resize_342 : decode cX13_resize 342 = .ok (.iload_n 2, 1) := by decide +kernel
theorem dX13_resize_343 : decode cX13_resize 343 = .ok (.iadd, 1) := by decide +kernel
theorem dX13_resize_344 : decode cX13_resize 344 = .ok (.aload 11, 2) := by decide +kernel
theorem dX13_resize_346 : decode cX13_resize 346 = .ok (.aastore, 1) := by decide +kernel
theorem dX13_resize_347 : decode cX13_resize 347 = .ok (.iinc 7 1, 3) := by decide +kernel
theorem dX13_resize_350 : decode cX13_resize 350 = .ok (.goto (-199), 3) := by decide +kernel
theorem dX13_resize_353 : decode cX13_resize 353 = .ok (.aload 6, 2) := by decide +kernel
theorem dX13_resize_355 : decode cX13_resize 355 = .ok (.areturn, 1) := by decide +kernel
set_option maxRecDepth 20000 in
theorem ggX13_newNode_X11_init : GoodIn wsX13_newNode wsX11_init := goodIn_r _ [6, 7, 8, 9, 10, 11, 12, 13, 14, 15, 16, 17, 18, 19, 20, 21, 22, 23, 24, 25, 26, 27, 28] (by decide +kernel) (by decide +kernel)
set_option maxRecDepth 20000 in
theorem gX13_newNode_X11_init : GoodIn wsX13_newNode (wsX11_init) := ggX13_newNode_X11_init
theorem dX13_newNode_0 : decode cX13_newNode 0 = .ok (.new 163, 3) := by decide +kernel
theorem dX13_newNode_3 : decode cX13_newNode 3 = .ok (.dup, 1) := by decide +kernel
theorem dX13_newNode_4 : decode cX13_newNode 4 = .ok (.iload_n 1, 1) := by decide +kernel
theorem dX13_newNode_5 : decode cX13_newNode 5 = .ok (.aload_n 2, 1) := by decide +kernel
theorem dX13_newNode_6 : decode cX13_newNode 6 = .ok (.aload_n 3, 1) := by decide +kernel
theorem dX13_newNode_7 : decode cX13_newNode 7 = .ok (.aload 4, 2) := by decide +kernel
theorem dX13_newNode_9 : decode cX13_newNode 9 = .ok (.invokespecial 375, 3) := by decide +kernel
theorem dX13_newNode_12 : decode cX13_newNode 12 = .ok (.areturn, 1) := by decide +kernel
theorem dX13_afterNodeInsertion_0 : decode cX13_afterNodeInsertion 0 = .ok (.return_, 1) := by decide +kernel
set_option maxRecDepth 20000 in
theorem ggJ15_checkIndex_7cf53_J3_checkIndex_8e157 : GoodIn wsJ15_checkIndex_7cf53 wsJ3_checkIndex_8e157 := goodIn_r _ [4] (by decide +kernel) (by decide +kernel)
set_option maxRecDepth 20000 in
theorem gJ15_checkIndex_7cf53_J3_checkIndex_8e157 : GoodIn wsJ15_checkIndex_7cf53 (va_wsS RJ15 105 yJ3_checkIndex_8e157 wsJ3_checkIndex_8e157) := goodIn_app (goodIn_of _ (by decide +kernel)) ggJ15_checkIndex_7cf53_J3_checkIndex_8e157
theorem dJ15_checkIndex_7cf53_0 : decode cJ15_checkIndex_7cf53 0 = .ok (.iload_n 0, 1) := by decide +kernel
theorem dJ15_checkIndex_7cf53_1 : decode cJ15_checkIndex_7cf53 1 = .ok (.iload_n 1, 1) := by decide +kernel
theorem dJ15_checkIndex_7cf53_2 : decode cJ15_checkIndex_7cf53 2 = .ok (.aconst_null, 1) := by decide +kernel
theorem dJ15_checkIndex_7cf53_3 : decode cJ15_checkIndex_7cf53 3 = .ok (.invokestatic 105, 3) := by decide +kernel
theorem dJ15_checkIndex_7cf53_6 : decode cJ15_checkIndex_7cf53 6 = .ok (.ireturn, 1) := by decide +kernel
theorem dJ3_checkIndex_8e157_0 : decode cJ3_checkIndex_8e157 0 = .ok (.iload_n 0, 1) := by decide +kernel
theorem dJ3_checkIndex_8e157_1 : decode cJ3_checkIndex_8e157 1 = .ok (.ifCond .lt 8, 3) := by decide +kernel
theorem dJ3_checkIndex_8e157_4 : decode cJ3_checkIndex_8e157 4 = .ok (.iload_n 0, 1) := by decide +kernel
theorem dJ3_checkIndex_8e157_5 : decode cJ3_checkIndex_8e157 5 = .ok (.iload_n 1, 1) := by decide +kernel
theorem dJ3_checkIndex_8e157_6 : decode cJ3_checkIndex_8e157 6 = .ok (.if_icmp .lt 10, 3) := by decide +kernel
theorem dJ3_checkIndex_8e157_9 : decode cJ3_checkIndex_8e157 9 = .ok (.aload_n 2, 1) := by decide +kernel
theorem dJ3_checkIndex_8e157_10 : decode cJ3_checkIndex_8e157 10 = .ok (.iload_n 0, 1) := by decide +kernel
theorem dJ3_checkIndex_8e157_11 : decode cJ3_checkIndex_8e157 11 = .ok (.iload_n 1, 1) := by decide +kernel
theorem dJ3_checkIndex_8e157_12 : decode cJ3_checkIndex_8e157 12 = .ok (.invokestatic 95, 3) := by decide +kernel
theorem dJ3_checkIndex_8e157_15 : decode cJ3_checkIndex_8e157 15 = .ok (.athrow, 1) := by decide +kernel
theorem dJ3_checkIndex_8e157_16 : decode cJ3_checkIndex_8e157 16 = .ok (.iload_n 0, 1) := by decide +kernel
theorem dJ3_checkIndex_8e157_17 : decode cJ3_checkIndex_8e157 17 = .ok (.ireturn, 1) := by decide +kernel
set_option maxRecDepth 20000 in
theorem ggL_addGlass_X6_addGlass : GoodIn wsL_addGlass wsX6_addGlass := goodIn_ca (goodIn_ca (goodIn_r _ [6, 7, 8, 9, 10, 11, 12, 13, 5, 14, 15, 16, 17, 18, 19, 20, 21, 22, 23, 24, 25, 26, 27, 28, 29, 30, 31, 32, 33, 34, 35, 36, 37, 38, 39, 40, 41, 42, 43, 44, 45, 46, 47, 48, 49, 50, 51, 52, 53, 54, 55, 56, 57, 58, 59, 60, 61, 62, 63, 64, 65, 66, 67, 68, 69, 70, 71, 72, 73, 74, 75, 76, 77, 78, 79, 80, 81, 82, 83, 84, 85, 86, 87, 88, 89, 90, 91, 92, 93, 94, 95, 96, 97, 98, 99, 100, 101, 102, 103, 104, 105, 106, 107, 108, 109, 110, 111, 112, 113, 114, 115, 116, 117, 118, 119, 120, 121, 122, 123, 124, 125, 126, 127, 128, 129, 130, 131, 132, 133, 134, 135, 136, 137, 138, 139, 140, 141, 142, 143, 144, 145] (by decide +kernel) (by decide +kernel)) (goodIn_sub (fun _ h => List.mem_cons_of_mem _ (List.mem_append_left _ (List.mem_append_right _ h))) (by decide +kernel))) (goodIn_sub (fun _ h => List.mem_cons_of_mem _ (List.mem_append_right _ h)) (by decide +kernel))
set_option maxRecDepth 20000 in
theorem gL_addGlass_X6_addGlass : GoodIn wsL_addGlass (wsV RL 7 RX6 yX6_addGlass wsX6_addGlass) := goodIn_app (goodIn_of _ (by decide +kernel)) ggL_addGlass_X6_addGlass
theorem dL_addGlass_0 : decode cL_addGlass 0 = .ok (.aload 5, 2) := by decide +kernel
theorem dL_addGlass_2 : decode cL_addGlass 2 = .ok (.iconst 0, 1) := by decide +kernel
theorem dL_addGlass_3 : decode cL_addGlass 3 = .ok (.aload_n 0, 1) := by decide +kernel
theorem dL_addGlass_4 : decode cL_addGlass 4 = .ok (.iload_n 1, 1) := by decide +kernel
theorem dL_addGlass_5 : decode cL_addGlass 5 = .ok (.iload_n 2, 1) := by decide +kernel
theorem dL_addGlass_6 : decode cL_addGlass 6 = .ok (.iload_n 3, 1) := by decide +kernel
theorem dL_addGlass_7 : decode cL_addGlass 7 = .ok (.iload 4, 2) := by decide +kernel
theorem dL_addGlass_9 : decode cL_addGlass 9 = .ok (.invokevirtual 7, 3) := by decide +kernel
theorem dL_addGlass_12 : decode cL_addGlass 12 = .ok (.i2l, 1) := by decide +kernel
theorem dL_addGlass_13 : decode cL_addGlass 13 = .ok (.lastore, 1) := by decide +kernel
theorem dL_addGlass_14 : decode cL_addGlass 14 = .ok (.goto 11, 3) := by decide +kernel
theorem dL_addGlass_17 : decode cL_addGlass 17 = .ok (.astore 6, 2) := by decide +kernel
theorem dL_addGlass_19 : decode cL_addGlass 19 = .ok (.iconst 1, 1) := by decide +kernel
theorem dL_addGlass_20 : decode cL_addGlass 20 = .ok (.ireturn, 1) := by decide +kernel
theorem dL_addGlass_21 : decode cL_addGlass 21 = .ok (.astore 6, 2) := by decide +kernel
theorem dL_addGlass_23 : decode cL_addGlass 23 = .ok (.iconst 2, 1) := by decide +kernel
theorem dL_addGlass_24 : decode cL_addGlass 24 = .ok (.ireturn, 1) := by decide +kernel
theorem dL_addGlass_25 : decode cL_addGlass 25 = .ok (.iconst 0, 1) := by decide +kernel
theorem dL_addGlass_26 : decode cL_addGlass 26 = .ok (.ireturn, 1) := by decide +kernel
set_option maxRecDepth 20000 in
theorem ggL_above_X6_above : GoodIn wsL_above wsX6_above := goodIn_ca (goodIn_r _ [6, 7, 8, 9, 5, 10, 11, 12, 13, 14, 15, 16, 17, 18, 19, 20, 21, 22, 23, 24, 25, 26, 27, 28, 29, 30, 31, 32, 33, 34, 35, 36, 37, 38, 39, 40, 41, 42, 43, 44, 45, 46, 47, 48, 49, 50, 51, 52, 53, 54, 55, 56, 57, 58, 59, 60, 61, 62, 63, 64, 65, 66, 67, 68, 69] (by decide +kernel) (by decide +kernel)) (goodIn_sub (fun _ h => List.mem_cons_of_mem _ (List.mem_append_right _ h)) (by decide +kernel))
set_option maxRecDepth 20000 in
theorem gL_above_X6_above : GoodIn wsL_above (wsV RL 17 RX6 yX6_above wsX6_above) := goodIn_app (goodIn_of _ (by decide +kernel)) ggL_above_X6_above
theorem dL_above_0 : decode cL_above 0 = .ok (.aload_n 2, 1) := by decide +kernel
theorem dL_above_1 : decode cL_above 1 = .ok (.iconst 0, 1) := by decide +kernel
theorem dL_above_2 : decode cL_above 2 = .ok (.aload_n 0, 1) := by decide +kernel
theorem dL_above_3 : decode cL_above 3 = .ok (.iload_n 1, 1) := by decide +kernel
theorem dL_above_4 : decode cL_above 4 = .ok (.invokevirtual 17, 3) := by decide +kernel
theorem dL_above_7 : decode cL_above 7 = .ok (.i2l, 1) := by decide +kernel
theorem dL_above_8 : decode cL_above 8 = .ok (.lastore, 1) := by decide +kernel
theorem dL_above_9 : decode cL_above 9 = .ok (.goto 6, 3) := by decide +kernel
theorem dL_above_12 : decode cL_above 12 = .ok (.astore_n 3, 1) := by decide +kernel
theorem dL_above_13 : decode cL_above 13 = .ok (.iconst 1, 1) := by decide +kernel
theorem dL_above_14 : decode cL_above 14 = .ok (.ireturn, 1) := by decide +kernel
theorem dL_above_15 : decode cL_above 15 = .ok (.iconst 0, 1) := by decide +kernel
theorem dL_above_16 : decode cL_above 16 = .ok (.ireturn, 1) := by decide +kernel
set_option maxRecDepth 20000 in
theorem ggL_below_X6_below : GoodIn wsL_below wsX6_below := goodIn_ca (goodIn_r _ [6, 7, 8, 9, 5, 10, 11, 12, 13, 14, 15, 16, 17, 18, 19, 20, 21, 22, 23, 24, 25, 26, 27, 28, 29, 30, 31, 32, 33, 34, 35, 36, 37, 38, 39, 40, 41, 42, 43, 44, 45, 46, 47, 48, 49, 50, 51, 52, 53, 54, 55, 56, 57, 58, 59, 60, 61, 62, 63, 64, 65, 66, 67, 68, 69] (by decide +kernel) (by decide +kernel)) (goodIn_sub (fun _ h => List.mem_cons_of_mem _ (List.mem_append_right _ h)) (by decide +kernel))
set_option maxRecDepth 20000 in
theorem gL_below_X6_below : GoodIn wsL_below (wsV RL 23 RX6 yX6_below wsX6_below) := goodIn_app (goodIn_of _ (by decide +kernel)) ggL_below_X6_below
theorem dL_below_0 : decode cL_below 0 = .ok (.aload_n 2, 1) := by decide +kernel
theorem dL_below_1 : decode cL_below 1 = .ok (.iconst 0, 1) := by decide +kernel
theorem dL_below_2 : decode cL_below 2 = .ok (.aload_n 0, 1) := by decide +kernel
theorem dL_below_3 : decode cL_below 3 = .ok (.iload_n 1, 1) := by decide +kernel
theorem dL_below_4 : decode cL_below 4 = .ok (.invokevirtual 23, 3) := by decide +kernel
theorem dL_below_7 : decode cL_below 7 = .ok (.i2l, 1) := by decide +kernel
theorem dL_below_8 : decode cL_below 8 = .ok (.lastore, 1) := by decide +kernel
theorem dL_below_9 : decode cL_below 9 = .ok (.goto 6, 3) := by decide +kernel
theorem dL_below_12 : decode cL_below 12 = .ok (.astore_n 3, 1) := by decide +kernel
theorem dL_below_13 : decode cL_below 13 = .ok (.iconst 1, 1) := by decide +kernel
theorem dL_below_14 : decode cL_below 14 = .ok (.ireturn, 1) := by decide +kernel
theorem dL_below_15 : decode cL_below 15 = .ok (.iconst 0, 1) := by decide +kernel
theorem dL_below_16 : decode cL_below 16 = .ok (.ireturn, 1) := by decide +kernel
set_option maxRecDepth 20000 in
theorem ggL_state_X6_state : GoodIn wsL_state wsX6_state := goodIn_ca (goodIn_r _ [6, 7, 8, 9, 5, 10, 11, 12, 13, 14, 15, 16, 17, 18, 19, 20, 21, 22, 23, 24, 25, 26, 27, 28, 29, 30, 31, 32, 33, 34, 35, 36, 37, 38, 39, 40, 41, 42, 43, 44, 45, 46, 47, 48, 49, 50, 51, 52, 53, 54, 55, 56, 57, 58, 59, 60, 61, 62, 63, 64, 65, 66, 67, 68, 69, 70, 71, 72, 73, 74, 75, 76, 77, 78, 79, 80, 81] (by decide +kernel) (by decide +kernel)) (goodIn_sub (fun _ h => List.mem_cons_of_mem _ (List.mem_append_right _ h)) (by decide +kernel))
set_option maxRecDepth 20000 in
theorem gL_state_X6_state : GoodIn wsL_state (wsV RL 26 RX6 yX6_state wsX6_state) := goodIn_app (goodIn_of _ (by decide +kernel)) ggL_state_X6_state
theorem dL_state_0 : decode cL_state 0 = .ok (.aload_n 2, 1) := by decide +kernel
theorem dL_state_1 : decode cL_state 1 = .ok (.iconst 0, 1) := by decide +kernel
theorem dL_state_2 : decode cL_state 2 = .ok (.aload_n 0, 1) := by decide +kernel
theorem dL_state_3 : decode cL_state 3 = .ok (.iload_n 1, 1) := by decide +kernel
theorem dL_state_4 : decode cL_state 4 = .ok (.invokevirtual 26, 3) := by decide +kernel
theorem dL_state_7 : decode cL_state 7 = .ok (.i2l, 1) := by decide +kernel
theorem dL_state_8 : decode cL_state 8 = .ok (.lastore, 1) := by decide +kernel
theorem dL_state_9 : decode cL_state 9 = .ok (.goto 6, 3) := by decide +kernel
theorem dL_state_12 : decode cL_state 12 = .ok (.astore_n 3, 1) := by decide +kernel
theorem dL_state_13 : decode cL_state 13 = .ok (.iconst 1, 1) := by decide +kernel
theorem dL_state_14 : decode cL_state 14 = .ok (.ireturn, 1) := by decide +kernel
theorem dL_state_15 : decode cL_state 15 = .ok (.iconst 0, 1) := by decide +kernel
theorem dL_state_16 : decode cL_state 16 = .ok (.ireturn, 1) := by decide +kernel
set_option maxRecDepth 20000 in
theorem ggL_turn_X6_turn : GoodIn wsL_turn wsX6_turn := goodIn_ca (goodIn_r _ [6, 7, 8, 9, 10, 5, 11, 12, 13, 14, 15, 16, 17, 18, 19, 20, 21, 22, 23, 24, 25, 26, 27, 28, 29, 30, 31, 32, 33, 34, 35, 36, 37, 38, 39, 40, 41, 42, 43, 44, 45, 46, 47, 48, 49, 50, 51, 52, 53, 54, 55, 56, 57, 58, 59, 60, 61, 62, 63, 64, 65, 66, 67, 68, 69, 70, 71, 72, 73, 74, 75, 76, 77, 78, 79, 80, 81] (by decide +kernel) (by decide +kernel)) (goodIn_sub (fun _ h => List.mem_cons_of_mem _ (List.mem_append_right _ h)) (by decide +kernel))
set_option maxRecDepth 20000 in
theorem gL_turn_X6_turn : GoodIn wsL_turn (wsV RL 30 RX6 yX6_turn wsX6_turn) := goodIn_app (goodIn_of _ (by decide +kernel)) ggL_turn_X6_turn
theorem dL_turn_0 : decode cL_turn 0 = .ok (.aload_n 2, 1) := by decide +kernel
theorem dL_turn_1 : decode cL_turn 1 = .ok (.iconst 0, 1) := by decide +kernel
theorem dL_turn_2 : decode cL_turn 2 = .ok (.aload_n 0, 1) := by decide +kernel
theorem dL_turn_3 : decode cL_turn 3 = .ok (.iload_n 1, 1) := by decide +kernel
theorem dL_turn_4 : decode cL_turn 4 = .ok (.invokevirtual 30, 3) := by decide +kernel
theorem dL_turn_7 : decode cL_turn 7 = .ok (.i2l, 1) := by decide +kernel
theorem dL_turn_8 : decode cL_turn 8 = .ok (.lastore, 1) := by decide +kernel
theorem dL_turn_9 : decode cL_turn 9 = .ok (.goto 6, 3) := by decide +kernel
theorem dL_turn_12 : decode cL_turn 12 = .ok (.astore_n 3, 1) := by decide +kernel
theorem dL_turn_13 : decode cL_turn 13 = .ok (.iconst 1, 1) := by decide +kernel
theorem dL_turn_14 : decode cL_turn 14 = .ok (.ireturn, 1) := by decide +kernel
theorem dL_turn_15 : decode cL_turn 15 = .ok (.iconst 0, 1) := by decide +kernel
theorem dL_turn_16 : decode cL_turn 16 = .ok (.ireturn, 1) := by decide +kernel
set_option maxRecDepth 20000 in
theorem ggL_timesTurned_X6_timesTurned : GoodIn wsL_timesTurned wsX6_timesTurned := goodIn_ca (goodIn_r _ [6, 7, 8, 9, 5, 10, 11, 12, 13, 14, 15, 16, 17, 18, 19, 20, 21, 22, 23, 24, 25, 26, 27, 28, 29, 30, 31, 32, 33, 34, 35, 36, 37, 38, 39, 40, 41, 42, 43, 44, 45, 46, 47, 48, 49, 50, 51, 52, 53, 54, 55, 56, 57, 58, 59, 60, 61, 62, 63, 64, 65, 66, 67, 68, 69] (by decide +kernel) (by decide +kernel)) (goodIn_sub (fun _ h => List.mem_cons_of_mem _ (List.mem_append_right _ h)) (by decide +kernel))
set_option maxRecDepth 20000 in
theorem gL_timesTurned_X6_timesTurned : GoodIn wsL_timesTurned (wsV RL 33 RX6 yX6_timesTurned wsX6_timesTurned) := goodIn_app (goodIn_of _ (by decide +kernel)) ggL_timesTurned_X6_timesTurned
theorem dL_timesTurned_0 : decode cL_timesTurned 0 = .ok (.aload_n 2, 1) := by decide +kernel
theorem dL_timesTurned_1 : decode cL_timesTurned 1 = .ok (.iconst 0, 1) := by decide +kernel
theorem dL_timesTurned_2 : decode cL_timesTurned 2 = .ok (.aload_n 0, 1) := by decide +kernel
theorem dL_timesTurned_3 : decode cL_timesTurned 3 = .ok (.iload_n 1, 1) := by decide +kernel
theorem dL_timesTurned_4 : decode cL_timesTurned 4 = .ok (.invokevirtual 33, 3) := by decide +kernel
theorem dL_timesTurned_7 : decode cL_timesTurned 7 = .ok (.i2l, 1) := by decide +kernel
theorem dL_timesTurned_8 : decode cL_timesTurned 8 = .ok (.lastore, 1) := by decide +kernel
theorem dL_timesTurned_9 : decode cL_timesTurned 9 = .ok (.goto 6, 3) := by decide +kernel
theorem dL_timesTurned_12 : decode cL_timesTurned 12 = .ok (.astore_n 3, 1) := by decide +kernel
theorem dL_timesTurned_13 : decode cL_timesTurned 13 = .ok (.iconst 1, 1) := by decide +kernel
theorem dL_timesTurned_14 : decode cL_timesTurned 14 = .ok (.ireturn, 1) := by decide +kernel
theorem dL_timesTurned_15 : decode cL_timesTurned 15 = .ok (.iconst 0, 1) := by decide +kernel
theorem dL_timesTurned_16 : decode cL_timesTurned 16 = .ok (.ireturn, 1) := by decide +kernel
set_option maxRecDepth 20000 in
theorem ggL_stand_X6_stand : GoodIn wsL_stand wsX6_stand := goodIn_ca (goodIn_ca (goodIn_r _ [6, 7, 8, 9, 10, 11, 5, 12, 13, 14, 15, 16, 17, 18, 19, 20, 21, 22, 23, 24, 25, 26, 27, 28, 29, 30, 31, 32, 33, 34, 35, 36, 37, 38, 39, 40, 41, 42, 43, 44, 45, 46, 47, 48, 49, 50, 51, 52, 53, 54, 55, 56, 57, 58, 59, 60, 61, 62, 63, 64, 65, 66, 67, 68, 69, 70, 71] (by decide +kernel) (by decide +kernel)) (goodIn_sub (fun _ h => List.mem_cons_of_mem _ (List.mem_append_left _ (List.mem_append_right _ h))) (by decide +kernel))) (goodIn_sub (fun _ h => List.mem_cons_of_mem _ (List.mem_append_right _ h)) (by decide +kernel))
set_option maxRecDepth 20000 in
theorem gL_stand_X6_stand : GoodIn wsL_stand (wsV RL 36 RX6 yX6_stand wsX6_stand) := goodIn_app (goodIn_of _ (by decide +kernel)) ggL_stand_X6_stand
theorem dL_stand_0 : decode cL_stand 0 = .ok (.aload_n 3, 1) := by decide +kernel
theorem dL_stand_1 : decode cL_stand 1 = .ok (.iconst 0, 1) := by decide +kernel
theorem dL_stand_2 : decode cL_stand 2 = .ok (.aload_n 0, 1) := by decide +kernel
theorem dL_stand_3 : decode cL_stand 3 = .ok (.iload_n 1, 1) := by decide +kernel
theorem dL_stand_4 : decode cL_stand 4 = .ok (.iload_n 2, 1) := by decide +kernel
theorem dL_stand_5 : decode cL_stand 5 = .ok (.invokevirtual 36, 3) := by decide +kernel
theorem dL_stand_8 : decode cL_stand 8 = .ok (.i2l, 1) := by decide +kernel
theorem dL_stand_9 : decode cL_stand 9 = .ok (.lastore, 1) := by decide +kernel
theorem dL_stand_10 : decode cL_stand 10 = .ok (.goto 11, 3) := by decide +kernel
theorem dL_stand_13 : decode cL_stand 13 = .ok (.astore 4, 2) := by decide +kernel
theorem dL_stand_15 : decode cL_stand 15 = .ok (.iconst 1, 1) := by decide +kernel
theorem dL_stand_16 : decode cL_stand 16 = .ok (.ireturn, 1) := by decide +kernel
theorem dL_stand_17 : decode cL_stand 17 = .ok (.astore 4, 2) := by decide +kernel
theorem dL_stand_19 : decode cL_stand 19 = .ok (.iconst 2, 1) := by decide +kernel
theorem dL_stand_20 : decode cL_stand 20 = .ok (.ireturn, 1) := by decide +kernel
theorem dL_stand_21 : decode cL_stand 21 = .ok (.iconst 0, 1) := by decide +kernel
theorem dL_stand_22 : decode cL_stand 22 = .ok (.ireturn, 1) := by decide +kernel
set_option maxRecDepth 20000 in
theorem ggL_setJam_X6_setJam : GoodIn wsL_setJam wsX6_setJam := goodIn_ca (goodIn_ca (goodIn_r _ [6, 7, 8, 9, 5, 10, 11, 12, 13, 14, 15, 16, 17, 18, 19, 20, 21, 22, 23, 24, 25, 26, 27, 28, 29, 30, 31, 32, 33, 34, 35, 36, 37, 38, 39, 40, 41, 42, 43, 44, 45, 46, 47, 48, 49, 50, 51, 52, 53, 54, 55, 56, 57, 58, 59, 60, 61, 62, 63, 64, 65, 66, 67, 68, 69, 70, 71, 72, 73, 74] (by decide +kernel) (by decide +kernel)) (goodIn_sub (fun _ h => List.mem_cons_of_mem _ (List.mem_append_left _ (List.mem_append_right _ h))) (by decide +kernel))) (goodIn_sub (fun _ h => List.mem_cons_of_mem _ (List.mem_append_right _ h)) (by decide +kernel))
set_option maxRecDepth 20000 in
theorem gL_setJam_X6_setJam : GoodIn wsL_setJam (wsV RL 40 RX6 yX6_setJam wsX6_setJam) := goodIn_app (goodIn_of _ (by decide +kernel)) ggL_setJam_X6_setJam
theorem dL_setJam_0 : decode cL_setJam 0 = .ok (.aload_n 3, 1) := by decide +kernel
theorem dL_setJam_1 : decode cL_setJam 1 = .ok (.iconst 0, 1) := by decide +kernel
theorem dL_setJam_2 : decode cL_setJam 2 = .ok (.aload_n 0, 1) := by decide +kernel
theorem dL_setJam_3 : decode cL_setJam 3 = .ok (.iload_n 1, 1) := by decide +kernel
theorem dL_setJam_4 : decode cL_setJam 4 = .ok (.iload_n 2, 1) := by decide +kernel
theorem dL_setJam_5 : decode cL_setJam 5 = .ok (.invokevirtual 40, 3) := by decide +kernel
theorem dL_setJam_8 : decode cL_setJam 8 = .ok (.i2l, 1) := by decide +kernel
theorem dL_setJam_9 : decode cL_setJam 9 = .ok (.lastore, 1) := by decide +kernel
theorem dL_setJam_10 : decode cL_setJam 10 = .ok (.goto 11, 3) := by decide +kernel
theorem dL_setJam_13 : decode cL_setJam 13 = .ok (.astore 4, 2) := by decide +kernel
theorem dL_setJam_15 : decode cL_setJam 15 = .ok (.iconst 1, 1) := by decide +kernel
theorem dL_setJam_16 : decode cL_setJam 16 = .ok (.ireturn, 1) := by decide +kernel
theorem dL_setJam_17 : decode cL_setJam 17 = .ok (.astore 4, 2) := by decide +kernel
theorem dL_setJam_19 : decode cL_setJam 19 = .ok (.iconst 2, 1) := by decide +kernel
theorem dL_setJam_20 : decode cL_setJam 20 = .ok (.ireturn, 1) := by decide +kernel
theorem dL_setJam_21 : decode cL_setJam 21 = .ok (.iconst 0, 1) := by decide +kernel
theorem dL_setJam_22 : decode cL_setJam 22 = .ok (.ireturn, 1) := by decide +kernel
set_option maxRecDepth 20000 in
theorem ggL_tap_X6_tap : GoodIn wsL_tap wsX6_tap := goodIn_ca (goodIn_r _ [6, 7, 8, 9, 5, 10, 11, 12, 13, 14, 15, 16, 17, 18, 19, 20, 21, 22, 23, 24, 25, 26, 27, 28, 29, 30, 31, 32, 33, 34, 35, 36, 37, 38, 39, 40, 41, 42, 43, 44, 45, 46, 47, 48, 49, 50, 51, 52, 53, 54, 55, 56, 57, 58, 59, 60, 61, 62, 63, 64, 65, 66, 67, 68, 69] (by decide +kernel) (by decide +kernel)) (goodIn_sub (fun _ h => List.mem_cons_of_mem _ (List.mem_append_right _ h)) (by decide +kernel))
set_option maxRecDepth 20000 in
theorem gL_tap_X6_tap : GoodIn wsL_tap (wsV RL 44 RX6 yX6_tap wsX6_tap) := goodIn_app (goodIn_of _ (by decide +kernel)) ggL_tap_X6_tap
theorem dL_tap_0 : decode cL_tap 0 = .ok (.aload_n 2, 1) := by decide +kernel
theorem dL_tap_1 : decode cL_tap 1 = .ok (.iconst 0, 1) := by decide +kernel
theorem dL_tap_2 : decode cL_tap 2 = .ok (.aload_n 0, 1) := by decide +kernel
theorem dL_tap_3 : decode cL_tap 3 = .ok (.iload_n 1, 1) := by decide +kernel
theorem dL_tap_4 : decode cL_tap 4 = .ok (.invokevirtual 44, 3) := by decide +kernel
theorem dL_tap_7 : decode cL_tap 7 = .ok (.ifCond .eq 7, 3) := by decide +kernel
theorem dL_tap_10 : decode cL_tap 10 = .ok (.lconst 1, 1) := by decide +kernel
theorem dL_tap_11 : decode cL_tap 11 = .ok (.goto 4, 3) := by decide +kernel
theorem dL_tap_14 : decode cL_tap 14 = .ok (.lconst 0, 1) := by decide +kernel
theorem dL_tap_15 : decode cL_tap 15 = .ok (.lastore, 1) := by decide +kernel
theorem dL_tap_16 : decode cL_tap 16 = .ok (.goto 6, 3) := by decide +kernel
theorem dL_tap_19 : decode cL_tap 19 = .ok (.astore_n 3, 1) := by decide +kernel
theorem dL_tap_20 : decode cL_tap 20 = .ok (.iconst 1, 1) := by decide +kernel
theorem dL_tap_21 : decode cL_tap 21 = .ok (.ireturn, 1) := by decide +kernel
theorem dL_tap_22 : decode cL_tap 22 = .ok (.iconst 0, 1) := by decide +kernel
theorem dL_tap_23 : decode cL_tap 23 = .ok (.ireturn, 1) := by decide +kernel
set_option maxRecDepth 20000 in
theorem ggL_pour_X6_pour : GoodIn wsL_pour wsX6_pour := goodIn_ca (goodIn_ca (goodIn_ca (goodIn_r _ [6, 7, 8, 9, 10, 11, 12, 5, 13, 14, 15, 16, 17, 18, 19, 20, 21, 22, 23, 24, 25, 26, 27, 28, 29, 30, 31, 32, 33, 34, 35, 36, 37, 38, 39, 40, 41, 42, 43, 44, 45, 46, 47, 48, 49, 50, 51, 52, 53, 54, 55, 56, 57, 58, 59, 60, 61, 62, 63, 64, 65, 66, 67, 68, 69, 70, 71, 72, 73, 74, 75, 76, 77, 78, 79, 80, 81, 82, 83, 84] (by decide +kernel) (by decide +kernel)) (goodIn_sub (fun _ h => List.mem_cons_of_mem _ (List.mem_append_left _ (List.mem_append_left _ (List.mem_append_right _ h)))) (by decide +kernel))) (goodIn_sub (fun _ h => List.mem_cons_of_mem _ (List.mem_append_left _ (List.mem_append_right _ h))) (by decide +kernel))) (goodIn_sub (fun _ h => List.mem_cons_of_mem _ (List.mem_append_right _ h)) (by decide +kernel))
set_option maxRecDepth 20000 in
theorem gL_pour_X6_pour : GoodIn wsL_pour (wsV RL 48 RX6 yX6_pour wsX6_pour) := goodIn_app (goodIn_of _ (by decide +kernel)) ggL_pour_X6_pour
theorem dL_pour_0 : decode cL_pour 0 = .ok (.aload_n 3, 1) := by decide +kernel
theorem dL_pour_1 : decode cL_pour 1 = .ok (.iconst 0, 1) := by decide +kernel
theorem dL_pour_2 : decode cL_pour 2 = .ok (.aload_n 0, 1) := by decide +kernel
theorem dL_pour_3 : decode cL_pour 3 = .ok (.iload_n 1, 1) := by decide +kernel
theorem dL_pour_4 : decode cL_pour 4 = .ok (.iload_n 2, 1) := by decide +kernel
theorem dL_pour_5 : decode cL_pour 5 = .ok (.invokevirtual 48, 3) := by decide +kernel
theorem dL_pour_8 : decode cL_pour 8 = .ok (.i2l, 1) := by decide +kernel
theorem dL_pour_9 : decode cL_pour 9 = .ok (.lastore, 1) := by decide +kernel
theorem dL_pour_10 : decode cL_pour 10 = .ok (.goto 15, 3) := by decide +kernel
theorem dL_pour_13 : decode cL_pour 13 = .ok (.astore 4, 2) := by decide +kernel
theorem dL_pour_15 : decode cL_pour 15 = .ok (.iconst 1, 1) := by decide +kernel
theorem dL_pour_16 : decode cL_pour 16 = .ok (.ireturn, 1) := by decide +kernel
theorem dL_pour_17 : decode cL_pour 17 = .ok (.astore 4, 2) := by decide +kernel
theorem dL_pour_19 : decode cL_pour 19 = .ok (.iconst 2, 1) := by decide +kernel
theorem dL_pour_20 : decode cL_pour 20 = .ok (.ireturn, 1) := by decide +kernel
theorem dL_pour_21 : decode cL_pour 21 = .ok (.astore 4, 2) := by decide +kernel
theorem dL_pour_23 : decode cL_pour 23 = .ok (.iconst 3, 1) := by decide +kernel
theorem dL_pour_24 : decode cL_pour 24 = .ok (.ireturn, 1) := by decide +kernel
theorem dL_pour_25 : decode cL_pour 25 = .ok (.iconst 0, 1) := by decide +kernel
theorem dL_pour_26 : decode cL_pour 26 = .ok (.ireturn, 1) := by decide +kernel
set_option maxRecDepth 20000 in
theorem ggL_falls_X6_falls : GoodIn wsL_falls wsX6_falls := goodIn_ca (goodIn_r _ [6, 7, 8, 9, 5, 10, 11, 12, 13, 14, 15, 16, 17, 18, 19, 20, 21, 22, 23, 24, 25, 26, 27, 28, 29, 30, 31, 32, 33, 34, 35, 36, 37, 38, 39, 40, 41, 42, 43, 44, 45, 46, 47, 48, 49, 50, 51, 52, 53, 54, 55, 56, 57, 58, 59, 60, 61, 62, 63, 64, 65, 66, 67, 68, 69, 70, 71, 72, 73, 74, 75, 76, 77, 78, 79, 80, 81, 82, 83, 84, 85, 86, 87, 88, 89, 90, 91, 92, 93, 94, 95, 96] (by decide +kernel) (by decide +kernel)) (goodIn_sub (fun _ h => List.mem_cons_of_mem _ (List.mem_append_right _ h)) (by decide +kernel))
set_option maxRecDepth 20000 in
theorem gL_falls_X6_falls : GoodIn wsL_falls (wsV RL 51 RX6 yX6_falls wsX6_falls) := goodIn_app (goodIn_of _ (by decide +kernel)) ggL_falls_X6_falls
theorem dL_falls_0 : decode cL_falls 0 = .ok (.aload_n 2, 1) := by decide +kernel
theorem dL_falls_1 : decode cL_falls 1 = .ok (.iconst 0, 1) := by decide +kernel
theorem dL_falls_2 : decode cL_falls 2 = .ok (.aload_n 0, 1) := by decide +kernel
theorem dL_falls_3 : decode cL_falls 3 = .ok (.iload_n 1, 1) := by decide +kernel
theorem dL_falls_4 : decode cL_falls 4 = .ok (.invokevirtual 51, 3) := by decide +kernel
theorem dL_falls_7 : decode cL_falls 7 = .ok (.i2l, 1) := by decide +kernel
theorem dL_falls_8 : decode cL_falls 8 = .ok (.lastore, 1) := by decide +kernel
theorem dL_falls_9 : decode cL_falls 9 = .ok (.goto 6, 3) := by decide +kernel
theorem dL_falls_12 : decode cL_falls 12 = .ok (.astore_n 3, 1) := by decide +kernel
theorem dL_falls_13 : decode cL_falls 13 = .ok (.iconst 1, 1) := by decide +kernel
theorem dL_falls_14 : decode cL_falls 14 = .ok (.ireturn, 1) := by decide +kernel
theorem dL_falls_15 : decode cL_falls 15 = .ok (.iconst 0, 1) := by decide +kernel
theorem dL_falls_16 : decode cL_falls 16 = .ok (.ireturn, 1) := by decide +kernel
set_option maxRecDepth 20000 in
theorem ggL_runTime_X6_runTime : GoodIn wsL_runTime wsX6_runTime := goodIn_ca (goodIn_ca (goodIn_r _ [6, 7, 8, 9, 10, 11, 5, 12, 13, 14, 15, 16, 17, 18, 19, 20, 21, 22, 23, 24, 25, 26, 27, 28, 29, 30, 31, 32, 33, 34, 35, 36, 37, 38, 39, 40, 41, 42, 43, 44, 45, 46, 47, 48, 49, 50, 51, 52, 53, 54, 55, 56, 57, 58, 59, 60, 61, 62, 63, 64, 65, 66, 67, 68, 69, 70, 71, 72, 73, 74, 75, 76, 77, 78, 79, 80, 81, 82, 83, 84, 85, 86, 87, 88, 89, 90, 91, 92, 93, 94, 95, 96, 97] (by decide +kernel) (by decide +kernel)) (goodIn_sub (fun _ h => List.mem_cons_of_mem _ (List.mem_append_left _ (List.mem_append_right _ h))) (by decide +kernel))) (goodIn_sub (fun _ h => List.mem_cons_of_mem _ (List.mem_append_right _ h)) (by decide +kernel))
set_option maxRecDepth 20000 in
theorem gL_runTime_X6_runTime : GoodIn wsL_runTime (wsV RL 54 RX6 yX6_runTime wsX6_runTime) := goodIn_app (goodIn_of _ (by decide +kernel)) ggL_runTime_X6_runTime
theorem dL_runTime_0 : decode cL_runTime 0 = .ok (.aload_n 2, 1) := by decide +kernel
theorem dL_runTime_1 : decode cL_runTime 1 = .ok (.iconst 0, 1) := by decide +kernel
theorem dL_runTime_2 : decode cL_runTime 2 = .ok (.aload_n 0, 1) := by decide +kernel
theorem dL_runTime_3 : decode cL_runTime 3 = .ok (.iload_n 1, 1) := by decide +kernel
theorem dL_runTime_4 : decode cL_runTime 4 = .ok (.invokevirtual 54, 3) := by decide +kernel
theorem dL_runTime_7 : decode cL_runTime 7 = .ok (.i2l, 1) := by decide +kernel
theorem dL_runTime_8 : decode cL_runTime 8 = .ok (.lastore, 1) := by decide +kernel
theorem dL_runTime_9 : decode cL_runTime 9 = .ok (.goto 9, 3) := by decide +kernel
theorem dL_runTime_12 : decode cL_runTime 12 = .ok (.astore_n 3, 1) := by decide +kernel
theorem dL_runTime_13 : decode cL_runTime 13 = .ok (.iconst 1, 1) := by decide +kernel
theorem dL_runTime_14 : decode cL_runTime 14 = .ok (.ireturn, 1) := by decide +kernel
theorem dL_runTime_15 : decode cL_runTime 15 = .ok (.astore_n 3, 1) := by decide +kernel
theorem dL_runTime_16 : decode cL_runTime 16 = .ok (.iconst 2, 1) := by decide +kernel
theorem dL_runTime_17 : decode cL_runTime 17 = .ok (.ireturn, 1) := by decide +kernel
theorem dL_runTime_18 : decode cL_runTime 18 = .ok (.iconst 0, 1) := by decide +kernel
theorem dL_runTime_19 : decode cL_runTime 19 = .ok (.ireturn, 1) := by decide +kernel
set_option maxRecDepth 20000 in
theorem ggL_feed_X6_feed : GoodIn wsL_feed wsX6_feed := goodIn_ca (goodIn_ca (goodIn_r _ [6, 7, 8, 9, 5, 10, 11, 12, 13, 14, 15, 16, 17, 18, 19, 20, 21, 22, 23, 24, 25, 26, 27, 28, 29, 30, 31, 32, 33, 34, 35, 36, 37, 38, 39, 40, 41, 42, 43, 44, 45, 46, 47, 48, 49, 50, 51, 52, 53, 54, 55, 56, 57, 58, 59, 60, 61, 62, 63, 64, 65, 66, 67, 68, 69, 70, 71, 72, 73, 74] (by decide +kernel) (by decide +kernel)) (goodIn_sub (fun _ h => List.mem_cons_of_mem _ (List.mem_append_left _ (List.mem_append_right _ h))) (by decide +kernel))) (goodIn_sub (fun _ h => List.mem_cons_of_mem _ (List.mem_append_right _ h)) (by decide +kernel))
set_option maxRecDepth 20000 in
theorem gL_feed_X6_feed : GoodIn wsL_feed (wsV RL 59 RX6 yX6_feed wsX6_feed) := goodIn_app (goodIn_of _ (by decide +kernel)) ggL_feed_X6_feed
theorem dL_feed_0 : decode cL_feed 0 = .ok (.aload_n 3, 1) := by decide +kernel
theorem dL_feed_1 : decode cL_feed 1 = .ok (.iconst 0, 1) := by decide +kernel
theorem dL_feed_2 : decode cL_feed 2 = .ok (.aload_n 0, 1) := by decide +kernel
theorem dL_feed_3 : decode cL_feed 3 = .ok (.iload_n 1, 1) := by decide +kernel
theorem dL_feed_4 : decode cL_feed 4 = .ok (.iload_n 2, 1) := by decide +kernel
theorem dL_feed_5 : decode cL_feed 5 = .ok (.invokevirtual 59, 3) := by decide +kernel
theorem dL_feed_8 : decode cL_feed 8 = .ok (.i2l, 1) := by decide +kernel
theorem dL_feed_9 : decode cL_feed 9 = .ok (.lastore, 1) := by decide +kernel
theorem dL_feed_10 : decode cL_feed 10 = .ok (.goto 11, 3) := by decide +kernel
theorem dL_feed_13 : decode cL_feed 13 = .ok (.astore 4, 2) := by decide +kernel
theorem dL_feed_15 : decode cL_feed 15 = .ok (.iconst 1, 1) := by decide +kernel
theorem dL_feed_16 : decode cL_feed 16 = .ok (.ireturn, 1) := by decide +kernel
theorem dL_feed_17 : decode cL_feed 17 = .ok (.astore 4, 2) := by decide +kernel
theorem dL_feed_19 : decode cL_feed 19 = .ok (.iconst 2, 1) := by decide +kernel
theorem dL_feed_20 : decode cL_feed 20 = .ok (.ireturn, 1) := by decide +kernel
theorem dL_feed_21 : decode cL_feed 21 = .ok (.iconst 0, 1) := by decide +kernel
theorem dL_feed_22 : decode cL_feed 22 = .ok (.ireturn, 1) := by decide +kernel
set_option maxRecDepth 20000 in
theorem ggL_pass_X6_pass : GoodIn wsL_pass wsX6_pass := goodIn_ca (goodIn_ca (goodIn_r _ [6, 7, 8, 9, 10, 11, 5, 12, 13, 14, 15, 16, 17, 18, 19, 20, 21, 22, 23, 24, 25, 26, 27, 28, 29, 30, 31, 32, 33, 34, 35, 36, 37, 38, 39, 40, 41, 42, 43, 44, 45, 46, 47, 48, 49, 50, 51, 52, 53, 54, 55, 56, 57, 58, 59, 60, 61, 62, 63, 64, 65, 66, 67, 68, 69, 70, 71, 72, 73, 74, 75, 76, 77, 78, 79, 80, 81, 82, 83, 84, 85, 86, 87, 88, 89, 90, 91, 92, 93, 94, 95, 96, 97, 98, 99, 100, 101, 102, 103, 104, 105, 106, 107, 108, 109, 110, 111, 112, 113, 114, 115, 116, 117, 118, 119, 120, 121, 122, 123, 124, 125, 126, 127, 128, 129, 130, 131, 132, 133, 134, 135, 136, 137, 138, 139, 140, 141, 142, 143, 144, 145, 146, 147, 148, 149, 150, 151, 152, 153, 154, 155, 156, 157, 158, 159, 160, 161, 162, 163, 164, 165, 166, 167, 168, 169, 170] (by decide +kernel) (by decide +kernel)) (goodIn_sub (fun _ h => List.mem_cons_of_mem _ (List.mem_append_left _ (List.mem_append_right _ h))) (by decide +kernel))) (goodIn_sub (fun _ h => List.mem_cons_of_mem _ (List.mem_append_right _ h)) (by decide +kernel))
set_option maxRecDepth 20000 in
theorem gL_pass_X6_pass : GoodIn wsL_pass (wsV RL 62 RX6 yX6_pass wsX6_pass) := goodIn_app (goodIn_of _ (by decide +kernel)) ggL_pass_X6_pass
theorem dL_pass_0 : decode cL_pass 0 = .ok (.aload_n 2, 1) := by decide +kernel
theorem dL_pass_1 : decode cL_pass 1 = .ok (.iconst 0, 1) := by decide +kernel
theorem dL_pass_2 : decode cL_pass 2 = .ok (.aload_n 0, 1) := by decide +kernel
theorem dL_pass_3 : decode cL_pass 3 = .ok (.iload_n 1, 1) := by decide +kernel
theorem dL_pass_4 : decode cL_pass 4 = .ok (.invokevirtual 62, 3) := by decide +kernel
theorem dL_pass_7 : decode cL_pass 7 = .ok (.i2l, 1) := by decide +kernel
theorem dL_pass_8 : decode cL_pass 8 = .ok (.lastore, 1) := by decide +kernel
theorem dL_pass_9 : decode cL_pass 9 = .ok (.goto 9, 3) := by decide +kernel
theorem dL_pass_12 : decode cL_pass 12 = .ok (.astore_n 3, 1) := by decide +kernel
theorem dL_pass_13 : decode cL_pass 13 = .ok (.iconst 1, 1) := by decide +kernel
theorem dL_pass_14 : decode cL_pass 14 = .ok (.ireturn, 1) := by decide +kernel
theorem dL_pass_15 : decode cL_pass 15 = .ok (.astore_n 3, 1) := by decide +kernel
theorem dL_pass_16 : decode cL_pass 16 = .ok (.iconst 2, 1) := by decide +kernel
theorem dL_pass_17 : decode cL_pass 17 = .ok (.ireturn, 1) := by decide +kernel
theorem dL_pass_18 : decode cL_pass 18 = .ok (.iconst 0, 1) := by decide +kernel
theorem dL_pass_19 : decode cL_pass 19 = .ok (.ireturn, 1) := by decide +kernel
set_option maxRecDepth 20000 in
theorem ggL_seed_X6_seed : GoodIn wsL_seed wsX6_seed := goodIn_ca (goodIn_r _ [6, 7, 8, 9, 10, 5, 11, 12, 13, 14, 15, 16, 17, 18, 19, 20] (by decide +kernel) (by decide +kernel)) (goodIn_sub (fun _ h => List.mem_cons_of_mem _ (List.mem_append_right _ h)) (by decide +kernel))
set_option maxRecDepth 20000 in
theorem gL_seed_X6_seed : GoodIn wsL_seed (wsV RL 65 RX6 yX6_seed wsX6_seed) := goodIn_app (goodIn_of _ (by decide +kernel)) ggL_seed_X6_seed
theorem dL_seed_0 : decode cL_seed 0 = .ok (.aload_n 2, 1) := by decide +kernel
theorem dL_seed_1 : decode cL_seed 1 = .ok (.iconst 0, 1) := by decide +kernel
theorem dL_seed_2 : decode cL_seed 2 = .ok (.aload_n 0, 1) := by decide +kernel
theorem dL_seed_3 : decode cL_seed 3 = .ok (.iload_n 1, 1) := by decide +kernel
theorem dL_seed_4 : decode cL_seed 4 = .ok (.invokevirtual 65, 3) := by decide +kernel
theorem dL_seed_7 : decode cL_seed 7 = .ok (.i2l, 1) := by decide +kernel
theorem dL_seed_8 : decode cL_seed 8 = .ok (.lastore, 1) := by decide +kernel
theorem dL_seed_9 : decode cL_seed 9 = .ok (.goto 6, 3) := by decide +kernel
theorem dL_seed_12 : decode cL_seed 12 = .ok (.astore_n 3, 1) := by decide +kernel
theorem dL_seed_13 : decode cL_seed 13 = .ok (.iconst 1, 1) := by decide +kernel
theorem dL_seed_14 : decode cL_seed 14 = .ok (.ireturn, 1) := by decide +kernel
theorem dL_seed_15 : decode cL_seed 15 = .ok (.iconst 0, 1) := by decide +kernel
theorem dL_seed_16 : decode cL_seed 16 = .ok (.ireturn, 1) := by decide +kernel
set_option maxRecDepth 20000 in
theorem ggL_gateAt_X6_gateAt : GoodIn wsL_gateAt wsX6_gateAt := goodIn_ca (goodIn_ca (goodIn_ca (goodIn_r _ [6, 7, 8, 9, 5, 10, 11, 12, 13, 14, 15, 16, 17, 18, 19, 20, 21, 22, 23, 24, 25, 26, 27, 28, 29, 30, 31, 32, 33, 34, 35, 36, 37, 38, 39, 40, 41, 42, 43, 44, 45, 46, 47, 48, 49, 50, 51, 52, 53, 54, 55, 56, 57, 58, 59, 60, 61, 62, 63, 64, 65, 66, 67, 68, 69, 70, 71, 72, 73, 74, 75, 76, 77, 78, 79, 80, 81, 82, 83, 84, 85, 86, 87, 88, 89, 90, 91, 92, 93, 94, 95, 96, 97, 98, 99, 100, 101, 102, 103, 104, 105, 106, 107, 108, 109, 110, 111, 112, 113, 114, 115, 116, 117, 118, 119, 120, 121, 122, 123, 124, 125, 126, 127] (by decide +kernel) (by decide +kernel)) (goodIn_sub (fun _ h => List.mem_cons_of_mem _ (List.mem_append_left _ (List.mem_append_left _ (List.mem_append_right _ h)))) (by decide +kernel))) (goodIn_sub (fun _ h => List.mem_cons_of_mem _ (List.mem_append_left _ (List.mem_append_right _ h))) (by decide +kernel))) (goodIn_sub (fun _ h => List.mem_cons_of_mem _ (List.mem_append_right _ h)) (by decide +kernel))
set_option maxRecDepth 20000 in
theorem gL_gateAt_X6_gateAt : GoodIn wsL_gateAt (wsV RL 68 RX6 yX6_gateAt wsX6_gateAt) := goodIn_app (goodIn_of _ (by decide +kernel)) ggL_gateAt_X6_gateAt
theorem dL_gateAt_0 : decode cL_gateAt 0 = .ok (.aload_n 3, 1) := by decide +kernel
theorem dL_gateAt_1 : decode cL_gateAt 1 = .ok (.iconst 0, 1) := by decide +kernel
theorem dL_gateAt_2 : decode cL_gateAt 2 = .ok (.aload_n 0, 1) := by decide +kernel
theorem dL_gateAt_3 : decode cL_gateAt 3 = .ok (.iload_n 1, 1) := by decide +kernel
theorem dL_gateAt_4 : decode cL_gateAt 4 = .ok (.iload_n 2, 1) := by decide +kernel
theorem dL_gateAt_5 : decode cL_gateAt 5 = .ok (.invokevirtual 68, 3) := by decide +kernel
theorem dL_gateAt_8 : decode cL_gateAt 8 = .ok (.i2l, 1) := by decide +kernel
theorem dL_gateAt_9 : decode cL_gateAt 9 = .ok (.lastore, 1) := by decide +kernel
theorem dL_gateAt_10 : decode cL_gateAt 10 = .ok (.goto 15, 3) := by decide +kernel
theorem dL_gateAt_13 : decode cL_gateAt 13 = .ok (.astore 4, 2) := by decide +kernel
theorem dL_gateAt_15 : decode cL_gateAt 15 = .ok (.iconst 1, 1) := by decide +kernel
theorem dL_gateAt_16 : decode cL_gateAt 16 = .ok (.ireturn, 1) := by decide +kernel
theorem dL_gateAt_17 : decode cL_gateAt 17 = .ok (.astore 4, 2) := by decide +kernel
theorem dL_gateAt_19 : decode cL_gateAt 19 = .ok (.iconst 2, 1) := by decide +kernel
theorem dL_gateAt_20 : decode cL_gateAt 20 = .ok (.ireturn, 1) := by decide +kernel
theorem dL_gateAt_21 : decode cL_gateAt 21 = .ok (.astore 4, 2) := by decide +kernel
theorem dL_gateAt_23 : decode cL_gateAt 23 = .ok (.iconst 3, 1) := by decide +kernel
theorem dL_gateAt_24 : decode cL_gateAt 24 = .ok (.ireturn, 1) := by decide +kernel
theorem dL_gateAt_25 : decode cL_gateAt 25 = .ok (.iconst 0, 1) := by decide +kernel
theorem dL_gateAt_26 : decode cL_gateAt 26 = .ok (.ireturn, 1) := by decide +kernel
set_option maxRecDepth 20000 in
theorem ggL_gateBehind_X6_gateBehind : GoodIn wsL_gateBehind wsX6_gateBehind := goodIn_ca (goodIn_ca (goodIn_ca (goodIn_r _ [6, 7, 8, 9, 5, 10, 11, 12, 13, 14, 15, 16, 17, 18, 19, 20, 21, 22, 23, 24, 25, 26, 27, 28, 29, 30, 31, 32, 33, 34, 35, 36, 37, 38, 39, 40, 41, 42, 43, 44, 45, 46, 47, 48, 49, 50, 51, 52, 53, 54, 55, 56, 57, 58, 59, 60, 61, 62, 63, 64, 65, 66, 67, 68, 69, 70, 71, 72, 73, 74, 75, 76, 77, 78, 79, 80, 81, 82, 83, 84, 85, 86, 87, 88, 89, 90, 91, 92, 93, 94, 95, 96, 97, 98, 99, 100, 101, 102, 103, 104, 105, 106, 107, 108, 109, 110, 111, 112, 113, 114, 115, 116, 117, 118, 119, 120, 121, 122, 123, 124, 125, 126] (by decide +kernel) (by decide +kernel)) (goodIn_sub (fun _ h => List.mem_cons_of_mem _ (List.mem_append_left _ (List.mem_append_left _ (List.mem_append_right _ h)))) (by decide +kernel))) (goodIn_sub (fun _ h => List.mem_cons_of_mem _ (List.mem_append_left _ (List.mem_append_right _ h))) (by decide +kernel))) (goodIn_sub (fun _ h => List.mem_cons_of_mem _ (List.mem_append_right _ h)) (by decide +kernel))
set_option maxRecDepth 20000 in
theorem gL_gateBehind_X6_gateBehind : GoodIn wsL_gateBehind (wsV RL 71 RX6 yX6_gateBehind wsX6_gateBehind) := goodIn_app (goodIn_of _ (by decide +kernel)) ggL_gateBehind_X6_gateBehind
theorem dL_gateBehind_0 : decode cL_gateBehind 0 = .ok (.aload_n 3, 1) := by decide +kernel
theorem dL_gateBehind_1 : decode cL_gateBehind 1 = .ok (.iconst 0, 1) := by decide +kernel
theorem dL_gateBehind_2 : decode cL_gateBehind 2 = .ok (.aload_n 0, 1) := by decide +kernel
theorem dL_gateBehind_3 : decode cL_gateBehind 3 = .ok (.iload_n 1, 1) := by decide +kernel
theorem dL_gateBehind_4 : decode cL_gateBehind 4 = .ok (.iload_n 2, 1) := by decide +kernel
theorem dL_gateBehind_5 : decode cL_gateBehind 5 = .ok (.invokevirtual 71, 3) := by decide +kernel
theorem dL_gateBehind_8 : decode cL_gateBehind 8 = .ok (.i2l, 1) := by decide +kernel
theorem dL_gateBehind_9 : decode cL_gateBehind 9 = .ok (.lastore, 1) := by decide +kernel
theorem dL_gateBehind_10 : decode cL_gateBehind 10 = .ok (.goto 15, 3) := by decide +kernel
theorem dL_gateBehind_13 : decode cL_gateBehind 13 = .ok (.astore 4, 2) := by decide +kernel
theorem dL_gateBehind_15 : decode cL_gateBehind 15 = .ok (.iconst 1, 1) := by decide +kernel
theorem dL_gateBehind_16 : decode cL_gateBehind 16 = .ok (.ireturn, 1) := by decide +kernel
theorem dL_gateBehind_17 : decode cL_gateBehind 17 = .ok (.astore 4, 2) := by decide +kernel
theorem dL_gateBehind_19 : decode cL_gateBehind 19 = .ok (.iconst 2, 1) := by decide +kernel
theorem dL_gateBehind_20 : decode cL_gateBehind 20 = .ok (.ireturn, 1) := by decide +kernel
theorem dL_gateBehind_21 : decode cL_gateBehind 21 = .ok (.astore 4, 2) := by decide +kernel
theorem dL_gateBehind_23 : decode cL_gateBehind 23 = .ok (.iconst 3, 1) := by decide +kernel
theorem dL_gateBehind_24 : decode cL_gateBehind 24 = .ok (.ireturn, 1) := by decide +kernel
theorem dL_gateBehind_25 : decode cL_gateBehind 25 = .ok (.iconst 0, 1) := by decide +kernel
theorem dL_gateBehind_26 : decode cL_gateBehind 26 = .ok (.ireturn, 1) := by decide +kernel
set_option maxRecDepth 20000 in
theorem ggL_tips_X6_tips : GoodIn wsL_tips wsX6_tips := goodIn_ca (goodIn_r _ [6, 7, 8, 9, 5, 10, 11, 12, 13, 14, 15, 16, 17, 18, 19, 20, 21, 22, 23, 24, 25, 26, 27, 28, 29, 30, 31, 32, 33, 34, 35, 36, 37, 38, 39, 40, 41, 42, 43, 44, 45, 46, 47, 48, 49, 50, 51, 52, 53, 54, 55, 56, 57, 58, 59, 60, 61] (by decide +kernel) (by decide +kernel)) (goodIn_sub (fun _ h => List.mem_cons_of_mem _ (List.mem_append_right _ h)) (by decide +kernel))
set_option maxRecDepth 20000 in
theorem gL_tips_X6_tips : GoodIn wsL_tips (wsV RL 74 RX6 yX6_tips wsX6_tips) := goodIn_app (goodIn_of _ (by decide +kernel)) ggL_tips_X6_tips
theorem dL_tips_0 : decode cL_tips 0 = .ok (.aload_n 2, 1) := by decide +kernel
theorem dL_tips_1 : decode cL_tips 1 = .ok (.iconst 0, 1) := by decide +kernel
theorem dL_tips_2 : decode cL_tips 2 = .ok (.aload_n 0, 1) := by decide +kernel
theorem dL_tips_3 : decode cL_tips 3 = .ok (.iload_n 1, 1) := by decide +kernel
theorem dL_tips_4 : decode cL_tips 4 = .ok (.invokevirtual 74, 3) := by decide +kernel
theorem dL_tips_7 : decode cL_tips 7 = .ok (.i2l, 1) := by decide +kernel
theorem dL_tips_8 : decode cL_tips 8 = .ok (.lastore, 1) := by decide +kernel
theorem dL_tips_9 : decode cL_tips 9 = .ok (.goto 6, 3) := by decide +kernel
theorem dL_tips_12 : decode cL_tips 12 = .ok (.astore_n 3, 1) := by decide +kernel
theorem dL_tips_13 : decode cL_tips 13 = .ok (.iconst 1, 1) := by decide +kernel
theorem dL_tips_14 : decode cL_tips 14 = .ok (.ireturn, 1) := by decide +kernel
theorem dL_tips_15 : decode cL_tips 15 = .ok (.iconst 0, 1) := by decide +kernel
theorem dL_tips_16 : decode cL_tips 16 = .ok (.ireturn, 1) := by decide +kernel
set_option maxRecDepth 20000 in
theorem ggL_filled_X6_filled : GoodIn wsL_filled wsX6_filled := goodIn_ca (goodIn_r _ [6, 7, 8, 9, 5, 10, 11, 12, 13, 14, 15, 16, 17, 18, 19, 20, 21, 22, 23, 24, 25, 26, 27, 28, 29, 30, 31, 32, 33, 34, 35, 36, 37, 38, 39, 40, 41, 42, 43, 44, 45, 46, 47, 48, 49, 50, 51, 52, 53, 54, 55, 56, 57, 58, 59, 60, 61] (by decide +kernel) (by decide +kernel)) (goodIn_sub (fun _ h => List.mem_cons_of_mem _ (List.mem_append_right _ h)) (by decide +kernel))
set_option maxRecDepth 20000 in
theorem gL_filled_X6_filled : GoodIn wsL_filled (wsV RL 77 RX6 yX6_filled wsX6_filled) := goodIn_app (goodIn_of _ (by decide +kernel)) ggL_filled_X6_filled
theorem dL_filled_0 : decode cL_filled 0 = .ok (.aload_n 2, 1) := by decide +kernel
theorem dL_filled_1 : decode cL_filled 1 = .ok (.iconst 0, 1) := by decide +kernel
theorem dL_filled_2 : decode cL_filled 2 = .ok (.aload_n 0, 1) := by decide +kernel
theorem dL_filled_3 : decode cL_filled 3 = .ok (.iload_n 1, 1) := by decide +kernel
theorem dL_filled_4 : decode cL_filled 4 = .ok (.invokevirtual 77, 3) := by decide +kernel
theorem dL_filled_7 : decode cL_filled 7 = .ok (.i2l, 1) := by decide +kernel
theorem dL_filled_8 : decode cL_filled 8 = .ok (.lastore, 1) := by decide +kernel
theorem dL_filled_9 : decode cL_filled 9 = .ok (.goto 6, 3) := by decide +kernel
theorem dL_filled_12 : decode cL_filled 12 = .ok (.astore_n 3, 1) := by decide +kernel
theorem dL_filled_13 : decode cL_filled 13 = .ok (.iconst 1, 1) := by decide +kernel
theorem dL_filled_14 : decode cL_filled 14 = .ok (.ireturn, 1) := by decide +kernel
theorem dL_filled_15 : decode cL_filled 15 = .ok (.iconst 0, 1) := by decide +kernel
theorem dL_filled_16 : decode cL_filled 16 = .ok (.ireturn, 1) := by decide +kernel
set_option maxRecDepth 20000 in
theorem ggL_runs_X6_runs : GoodIn wsL_runs wsX6_runs := goodIn_ca (goodIn_r _ [6, 7, 8, 9, 5, 10, 11, 12, 13, 14, 15, 16, 17, 18, 19, 20, 21, 22, 23, 24, 25, 26, 27, 28, 29, 30, 31, 32, 33, 34, 35, 36, 37, 38, 39, 40, 41, 42, 43, 44, 45, 46, 47, 48, 49, 50, 51, 52, 53, 54, 55, 56, 57, 58, 59, 60, 61, 62, 63, 64, 65, 66, 67, 68, 69, 70, 71] (by decide +kernel) (by decide +kernel)) (goodIn_sub (fun _ h => List.mem_cons_of_mem _ (List.mem_append_right _ h)) (by decide +kernel))
set_option maxRecDepth 20000 in
theorem gL_runs_X6_runs : GoodIn wsL_runs (wsV RL 80 RX6 yX6_runs wsX6_runs) := goodIn_app (goodIn_of _ (by decide +kernel)) ggL_runs_X6_runs
theorem dL_runs_0 : decode cL_runs 0 = .ok (.aload_n 2, 1) := by decide +kernel
theorem dL_runs_1 : decode cL_runs 1 = .ok (.iconst 0, 1) := by decide +kernel
theorem dL_runs_2 : decode cL_runs 2 = .ok (.aload_n 0, 1) := by decide +kernel
theorem dL_runs_3 : decode cL_runs 3 = .ok (.iload_n 1, 1) := by decide +kernel
theorem dL_runs_4 : decode cL_runs 4 = .ok (.invokevirtual 80, 3) := by decide +kernel
theorem dL_runs_7 : decode cL_runs 7 = .ok (.i2l, 1) := by decide +kernel
theorem dL_runs_8 : decode cL_runs 8 = .ok (.lastore, 1) := by decide +kernel
theorem dL_runs_9 : decode cL_runs 9 = .ok (.goto 6, 3) := by decide +kernel
theorem dL_runs_12 : decode cL_runs 12 = .ok (.astore_n 3, 1) := by decide +kernel
theorem dL_runs_13 : decode cL_runs 13 = .ok (.iconst 1, 1) := by decide +kernel
theorem dL_runs_14 : decode cL_runs 14 = .ok (.ireturn, 1) := by decide +kernel
theorem dL_runs_15 : decode cL_runs 15 = .ok (.iconst 0, 1) := by decide +kernel
theorem dL_runs_16 : decode cL_runs 16 = .ok (.ireturn, 1) := by decide +kernel
set_option maxRecDepth 20000 in
theorem ggL_runAt_X6_runAt : GoodIn wsL_runAt wsX6_runAt := goodIn_ca (goodIn_ca (goodIn_r _ [6, 7, 8, 9, 10, 11, 5, 12, 13, 14, 15, 16, 17, 18, 19, 20, 21, 22, 23, 24, 25, 26, 27, 28, 29, 30, 31, 32, 33, 34, 35, 36, 37, 38, 39, 40, 41, 42, 43, 44, 45, 46, 47, 48, 49, 50, 51, 52, 53, 54, 55, 56, 57, 58, 59, 60, 61, 62, 63, 64, 65, 66, 67, 68, 69, 70, 71, 72, 73, 74, 75, 76, 77, 78, 79, 80] (by decide +kernel) (by decide +kernel)) (goodIn_sub (fun _ h => List.mem_cons_of_mem _ (List.mem_append_left _ (List.mem_append_right _ h))) (by decide +kernel))) (goodIn_sub (fun _ h => List.mem_cons_of_mem _ (List.mem_append_right _ h)) (by decide +kernel))
set_option maxRecDepth 20000 in
theorem gL_runAt_X6_runAt : GoodIn wsL_runAt (wsV RL 83 RX6 yX6_runAt wsX6_runAt) := goodIn_app (goodIn_of _ (by decide +kernel)) ggL_runAt_X6_runAt
theorem dL_runAt_0 : decode cL_runAt 0 = .ok (.aload_n 3, 1) := by decide +kernel
theorem dL_runAt_1 : decode cL_runAt 1 = .ok (.iconst 0, 1) := by decide +kernel
theorem dL_runAt_2 : decode cL_runAt 2 = .ok (.aload_n 0, 1) := by decide +kernel
theorem dL_runAt_3 : decode cL_runAt 3 = .ok (.iload_n 1, 1) := by decide +kernel
theorem dL_runAt_4 : decode cL_runAt 4 = .ok (.iload_n 2, 1) := by decide +kernel
theorem dL_runAt_5 : decode cL_runAt 5 = .ok (.invokevirtual 83, 3) := by decide +kernel
theorem dL_runAt_8 : decode cL_runAt 8 = .ok (.i2l, 1) := by decide +kernel
theorem dL_runAt_9 : decode cL_runAt 9 = .ok (.lastore, 1) := by decide +kernel
theorem dL_runAt_10 : decode cL_runAt 10 = .ok (.goto 11, 3) := by decide +kernel
theorem dL_runAt_13 : decode cL_runAt 13 = .ok (.astore 4, 2) := by decide +kernel
theorem dL_runAt_15 : decode cL_runAt 15 = .ok (.iconst 1, 1) := by decide +kernel
theorem dL_runAt_16 : decode cL_runAt 16 = .ok (.ireturn, 1) := by decide +kernel
theorem dL_runAt_17 : decode cL_runAt 17 = .ok (.astore 4, 2) := by decide +kernel
theorem dL_runAt_19 : decode cL_runAt 19 = .ok (.iconst 2, 1) := by decide +kernel
theorem dL_runAt_20 : decode cL_runAt 20 = .ok (.ireturn, 1) := by decide +kernel
theorem dL_runAt_21 : decode cL_runAt 21 = .ok (.iconst 0, 1) := by decide +kernel
theorem dL_runAt_22 : decode cL_runAt 22 = .ok (.ireturn, 1) := by decide +kernel
set_option maxRecDepth 20000 in
theorem ggL_meanRun_X6_meanRun : GoodIn wsL_meanRun wsX6_meanRun := goodIn_ca (goodIn_ca (goodIn_r _ [6, 7, 8, 9, 5, 10, 11, 12, 13, 14, 15, 16, 17, 18, 19, 20, 21, 22, 23, 24, 25, 26, 27, 28, 29, 30, 31, 32, 33, 34, 35, 36, 37, 38, 39, 40, 41, 42, 43, 44, 45, 46, 47, 48, 49, 50, 51, 52, 53, 54, 55, 56, 57, 58, 59, 60, 61, 62, 63, 64, 65, 66, 67, 68, 69, 70, 71, 72, 73, 74, 75, 76, 77, 78, 79, 80, 81, 82, 83, 84, 85, 86, 87, 88, 89, 90] (by decide +kernel) (by decide +kernel)) (goodIn_sub (fun _ h => List.mem_cons_of_mem _ (List.mem_append_left _ (List.mem_append_right _ h))) (by decide +kernel))) (goodIn_sub (fun _ h => List.mem_cons_of_mem _ (List.mem_append_right _ h)) (by decide +kernel))
set_option maxRecDepth 20000 in
theorem gL_meanRun_X6_meanRun : GoodIn wsL_meanRun (wsV RL 88 RX6 yX6_meanRun wsX6_meanRun) := goodIn_app (goodIn_of _ (by decide +kernel)) ggL_meanRun_X6_meanRun
theorem dL_meanRun_0 : decode cL_meanRun 0 = .ok (.aload_n 2, 1) := by decide +kernel
theorem dL_meanRun_1 : decode cL_meanRun 1 = .ok (.iconst 0, 1) := by decide +kernel
theorem dL_meanRun_2 : decode cL_meanRun 2 = .ok (.aload_n 0, 1) := by decide +kernel
theorem dL_meanRun_3 : decode cL_meanRun 3 = .ok (.iload_n 1, 1) := by decide +kernel
theorem dL_meanRun_4 : decode cL_meanRun 4 = .ok (.invokevirtual 88, 3) := by decide +kernel
theorem dL_meanRun_7 : decode cL_meanRun 7 = .ok (.dastore, 1) := by decide +kernel
theorem dL_meanRun_8 : decode cL_meanRun 8 = .ok (.goto 9, 3) := by decide +kernel
theorem dL_meanRun_11 : decode cL_meanRun 11 = .ok (.astore_n 3, 1) := by decide +kernel
theorem dL_meanRun_12 : decode cL_meanRun 12 = .ok (.iconst 1, 1) := by decide +kernel
theorem dL_meanRun_13 : decode cL_meanRun 13 = .ok (.ireturn, 1) := by decide +kernel
theorem dL_meanRun_14 : decode cL_meanRun 14 = .ok (.astore_n 3, 1) := by decide +kernel
theorem dL_meanRun_15 : decode cL_meanRun 15 = .ok (.iconst 2, 1) := by decide +kernel
theorem dL_meanRun_16 : decode cL_meanRun 16 = .ok (.ireturn, 1) := by decide +kernel
theorem dL_meanRun_17 : decode cL_meanRun 17 = .ok (.iconst 0, 1) := by decide +kernel
theorem dL_meanRun_18 : decode cL_meanRun 18 = .ok (.ireturn, 1) := by decide +kernel
set_option maxRecDepth 20000 in
theorem ggL_spread_X6_spread : GoodIn wsL_spread wsX6_spread := goodIn_ca (goodIn_ca (goodIn_r _ [6, 7, 8, 9, 5, 10, 11, 12, 13, 14, 15, 16, 17, 18, 19, 20, 21, 22, 23, 24, 25, 26, 27, 28, 29, 30, 31, 32, 33, 34, 35, 36, 37, 38, 39, 40, 41, 42, 43, 44, 45, 46, 47, 48, 49, 50, 51, 52, 53, 54, 55, 56, 57, 58, 59, 60, 61, 62, 63, 64, 65, 66, 67, 68, 69, 70, 71, 72, 73, 74, 75, 76, 77, 78, 79, 80, 81, 82, 83, 84, 85, 86, 87, 88, 89, 90, 91, 92, 93, 94, 95, 96, 97] (by decide +kernel) (by decide +kernel)) (goodIn_sub (fun _ h => List.mem_cons_of_mem _ (List.mem_append_left _ (List.mem_append_right _ h))) (by decide +kernel))) (goodIn_sub (fun _ h => List.mem_cons_of_mem _ (List.mem_append_right _ h)) (by decide +kernel))
set_option maxRecDepth 20000 in
theorem gL_spread_X6_spread : GoodIn wsL_spread (wsV RL 92 RX6 yX6_spread wsX6_spread) := goodIn_app (goodIn_of _ (by decide +kernel)) ggL_spread_X6_spread
theorem dL_spread_0 : decode cL_spread 0 = .ok (.aload_n 2, 1) := by decide +kernel
theorem dL_spread_1 : decode cL_spread 1 = .ok (.iconst 0, 1) := by decide +kernel
theorem dL_spread_2 : decode cL_spread 2 = .ok (.aload_n 0, 1) := by decide +kernel
theorem dL_spread_3 : decode cL_spread 3 = .ok (.iload_n 1, 1) := by decide +kernel
theorem dL_spread_4 : decode cL_spread 4 = .ok (.invokevirtual 92, 3) := by decide +kernel
theorem dL_spread_7 : decode cL_spread 7 = .ok (.i2l, 1) := by decide +kernel
theorem dL_spread_8 : decode cL_spread 8 = .ok (.lastore, 1) := by decide +kernel
theorem dL_spread_9 : decode cL_spread 9 = .ok (.goto 9, 3) := by decide +kernel
theorem dL_spread_12 : decode cL_spread 12 = .ok (.astore_n 3, 1) := by decide +kernel
theorem dL_spread_13 : decode cL_spread 13 = .ok (.iconst 1, 1) := by decide +kernel
theorem dL_spread_14 : decode cL_spread 14 = .ok (.ireturn, 1) := by decide +kernel
theorem dL_spread_15 : decode cL_spread 15 = .ok (.astore_n 3, 1) := by decide +kernel
theorem dL_spread_16 : decode cL_spread 16 = .ok (.iconst 2, 1) := by decide +kernel
theorem dL_spread_17 : decode cL_spread 17 = .ok (.ireturn, 1) := by decide +kernel
theorem dL_spread_18 : decode cL_spread 18 = .ok (.iconst 0, 1) := by decide +kernel
theorem dL_spread_19 : decode cL_spread 19 = .ok (.ireturn, 1) := by decide +kernel
set_option maxRecDepth 20000 in
theorem ggL_steadiest_X6_steadiest : GoodIn wsL_steadiest wsX6_steadiest := goodIn_ca (goodIn_r _ [6, 7, 8, 9, 10, 11, 12, 13, 14, 15, 16, 17, 18, 19, 20, 21, 22, 23, 24, 25, 26, 27, 28, 29, 30, 31, 32, 33, 34, 35, 36, 37, 38, 39, 40, 41, 42, 43, 44, 45, 46, 47, 48, 49, 50, 51, 52, 53, 54, 55, 56, 57, 58, 59, 60, 61, 62, 63, 64, 65, 66, 67, 68, 69, 70, 71, 72, 73, 74, 75, 76, 77, 78, 79, 80] (by decide +kernel) (by decide +kernel)) (goodIn_sub (fun _ h => List.mem_cons_of_mem _ (List.mem_append_right _ h)) (by decide +kernel))
set_option maxRecDepth 20000 in
theorem gL_steadiest_X6_steadiest : GoodIn wsL_steadiest (wsV RL 95 RX6 yX6_steadiest wsX6_steadiest) := goodIn_app (goodIn_of _ (by decide +kernel)) ggL_steadiest_X6_steadiest
theorem dL_steadiest_0 : decode cL_steadiest 0 = .ok (.aload_n 1, 1) := by decide +kernel
theorem dL_steadiest_1 : decode cL_steadiest 1 = .ok (.iconst 0, 1) := by decide +kernel
theorem dL_steadiest_2 : decode cL_steadiest 2 = .ok (.aload_n 0, 1) := by decide +kernel
theorem dL_steadiest_3 : decode cL_steadiest 3 = .ok (.invokevirtual 95, 3) := by decide +kernel
theorem dL_steadiest_6 : decode cL_steadiest 6 = .ok (.i2l, 1) := by decide +kernel
theorem dL_steadiest_7 : decode cL_steadiest 7 = .ok (.lastore, 1) := by decide +kernel
theorem dL_steadiest_8 : decode cL_steadiest 8 = .ok (.goto 6, 3) := by decide +kernel
theorem dL_steadiest_11 : decode cL_steadiest 11 = .ok (.astore_n 2, 1) := by decide +kernel
theorem dL_steadiest_12 : decode cL_steadiest 12 = .ok (.iconst 1, 1) := by decide +kernel
theorem dL_steadiest_13 : decode cL_steadiest 13 = .ok (.ireturn, 1) := by decide +kernel
theorem dL_steadiest_14 : decode cL_steadiest 14 = .ok (.iconst 0, 1) := by decide +kernel
theorem dL_steadiest_15 : decode cL_steadiest 15 = .ok (.ireturn, 1) := by decide +kernel
set_option maxRecDepth 20000 in
theorem ggL_knots_X6_knots : GoodIn wsL_knots wsX6_knots := goodIn_ca (goodIn_ca (goodIn_ca (goodIn_r _ [6, 7, 8, 9, 5, 10, 11, 12, 13, 14, 15, 16, 17, 18, 19, 20, 21, 22, 23, 24, 25, 26, 27, 28, 29, 30, 31, 32, 33, 34, 35, 36, 37, 38, 39, 40, 41, 42, 43, 44, 45, 46, 47, 48, 49, 50, 51, 52, 53, 54, 55, 56, 57, 58, 59, 60, 61, 62, 63, 64, 65, 66, 67, 68, 69, 70, 71, 72, 73, 74, 75, 76, 77, 78, 79, 80, 81, 82, 83, 84, 85, 86, 87, 88] (by decide +kernel) (by decide +kernel)) (goodIn_sub (fun _ h => List.mem_cons_of_mem _ (List.mem_append_left _ (List.mem_append_left _ (List.mem_append_right _ h)))) (by decide +kernel))) (goodIn_sub (fun _ h => List.mem_cons_of_mem _ (List.mem_append_left _ (List.mem_append_right _ h))) (by decide +kernel))) (goodIn_sub (fun _ h => List.mem_cons_of_mem _ (List.mem_append_right _ h)) (by decide +kernel))
set_option maxRecDepth 20000 in
theorem gL_knots_X6_knots : GoodIn wsL_knots (wsV RL 99 RX6 yX6_knots wsX6_knots) := goodIn_app (goodIn_of _ (by decide +kernel)) ggL_knots_X6_knots
theorem dL_knots_0 : decode cL_knots 0 = .ok (.aload_n 3, 1) := by decide +kernel
theorem dL_knots_1 : decode cL_knots 1 = .ok (.iconst 0, 1) := by decide +kernel
theorem dL_knots_2 : decode cL_knots 2 = .ok (.aload_n 0, 1) := by decide +kernel
theorem dL_knots_3 : decode cL_knots 3 = .ok (.iload_n 1, 1) := by decide +kernel
theorem dL_knots_4 : decode cL_knots 4 = .ok (.iload_n 2, 1) := by decide +kernel
theorem dL_knots_5 : decode cL_knots 5 = .ok (.invokevirtual 99, 3) := by decide +kernel
theorem dL_knots_8 : decode cL_knots 8 = .ok (.i2l, 1) := by decide +kernel
theorem dL_knots_9 : decode cL_knots 9 = .ok (.lastore, 1) := by decide +kernel
theorem dL_knots_10 : decode cL_knots 10 = .ok (.goto 15, 3) := by decide +kernel
theorem dL_knots_13 : decode cL_knots 13 = .ok (.astore 4, 2) := by decide +kernel
theorem dL_knots_15 : decode cL_knots 15 = .ok (.iconst 1, 1) := by decide +kernel
theorem dL_knots_16 : decode cL_knots 16 = .ok (.ireturn, 1) := by decide +kernel
theorem dL_knots_17 : decode cL_knots 17 = .ok (.astore 4, 2) := by decide +kernel
theorem dL_knots_19 : decode cL_knots 19 = .ok (.iconst 2, 1) := by decide +kernel
theorem dL_knots_20 : decode cL_knots 20 = .ok (.ireturn, 1) := by decide +kernel
theorem dL_knots_21 : decode cL_knots 21 = .ok (.astore 4, 2) := by decide +kernel
theorem dL_knots_23 : decode cL_knots 23 = .ok (.iconst 3, 1) := by decide +kernel
theorem dL_knots_24 : decode cL_knots 24 = .ok (.ireturn, 1) := by decide +kernel
theorem dL_knots_25 : decode cL_knots 25 = .ok (.iconst 0, 1) := by decide +kernel
theorem dL_knots_26 : decode cL_knots 26 = .ok (.ireturn, 1) := by decide +kernel
set_option maxRecDepth 20000 in
theorem ggL_tell_X6_tell : GoodIn wsL_tell wsX6_tell := goodIn_ca (goodIn_ca (goodIn_r _ [6, 7, 8, 9, 5, 10, 11, 12, 13, 14, 15, 16, 17, 18, 19, 20, 21, 22, 23, 24, 25, 26, 27, 28, 29, 30, 31, 32, 33, 34, 35, 36, 37, 38, 39, 40, 41, 42, 43, 44, 45, 46, 47, 48, 49, 50, 51, 52, 53, 54, 55, 56, 57, 58, 59, 60, 61, 62, 63, 64, 65, 66, 67, 68, 69, 70, 71, 72, 73, 74, 75, 76, 77, 78, 79, 80, 81, 82, 83, 84, 85, 86, 87, 88, 89, 90, 91, 92, 93, 94, 95, 96, 97, 98, 99, 100, 101, 102, 103, 104, 105, 106, 107, 108, 109, 110, 111, 112, 113, 114, 115, 116, 117, 118, 119, 120, 121, 122, 123, 124, 125] (by decide +kernel) (by decide +kernel)) (goodIn_sub (fun _ h => List.mem_cons_of_mem _ (List.mem_append_left _ (List.mem_append_right _ h))) (by decide +kernel))) (goodIn_sub (fun _ h => List.mem_cons_of_mem _ (List.mem_append_right _ h)) (by decide +kernel))
set_option maxRecDepth 20000 in
theorem gL_tell_X6_tell : GoodIn wsL_tell (wsV RL 102 RX6 yX6_tell wsX6_tell) := goodIn_app (goodIn_of _ (by decide +kernel)) ggL_tell_X6_tell
theorem dL_tell_0 : decode cL_tell 0 = .ok (.aload_n 2, 1) := by decide +kernel
theorem dL_tell_1 : decode cL_tell 1 = .ok (.iconst 0, 1) := by decide +kernel
theorem dL_tell_2 : decode cL_tell 2 = .ok (.aload_n 0, 1) := by decide +kernel
theorem dL_tell_3 : decode cL_tell 3 = .ok (.iload_n 1, 1) := by decide +kernel
theorem dL_tell_4 : decode cL_tell 4 = .ok (.invokevirtual 102, 3) := by decide +kernel
theorem dL_tell_7 : decode cL_tell 7 = .ok (.i2l, 1) := by decide +kernel
theorem dL_tell_8 : decode cL_tell 8 = .ok (.lastore, 1) := by decide +kernel
theorem dL_tell_9 : decode cL_tell 9 = .ok (.goto 9, 3) := by decide +kernel
theorem dL_tell_12 : decode cL_tell 12 = .ok (.astore_n 3, 1) := by decide +kernel
theorem dL_tell_13 : decode cL_tell 13 = .ok (.iconst 1, 1) := by decide +kernel
theorem dL_tell_14 : decode cL_tell 14 = .ok (.ireturn, 1) := by decide +kernel
theorem dL_tell_15 : decode cL_tell 15 = .ok (.astore_n 3, 1) := by decide +kernel
theorem dL_tell_16 : decode cL_tell 16 = .ok (.iconst 2, 1) := by decide +kernel
theorem dL_tell_17 : decode cL_tell 17 = .ok (.ireturn, 1) := by decide +kernel
theorem dL_tell_18 : decode cL_tell 18 = .ok (.iconst 0, 1) := by decide +kernel
theorem dL_tell_19 : decode cL_tell 19 = .ok (.ireturn, 1) := by decide +kernel
set_option maxRecDepth 20000 in
theorem ggL_canMeasure_X6_canMeasure : GoodIn wsL_canMeasure wsX6_canMeasure := goodIn_ca (goodIn_r _ [6, 7, 8, 9, 5, 10, 11, 12, 13, 14, 15, 16, 17, 18, 19, 20, 21, 22, 23, 24, 25, 26, 27, 28, 29, 30, 31, 32, 33, 34, 35, 36, 37, 38, 39, 40, 41, 42, 43, 44, 45, 46, 47, 48, 49, 50, 51, 52] (by decide +kernel) (by decide +kernel)) (goodIn_sub (fun _ h => List.mem_cons_of_mem _ (List.mem_append_right _ h)) (by decide +kernel))
set_option maxRecDepth 20000 in
theorem gL_canMeasure_X6_canMeasure : GoodIn wsL_canMeasure (wsV RL 105 RX6 yX6_canMeasure wsX6_canMeasure) := goodIn_app (goodIn_of _ (by decide +kernel)) ggL_canMeasure_X6_canMeasure
theorem dL_canMeasure_0 : decode cL_canMeasure 0 = .ok (.aload_n 2, 1) := by decide +kernel
theorem dL_canMeasure_1 : decode cL_canMeasure 1 = .ok (.iconst 0, 1) := by decide +kernel
theorem dL_canMeasure_2 : decode cL_canMeasure 2 = .ok (.aload_n 0, 1) := by decide +kernel
theorem dL_canMeasure_3 : decode cL_canMeasure 3 = .ok (.iload_n 1, 1) := by decide +kernel
theorem dL_canMeasure_4 : decode cL_canMeasure 4 = .ok (.invokevirtual 105, 3) := by decide +kernel
theorem dL_canMeasure_7 : decode cL_canMeasure 7 = .ok (.ifCond .eq 7, 3) := by decide +kernel
theorem dL_canMeasure_10 : decode cL_canMeasure 10 = .ok (.lconst 1, 1) := by decide +kernel
theorem dL_canMeasure_11 : decode cL_canMeasure 11 = .ok (.goto 4, 3) := by decide +kernel
theorem dL_canMeasure_14 : decode cL_canMeasure 14 = .ok (.lconst 0, 1) := by decide +kernel
theorem dL_canMeasure_15 : decode cL_canMeasure 15 = .ok (.lastore, 1) := by decide +kernel
theorem dL_canMeasure_16 : decode cL_canMeasure 16 = .ok (.goto 6, 3) := by decide +kernel
theorem dL_canMeasure_19 : decode cL_canMeasure 19 = .ok (.astore_n 3, 1) := by decide +kernel
theorem dL_canMeasure_20 : decode cL_canMeasure 20 = .ok (.iconst 1, 1) := by decide +kernel
theorem dL_canMeasure_21 : decode cL_canMeasure 21 = .ok (.ireturn, 1) := by decide +kernel
theorem dL_canMeasure_22 : decode cL_canMeasure 22 = .ok (.iconst 0, 1) := by decide +kernel
theorem dL_canMeasure_23 : decode cL_canMeasure 23 = .ok (.ireturn, 1) := by decide +kernel
set_option maxRecDepth 20000 in
theorem ggL_fewestTurns_X6_fewestTurns : GoodIn wsL_fewestTurns wsX6_fewestTurns := goodIn_ca (goodIn_ca (goodIn_r _ [6, 7, 8, 9, 10, 5, 11, 12, 13, 14, 15, 16, 17, 18, 19, 20, 21, 22, 23, 24, 25, 26, 27, 28, 29, 30, 31, 32, 33, 34, 35, 36, 37, 38, 39, 40, 41, 42, 43, 44, 45, 46, 47, 48, 49, 50, 51, 52, 53, 54, 55, 56, 57, 58, 59] (by decide +kernel) (by decide +kernel)) (goodIn_sub (fun _ h => List.mem_cons_of_mem _ (List.mem_append_left _ (List.mem_append_right _ h))) (by decide +kernel))) (goodIn_sub (fun _ h => List.mem_cons_of_mem _ (List.mem_append_right _ h)) (by decide +kernel))
set_option maxRecDepth 20000 in
theorem gL_fewestTurns_X6_fewestTurns : GoodIn wsL_fewestTurns (wsV RL 108 RX6 yX6_fewestTurns wsX6_fewestTurns) := goodIn_app (goodIn_of _ (by decide +kernel)) ggL_fewestTurns_X6_fewestTurns
theorem dL_fewestTurns_0 : decode cL_fewestTurns 0 = .ok (.aload_n 2, 1) := by decide +kernel
theorem dL_fewestTurns_1 : decode cL_fewestTurns 1 = .ok (.iconst 0, 1) := by decide +kernel
theorem dL_fewestTurns_2 : decode cL_fewestTurns 2 = .ok (.aload_n 0, 1) := by decide +kernel
theorem dL_fewestTurns_3 : decode cL_fewestTurns 3 = .ok (.iload_n 1, 1) := by decide +kernel
theorem dL_fewestTurns_4 : decode cL_fewestTurns 4 = .ok (.invokevirtual 108, 3) := by decide +kernel
theorem dL_fewestTurns_7 : decode cL_fewestTurns 7 = .ok (.i2l, 1) := by decide +kernel
theorem dL_fewestTurns_8 : decode cL_fewestTurns 8 = .ok (.lastore, 1) := by decide +kernel
theorem dL_fewestTurns_9 : decode cL_fewestTurns 9 = .ok (.goto 9, 3) := by decide +kernel
theorem dL_fewestTurns_12 : decode cL_fewestTurns 12 = .ok (.astore_n 3, 1) := by decide +kernel
theorem dL_fewestTurns_13 : decode cL_fewestTurns 13 = .ok (.iconst 1, 1) := by decide +kernel
theorem dL_fewestTurns_14 : decode cL_fewestTurns 14 = .ok (.ireturn, 1) := by decide +kernel
theorem dL_fewestTurns_15 : decode cL_fewestTurns 15 = .ok (.astore_n 3, 1) := by decide +kernel
theorem dL_fewestTurns_16 : decode cL_fewestTurns 16 = .ok (.iconst 2, 1) := by decide +kernel
theorem dL_fewestTurns_17 : decode cL_fewestTurns 17 = .ok (.ireturn, 1) := by decide +kernel
theorem dL_fewestTurns_18 : decode cL_fewestTurns 18 = .ok (.iconst 0, 1) := by decide +kernel
theorem dL_fewestTurns_19 : decode cL_fewestTurns 19 = .ok (.ireturn, 1) := by decide +kernel
set_option maxRecDepth 20000 in
theorem ggL_decisions_X6_decisions : GoodIn wsL_decisions wsX6_decisions := goodIn_ca (goodIn_ca (goodIn_r _ [6, 7, 8, 9, 10, 5, 11, 12, 13, 14, 15, 16, 17, 18, 19, 20, 21, 22, 23, 24, 25, 26, 27, 28, 29, 30, 31, 32, 33, 34, 35, 36, 37, 38, 39, 40, 41, 42, 43, 44, 45, 46, 47, 48, 49, 50, 51, 52, 53, 54, 55, 56, 57, 58, 59, 60, 61, 62, 63, 64, 65, 66, 67, 68, 69, 70, 71, 72, 73, 74, 75, 76, 77, 78, 79, 80, 81, 82, 83, 84, 85, 86, 87] (by decide +kernel) (by decide +kernel)) (goodIn_sub (fun _ h => List.mem_cons_of_mem _ (List.mem_append_left _ (List.mem_append_right _ h))) (by decide +kernel))) (goodIn_sub (fun _ h => List.mem_cons_of_mem _ (List.mem_append_right _ h)) (by decide +kernel))
set_option maxRecDepth 20000 in
theorem gL_decisions_X6_decisions : GoodIn wsL_decisions (wsV RL 111 RX6 yX6_decisions wsX6_decisions) := goodIn_app (goodIn_of _ (by decide +kernel)) ggL_decisions_X6_decisions
theorem dL_decisions_0 : decode cL_decisions 0 = .ok (.aload_n 2, 1) := by decide +kernel
theorem dL_decisions_1 : decode cL_decisions 1 = .ok (.iconst 0, 1) := by decide +kernel
theorem dL_decisions_2 : decode cL_decisions 2 = .ok (.aload_n 0, 1) := by decide +kernel
theorem dL_decisions_3 : decode cL_decisions 3 = .ok (.iload_n 1, 1) := by decide +kernel
theorem dL_decisions_4 : decode cL_decisions 4 = .ok (.invokevirtual 111, 3) := by decide +kernel
theorem dL_decisions_7 : decode cL_decisions 7 = .ok (.i2l, 1) := by decide +kernel
theorem dL_decisions_8 : decode cL_decisions 8 = .ok (.lastore, 1) := by decide +kernel
theorem dL_decisions_9 : decode cL_decisions 9 = .ok (.goto 9, 3) := by decide +kernel
theorem dL_decisions_12 : decode cL_decisions 12 = .ok (.astore_n 3, 1) := by decide +kernel
theorem dL_decisions_13 : decode cL_decisions 13 = .ok (.iconst 1, 1) := by decide +kernel
theorem dL_decisions_14 : decode cL_decisions 14 = .ok (.ireturn, 1) := by decide +kernel
theorem dL_decisions_15 : decode cL_decisions 15 = .ok (.astore_n 3, 1) := by decide +kernel
theorem dL_decisions_16 : decode cL_decisions 16 = .ok (.iconst 2, 1) := by decide +kernel
theorem dL_decisions_17 : decode cL_decisions 17 = .ok (.ireturn, 1) := by decide +kernel
theorem dL_decisions_18 : decode cL_decisions 18 = .ok (.iconst 0, 1) := by decide +kernel
theorem dL_decisions_19 : decode cL_decisions 19 = .ok (.ireturn, 1) := by decide +kernel
set_option maxRecDepth 20000 in
theorem ggL_turnedAt_X6_turnedAt : GoodIn wsL_turnedAt wsX6_turnedAt := goodIn_ca (goodIn_ca (goodIn_r _ [6, 7, 8, 9, 10, 5, 11, 12, 13, 14, 15, 16, 17, 18, 19, 20, 21, 22, 23, 24, 25, 26, 27, 28, 29, 30, 31, 32, 33, 34, 35, 36, 37, 38, 39, 40, 41, 42, 43, 44, 45, 46, 47, 48, 49, 50, 51, 52, 53, 54, 55, 56, 57, 58, 59, 60, 61, 62, 63, 64, 65, 66, 67, 68, 69, 70, 71, 72, 73, 74, 75, 76, 77, 78, 79, 80, 81, 82, 83, 84, 85, 86, 87, 88, 89, 90, 91, 92] (by decide +kernel) (by decide +kernel)) (goodIn_sub (fun _ h => List.mem_cons_of_mem _ (List.mem_append_left _ (List.mem_append_right _ h))) (by decide +kernel))) (goodIn_sub (fun _ h => List.mem_cons_of_mem _ (List.mem_append_right _ h)) (by decide +kernel))
set_option maxRecDepth 20000 in
theorem gL_turnedAt_X6_turnedAt : GoodIn wsL_turnedAt (wsV RL 114 RX6 yX6_turnedAt wsX6_turnedAt) := goodIn_app (goodIn_of _ (by decide +kernel)) ggL_turnedAt_X6_turnedAt
theorem dL_turnedAt_0 : decode cL_turnedAt 0 = .ok (.aload_n 3, 1) := by decide +kernel
theorem dL_turnedAt_1 : decode cL_turnedAt 1 = .ok (.iconst 0, 1) := by decide +kernel
theorem dL_turnedAt_2 : decode cL_turnedAt 2 = .ok (.aload_n 0, 1) := by decide +kernel
theorem dL_turnedAt_3 : decode cL_turnedAt 3 = .ok (.iload_n 1, 1) := by decide +kernel
theorem dL_turnedAt_4 : decode cL_turnedAt 4 = .ok (.iload_n 2, 1) := by decide +kernel
theorem dL_turnedAt_5 : decode cL_turnedAt 5 = .ok (.invokevirtual 114, 3) := by decide +kernel
theorem dL_turnedAt_8 : decode cL_turnedAt 8 = .ok (.i2l, 1) := by decide +kernel
theorem dL_turnedAt_9 : decode cL_turnedAt 9 = .ok (.lastore, 1) := by decide +kernel
theorem dL_turnedAt_10 : decode cL_turnedAt 10 = .ok (.goto 11, 3) := by decide +kernel
theorem dL_turnedAt_13 : decode cL_turnedAt 13 = .ok (.astore 4, 2) := by decide +kernel
theorem dL_turnedAt_15 : decode cL_turnedAt 15 = .ok (.iconst 1, 1) := by decide +kernel
theorem dL_turnedAt_16 : decode cL_turnedAt 16 = .ok (.ireturn, 1) := by decide +kernel
theorem dL_turnedAt_17 : decode cL_turnedAt 17 = .ok (.astore 4, 2) := by decide +kernel
theorem dL_turnedAt_19 : decode cL_turnedAt 19 = .ok (.iconst 2, 1) := by decide +kernel
theorem dL_turnedAt_20 : decode cL_turnedAt 20 = .ok (.ireturn, 1) := by decide +kernel
theorem dL_turnedAt_21 : decode cL_turnedAt 21 = .ok (.iconst 0, 1) := by decide +kernel
theorem dL_turnedAt_22 : decode cL_turnedAt 22 = .ok (.ireturn, 1) := by decide +kernel
set_option maxRecDepth 20000 in
theorem ggL_minuteAt_X6_minuteAt : GoodIn wsL_minuteAt wsX6_minuteAt := goodIn_ca (goodIn_ca (goodIn_r _ [6, 7, 8, 9, 10, 5, 11, 12, 13, 14, 15, 16, 17, 18, 19, 20, 21, 22, 23, 24, 25, 26, 27, 28, 29, 30, 31, 32, 33, 34, 35, 36, 37, 38, 39, 40, 41, 42, 43, 44, 45, 46, 47, 48, 49, 50, 51, 52, 53, 54, 55, 56, 57, 58, 59, 60, 61, 62, 63, 64, 65, 66, 67, 68, 69, 70, 71, 72, 73, 74, 75, 76, 77, 78, 79, 80, 81, 82, 83, 84, 85, 86, 87, 88, 89, 90, 91, 92] (by decide +kernel) (by decide +kernel)) (goodIn_sub (fun _ h => List.mem_cons_of_mem _ (List.mem_append_left _ (List.mem_append_right _ h))) (by decide +kernel))) (goodIn_sub (fun _ h => List.mem_cons_of_mem _ (List.mem_append_right _ h)) (by decide +kernel))
set_option maxRecDepth 20000 in
theorem gL_minuteAt_X6_minuteAt : GoodIn wsL_minuteAt (wsV RL 117 RX6 yX6_minuteAt wsX6_minuteAt) := goodIn_app (goodIn_of _ (by decide +kernel)) ggL_minuteAt_X6_minuteAt
theorem dL_minuteAt_0 : decode cL_minuteAt 0 = .ok (.aload_n 3, 1) := by decide +kernel
theorem dL_minuteAt_1 : decode cL_minuteAt 1 = .ok (.iconst 0, 1) := by decide +kernel
theorem dL_minuteAt_2 : decode cL_minuteAt 2 = .ok (.aload_n 0, 1) := by decide +kernel
theorem dL_minuteAt_3 : decode cL_minuteAt 3 = .ok (.iload_n 1, 1) := by decide +kernel
theorem dL_minuteAt_4 : decode cL_minuteAt 4 = .ok (.iload_n 2, 1) := by decide +kernel
theorem dL_minuteAt_5 : decode cL_minuteAt 5 = .ok (.invokevirtual 117, 3) := by decide +kernel
theorem dL_minuteAt_8 : decode cL_minuteAt 8 = .ok (.i2l, 1) := by decide +kernel
theorem dL_minuteAt_9 : decode cL_minuteAt 9 = .ok (.lastore, 1) := by decide +kernel
theorem dL_minuteAt_10 : decode cL_minuteAt 10 = .ok (.goto 11, 3) := by decide +kernel
theorem dL_minuteAt_13 : decode cL_minuteAt 13 = .ok (.astore 4, 2) := by decide +kernel
theorem dL_minuteAt_15 : decode cL_minuteAt 15 = .ok (.iconst 1, 1) := by decide +kernel
theorem dL_minuteAt_16 : decode cL_minuteAt 16 = .ok (.ireturn, 1) := by decide +kernel
theorem dL_minuteAt_17 : decode cL_minuteAt 17 = .ok (.astore 4, 2) := by decide +kernel
theorem dL_minuteAt_19 : decode cL_minuteAt 19 = .ok (.iconst 2, 1) := by decide +kernel
theorem dL_minuteAt_20 : decode cL_minuteAt 20 = .ok (.ireturn, 1) := by decide +kernel
theorem dL_minuteAt_21 : decode cL_minuteAt 21 = .ok (.iconst 0, 1) := by decide +kernel
theorem dL_minuteAt_22 : decode cL_minuteAt 22 = .ok (.ireturn, 1) := by decide +kernel
set_option maxRecDepth 20000 in
theorem ggL_measurable_X6_measurable : GoodIn wsL_measurable wsX6_measurable := goodIn_ca (goodIn_r _ [6, 7, 8, 9, 5, 10, 11, 12, 13, 14, 15, 16, 17, 18, 19, 20, 21, 22, 23, 24, 25, 26, 27, 28, 29, 30, 31, 32, 33, 34, 35, 36, 37, 38, 39, 40, 41, 42, 43, 44, 45, 46, 47, 48, 49, 50, 51, 52] (by decide +kernel) (by decide +kernel)) (goodIn_sub (fun _ h => List.mem_cons_of_mem _ (List.mem_append_right _ h)) (by decide +kernel))
set_option maxRecDepth 20000 in
theorem gL_measurable_X6_measurable : GoodIn wsL_measurable (wsV RL 120 RX6 yX6_measurable wsX6_measurable) := goodIn_app (goodIn_of _ (by decide +kernel)) ggL_measurable_X6_measurable
theorem dL_measurable_0 : decode cL_measurable 0 = .ok (.aload_n 2, 1) := by decide +kernel
theorem dL_measurable_1 : decode cL_measurable 1 = .ok (.iconst 0, 1) := by decide +kernel
theorem dL_measurable_2 : decode cL_measurable 2 = .ok (.aload_n 0, 1) := by decide +kernel
theorem dL_measurable_3 : decode cL_measurable 3 = .ok (.iload_n 1, 1) := by decide +kernel
theorem dL_measurable_4 : decode cL_measurable 4 = .ok (.invokevirtual 120, 3) := by decide +kernel
theorem dL_measurable_7 : decode cL_measurable 7 = .ok (.i2l, 1) := by decide +kernel
theorem dL_measurable_8 : decode cL_measurable 8 = .ok (.lastore, 1) := by decide +kernel
theorem dL_measurable_9 : decode cL_measurable 9 = .ok (.goto 6, 3) := by decide +kernel
theorem dL_measurable_12 : decode cL_measurable 12 = .ok (.astore_n 3, 1) := by decide +kernel
theorem dL_measurable_13 : decode cL_measurable 13 = .ok (.iconst 1, 1) := by decide +kernel
theorem dL_measurable_14 : decode cL_measurable 14 = .ok (.ireturn, 1) := by decide +kernel
theorem dL_measurable_15 : decode cL_measurable 15 = .ok (.iconst 0, 1) := by decide +kernel
theorem dL_measurable_16 : decode cL_measurable 16 = .ok (.ireturn, 1) := by decide +kernel
set_option maxRecDepth 20000 in
theorem ggL_canStretch_X6_canStretch : GoodIn wsL_canStretch wsX6_canStretch := goodIn_ca (goodIn_r _ [6, 7, 8, 9, 5, 10, 11, 12, 13, 14, 15, 16, 17, 18, 19, 20, 21, 22, 23, 24, 25, 26, 27, 28, 29, 30, 31, 32, 33, 34, 35, 36, 37, 38, 39, 40, 41, 42, 43, 44, 45, 46, 47, 48, 49] (by decide +kernel) (by decide +kernel)) (goodIn_sub (fun _ h => List.mem_cons_of_mem _ (List.mem_append_right _ h)) (by decide +kernel))
set_option maxRecDepth 20000 in
theorem gL_canStretch_X6_canStretch : GoodIn wsL_canStretch (wsV RL 123 RX6 yX6_canStretch wsX6_canStretch) := goodIn_app (goodIn_of _ (by decide +kernel)) ggL_canStretch_X6_canStretch
theorem dL_canStretch_0 : decode cL_canStretch 0 = .ok (.aload_n 2, 1) := by decide +kernel
theorem dL_canStretch_1 : decode cL_canStretch 1 = .ok (.iconst 0, 1) := by decide +kernel
theorem dL_canStretch_2 : decode cL_canStretch 2 = .ok (.aload_n 0, 1) := by decide +kernel
theorem dL_canStretch_3 : decode cL_canStretch 3 = .ok (.iload_n 1, 1) := by decide +kernel
theorem dL_canStretch_4 : decode cL_canStretch 4 = .ok (.invokevirtual 123, 3) := by decide +kernel
theorem dL_canStretch_7 : decode cL_canStretch 7 = .ok (.ifCond .eq 7, 3) := by decide +kernel
theorem dL_canStretch_10 : decode cL_canStretch 10 = .ok (.lconst 1, 1) := by decide +kernel
theorem dL_canStretch_11 : decode cL_canStretch 11 = .ok (.goto 4, 3) := by decide +kernel
theorem dL_canStretch_14 : decode cL_canStretch 14 = .ok (.lconst 0, 1) := by decide +kernel
theorem dL_canStretch_15 : decode cL_canStretch 15 = .ok (.lastore, 1) := by decide +kernel
theorem dL_canStretch_16 : decode cL_canStretch 16 = .ok (.goto 6, 3) := by decide +kernel
theorem dL_canStretch_19 : decode cL_canStretch 19 = .ok (.astore_n 3, 1) := by decide +kernel
theorem dL_canStretch_20 : decode cL_canStretch 20 = .ok (.iconst 1, 1) := by decide +kernel
theorem dL_canStretch_21 : decode cL_canStretch 21 = .ok (.ireturn, 1) := by decide +kernel
theorem dL_canStretch_22 : decode cL_canStretch 22 = .ok (.iconst 0, 1) := by decide +kernel
theorem dL_canStretch_23 : decode cL_canStretch 23 = .ok (.ireturn, 1) := by decide +kernel
set_option maxRecDepth 20000 in
theorem ggL_setShip_X6_setShip : GoodIn wsL_setShip wsX6_setShip := goodIn_ca (goodIn_r _ [6, 7, 8, 9, 10, 5, 11, 12, 13, 14, 15, 16, 17, 18, 19, 20, 21, 22, 23, 24, 25, 26, 27, 28, 29, 30, 31, 32, 33, 34, 35, 36, 37] (by decide +kernel) (by decide +kernel)) (goodIn_sub (fun _ h => List.mem_cons_of_mem _ (List.mem_append_right _ h)) (by decide +kernel))
set_option maxRecDepth 20000 in
theorem gL_setShip_X6_setShip : GoodIn wsL_setShip (wsV RL 126 RX6 yX6_setShip wsX6_setShip) := goodIn_app (goodIn_of _ (by decide +kernel)) ggL_setShip_X6_setShip
theorem dL_setShip_0 : decode cL_setShip 0 = .ok (.aload_n 2, 1) := by decide +kernel
theorem dL_setShip_1 : decode cL_setShip 1 = .ok (.iconst 0, 1) := by decide +kernel
theorem dL_setShip_2 : decode cL_setShip 2 = .ok (.aload_n 0, 1) := by decide +kernel
theorem dL_setShip_3 : decode cL_setShip 3 = .ok (.iload_n 1, 1) := by decide +kernel
theorem dL_setShip_4 : decode cL_setShip 4 = .ok (.invokevirtual 126, 3) := by decide +kernel
theorem dL_setShip_7 : decode cL_setShip 7 = .ok (.i2l, 1) := by decide +kernel
theorem dL_setShip_8 : decode cL_setShip 8 = .ok (.lastore, 1) := by decide +kernel
theorem dL_setShip_9 : decode cL_setShip 9 = .ok (.goto 6, 3) := by decide +kernel
theorem dL_setShip_12 : decode cL_setShip 12 = .ok (.astore_n 3, 1) := by decide +kernel
theorem dL_setShip_13 : decode cL_setShip 13 = .ok (.iconst 1, 1) := by decide +kernel
theorem dL_setShip_14 : decode cL_setShip 14 = .ok (.ireturn, 1) := by decide +kernel
theorem dL_setShip_15 : decode cL_setShip 15 = .ok (.iconst 0, 1) := by decide +kernel
theorem dL_setShip_16 : decode cL_setShip 16 = .ok (.ireturn, 1) := by decide +kernel
set_option maxRecDepth 20000 in
theorem ggL_boy_X6_boy : GoodIn wsL_boy wsX6_boy := goodIn_ca (goodIn_r _ [6, 7, 8, 9, 10, 11, 12, 13, 14, 15, 5, 16, 17, 18, 19, 20, 21, 22, 23, 24, 25, 26, 27, 28, 29, 30, 31, 32, 33, 34, 35, 36, 37, 38, 39, 40, 41, 42, 43, 44, 45, 46, 47, 48, 49, 50, 51, 52, 53, 54, 55, 56, 57, 58, 59, 60, 61, 62, 63, 64, 65, 66, 67, 68, 69, 70, 71, 72, 73, 74, 75, 76, 77] (by decide +kernel) (by decide +kernel)) (goodIn_sub (fun _ h => List.mem_cons_of_mem _ (List.mem_append_right _ h)) (by decide +kernel))
set_option maxRecDepth 20000 in
theorem gL_boy_X6_boy : GoodIn wsL_boy (wsV RL 129 RX6 yX6_boy wsX6_boy) := goodIn_app (goodIn_of _ (by decide +kernel)) ggL_boy_X6_boy
theorem dL_boy_0 : decode cL_boy 0 = .ok (.aload_n 1, 1) := by decide +kernel
theorem dL_boy_1 : decode cL_boy 1 = .ok (.iconst 0, 1) := by decide +kernel
theorem dL_boy_2 : decode cL_boy 2 = .ok (.aload_n 0, 1) := by decide +kernel
theorem dL_boy_3 : decode cL_boy 3 = .ok (.invokevirtual 129, 3) := by decide +kernel
theorem dL_boy_6 : decode cL_boy 6 = .ok (.i2l, 1) := by decide +kernel
theorem dL_boy_7 : decode cL_boy 7 = .ok (.lastore, 1) := by decide +kernel
theorem dL_boy_8 : decode cL_boy 8 = .ok (.goto 6, 3) := by decide +kernel
theorem dL_boy_11 : decode cL_boy 11 = .ok (.astore_n 2, 1) := by decide +kernel
theorem dL_boy_12 : decode cL_boy 12 = .ok (.iconst 1, 1) := by decide +kernel
theorem dL_boy_13 : decode cL_boy 13 = .ok (.ireturn, 1) := by decide +kernel
theorem dL_boy_14 : decode cL_boy 14 = .ok (.iconst 0, 1) := by decide +kernel
theorem dL_boy_15 : decode cL_boy 15 = .ok (.ireturn, 1) := by decide +kernel
set_option maxRecDepth 20000 in
theorem ggL_aboveShare_X6_aboveShare : GoodIn wsL_aboveShare wsX6_aboveShare := goodIn_ca (goodIn_r _ [6, 7, 8, 9, 10, 11, 12, 13, 14, 15, 16, 17, 18, 19, 20, 21, 22, 23, 24, 25, 26, 27, 28, 29, 30, 31, 32, 33, 34, 35, 36, 37, 38, 39, 40, 5, 41, 42, 43, 44, 45, 46, 47, 48, 49, 50, 51, 52, 53, 54, 55, 56, 57, 58, 59, 60, 61, 62, 63, 64, 65, 66, 67, 68, 69, 70, 71, 72] (by decide +kernel) (by decide +kernel)) (goodIn_sub (fun _ h => List.mem_cons_of_mem _ (List.mem_append_right _ h)) (by decide +kernel))
set_option maxRecDepth 20000 in
theorem gL_aboveShare_X6_aboveShare : GoodIn wsL_aboveShare (wsV RL 132 RX6 yX6_aboveShare wsX6_aboveShare) := goodIn_app (goodIn_of _ (by decide +kernel)) ggL_aboveShare_X6_aboveShare
theorem dL_aboveShare_0 : decode cL_aboveShare 0 = .ok (.aload_n 1, 1) := by decide +kernel
theorem dL_aboveShare_1 : decode cL_aboveShare 1 = .ok (.iconst 0, 1) := by decide +kernel
theorem dL_aboveShare_2 : decode cL_aboveShare 2 = .ok (.aload_n 0, 1) := by decide +kernel
theorem dL_aboveShare_3 : decode cL_aboveShare 3 = .ok (.invokevirtual 132, 3) := by decide +kernel
theorem dL_aboveShare_6 : decode cL_aboveShare 6 = .ok (.f2d, 1) := by decide +kernel
theorem dL_aboveShare_7 : decode cL_aboveShare 7 = .ok (.dastore, 1) := by decide +kernel
theorem dL_aboveShare_8 : decode cL_aboveShare 8 = .ok (.goto 6, 3) := by decide +kernel
theorem dL_aboveShare_11 : decode cL_aboveShare 11 = .ok (.astore_n 2, 1) := by decide +kernel
theorem dL_aboveShare_12 : decode cL_aboveShare 12 = .ok (.iconst 1, 1) := by decide +kernel
theorem dL_aboveShare_13 : decode cL_aboveShare 13 = .ok (.ireturn, 1) := by decide +kernel
theorem dL_aboveShare_14 : decode cL_aboveShare 14 = .ok (.iconst 0, 1) := by decide +kernel
theorem dL_aboveShare_15 : decode cL_aboveShare 15 = .ok (.ireturn, 1) := by decide +kernel
set_option maxRecDepth 20000 in
theorem ggL_law_X6_init : GoodIn wsL_law wsX6_init := goodIn_r _ [10, 11, 12, 13, 14, 15, 16, 17, 18, 19, 20, 21, 22, 23, 24, 25, 26, 27, 28, 29, 30, 31, 32, 33, 34, 35, 36, 37, 38, 39, 40, 41, 42, 43, 44, 45, 46, 47, 48, 49, 50, 51, 52, 53, 54, 55, 56, 57, 58, 59, 60, 61, 62, 63, 64, 65, 66, 67, 68, 69, 70, 71, 72, 73, 74, 75, 76, 77, 78, 79, 80, 81, 82, 83, 84, 85, 86, 87, 88, 89, 90, 91, 92, 93, 94, 95, 96, 97, 98, 99, 100, 101, 102, 103, 104, 105, 106, 107, 108, 109, 110, 111, 112, 113, 114, 115, 116, 117, 118, 119, 120, 121, 122, 123, 124, 125, 126, 127, 128, 129, 130, 131, 132, 133, 134, 135, 136, 137, 138, 139, 140, 141, 142, 143, 1457, 1458, 1459, 1441, 1442, 1443, 1444, 1445, 1446, 1447, 1460, 1461, 1462, 1463, 1464, 1465, 1466, 1467, 1468, 1469, 1470, 1471, 1472, 1473, 1474, 1475] (by decide +kernel) (by decide +kernel)
set_option maxRecDepth 20000 in
theorem gL_law_X6_init : GoodIn wsL_law (wsX6_init) := ggL_law_X6_init
set_option maxRecDepth 20000 in
theorem ggL_law_X9_init : GoodIn wsL_law wsX9_init := goodIn_r _ [146, 147, 12, 13, 148, 15, 16, 149, 150, 151, 152, 153, 154, 29, 30, 31, 32, 33, 34, 35, 36, 37, 38, 39, 40, 41, 42, 1457, 1458, 1459, 1448, 1449, 1450, 1451, 1452, 1453, 1454, 1455, 1456] (by decide +kernel) (by decide +kernel)
set_option maxRecDepth 20000 in
theorem gL_law_X9_init : GoodIn wsL_law (wsX9_init) := ggL_law_X9_init
set_option maxRecDepth 20000 in
theorem ggL_law_L_addGlass : GoodIn wsL_law wsL_addGlass := goodIn_ca (goodIn_ca (goodIn_r _ [158, 159, 160, 161, 162, 2, 163, 17, 164, 165, 166, 167, 168, 169, 170, 171, 172, 173, 174, 175, 16, 176, 177, 178, 179, 180, 181, 182, 183, 184, 185, 186, 12, 13, 187, 188, 189, 190, 191, 192, 193, 194, 195, 196, 197, 198, 199, 200, 201, 48, 49, 202, 203, 60, 61, 62, 63, 64, 204, 205, 206, 207, 208, 209, 32, 210, 211, 212, 213, 214, 215, 216, 217, 218, 219, 220, 221, 31, 222, 107, 108, 109, 223, 224, 225, 226, 227, 228, 229, 230, 231, 232, 233, 234, 235, 236, 237, 238, 239, 240, 241, 242, 243, 244, 245, 246, 247, 248, 249, 114, 115, 250, 251, 252, 253, 1441, 1442, 1443, 1444, 1445, 1446, 1447, 1476, 1477, 1478, 1479, 1480, 1481, 1482, 1483, 1484, 1485, 1486, 1487, 1488, 1489, 1457, 1458, 1459, 1490, 1491, 1475, 1492, 1493, 1494, 1495] (by decide +kernel) (by decide +kernel)) (goodIn_sub (fun _ h => List.mem_append_left _ (List.mem_append_left _ (List.mem_append_left _ (List.mem_append_left _ (List.mem_append_right _ h))))) (by decide +kernel))) (goodIn_sub (fun _ h => List.mem_append_left _ (List.mem_append_left _ (List.mem_append_left _ (List.mem_append_right _ h)))) (by decide +kernel))
set_option maxRecDepth 20000 in
theorem gL_law_L_addGlass : GoodIn wsL_law (va_wsS RL 140 yL_addGlass wsL_addGlass) := goodIn_app (goodIn_of _ (by decide +kernel)) ggL_law_L_addGlass
set_option maxRecDepth 20000 in
theorem ggL_law_X9_addGlass : GoodIn wsL_law wsX9_addGlass := goodIn_r _ [257, 149, 258, 259, 260, 261, 262, 5, 263, 264, 265, 266, 267, 268, 269, 270, 174, 16, 176, 177, 271, 272, 273, 274, 12, 13, 275, 276, 277, 278, 15, 279, 280, 281, 282, 283, 284, 29, 30, 31, 32, 33, 34, 35, 36, 37, 38, 39, 40, 41, 42, 285, 286, 205, 207, 208, 209, 210, 211, 212, 213, 214, 215, 216, 217, 218, 219, 220, 221, 222, 107, 108, 109, 223, 224, 225, 226, 227, 228, 229, 230, 231, 232, 233, 234, 235, 236, 237, 238, 239, 240, 241, 242, 243, 244, 245, 246, 247, 248, 249, 114, 115, 250, 251, 252, 253, 1448, 1449, 1450, 1451, 1452, 1453, 1454, 1455, 1456, 1496, 1497, 1498, 1499, 1500, 1501, 1502, 1503, 1504, 1505, 1506, 1507, 1508, 1509, 1457, 1458, 1459, 1492, 1493, 1494, 1495] (by decide +kernel) (by decide +kernel)
set_option maxRecDepth 20000 in
theorem gL_law_X9_addGlass : GoodIn wsL_law (wsV RL 145 RX9 yX9_addGlass wsX9_addGlass) := goodIn_app (goodIn_of _ (by decide +kernel)) ggL_law_X9_addGlass
set_option maxRecDepth 20000 in
theorem ggL_law_X9_thrown : GoodIn wsL_law wsX9_thrown := goodIn_r _ [290, 268, 1448, 1449, 1450, 1451, 1452, 1453, 1454, 1455, 1456] (by decide +kernel) (by decide +kernel)
set_option maxRecDepth 20000 in
theorem gL_law_X9_thrown : GoodIn wsL_law (wsV RL 146 RX9 yX9_thrown wsX9_thrown) := goodIn_app (goodIn_of _ (by decide +kernel)) ggL_law_X9_thrown
set_option maxRecDepth 20000 in
theorem ggL_law_L_above : GoodIn wsL_law wsL_above := goodIn_ca (goodIn_r _ [293, 294, 295, 296, 297, 2, 298, 299, 300, 301, 302, 17, 303, 304, 305, 306, 307, 308, 309, 310, 311, 312, 313, 173, 174, 175, 16, 176, 177, 314, 315, 316, 317, 318, 319, 320, 321, 322, 323, 324, 325, 326, 327, 328, 329, 32, 1476, 1477, 1478, 1479, 1480, 1481, 1482, 1483, 1484, 1485, 1486, 1487, 1488, 1489, 1441, 1442, 1443, 1444, 1445, 1446, 1447, 1457, 1458, 1459] (by decide +kernel) (by decide +kernel)) (goodIn_sub (fun _ h => List.mem_append_left _ (List.mem_append_left _ (List.mem_append_right _ h))) (by decide +kernel))
set_option maxRecDepth 20000 in
theorem gL_law_L_above : GoodIn wsL_law (va_wsS RL 149 yL_above wsL_above) := goodIn_app (goodIn_of _ (by decide +kernel)) ggL_law_L_above
set_option maxRecDepth 20000 in
theorem ggL_law_X9_above : GoodIn wsL_law wsX9_above := goodIn_r _ [333, 149, 334, 335, 336, 337, 338, 5, 339, 269, 270, 174, 16, 176, 177, 261, 262, 263, 264, 265, 266, 267, 268, 340, 341, 315, 317, 318, 319, 320, 321, 322, 323, 324, 325, 326, 327, 328, 329, 32, 1448, 1449, 1450, 1451, 1452, 1453, 1454, 1455, 1456, 1496, 1497, 1498, 1499, 1500, 1501, 1502, 1503, 1504, 1505, 1506, 1507, 1508, 1509, 1457, 1458, 1459] (by decide +kernel) (by decide +kernel)
set_option maxRecDepth 20000 in
theorem gL_law_X9_above : GoodIn wsL_law (wsV RL 152 RX9 yX9_above wsX9_above) := goodIn_app (goodIn_of _ (by decide +kernel)) ggL_law_X9_above
set_option maxRecDepth 20000 in
theorem ggL_law_L_below : GoodIn wsL_law wsL_below := goodIn_ca (goodIn_r _ [344, 294, 345, 346, 347, 2, 348, 299, 300, 301, 302, 17, 303, 304, 305, 306, 307, 308, 309, 310, 311, 312, 313, 173, 174, 175, 16, 176, 177, 314, 315, 316, 317, 318, 319, 320, 321, 322, 323, 324, 325, 326, 327, 328, 329, 32, 1476, 1477, 1478, 1479, 1480, 1481, 1482, 1483, 1484, 1485, 1486, 1487, 1488, 1489, 1441, 1442, 1443, 1444, 1445, 1446, 1447, 1457, 1458, 1459] (by decide +kernel) (by decide +kernel)) (goodIn_sub (fun _ h => List.mem_append_left _ (List.mem_append_left _ (List.mem_append_right _ h))) (by decide +kernel))
set_option maxRecDepth 20000 in
theorem gL_law_L_below : GoodIn wsL_law (va_wsS RL 153 yL_below wsL_below) := goodIn_app (goodIn_of _ (by decide +kernel)) ggL_law_L_below
set_option maxRecDepth 20000 in
theorem ggL_law_X9_below : GoodIn wsL_law wsX9_below := goodIn_r _ [352, 149, 334, 353, 336, 337, 338, 5, 339, 269, 270, 174, 16, 176, 177, 261, 262, 263, 264, 265, 266, 267, 268, 340, 341, 315, 317, 318, 319, 320, 321, 322, 323, 324, 325, 326, 327, 328, 329, 32, 1448, 1449, 1450, 1451, 1452, 1453, 1454, 1455, 1456, 1496, 1497, 1498, 1499, 1500, 1501, 1502, 1503, 1504, 1505, 1506, 1507, 1508, 1509, 1457, 1458, 1459] (by decide +kernel) (by decide +kernel)
set_option maxRecDepth 20000 in
theorem gL_law_X9_below : GoodIn wsL_law (wsV RL 155 RX9 yX9_below wsX9_below) := goodIn_app (goodIn_of _ (by decide +kernel)) ggL_law_X9_below
set_option maxRecDepth 20000 in
theorem ggL_law_L_state : GoodIn wsL_law wsL_state := goodIn_ca (goodIn_r _ [356, 294, 357, 358, 359, 2, 360, 299, 300, 301, 302, 17, 303, 304, 305, 306, 307, 308, 309, 310, 311, 312, 313, 173, 174, 175, 16, 176, 177, 314, 315, 316, 317, 318, 319, 320, 321, 322, 323, 324, 325, 326, 327, 328, 329, 32, 361, 362, 363, 166, 364, 365, 366, 367, 368, 369, 370, 196, 1441, 1442, 1443, 1444, 1445, 1446, 1447, 1457, 1458, 1459, 1476, 1477, 1478, 1479, 1480, 1481, 1482, 1483, 1484, 1485, 1486, 1487, 1488, 1489] (by decide +kernel) (by decide +kernel)) (goodIn_sub (fun _ h => List.mem_append_left _ (List.mem_append_left _ (List.mem_append_right _ h))) (by decide +kernel))
set_option maxRecDepth 20000 in
theorem gL_law_L_state : GoodIn wsL_law (va_wsS RL 156 yL_state wsL_state) := goodIn_app (goodIn_of _ (by decide +kernel)) ggL_law_L_state
set_option maxRecDepth 20000 in
theorem ggL_law_X9_state : GoodIn wsL_law wsX9_state := goodIn_r _ [374, 149, 334, 375, 376, 335, 336, 337, 338, 5, 339, 269, 270, 174, 16, 176, 177, 261, 262, 263, 264, 265, 266, 267, 268, 340, 341, 315, 317, 318, 319, 320, 321, 322, 323, 324, 325, 326, 327, 328, 329, 32, 1448, 1449, 1450, 1451, 1452, 1453, 1454, 1455, 1456, 1496, 1497, 1498, 1499, 1500, 1501, 1502, 1503, 1504, 1505, 1506, 1507, 1508, 1509, 1457, 1458, 1459] (by decide +kernel) (by decide +kernel)
set_option maxRecDepth 20000 in
theorem gL_law_X9_state : GoodIn wsL_law (wsV RL 158 RX9 yX9_state wsX9_state) := goodIn_app (goodIn_of _ (by decide +kernel)) ggL_law_X9_state
set_option maxRecDepth 20000 in
theorem ggL_law_L_turn : GoodIn wsL_law wsL_turn := goodIn_ca (goodIn_r _ [379, 294, 380, 381, 382, 2, 383, 384, 299, 300, 301, 302, 17, 303, 304, 305, 306, 307, 308, 309, 310, 311, 312, 313, 173, 174, 175, 16, 176, 177, 314, 315, 316, 317, 318, 319, 320, 321, 322, 323, 324, 325, 326, 327, 328, 329, 32, 385, 386, 387, 166, 388, 366, 194, 389, 365, 390, 391, 1441, 1442, 1443, 1444, 1445, 1446, 1447, 1476, 1477, 1478, 1479, 1480, 1481, 1482, 1483, 1484, 1485, 1486, 1487, 1488, 1489, 1457, 1458, 1459] (by decide +kernel) (by decide +kernel)) (goodIn_sub (fun _ h => List.mem_append_left _ (List.mem_append_left _ (List.mem_append_right _ h))) (by decide +kernel))
set_option maxRecDepth 20000 in
theorem gL_law_L_turn : GoodIn wsL_law (va_wsS RL 159 yL_turn wsL_turn) := goodIn_app (goodIn_of _ (by decide +kernel)) ggL_law_L_turn
set_option maxRecDepth 20000 in
theorem ggL_law_X9_turn : GoodIn wsL_law wsX9_turn := goodIn_r _ [395, 149, 334, 336, 337, 338, 5, 339, 269, 270, 174, 16, 176, 177, 261, 262, 263, 264, 265, 266, 267, 268, 340, 341, 315, 317, 318, 319, 320, 321, 322, 323, 324, 325, 326, 327, 328, 329, 32, 396, 397, 398, 399, 335, 353, 400, 375, 401, 402, 403, 1448, 1449, 1450, 1451, 1452, 1453, 1454, 1455, 1456, 1457, 1458, 1459, 1496, 1497, 1498, 1499, 1500, 1501, 1502, 1503, 1504, 1505, 1506, 1507, 1508, 1509] (by decide +kernel) (by decide +kernel)
set_option maxRecDepth 20000 in
theorem gL_law_X9_turn : GoodIn wsL_law (wsV RL 161 RX9 yX9_turn wsX9_turn) := goodIn_app (goodIn_of _ (by decide +kernel)) ggL_law_X9_turn
set_option maxRecDepth 20000 in
theorem ggL_law_L_timesTurned : GoodIn wsL_law wsL_timesTurned := goodIn_ca (goodIn_r _ [406, 294, 407, 408, 409, 2, 410, 299, 300, 301, 302, 17, 303, 304, 305, 306, 307, 308, 309, 310, 311, 312, 313, 173, 174, 175, 16, 176, 177, 314, 315, 316, 317, 318, 319, 320, 321, 322, 323, 324, 325, 326, 327, 328, 329, 32, 1476, 1477, 1478, 1479, 1480, 1481, 1482, 1483, 1484, 1485, 1486, 1487, 1488, 1489, 1441, 1442, 1443, 1444, 1445, 1446, 1447, 1457, 1458, 1459] (by decide +kernel) (by decide +kernel)) (goodIn_sub (fun _ h => List.mem_append_left _ (List.mem_append_left _ (List.mem_append_right _ h))) (by decide +kernel))
set_option maxRecDepth 20000 in
theorem gL_law_L_timesTurned : GoodIn wsL_law (va_wsS RL 162 yL_timesTurned wsL_timesTurned) := goodIn_app (goodIn_of _ (by decide +kernel)) ggL_law_L_timesTurned
set_option maxRecDepth 20000 in
theorem ggL_law_X9_timesTurned : GoodIn wsL_law wsX9_timesTurned := goodIn_r _ [414, 149, 334, 401, 336, 337, 338, 5, 339, 269, 270, 174, 16, 176, 177, 261, 262, 263, 264, 265, 266, 267, 268, 340, 341, 315, 317, 318, 319, 320, 321, 322, 323, 324, 325, 326, 327, 328, 329, 32, 1448, 1449, 1450, 1451, 1452, 1453, 1454, 1455, 1456, 1496, 1497, 1498, 1499, 1500, 1501, 1502, 1503, 1504, 1505, 1506, 1507, 1508, 1509, 1457, 1458, 1459] (by decide +kernel) (by decide +kernel)
set_option maxRecDepth 20000 in
theorem gL_law_X9_timesTurned : GoodIn wsL_law (wsV RL 164 RX9 yX9_timesTurned wsX9_timesTurned) := goodIn_app (goodIn_of _ (by decide +kernel)) ggL_law_X9_timesTurned
set_option maxRecDepth 20000 in
theorem ggL_law_L_stand : GoodIn wsL_law wsL_stand := goodIn_ca (goodIn_ca (goodIn_r _ [417, 294, 418, 419, 420, 2, 421, 171, 172, 299, 300, 301, 302, 17, 303, 304, 305, 306, 307, 308, 309, 310, 311, 312, 313, 173, 174, 175, 16, 176, 177, 314, 315, 316, 317, 318, 319, 320, 321, 322, 323, 324, 325, 326, 327, 328, 329, 32, 1476, 1477, 1478, 1479, 1480, 1481, 1482, 1483, 1484, 1485, 1486, 1487, 1488, 1489, 1441, 1442, 1443, 1444, 1445, 1446, 1447, 1457, 1458, 1459] (by decide +kernel) (by decide +kernel)) (goodIn_sub (fun _ h => List.mem_append_left _ (List.mem_append_left _ (List.mem_append_left _ (List.mem_append_left _ (List.mem_append_right _ h))))) (by decide +kernel))) (goodIn_sub (fun _ h => List.mem_append_left _ (List.mem_append_left _ (List.mem_append_right _ h))) (by decide +kernel))
set_option maxRecDepth 20000 in
theorem gL_law_L_stand : GoodIn wsL_law (va_wsS RL 165 yL_stand wsL_stand) := goodIn_app (goodIn_of _ (by decide +kernel)) ggL_law_L_stand
set_option maxRecDepth 20000 in
theorem ggL_law_X9_stand : GoodIn wsL_law wsX9_stand := goodIn_r _ [425, 149, 334, 376, 336, 337, 338, 5, 339, 269, 270, 174, 16, 176, 177, 261, 262, 263, 264, 265, 266, 267, 268, 340, 341, 315, 317, 318, 319, 320, 321, 322, 323, 324, 325, 326, 327, 328, 329, 32, 1448, 1449, 1450, 1451, 1452, 1453, 1454, 1455, 1456, 1496, 1497, 1498, 1499, 1500, 1501, 1502, 1503, 1504, 1505, 1506, 1507, 1508, 1509, 1457, 1458, 1459] (by decide +kernel) (by decide +kernel)
set_option maxRecDepth 20000 in
theorem gL_law_X9_stand : GoodIn wsL_law (wsV RL 168 RX9 yX9_stand wsX9_stand) := goodIn_app (goodIn_of _ (by decide +kernel)) ggL_law_X9_stand
set_option maxRecDepth 20000 in
theorem ggL_law_L_setJam : GoodIn wsL_law wsL_setJam := goodIn_ca (goodIn_ca (goodIn_r _ [428, 294, 429, 430, 431, 2, 432, 299, 300, 301, 302, 17, 303, 304, 305, 306, 307, 308, 309, 310, 311, 312, 313, 173, 174, 175, 16, 176, 177, 314, 315, 316, 317, 318, 319, 320, 321, 322, 323, 324, 325, 326, 327, 328, 329, 32, 168, 169, 170, 171, 172, 1476, 1477, 1478, 1479, 1480, 1481, 1482, 1483, 1484, 1485, 1486, 1487, 1488, 1489, 1441, 1442, 1443, 1444, 1445, 1446, 1447, 1457, 1458, 1459] (by decide +kernel) (by decide +kernel)) (goodIn_sub (fun _ h => List.mem_append_left _ (List.mem_append_left _ (List.mem_append_right _ h))) (by decide +kernel))) (goodIn_sub (fun _ h => List.mem_append_left _ (List.mem_append_left _ (List.mem_append_left _ (List.mem_append_left _ (List.mem_append_right _ h))))) (by decide +kernel))
set_option maxRecDepth 20000 in
theorem gL_law_L_setJam : GoodIn wsL_law (va_wsS RL 169 yL_setJam wsL_setJam) := goodIn_app (goodIn_of _ (by decide +kernel)) ggL_law_L_setJam
set_option maxRecDepth 20000 in
theorem ggL_law_X9_setJam : GoodIn wsL_law wsX9_setJam := goodIn_r _ [436, 149, 334, 437, 336, 337, 338, 5, 339, 269, 270, 174, 16, 176, 177, 261, 262, 263, 264, 265, 266, 267, 268, 340, 341, 315, 317, 318, 319, 320, 321, 322, 323, 324, 325, 326, 327, 328, 329, 32, 1448, 1449, 1450, 1451, 1452, 1453, 1454, 1455, 1456, 1496, 1497, 1498, 1499, 1500, 1501, 1502, 1503, 1504, 1505, 1506, 1507, 1508, 1509, 1457, 1458, 1459] (by decide +kernel) (by decide +kernel)
set_option maxRecDepth 20000 in
theorem gL_law_X9_setJam : GoodIn wsL_law (wsV RL 172 RX9 yX9_setJam wsX9_setJam) := goodIn_app (goodIn_of _ (by decide +kernel)) ggL_law_X9_setJam
set_option maxRecDepth 20000 in
theorem ggL_law_L_tap : GoodIn wsL_law wsL_tap := goodIn_ca (goodIn_r _ [440, 294, 441, 442, 443, 2, 444, 299, 300, 301, 302, 17, 303, 304, 305, 306, 307, 308, 309, 310, 311, 312, 313, 173, 174, 175, 16, 176, 177, 314, 315, 316, 317, 318, 319, 320, 321, 322, 323, 324, 325, 326, 327, 328, 329, 32, 1476, 1477, 1478, 1479, 1480, 1481, 1482, 1483, 1484, 1485, 1486, 1487, 1488, 1489, 1441, 1442, 1443, 1444, 1445, 1446, 1447, 1457, 1458, 1459] (by decide +kernel) (by decide +kernel)) (goodIn_sub (fun _ h => List.mem_append_left _ (List.mem_append_left _ (List.mem_append_right _ h))) (by decide +kernel))
set_option maxRecDepth 20000 in
theorem gL_law_L_tap : GoodIn wsL_law (va_wsS RL 173 yL_tap wsL_tap) := goodIn_app (goodIn_of _ (by decide +kernel)) ggL_law_L_tap
set_option maxRecDepth 20000 in
theorem ggL_law_X9_tap : GoodIn wsL_law wsX9_tap := goodIn_r _ [448, 149, 334, 375, 336, 337, 338, 5, 339, 269, 270, 174, 16, 176, 177, 261, 262, 263, 264, 265, 266, 267, 268, 340, 341, 315, 317, 318, 319, 320, 321, 322, 323, 324, 325, 326, 327, 328, 329, 32, 1448, 1449, 1450, 1451, 1452, 1453, 1454, 1455, 1456, 1496, 1497, 1498, 1499, 1500, 1501, 1502, 1503, 1504, 1505, 1506, 1507, 1508, 1509, 1457, 1458, 1459] (by decide +kernel) (by decide +kernel)
set_option maxRecDepth 20000 in
theorem gL_law_X9_tap : GoodIn wsL_law (wsV RL 175 RX9 yX9_tap wsX9_tap) := goodIn_app (goodIn_of _ (by decide +kernel)) ggL_law_X9_tap
set_option maxRecDepth 20000 in
theorem ggL_law_L_pour : GoodIn wsL_law wsL_pour := goodIn_ca (goodIn_ca (goodIn_ca (goodIn_r _ [451, 294, 452, 453, 454, 2, 455, 181, 182, 167, 299, 300, 301, 302, 17, 303, 304, 305, 306, 307, 308, 309, 310, 311, 312, 313, 173, 174, 175, 16, 176, 177, 314, 315, 316, 317, 318, 319, 320, 321, 322, 323, 324, 325, 326, 327, 328, 329, 32, 168, 169, 170, 171, 172, 456, 457, 458, 166, 459, 366, 194, 1476, 1477, 1478, 1479, 1480, 1481, 1482, 1483, 1484, 1485, 1486, 1487, 1488, 1489, 1441, 1442, 1443, 1444, 1445, 1446, 1447, 1457, 1458, 1459] (by decide +kernel) (by decide +kernel)) (goodIn_sub (fun _ h => List.mem_append_left _ (List.mem_append_left _ (List.mem_append_left _ (List.mem_append_right _ h)))) (by decide +kernel))) (goodIn_sub (fun _ h => List.mem_append_left _ (List.mem_append_left _ (List.mem_append_right _ h))) (by decide +kernel))) (goodIn_sub (fun _ h => List.mem_append_left _ (List.mem_append_left _ (List.mem_append_left _ (List.mem_append_left _ (List.mem_append_right _ h))))) (by decide +kernel))
set_option maxRecDepth 20000 in
theorem gL_law_L_pour : GoodIn wsL_law (va_wsS RL 176 yL_pour wsL_pour) := goodIn_app (goodIn_of _ (by decide +kernel)) ggL_law_L_pour
set_option maxRecDepth 20000 in
theorem ggL_law_X9_pour : GoodIn wsL_law wsX9_pour := goodIn_r _ [463, 149, 334, 335, 353, 336, 337, 338, 5, 339, 269, 270, 174, 16, 176, 177, 261, 262, 263, 264, 265, 266, 267, 268, 340, 341, 315, 317, 318, 319, 320, 321, 322, 323, 324, 325, 326, 327, 328, 329, 32, 1448, 1449, 1450, 1451, 1452, 1453, 1454, 1455, 1456, 1496, 1497, 1498, 1499, 1500, 1501, 1502, 1503, 1504, 1505, 1506, 1507, 1508, 1509, 1457, 1458, 1459] (by decide +kernel) (by decide +kernel)
set_option maxRecDepth 20000 in
theorem gL_law_X9_pour : GoodIn wsL_law (wsV RL 178 RX9 yX9_pour wsX9_pour) := goodIn_app (goodIn_of _ (by decide +kernel)) ggL_law_X9_pour
set_option maxRecDepth 20000 in
theorem ggL_law_L_falls : GoodIn wsL_law wsL_falls := goodIn_ca (goodIn_r _ [466, 294, 467, 468, 469, 2, 470, 299, 300, 301, 302, 17, 303, 304, 305, 306, 307, 308, 309, 310, 311, 312, 313, 173, 174, 175, 16, 176, 177, 314, 315, 316, 317, 318, 319, 320, 321, 322, 323, 324, 325, 326, 327, 328, 329, 32, 471, 472, 473, 166, 474, 366, 475, 114, 108, 115, 367, 368, 369, 370, 196, 476, 477, 478, 479, 389, 188, 187, 390, 189, 480, 481, 482, 1441, 1442, 1443, 1444, 1445, 1446, 1447, 1457, 1458, 1459, 1476, 1477, 1478, 1479, 1480, 1481, 1482, 1483, 1484, 1485, 1486, 1487, 1488, 1489] (by decide +kernel) (by decide +kernel)) (goodIn_sub (fun _ h => List.mem_append_left _ (List.mem_append_left _ (List.mem_append_right _ h))) (by decide +kernel))
set_option maxRecDepth 20000 in
theorem gL_law_L_falls : GoodIn wsL_law (va_wsS RL 179 yL_falls wsL_falls) := goodIn_app (goodIn_of _ (by decide +kernel)) ggL_law_L_falls
set_option maxRecDepth 20000 in
theorem ggL_law_X9_falls : GoodIn wsL_law wsX9_falls := goodIn_r _ [486, 149, 334, 376, 335, 336, 337, 338, 5, 339, 269, 270, 174, 16, 176, 177, 261, 262, 263, 264, 265, 266, 267, 268, 340, 341, 315, 317, 318, 319, 320, 321, 322, 323, 324, 325, 326, 327, 328, 329, 32, 487, 488, 489, 260, 490, 276, 281, 282, 491, 283, 277, 492, 114, 108, 115, 1448, 1449, 1450, 1451, 1452, 1453, 1454, 1455, 1456, 1496, 1497, 1498, 1499, 1500, 1501, 1502, 1503, 1504, 1505, 1506, 1507, 1508, 1509, 1457, 1458, 1459] (by decide +kernel) (by decide +kernel)
set_option maxRecDepth 20000 in
theorem gL_law_X9_falls : GoodIn wsL_law (wsV RL 181 RX9 yX9_falls wsX9_falls) := goodIn_app (goodIn_of _ (by decide +kernel)) ggL_law_X9_falls
set_option maxRecDepth 20000 in
theorem ggL_law_L_runTime : GoodIn wsL_law wsL_runTime := goodIn_ca (goodIn_ca (goodIn_r _ [495, 294, 496, 497, 498, 2, 499, 500, 501, 299, 300, 301, 302, 17, 303, 304, 305, 306, 307, 308, 309, 310, 311, 312, 313, 173, 174, 175, 16, 176, 177, 314, 315, 316, 317, 318, 319, 320, 321, 322, 323, 324, 325, 326, 327, 328, 329, 32, 502, 368, 369, 166, 370, 196, 503, 504, 505, 506, 366, 189, 476, 477, 478, 479, 389, 188, 187, 390, 480, 481, 482, 507, 508, 509, 1441, 1442, 1443, 1444, 1445, 1446, 1447, 1457, 1458, 1459, 1476, 1477, 1478, 1479, 1480, 1481, 1482, 1483, 1484, 1485, 1486, 1487, 1488, 1489] (by decide +kernel) (by decide +kernel)) (goodIn_sub (fun _ h => List.mem_append_left _ (List.mem_append_right _ h)) (by decide +kernel))) (goodIn_sub (fun _ h => List.mem_append_left _ (List.mem_append_left _ (List.mem_append_right _ h))) (by decide +kernel))
set_option maxRecDepth 20000 in
theorem gL_law_L_runTime : GoodIn wsL_law (va_wsS RL 182 yL_runTime wsL_runTime) := goodIn_app (goodIn_of _ (by decide +kernel)) ggL_law_L_runTime
set_option maxRecDepth 20000 in
theorem ggL_law_X9_runTime : GoodIn wsL_law wsX9_runTime := goodIn_r _ [513, 149, 334, 376, 335, 336, 337, 338, 5, 339, 269, 270, 174, 16, 176, 177, 261, 262, 263, 264, 265, 266, 267, 268, 340, 341, 315, 317, 318, 319, 320, 321, 322, 323, 324, 325, 326, 327, 328, 329, 32, 487, 488, 489, 260, 490, 276, 281, 282, 491, 283, 277, 492, 114, 108, 115, 1448, 1449, 1450, 1451, 1452, 1453, 1454, 1455, 1456, 1496, 1497, 1498, 1499, 1500, 1501, 1502, 1503, 1504, 1505, 1506, 1507, 1508, 1509, 1457, 1458, 1459] (by decide +kernel) (by decide +kernel)
set_option maxRecDepth 20000 in
theorem gL_law_X9_runTime : GoodIn wsL_law (wsV RL 184 RX9 yX9_runTime wsX9_runTime) := goodIn_app (goodIn_of _ (by decide +kernel)) ggL_law_X9_runTime
set_option maxRecDepth 20000 in
theorem ggL_law_L_feed : GoodIn wsL_law wsL_feed := goodIn_ca (goodIn_ca (goodIn_r _ [516, 294, 517, 518, 519, 2, 520, 299, 300, 301, 302, 17, 303, 304, 305, 306, 307, 308, 309, 310, 311, 312, 313, 173, 174, 175, 16, 176, 177, 314, 315, 316, 317, 318, 319, 320, 321, 322, 323, 324, 325, 326, 327, 328, 329, 32, 521, 522, 523, 500, 501, 1476, 1477, 1478, 1479, 1480, 1481, 1482, 1483, 1484, 1485, 1486, 1487, 1488, 1489, 1441, 1442, 1443, 1444, 1445, 1446, 1447, 1457, 1458, 1459] (by decide +kernel) (by decide +kernel)) (goodIn_sub (fun _ h => List.mem_append_left _ (List.mem_append_left _ (List.mem_append_right _ h))) (by decide +kernel))) (goodIn_sub (fun _ h => List.mem_append_left _ (List.mem_append_right _ h)) (by decide +kernel))
set_option maxRecDepth 20000 in
theorem gL_law_L_feed : GoodIn wsL_law (va_wsS RL 185 yL_feed wsL_feed) := goodIn_app (goodIn_of _ (by decide +kernel)) ggL_law_L_feed
set_option maxRecDepth 20000 in
theorem ggL_law_X9_feed : GoodIn wsL_law wsX9_feed := goodIn_r _ [527, 149, 334, 528, 336, 337, 338, 5, 339, 269, 270, 174, 16, 176, 177, 261, 262, 263, 264, 265, 266, 267, 268, 340, 341, 315, 317, 318, 319, 320, 321, 322, 323, 324, 325, 326, 327, 328, 329, 32, 1448, 1449, 1450, 1451, 1452, 1453, 1454, 1455, 1456, 1496, 1497, 1498, 1499, 1500, 1501, 1502, 1503, 1504, 1505, 1506, 1507, 1508, 1509, 1457, 1458, 1459] (by decide +kernel) (by decide +kernel)
set_option maxRecDepth 20000 in
theorem gL_law_X9_feed : GoodIn wsL_law (wsV RL 187 RX9 yX9_feed wsX9_feed) := goodIn_app (goodIn_of _ (by decide +kernel)) ggL_law_X9_feed
set_option maxRecDepth 20000 in
theorem ggL_law_X6_grains : GoodIn wsL_law wsX6_grains := goodIn_r _ [532, 17, 303, 173, 174, 175, 16, 176, 177, 314, 315, 316, 317, 318, 319, 320, 321, 322, 323, 324, 325, 326, 327, 328, 329, 32, 456, 457, 458, 166, 459, 366, 194, 1441, 1442, 1443, 1444, 1445, 1446, 1447, 1457, 1458, 1459, 1476, 1477, 1478, 1479, 1480, 1481, 1482, 1483, 1484, 1485, 1486, 1487, 1488, 1489] (by decide +kernel) (by decide +kernel)
set_option maxRecDepth 20000 in
theorem gL_law_X6_grains : GoodIn wsL_law (wsV RL 188 RX6 yX6_grains wsX6_grains) := goodIn_app (goodIn_of _ (by decide +kernel)) ggL_law_X6_grains
set_option maxRecDepth 20000 in
theorem ggL_law_X9_grains : GoodIn wsL_law wsX9_grains := goodIn_r _ [536, 537, 538, 539, 5, 540, 149, 334, 335, 353, 541, 542, 543, 16, 544, 545, 546, 547, 548, 549, 550, 551, 552, 12, 13, 553, 554, 209, 555, 556, 557, 558, 559, 560, 561, 562, 563, 564, 565, 566, 567, 568, 569, 1448, 1449, 1450, 1451, 1452, 1453, 1454, 1455, 1456, 1496, 1497, 1498, 1499, 1500, 1501, 1502, 1503, 1504, 1505, 1506, 1507, 1508, 1509, 1510, 1511, 1512, 1513, 1457, 1458, 1459] (by decide +kernel) (by decide +kernel)
set_option maxRecDepth 20000 in
theorem gL_law_X9_grains : GoodIn wsL_law (wsV RL 191 RX9 yX9_grains wsX9_grains) := goodIn_app (goodIn_of _ (by decide +kernel)) ggL_law_X9_grains
set_option maxRecDepth 20000 in
theorem ggL_law_L_pass : GoodIn wsL_law wsL_pass := goodIn_ca (goodIn_ca (goodIn_r _ [572, 159, 573, 574, 575, 2, 576, 181, 182, 384, 168, 169, 170, 171, 172, 577, 578, 579, 580, 17, 303, 173, 174, 175, 16, 176, 177, 314, 315, 316, 317, 318, 319, 320, 321, 322, 323, 324, 325, 326, 327, 328, 329, 32, 581, 582, 583, 584, 502, 368, 369, 166, 370, 196, 585, 586, 587, 588, 27, 589, 590, 471, 472, 473, 474, 366, 475, 114, 108, 115, 367, 476, 477, 478, 479, 389, 188, 187, 390, 189, 480, 481, 482, 310, 311, 312, 313, 591, 592, 593, 594, 18, 595, 596, 597, 598, 599, 600, 601, 602, 603, 604, 605, 606, 607, 608, 609, 610, 611, 612, 613, 614, 615, 616, 617, 193, 391, 618, 619, 620, 192, 621, 622, 202, 623, 624, 625, 626, 627, 83, 84, 49, 85, 64, 628, 87, 88, 89, 1441, 1442, 1443, 1444, 1445, 1446, 1447, 1457, 1458, 1459, 1476, 1477, 1478, 1479, 1480, 1481, 1482, 1483, 1484, 1485, 1486, 1487, 1488, 1489, 1514, 1515, 1516, 1517, 1518, 1519, 1490, 1491, 1475] (by decide +kernel) (by decide +kernel)) (goodIn_sub (fun _ h => List.mem_append_left _ (List.mem_append_left _ (List.mem_append_left _ (List.mem_append_right _ h)))) (by decide +kernel))) (goodIn_sub (fun _ h => List.mem_append_left _ (List.mem_append_left _ (List.mem_append_left _ (List.mem_append_left _ (List.mem_append_right _ h))))) (by decide +kernel))
set_option maxRecDepth 20000 in
theorem gL_law_L_pass : GoodIn wsL_law (va_wsS RL 192 yL_pass wsL_pass) := goodIn_app (goodIn_of _ (by decide +kernel)) ggL_law_L_pass
set_option maxRecDepth 20000 in
theorem ggL_law_X9_pass : GoodIn wsL_law wsX9_pass := goodIn_r _ [632, 402, 149, 334, 633, 335, 401, 634, 403, 261, 262, 5, 263, 264, 265, 266, 267, 268, 269, 270, 174, 16, 176, 177, 635, 636, 637, 638, 376, 375, 437, 152, 639, 640, 528, 353, 150, 641, 642, 340, 341, 315, 317, 318, 319, 320, 321, 322, 323, 324, 325, 326, 327, 328, 329, 32, 487, 488, 489, 260, 490, 276, 281, 282, 491, 283, 277, 492, 114, 108, 115, 541, 542, 543, 544, 545, 546, 547, 548, 549, 550, 551, 552, 12, 13, 553, 554, 209, 555, 556, 557, 558, 559, 560, 561, 562, 563, 564, 565, 566, 567, 568, 569, 643, 644, 645, 646, 647, 648, 649, 650, 651, 652, 653, 654, 655, 656, 657, 658, 659, 660, 661, 662, 663, 664, 665, 666, 667, 668, 669, 670, 671, 672, 130, 673, 674, 675, 676, 677, 678, 679, 680, 681, 682, 683, 684, 685, 686, 687, 688, 689, 690, 691, 692, 693, 694, 695, 696, 697, 698, 699, 700, 701, 702, 703, 704, 705, 706, 285, 286, 205, 207, 208, 210, 211, 212, 213, 214, 215, 216, 217, 218, 219, 220, 221, 31, 222, 107, 109, 223, 224, 225, 226, 227, 228, 229, 230, 231, 232, 233, 234, 235, 236, 237, 238, 239, 240, 241, 242, 243, 244, 245, 246, 247, 248, 249, 250, 251, 252, 253, 707, 708, 709, 710, 711, 712, 713, 714, 715, 1448, 1449, 1450, 1451, 1452, 1453, 1454, 1455, 1456, 1496, 1497, 1498, 1499, 1500, 1501, 1502, 1503, 1504, 1505, 1506, 1507, 1508, 1509, 1457, 1458, 1459, 1520, 1521, 1522, 1523, 1524, 1510, 1511, 1512, 1513, 1525, 1526, 1527, 1528, 1529, 1492, 1493, 1494, 1495] (by decide +kernel) (by decide +kernel)
set_option maxRecDepth 20000 in
theorem gL_law_X9_pass : GoodIn wsL_law (wsV RL 194 RX9 yX9_pass wsX9_pass) := goodIn_app (goodIn_of _ (by decide +kernel)) ggL_law_X9_pass
set_option maxRecDepth 20000 in
theorem ggL_law_X6_time : GoodIn wsL_law wsX6_time := goodIn_r _ [719, 384, 1441, 1442, 1443, 1444, 1445, 1446, 1447] (by decide +kernel) (by decide +kernel)
set_option maxRecDepth 20000 in
theorem gL_law_X6_time : GoodIn wsL_law (wsV RL 195 RX6 yX6_time wsX6_time) := goodIn_app (goodIn_of _ (by decide +kernel)) ggL_law_X6_time
set_option maxRecDepth 20000 in
theorem ggL_law_X9_time : GoodIn wsL_law wsX9_time := goodIn_r _ [723, 402, 1448, 1449, 1450, 1451, 1452, 1453, 1454, 1455, 1456] (by decide +kernel) (by decide +kernel)
set_option maxRecDepth 20000 in
theorem gL_law_X9_time : GoodIn wsL_law (wsV RL 198 RX9 yX9_time wsX9_time) := goodIn_app (goodIn_of _ (by decide +kernel)) ggL_law_X9_time
set_option maxRecDepth 20000 in
theorem ggL_law_L_seed : GoodIn wsL_law wsL_seed := goodIn_ca (goodIn_r _ [726, 159, 727, 728, 729, 2, 730, 731, 27, 168, 169, 170, 171, 172, 1441, 1442, 1443, 1444, 1445, 1446, 1447] (by decide +kernel) (by decide +kernel)) (goodIn_sub (fun _ h => List.mem_append_left _ (List.mem_append_left _ (List.mem_append_left _ (List.mem_append_left _ (List.mem_append_right _ h))))) (by decide +kernel))
set_option maxRecDepth 20000 in
theorem gL_law_L_seed : GoodIn wsL_law (va_wsS RL 199 yL_seed wsL_seed) := goodIn_app (goodIn_of _ (by decide +kernel)) ggL_law_L_seed
set_option maxRecDepth 20000 in
theorem ggL_law_X9_seed : GoodIn wsL_law wsX9_seed := goodIn_r _ [735, 736, 152, 261, 262, 5, 263, 264, 265, 266, 267, 268, 1448, 1449, 1450, 1451, 1452, 1453, 1454, 1455, 1456] (by decide +kernel) (by decide +kernel)
set_option maxRecDepth 20000 in
theorem gL_law_X9_seed : GoodIn wsL_law (wsV RL 201 RX9 yX9_seed wsX9_seed) := goodIn_app (goodIn_of _ (by decide +kernel)) ggL_law_X9_seed
set_option maxRecDepth 20000 in
theorem ggL_law_L_gateAt : GoodIn wsL_law wsL_gateAt := goodIn_ca (goodIn_ca (goodIn_ca (goodIn_r _ [739, 294, 740, 741, 742, 2, 743, 304, 305, 306, 307, 308, 309, 310, 311, 312, 313, 17, 173, 174, 175, 16, 176, 177, 744, 745, 746, 747, 18, 748, 749, 607, 168, 169, 170, 171, 172, 178, 179, 180, 181, 182, 750, 751, 752, 753, 12, 13, 754, 755, 610, 204, 205, 206, 207, 208, 209, 32, 210, 211, 212, 213, 214, 215, 216, 217, 218, 219, 220, 221, 31, 222, 107, 108, 109, 223, 224, 225, 226, 227, 228, 229, 230, 231, 232, 233, 234, 235, 236, 237, 238, 239, 240, 241, 242, 243, 244, 245, 246, 247, 248, 249, 114, 115, 250, 251, 252, 253, 1441, 1442, 1443, 1444, 1445, 1446, 1447, 1457, 1458, 1459, 1514, 1515, 1516, 1517, 1518, 1519, 1492, 1493, 1494, 1495] (by decide +kernel) (by decide +kernel)) (goodIn_sub (fun _ h => List.mem_append_left _ (List.mem_append_left _ (List.mem_append_right _ h))) (by decide +kernel))) (goodIn_sub (fun _ h => List.mem_append_left _ (List.mem_append_left _ (List.mem_append_left _ (List.mem_append_left _ (List.mem_append_right _ h))))) (by decide +kernel))) (goodIn_sub (fun _ h => List.mem_append_left _ (List.mem_append_left _ (List.mem_append_left _ (List.mem_append_right _ h)))) (by decide +kernel))
set_option maxRecDepth 20000 in
theorem gL_law_L_gateAt : GoodIn wsL_law (va_wsS RL 202 yL_gateAt wsL_gateAt) := goodIn_app (goodIn_of _ (by decide +kernel)) ggL_law_L_gateAt
set_option maxRecDepth 20000 in
theorem ggL_law_X9_gateAt : GoodIn wsL_law wsX9_gateAt := goodIn_r _ [759, 150, 760, 761, 762, 336, 337, 338, 5, 339, 149, 269, 270, 174, 16, 176, 177, 261, 262, 263, 264, 265, 266, 267, 268, 763, 764, 765, 766, 12, 13, 767, 768, 769, 770, 771, 772, 773, 285, 286, 205, 207, 208, 209, 32, 210, 211, 212, 213, 214, 215, 216, 217, 218, 219, 220, 221, 31, 222, 107, 108, 109, 223, 224, 225, 226, 227, 228, 229, 230, 231, 232, 233, 234, 235, 236, 237, 238, 239, 240, 241, 242, 243, 244, 245, 246, 247, 248, 249, 114, 115, 250, 251, 252, 253, 1448, 1449, 1450, 1451, 1452, 1453, 1454, 1455, 1456, 1520, 1521, 1522, 1523, 1524, 1457, 1458, 1459, 1492, 1493, 1494, 1495] (by decide +kernel) (by decide +kernel)
set_option maxRecDepth 20000 in
theorem gL_law_X9_gateAt : GoodIn wsL_law (wsV RL 204 RX9 yX9_gateAt wsX9_gateAt) := goodIn_app (goodIn_of _ (by decide +kernel)) ggL_law_X9_gateAt
set_option maxRecDepth 20000 in
theorem ggL_law_L_gateBehind : GoodIn wsL_law wsL_gateBehind := goodIn_ca (goodIn_ca (goodIn_ca (goodIn_r _ [776, 294, 777, 778, 779, 2, 780, 781, 782, 783, 784, 308, 309, 600, 601, 602, 603, 18, 173, 174, 175, 16, 176, 177, 744, 745, 746, 747, 748, 749, 607, 168, 169, 170, 171, 172, 178, 179, 180, 181, 182, 750, 751, 752, 753, 12, 13, 754, 755, 610, 204, 205, 206, 207, 208, 209, 32, 210, 211, 212, 213, 214, 215, 216, 217, 218, 219, 220, 221, 31, 222, 107, 108, 109, 223, 224, 225, 226, 227, 228, 229, 230, 231, 232, 233, 234, 235, 236, 237, 238, 239, 240, 241, 242, 243, 244, 245, 246, 247, 248, 249, 114, 115, 250, 251, 252, 253, 1441, 1442, 1443, 1444, 1445, 1446, 1447, 1457, 1458, 1459, 1514, 1515, 1516, 1517, 1518, 1519, 1492, 1493, 1494, 1495] (by decide +kernel) (by decide +kernel)) (goodIn_sub (fun _ h => List.mem_append_left _ (List.mem_append_left _ (List.mem_append_right _ h))) (by decide +kernel))) (goodIn_sub (fun _ h => List.mem_append_left _ (List.mem_append_left _ (List.mem_append_left _ (List.mem_append_left _ (List.mem_append_right _ h))))) (by decide +kernel))) (goodIn_sub (fun _ h => List.mem_append_left _ (List.mem_append_left _ (List.mem_append_left _ (List.mem_append_right _ h)))) (by decide +kernel))
set_option maxRecDepth 20000 in
theorem gL_law_L_gateBehind : GoodIn wsL_law (va_wsS RL 205 yL_gateBehind wsL_gateBehind) := goodIn_app (goodIn_of _ (by decide +kernel)) ggL_law_L_gateBehind
set_option maxRecDepth 20000 in
theorem ggL_law_X9_gateBehind : GoodIn wsL_law wsX9_gateBehind := goodIn_r _ [788, 150, 760, 761, 762, 789, 790, 791, 5, 792, 269, 270, 174, 16, 176, 177, 261, 262, 263, 264, 265, 266, 267, 268, 763, 764, 765, 766, 12, 13, 767, 768, 769, 770, 771, 772, 773, 285, 286, 205, 207, 208, 209, 32, 210, 211, 212, 213, 214, 215, 216, 217, 218, 219, 220, 221, 31, 222, 107, 108, 109, 223, 224, 225, 226, 227, 228, 229, 230, 231, 232, 233, 234, 235, 236, 237, 238, 239, 240, 241, 242, 243, 244, 245, 246, 247, 248, 249, 114, 115, 250, 251, 252, 253, 1448, 1449, 1450, 1451, 1452, 1453, 1454, 1455, 1456, 1520, 1521, 1522, 1523, 1524, 1457, 1458, 1459, 1492, 1493, 1494, 1495] (by decide +kernel) (by decide +kernel)
set_option maxRecDepth 20000 in
theorem gL_law_X9_gateBehind : GoodIn wsL_law (wsV RL 207 RX9 yX9_gateBehind wsX9_gateBehind) := goodIn_app (goodIn_of _ (by decide +kernel)) ggL_law_X9_gateBehind
set_option maxRecDepth 20000 in
theorem ggL_law_L_tips : GoodIn wsL_law wsL_tips := goodIn_ca (goodIn_r _ [795, 294, 796, 797, 798, 2, 799, 800, 801, 802, 803, 18, 595, 781, 782, 783, 784, 308, 309, 600, 601, 602, 603, 173, 174, 175, 16, 176, 177, 314, 315, 316, 317, 318, 319, 320, 321, 322, 323, 324, 325, 326, 327, 328, 329, 32, 1514, 1515, 1516, 1517, 1518, 1519, 1441, 1442, 1443, 1444, 1445, 1446, 1447, 1457, 1458, 1459] (by decide +kernel) (by decide +kernel)) (goodIn_sub (fun _ h => List.mem_append_left _ (List.mem_append_left _ (List.mem_append_right _ h))) (by decide +kernel))
set_option maxRecDepth 20000 in
theorem gL_law_L_tips : GoodIn wsL_law (va_wsS RL 208 yL_tips wsL_tips) := goodIn_app (goodIn_of _ (by decide +kernel)) ggL_law_L_tips
set_option maxRecDepth 20000 in
theorem ggL_law_X9_tips : GoodIn wsL_law wsX9_tips := goodIn_r _ [807, 150, 641, 649, 789, 790, 791, 5, 792, 269, 270, 174, 16, 176, 177, 261, 262, 263, 264, 265, 266, 267, 268, 340, 341, 315, 317, 318, 319, 320, 321, 322, 323, 324, 325, 326, 327, 328, 329, 32, 1448, 1449, 1450, 1451, 1452, 1453, 1454, 1455, 1456, 1520, 1521, 1522, 1523, 1524, 1457, 1458, 1459] (by decide +kernel) (by decide +kernel)
set_option maxRecDepth 20000 in
theorem gL_law_X9_tips : GoodIn wsL_law (wsV RL 210 RX9 yX9_tips wsX9_tips) := goodIn_app (goodIn_of _ (by decide +kernel)) ggL_law_X9_tips
set_option maxRecDepth 20000 in
theorem ggL_law_L_filled : GoodIn wsL_law wsL_filled := goodIn_ca (goodIn_r _ [810, 294, 811, 812, 813, 2, 814, 800, 801, 802, 803, 18, 595, 781, 782, 783, 784, 308, 309, 600, 601, 602, 603, 173, 174, 175, 16, 176, 177, 314, 315, 316, 317, 318, 319, 320, 321, 322, 323, 324, 325, 326, 327, 328, 329, 32, 1514, 1515, 1516, 1517, 1518, 1519, 1441, 1442, 1443, 1444, 1445, 1446, 1447, 1457, 1458, 1459] (by decide +kernel) (by decide +kernel)) (goodIn_sub (fun _ h => List.mem_append_left _ (List.mem_append_left _ (List.mem_append_right _ h))) (by decide +kernel))
set_option maxRecDepth 20000 in
theorem gL_law_L_filled : GoodIn wsL_law (va_wsS RL 211 yL_filled wsL_filled) := goodIn_app (goodIn_of _ (by decide +kernel)) ggL_law_L_filled
set_option maxRecDepth 20000 in
theorem ggL_law_X9_filled : GoodIn wsL_law wsX9_filled := goodIn_r _ [818, 150, 641, 647, 789, 790, 791, 5, 792, 269, 270, 174, 16, 176, 177, 261, 262, 263, 264, 265, 266, 267, 268, 340, 341, 315, 317, 318, 319, 320, 321, 322, 323, 324, 325, 326, 327, 328, 329, 32, 1448, 1449, 1450, 1451, 1452, 1453, 1454, 1455, 1456, 1520, 1521, 1522, 1523, 1524, 1457, 1458, 1459] (by decide +kernel) (by decide +kernel)
set_option maxRecDepth 20000 in
theorem gL_law_X9_filled : GoodIn wsL_law (wsV RL 213 RX9 yX9_filled wsX9_filled) := goodIn_app (goodIn_of _ (by decide +kernel)) ggL_law_X9_filled
set_option maxRecDepth 20000 in
theorem ggL_law_L_runs : GoodIn wsL_law wsL_runs := goodIn_ca (goodIn_r _ [821, 294, 822, 823, 824, 2, 825, 299, 300, 301, 302, 17, 303, 304, 305, 306, 307, 308, 309, 310, 311, 312, 313, 173, 174, 175, 16, 176, 177, 314, 315, 316, 317, 318, 319, 320, 321, 322, 323, 324, 325, 326, 327, 328, 329, 32, 1476, 1477, 1478, 1479, 1480, 1481, 1482, 1483, 1484, 1485, 1486, 1487, 1488, 1489, 1490, 1491, 1441, 1442, 1443, 1444, 1445, 1446, 1447, 1457, 1458, 1459] (by decide +kernel) (by decide +kernel)) (goodIn_sub (fun _ h => List.mem_append_left _ (List.mem_append_left _ (List.mem_append_right _ h))) (by decide +kernel))
set_option maxRecDepth 20000 in
theorem gL_law_L_runs : GoodIn wsL_law (va_wsS RL 214 yL_runs wsL_runs) := goodIn_app (goodIn_of _ (by decide +kernel)) ggL_law_L_runs
set_option maxRecDepth 20000 in
theorem ggL_law_X9_runs : GoodIn wsL_law wsX9_runs := goodIn_r _ [829, 149, 334, 634, 336, 337, 338, 5, 339, 269, 270, 174, 16, 176, 177, 261, 262, 263, 264, 265, 266, 267, 268, 340, 341, 315, 317, 318, 319, 320, 321, 322, 323, 324, 325, 326, 327, 328, 329, 32, 1448, 1449, 1450, 1451, 1452, 1453, 1454, 1455, 1456, 1496, 1497, 1498, 1499, 1500, 1501, 1502, 1503, 1504, 1505, 1506, 1507, 1508, 1509, 1457, 1458, 1459] (by decide +kernel) (by decide +kernel)
set_option maxRecDepth 20000 in
theorem gL_law_X9_runs : GoodIn wsL_law (wsV RL 216 RX9 yX9_runs wsX9_runs) := goodIn_app (goodIn_of _ (by decide +kernel)) ggL_law_X9_runs
set_option maxRecDepth 20000 in
theorem ggL_law_L_runAt : GoodIn wsL_law wsL_runAt := goodIn_ca (goodIn_ca (goodIn_r _ [832, 294, 833, 834, 835, 2, 836, 837, 838, 299, 300, 301, 302, 17, 303, 304, 305, 306, 307, 308, 309, 310, 311, 312, 313, 173, 174, 175, 16, 176, 177, 314, 315, 316, 317, 318, 319, 320, 321, 322, 323, 324, 325, 326, 327, 328, 329, 32, 839, 83, 84, 49, 85, 64, 1476, 1477, 1478, 1479, 1480, 1481, 1482, 1483, 1484, 1485, 1486, 1487, 1488, 1489, 1490, 1491, 1441, 1442, 1443, 1444, 1445, 1446, 1447, 1457, 1458, 1459, 1475] (by decide +kernel) (by decide +kernel)) (goodIn_sub (fun _ h => List.mem_append_right _ h) (by decide +kernel))) (goodIn_sub (fun _ h => List.mem_append_left _ (List.mem_append_left _ (List.mem_append_right _ h))) (by decide +kernel))
set_option maxRecDepth 20000 in
theorem gL_law_L_runAt : GoodIn wsL_law (va_wsS RL 217 yL_runAt wsL_runAt) := goodIn_app (goodIn_of _ (by decide +kernel)) ggL_law_L_runAt
set_option maxRecDepth 20000 in
theorem ggL_law_X9_runAt : GoodIn wsL_law wsX9_runAt := goodIn_r _ [843, 149, 334, 634, 844, 336, 337, 338, 5, 339, 269, 270, 174, 16, 176, 177, 261, 262, 263, 264, 265, 266, 267, 268, 340, 341, 315, 317, 318, 319, 320, 321, 322, 323, 324, 325, 326, 327, 328, 329, 32, 845, 677, 678, 130, 679, 675, 1448, 1449, 1450, 1451, 1452, 1453, 1454, 1455, 1456, 1496, 1497, 1498, 1499, 1500, 1501, 1502, 1503, 1504, 1505, 1506, 1507, 1508, 1509, 1457, 1458, 1459, 1525] (by decide +kernel) (by decide +kernel)
set_option maxRecDepth 20000 in
theorem gL_law_X9_runAt : GoodIn wsL_law (wsV RL 219 RX9 yX9_runAt wsX9_runAt) := goodIn_app (goodIn_of _ (by decide +kernel)) ggL_law_X9_runAt
set_option maxRecDepth 20000 in
theorem ggL_law_L_meanRun : GoodIn wsL_law wsL_meanRun := goodIn_ca (goodIn_ca (goodIn_r _ [848, 294, 849, 850, 851, 2, 852, 299, 300, 301, 302, 17, 303, 304, 305, 306, 307, 308, 309, 310, 311, 312, 313, 173, 174, 175, 16, 176, 177, 314, 315, 316, 317, 318, 319, 320, 321, 322, 323, 324, 325, 326, 327, 328, 329, 32, 853, 854, 855, 837, 838, 856, 857, 858, 192, 859, 622, 202, 627, 83, 84, 49, 85, 64, 1476, 1477, 1478, 1479, 1480, 1481, 1482, 1483, 1484, 1485, 1486, 1487, 1488, 1489, 1441, 1442, 1443, 1444, 1445, 1446, 1447, 1457, 1458, 1459, 1490, 1491, 1475] (by decide +kernel) (by decide +kernel)) (goodIn_sub (fun _ h => List.mem_append_left _ (List.mem_append_left _ (List.mem_append_right _ h))) (by decide +kernel))) (goodIn_sub (fun _ h => List.mem_append_right _ h) (by decide +kernel))
set_option maxRecDepth 20000 in
theorem gL_law_L_meanRun : GoodIn wsL_law (va_wsS RL 220 yL_meanRun wsL_meanRun) := goodIn_app (goodIn_of _ (by decide +kernel)) ggL_law_L_meanRun
set_option maxRecDepth 20000 in
theorem ggL_law_X9_meanRun : GoodIn wsL_law wsX9_meanRun := goodIn_r _ [863, 149, 334, 634, 844, 336, 337, 338, 5, 339, 269, 270, 174, 16, 176, 177, 261, 262, 263, 264, 265, 266, 267, 268, 340, 341, 315, 317, 318, 319, 320, 321, 322, 323, 324, 325, 326, 327, 328, 329, 32, 864, 865, 866, 867, 541, 542, 543, 544, 545, 546, 547, 548, 549, 550, 551, 552, 12, 13, 553, 554, 209, 555, 556, 557, 558, 559, 560, 561, 562, 563, 564, 565, 566, 567, 568, 569, 845, 677, 678, 130, 679, 675, 1448, 1449, 1450, 1451, 1452, 1453, 1454, 1455, 1456, 1496, 1497, 1498, 1499, 1500, 1501, 1502, 1503, 1504, 1505, 1506, 1507, 1508, 1509, 1457, 1458, 1459, 1510, 1511, 1512, 1513, 1525] (by decide +kernel) (by decide +kernel)
set_option maxRecDepth 20000 in
theorem gL_law_X9_meanRun : GoodIn wsL_law (wsV RL 223 RX9 yX9_meanRun wsX9_meanRun) := goodIn_app (goodIn_of _ (by decide +kernel)) ggL_law_X9_meanRun
set_option maxRecDepth 20000 in
theorem ggL_law_L_spread : GoodIn wsL_law wsL_spread := goodIn_ca (goodIn_ca (goodIn_r _ [870, 294, 871, 872, 873, 2, 874, 299, 300, 301, 302, 17, 303, 304, 305, 306, 307, 308, 309, 310, 311, 312, 313, 173, 174, 175, 16, 176, 177, 314, 315, 316, 317, 318, 319, 320, 321, 322, 323, 324, 325, 326, 327, 328, 329, 32, 853, 854, 855, 837, 838, 875, 876, 877, 192, 878, 202, 622, 879, 107, 108, 109, 880, 114, 115, 627, 83, 84, 49, 85, 64, 1476, 1477, 1478, 1479, 1480, 1481, 1482, 1483, 1484, 1485, 1486, 1487, 1488, 1489, 1441, 1442, 1443, 1444, 1445, 1446, 1447, 1457, 1458, 1459, 1490, 1491, 1475] (by decide +kernel) (by decide +kernel)) (goodIn_sub (fun _ h => List.mem_append_left _ (List.mem_append_left _ (List.mem_append_right _ h))) (by decide +kernel))) (goodIn_sub (fun _ h => List.mem_append_right _ h) (by decide +kernel))
set_option maxRecDepth 20000 in
theorem gL_law_L_spread : GoodIn wsL_law (va_wsS RL 224 yL_spread wsL_spread) := goodIn_app (goodIn_of _ (by decide +kernel)) ggL_law_L_spread
set_option maxRecDepth 20000 in
theorem ggL_law_X9_spread : GoodIn wsL_law wsX9_spread := goodIn_r _ [884, 149, 334, 634, 336, 337, 338, 5, 339, 269, 270, 174, 16, 176, 177, 261, 262, 263, 264, 265, 266, 267, 268, 340, 341, 315, 317, 318, 319, 320, 321, 322, 323, 324, 325, 326, 327, 328, 329, 32, 885, 886, 887, 260, 888, 889, 279, 890, 492, 114, 108, 115, 891, 107, 109, 892, 542, 543, 544, 545, 546, 547, 548, 549, 550, 551, 552, 12, 13, 553, 554, 209, 555, 893, 557, 558, 559, 560, 894, 562, 563, 564, 565, 566, 567, 568, 569, 895, 677, 678, 130, 679, 675, 1448, 1449, 1450, 1451, 1452, 1453, 1454, 1455, 1456, 1496, 1497, 1498, 1499, 1500, 1501, 1502, 1503, 1504, 1505, 1506, 1507, 1508, 1509, 1457, 1458, 1459, 1510, 1511, 1512, 1513, 1525] (by decide +kernel) (by decide +kernel)
set_option maxRecDepth 20000 in
theorem gL_law_X9_spread : GoodIn wsL_law (wsV RL 226 RX9 yX9_spread wsX9_spread) := goodIn_app (goodIn_of _ (by decide +kernel)) ggL_law_X9_spread
set_option maxRecDepth 20000 in
theorem ggL_law_L_steadiest : GoodIn wsL_law wsL_steadiest := goodIn_ca (goodIn_r _ [898, 899, 900, 901, 902, 2, 903, 837, 838, 17, 303, 173, 174, 175, 16, 176, 177, 314, 315, 316, 317, 318, 319, 320, 321, 322, 323, 324, 325, 326, 327, 328, 329, 32, 875, 876, 877, 192, 878, 202, 622, 879, 107, 108, 109, 880, 114, 115, 627, 83, 84, 49, 85, 64, 1441, 1442, 1443, 1444, 1445, 1446, 1447, 1476, 1477, 1478, 1479, 1480, 1481, 1482, 1483, 1484, 1485, 1486, 1487, 1488, 1489, 1490, 1491, 1457, 1458, 1459, 1475] (by decide +kernel) (by decide +kernel)) (goodIn_sub (fun _ h => List.mem_append_right _ h) (by decide +kernel))
set_option maxRecDepth 20000 in
theorem gL_law_L_steadiest : GoodIn wsL_law (va_wsS RL 227 yL_steadiest wsL_steadiest) := goodIn_app (goodIn_of _ (by decide +kernel)) ggL_law_L_steadiest
set_option maxRecDepth 20000 in
theorem ggL_law_X9_steadiest : GoodIn wsL_law wsX9_steadiest := goodIn_r _ [907, 149, 334, 634, 269, 270, 174, 16, 176, 177, 340, 341, 315, 317, 318, 319, 320, 321, 322, 323, 324, 325, 326, 327, 328, 329, 32, 885, 886, 887, 260, 888, 889, 279, 890, 492, 114, 108, 115, 891, 107, 109, 892, 542, 543, 544, 545, 546, 547, 548, 549, 550, 551, 552, 12, 13, 553, 554, 209, 555, 893, 557, 558, 559, 560, 894, 562, 563, 564, 565, 566, 567, 568, 569, 895, 677, 678, 130, 679, 675, 264, 265, 266, 5, 267, 268, 1448, 1449, 1450, 1451, 1452, 1453, 1454, 1455, 1456, 1496, 1497, 1498, 1499, 1500, 1501, 1502, 1503, 1504, 1505, 1506, 1507, 1508, 1509, 1457, 1458, 1459, 1510, 1511, 1512, 1513, 1525] (by decide +kernel) (by decide +kernel)
set_option maxRecDepth 20000 in
theorem gL_law_X9_steadiest : GoodIn wsL_law (wsV RL 230 RX9 yX9_steadiest wsX9_steadiest) := goodIn_app (goodIn_of _ (by decide +kernel)) ggL_law_X9_steadiest
set_option maxRecDepth 20000 in
theorem ggL_law_L_knots : GoodIn wsL_law wsL_knots := goodIn_ca (goodIn_ca (goodIn_ca (goodIn_r _ [910, 294, 911, 912, 913, 2, 914, 299, 300, 301, 302, 17, 303, 304, 305, 306, 307, 308, 309, 310, 311, 312, 313, 173, 174, 175, 16, 176, 177, 314, 315, 316, 317, 318, 319, 320, 321, 322, 323, 324, 325, 326, 327, 328, 329, 32, 168, 169, 170, 171, 172, 853, 854, 855, 837, 838, 839, 83, 84, 49, 85, 64, 1476, 1477, 1478, 1479, 1480, 1481, 1482, 1483, 1484, 1485, 1486, 1487, 1488, 1489, 1490, 1491, 1441, 1442, 1443, 1444, 1445, 1446, 1447, 1457, 1458, 1459, 1475] (by decide +kernel) (by decide +kernel)) (goodIn_sub (fun _ h => List.mem_append_left _ (List.mem_append_left _ (List.mem_append_right _ h))) (by decide +kernel))) (goodIn_sub (fun _ h => List.mem_append_left _ (List.mem_append_left _ (List.mem_append_left _ (List.mem_append_left _ (List.mem_append_right _ h))))) (by decide +kernel))) (goodIn_sub (fun _ h => List.mem_append_right _ h) (by decide +kernel))
set_option maxRecDepth 20000 in
theorem gL_law_L_knots : GoodIn wsL_law (va_wsS RL 231 yL_knots wsL_knots) := goodIn_app (goodIn_of _ (by decide +kernel)) ggL_law_L_knots
set_option maxRecDepth 20000 in
theorem ggL_law_X9_knots : GoodIn wsL_law wsX9_knots := goodIn_r _ [918, 149, 334, 634, 844, 336, 337, 338, 5, 339, 269, 270, 174, 16, 176, 177, 261, 262, 263, 264, 265, 266, 267, 268, 340, 341, 315, 317, 318, 319, 320, 321, 322, 323, 324, 325, 326, 327, 328, 329, 32, 864, 865, 866, 867, 845, 677, 678, 130, 679, 675, 1448, 1449, 1450, 1451, 1452, 1453, 1454, 1455, 1456, 1496, 1497, 1498, 1499, 1500, 1501, 1502, 1503, 1504, 1505, 1506, 1507, 1508, 1509, 1457, 1458, 1459, 1525] (by decide +kernel) (by decide +kernel)
set_option maxRecDepth 20000 in
theorem gL_law_X9_knots : GoodIn wsL_law (wsV RL 233 RX9 yX9_knots wsX9_knots) := goodIn_app (goodIn_of _ (by decide +kernel)) ggL_law_X9_knots
set_option maxRecDepth 20000 in
theorem ggL_law_L_tell : GoodIn wsL_law wsL_tell := goodIn_ca (goodIn_ca (goodIn_r _ [921, 159, 922, 923, 924, 2, 925, 22, 168, 169, 170, 171, 172, 178, 179, 180, 181, 182, 926, 927, 928, 21, 929, 50, 94, 86, 87, 88, 49, 89, 64, 65, 66, 67, 68, 69, 70, 71, 72, 51, 73, 53, 74, 75, 76, 77, 78, 79, 80, 81, 52, 82, 83, 84, 85, 90, 91, 92, 93, 55, 95, 96, 97, 98, 99, 100, 101, 102, 103, 104, 105, 106, 107, 108, 109, 54, 110, 111, 112, 113, 114, 115, 116, 117, 118, 119, 56, 120, 121, 122, 123, 124, 125, 126, 127, 128, 129, 130, 131, 132, 133, 134, 135, 136, 137, 138, 1441, 1442, 1443, 1444, 1445, 1446, 1447, 1460, 1461, 1462, 1463, 1464, 1465, 1466, 1467, 1468, 1469, 1470, 1471, 1475] (by decide +kernel) (by decide +kernel)) (goodIn_sub (fun _ h => List.mem_append_left _ (List.mem_append_left _ (List.mem_append_left _ (List.mem_append_left _ (List.mem_append_right _ h))))) (by decide +kernel))) (goodIn_sub (fun _ h => List.mem_append_left _ (List.mem_append_left _ (List.mem_append_left _ (List.mem_append_right _ h)))) (by decide +kernel))
set_option maxRecDepth 20000 in
theorem gL_law_L_tell : GoodIn wsL_law (va_wsS RL 234 yL_tell wsL_tell) := goodIn_app (goodIn_of _ (by decide +kernel)) ggL_law_L_tell
set_option maxRecDepth 20000 in
theorem ggL_law_X9_tell : GoodIn wsL_law wsX9_tell := goodIn_r _ [933, 151, 261, 262, 5, 263, 264, 265, 266, 267, 268, 269, 270, 174, 16, 176, 177, 692, 693, 130, 694, 695, 696, 697, 698, 699, 700, 701, 675, 702, 703, 704, 705, 706, 12, 13, 285, 286, 205, 207, 208, 209, 32, 210, 211, 212, 213, 214, 215, 216, 217, 218, 219, 220, 221, 31, 222, 107, 108, 109, 223, 224, 225, 226, 227, 228, 229, 230, 231, 232, 233, 234, 235, 236, 237, 238, 239, 240, 241, 242, 243, 244, 245, 246, 247, 248, 249, 114, 115, 250, 251, 252, 253, 1448, 1449, 1450, 1451, 1452, 1453, 1454, 1455, 1456, 1457, 1458, 1459, 1525, 1492, 1493, 1494, 1495] (by decide +kernel) (by decide +kernel)
set_option maxRecDepth 20000 in
theorem gL_law_X9_tell : GoodIn wsL_law (wsV RL 236 RX9 yX9_tell wsX9_tell) := goodIn_app (goodIn_of _ (by decide +kernel)) ggL_law_X9_tell
set_option maxRecDepth 20000 in
theorem ggL_law_X6_forget : GoodIn wsL_law wsX6_forget := goodIn_r _ [937, 22, 938, 939, 940, 21, 941, 94, 65, 66, 67, 68, 69, 70, 71, 72, 51, 73, 53, 74, 75, 76, 49, 77, 64, 78, 79, 80, 81, 52, 82, 83, 84, 85, 86, 87, 88, 89, 90, 91, 92, 93, 55, 95, 96, 97, 98, 50, 99, 100, 101, 102, 103, 104, 105, 106, 107, 108, 109, 54, 110, 111, 112, 113, 114, 115, 116, 117, 118, 119, 56, 120, 121, 122, 123, 124, 125, 126, 127, 128, 129, 130, 131, 132, 133, 134, 135, 136, 137, 138, 1441, 1442, 1443, 1444, 1445, 1446, 1447, 1460, 1461, 1462, 1463, 1464, 1465, 1466, 1467, 1468, 1469, 1470, 1471, 1475] (by decide +kernel) (by decide +kernel)
set_option maxRecDepth 20000 in
theorem gL_law_X6_forget : GoodIn wsL_law (wsV RL 237 RX6 yX6_forget wsX6_forget) := goodIn_app (goodIn_of _ (by decide +kernel)) ggL_law_X6_forget
set_option maxRecDepth 20000 in
theorem ggL_law_X9_forget : GoodIn wsL_law wsX9_forget := goodIn_r _ [945, 151, 269, 270, 174, 16, 176, 177, 946, 947, 948, 949, 208, 209, 32, 1448, 1449, 1450, 1451, 1452, 1453, 1454, 1455, 1456, 1457, 1458, 1459] (by decide +kernel) (by decide +kernel)
set_option maxRecDepth 20000 in
theorem gL_law_X9_forget : GoodIn wsL_law (wsV RL 240 RX9 yX9_forget wsX9_forget) := goodIn_app (goodIn_of _ (by decide +kernel)) ggL_law_X9_forget
set_option maxRecDepth 20000 in
theorem ggL_law_L_canMeasure : GoodIn wsL_law wsL_canMeasure := goodIn_ca (goodIn_r _ [952, 159, 953, 954, 955, 2, 956, 22, 168, 169, 170, 171, 172, 957, 958, 959, 21, 960, 961, 962, 963, 964, 135, 136, 137, 138, 56, 82, 83, 84, 49, 85, 64, 1441, 1442, 1443, 1444, 1445, 1446, 1447, 1460, 1461, 1462, 1463, 1464, 1465, 1466, 1467, 1468, 1469, 1470, 1471, 1475] (by decide +kernel) (by decide +kernel)) (goodIn_sub (fun _ h => List.mem_append_left _ (List.mem_append_left _ (List.mem_append_left _ (List.mem_append_left _ (List.mem_append_right _ h))))) (by decide +kernel))
set_option maxRecDepth 20000 in
theorem gL_law_L_canMeasure : GoodIn wsL_law (va_wsS RL 241 yL_canMeasure wsL_canMeasure) := goodIn_app (goodIn_of _ (by decide +kernel)) ggL_law_L_canMeasure
set_option maxRecDepth 20000 in
theorem ggL_law_X9_canMeasure : GoodIn wsL_law wsX9_canMeasure := goodIn_r _ [968, 969, 970, 5, 971, 261, 262, 263, 264, 265, 266, 267, 268, 972, 973, 974, 975, 976, 977, 978, 979, 980, 981, 982, 983, 984, 985, 986, 987, 988, 12, 13, 989, 990, 991, 992, 844, 151, 993, 114, 108, 115, 692, 693, 130, 694, 695, 696, 697, 698, 699, 700, 701, 675, 702, 703, 704, 705, 706, 994, 995, 996, 997, 998, 999, 1000, 1001, 1002, 1003, 1004, 1005, 1006, 1007, 1008, 1009, 1010, 1011, 1012, 1013, 1014, 663, 1015, 666, 1016, 1017, 1018, 1019, 1020, 1021, 1022, 1023, 1024, 1025, 1026, 682, 1027, 1028, 1029, 687, 1030, 1031, 1032, 1033, 685, 686, 1034, 1035, 690, 1036, 1037, 1038, 226, 1039, 1040, 1041, 1042, 1043, 233, 234, 235, 1044, 1045, 1046, 1047, 1048, 1049, 1050, 1051, 1052, 1053, 1054, 1055, 1056, 1057, 1058, 1059, 1060, 1061, 1062, 1063, 1064, 1065, 1066, 1067, 1068, 1069, 1070, 1071, 1072, 1073, 660, 661, 662, 664, 665, 667, 668, 669, 670, 671, 672, 673, 674, 676, 677, 678, 679, 680, 681, 683, 684, 688, 689, 691, 1074, 1075, 1076, 1077, 1078, 1079, 1080, 1081, 1082, 1083, 1084, 1085, 1086, 1087, 1088, 1089, 1090, 1091, 1092, 1093, 1094, 845, 269, 270, 174, 16, 176, 177, 1095, 1096, 1097, 1098, 1099, 1100, 1101, 1102, 1103, 1104, 1105, 1106, 1107, 1108, 1109, 1110, 1111, 1112, 1113, 1114, 1115, 1116, 1117, 1118, 1119, 1120, 1121, 1122, 1123, 1124, 1125, 1126, 1127, 1128, 1129, 1130, 1131, 1132, 1133, 1134, 1135, 1136, 1137, 1138, 1139, 1140, 1141, 1142, 1143, 1144, 1145, 1146, 1147, 1148, 1149, 1150, 1151, 1152, 1153, 1154, 1155, 1156, 1157, 1158, 1159, 1160, 1161, 1162, 1163, 1164, 1165, 1166, 1167, 1168, 1169, 1170, 1171, 1172, 1173, 1174, 1175, 1176, 1177, 1178, 1179, 1180, 1181, 1182, 1183, 1184, 1185, 1186, 1187, 1188, 1189, 1190, 1191, 1192, 1193, 1194, 1195, 1196, 1197, 1198, 1199, 1200, 1201, 1202, 1203, 1204, 1205, 1206, 1207, 340, 341, 315, 317, 318, 319, 320, 321, 322, 323, 324, 325, 326, 327, 328, 329, 32, 1208, 1209, 1210, 1211, 1212, 129, 131, 132, 133, 134, 1213, 1214, 1215, 1216, 1217, 107, 109, 1448, 1449, 1450, 1451, 1452, 1453, 1454, 1455, 1456, 1530, 1531, 1532, 1533, 1534, 1535, 1536, 1537, 1457, 1458, 1459, 1525, 1538, 1539, 1540, 1541, 1542, 1543, 1544, 1545, 1546, 1547, 1548, 1549, 1550, 1551, 1552, 1526, 1527, 1528, 1529, 1492, 1493, 1494, 1495] (by decide +kernel) (by decide +kernel)
set_option maxRecDepth 20000 in
theorem gL_law_X9_canMeasure : GoodIn wsL_law (wsV RL 243 RX9 yX9_canMeasure wsX9_canMeasure) := goodIn_app (goodIn_of _ (by decide +kernel)) ggL_law_X9_canMeasure
set_option maxRecDepth 20000 in
theorem ggL_law_L_fewestTurns : GoodIn wsL_law wsL_fewestTurns := goodIn_ca (goodIn_ca (goodIn_r _ [1220, 159, 1221, 1222, 1223, 2, 1224, 22, 1225, 1226, 1227, 1228, 837, 838, 168, 169, 170, 171, 172, 957, 958, 959, 21, 960, 961, 962, 963, 964, 135, 136, 137, 138, 56, 82, 83, 84, 49, 85, 64, 1229, 1441, 1442, 1443, 1444, 1445, 1446, 1447, 1460, 1461, 1462, 1463, 1464, 1465, 1466, 1467, 1468, 1469, 1470, 1471, 1475] (by decide +kernel) (by decide +kernel)) (goodIn_sub (fun _ h => List.mem_append_right _ h) (by decide +kernel))) (goodIn_sub (fun _ h => List.mem_append_left _ (List.mem_append_left _ (List.mem_append_left _ (List.mem_append_left _ (List.mem_append_right _ h))))) (by decide +kernel))
set_option maxRecDepth 20000 in
theorem gL_law_L_fewestTurns : GoodIn wsL_law (va_wsS RL 244 yL_fewestTurns wsL_fewestTurns) := goodIn_app (goodIn_of _ (by decide +kernel)) ggL_law_L_fewestTurns
set_option maxRecDepth 20000 in
theorem ggL_law_X9_fewestTurns : GoodIn wsL_law wsX9_fewestTurns := goodIn_r _ [1233, 969, 970, 5, 971, 261, 262, 263, 264, 265, 266, 267, 268, 972, 973, 974, 975, 976, 977, 978, 979, 980, 981, 982, 983, 984, 985, 986, 987, 988, 12, 13, 989, 990, 991, 992, 844, 151, 993, 114, 108, 115, 692, 693, 130, 694, 695, 696, 697, 698, 699, 700, 701, 675, 702, 703, 704, 705, 706, 994, 995, 996, 997, 998, 999, 1000, 1001, 1002, 1003, 1004, 1005, 1006, 1007, 1008, 1009, 1010, 1011, 1012, 1013, 1014, 663, 1015, 666, 1016, 1017, 1018, 1019, 1020, 1021, 1022, 1023, 1024, 1025, 1026, 682, 1027, 1028, 1029, 687, 1030, 1031, 1032, 1033, 685, 686, 1034, 1035, 690, 1036, 1037, 1038, 226, 1039, 1040, 1041, 1042, 1043, 233, 234, 235, 1044, 1045, 1046, 1047, 1048, 1049, 1050, 1051, 1052, 1053, 1054, 1055, 1056, 1057, 1058, 1059, 1060, 1061, 1062, 1063, 1064, 1065, 1066, 1067, 1068, 1069, 1070, 1071, 1072, 1073, 660, 661, 662, 664, 665, 667, 668, 669, 670, 671, 672, 673, 674, 676, 677, 678, 679, 680, 681, 683, 684, 688, 689, 691, 1074, 1075, 1076, 1077, 1078, 1079, 1080, 1081, 1082, 1083, 1084, 1085, 1086, 1087, 1088, 1089, 1090, 1091, 1092, 1093, 1094, 845, 269, 270, 174, 16, 176, 177, 1095, 1096, 1097, 1098, 1099, 1100, 1101, 1102, 1103, 1104, 1105, 1106, 1107, 1108, 1109, 1110, 1111, 1112, 1113, 1114, 1115, 1116, 1117, 1118, 1119, 1120, 1121, 1122, 1123, 1124, 1125, 1126, 1127, 1128, 1129, 1130, 1131, 1132, 1133, 1134, 1135, 1136, 1137, 1138, 1139, 1140, 1141, 1142, 1143, 1144, 1145, 1146, 1147, 1148, 1149, 1150, 1151, 1152, 1153, 1154, 1155, 1156, 1157, 1158, 1159, 1160, 1161, 1162, 1163, 1164, 1165, 1166, 1167, 1168, 1169, 1170, 1171, 1172, 1173, 1174, 1175, 1176, 1177, 1178, 1179, 1180, 1181, 1182, 1183, 1184, 1185, 1186, 1187, 1188, 1189, 1190, 1191, 1192, 1193, 1194, 1195, 1196, 1197, 1198, 1199, 1200, 1201, 1202, 1203, 1204, 1205, 1206, 1207, 340, 341, 315, 317, 318, 319, 320, 321, 322, 323, 324, 325, 326, 327, 328, 329, 32, 1208, 1209, 1210, 1211, 1212, 129, 131, 132, 133, 134, 1213, 1214, 1215, 1216, 1217, 107, 109, 1448, 1449, 1450, 1451, 1452, 1453, 1454, 1455, 1456, 1530, 1531, 1532, 1533, 1534, 1535, 1536, 1537, 1457, 1458, 1459, 1525, 1538, 1539, 1540, 1541, 1542, 1543, 1544, 1545, 1546, 1547, 1548, 1549, 1550, 1551, 1552, 1526, 1527, 1528, 1529, 1492, 1493, 1494, 1495] (by decide +kernel) (by decide +kernel)
set_option maxRecDepth 20000 in
theorem gL_law_X9_fewestTurns : GoodIn wsL_law (wsV RL 246 RX9 yX9_fewestTurns wsX9_fewestTurns) := goodIn_app (goodIn_of _ (by decide +kernel)) ggL_law_X9_fewestTurns
set_option maxRecDepth 20000 in
theorem ggL_law_L_decisions : GoodIn wsL_law wsL_decisions := goodIn_ca (goodIn_ca (goodIn_r _ [1236, 159, 1237, 1238, 1239, 2, 1240, 22, 1225, 1226, 1227, 1228, 837, 838, 168, 169, 170, 171, 172, 957, 958, 959, 21, 960, 961, 962, 963, 964, 135, 136, 137, 138, 56, 82, 83, 84, 49, 85, 64, 1241, 1242, 1243, 1244, 1245, 57, 58, 55, 54, 1246, 1247, 1248, 1249, 94, 124, 125, 126, 127, 128, 129, 130, 131, 132, 133, 134, 86, 87, 88, 89, 1441, 1442, 1443, 1444, 1445, 1446, 1447, 1460, 1461, 1462, 1463, 1464, 1465, 1466, 1467, 1468, 1469, 1470, 1471, 1475] (by decide +kernel) (by decide +kernel)) (goodIn_sub (fun _ h => List.mem_append_right _ h) (by decide +kernel))) (goodIn_sub (fun _ h => List.mem_append_left _ (List.mem_append_left _ (List.mem_append_left _ (List.mem_append_left _ (List.mem_append_right _ h))))) (by decide +kernel))
set_option maxRecDepth 20000 in
theorem gL_law_L_decisions : GoodIn wsL_law (va_wsS RL 247 yL_decisions wsL_decisions) := goodIn_app (goodIn_of _ (by decide +kernel)) ggL_law_L_decisions
set_option maxRecDepth 20000 in
theorem ggL_law_X9_decisions : GoodIn wsL_law wsX9_decisions := goodIn_r _ [1253, 969, 970, 5, 971, 261, 262, 263, 264, 265, 266, 267, 268, 972, 973, 974, 975, 976, 977, 978, 979, 980, 981, 982, 983, 984, 985, 986, 987, 988, 12, 13, 989, 990, 991, 992, 844, 151, 993, 114, 108, 115, 692, 693, 130, 694, 695, 696, 697, 698, 699, 700, 701, 675, 702, 703, 704, 705, 706, 994, 995, 996, 997, 998, 999, 1000, 1001, 1002, 1003, 1004, 1005, 1006, 1007, 1008, 1009, 1010, 1011, 1012, 1013, 1014, 663, 1015, 666, 1016, 1017, 1018, 1019, 1020, 1021, 1022, 1023, 1024, 1025, 1026, 682, 1027, 1028, 1029, 687, 1030, 1031, 1032, 1033, 685, 686, 1034, 1035, 690, 1036, 1037, 1038, 226, 1039, 1040, 1041, 1042, 1043, 233, 234, 235, 1044, 1045, 1046, 1047, 1048, 1049, 1050, 1051, 1052, 1053, 1054, 1055, 1056, 1057, 1058, 1059, 1060, 1061, 1062, 1063, 1064, 1065, 1066, 1067, 1068, 1069, 1070, 1071, 1072, 1073, 660, 661, 662, 664, 665, 667, 668, 669, 670, 671, 672, 673, 674, 676, 677, 678, 679, 680, 681, 683, 684, 688, 689, 691, 1074, 1075, 1076, 1077, 1078, 1079, 1080, 1081, 1082, 1083, 1084, 1085, 1086, 1087, 1088, 1089, 1090, 1091, 1092, 1093, 1094, 845, 269, 270, 174, 16, 176, 177, 1095, 1096, 1097, 1098, 1099, 1100, 1101, 1102, 1103, 1104, 1105, 1106, 1107, 1108, 1109, 1110, 1111, 1112, 1113, 1114, 1115, 1116, 1117, 1118, 1119, 1120, 1121, 1122, 1123, 1124, 1125, 1126, 1127, 1128, 1129, 1130, 1131, 1132, 1133, 1134, 1135, 1136, 1137, 1138, 1139, 1140, 1141, 1142, 1143, 1144, 1145, 1146, 1147, 1148, 1149, 1150, 1151, 1152, 1153, 1154, 1155, 1156, 1157, 1158, 1159, 1160, 1161, 1162, 1163, 1164, 1165, 1166, 1167, 1168, 1169, 1170, 1171, 1172, 1173, 1174, 1175, 1176, 1177, 1178, 1179, 1180, 1181, 1182, 1183, 1184, 1185, 1186, 1187, 1188, 1189, 1190, 1191, 1192, 1193, 1194, 1195, 1196, 1197, 1198, 1199, 1200, 1201, 1202, 1203, 1204, 1205, 1206, 1207, 340, 341, 315, 317, 318, 319, 320, 321, 322, 323, 324, 325, 326, 327, 328, 329, 32, 1208, 1209, 1210, 1211, 1212, 129, 131, 132, 133, 134, 1213, 1214, 1215, 1216, 1217, 107, 109, 1254, 1255, 1256, 1257, 148, 15, 63, 154, 29, 30, 31, 33, 34, 35, 36, 37, 38, 39, 40, 41, 42, 285, 286, 205, 207, 208, 209, 210, 211, 212, 213, 214, 215, 216, 217, 218, 219, 220, 221, 222, 223, 224, 225, 227, 228, 229, 230, 231, 232, 236, 237, 238, 239, 240, 241, 242, 243, 244, 245, 246, 247, 248, 249, 250, 251, 252, 253, 1448, 1449, 1450, 1451, 1452, 1453, 1454, 1455, 1456, 1530, 1531, 1532, 1533, 1534, 1535, 1536, 1537, 1457, 1458, 1459, 1525, 1538, 1539, 1540, 1541, 1542, 1543, 1544, 1545, 1546, 1547, 1548, 1549, 1550, 1551, 1552, 1526, 1527, 1528, 1529, 1492, 1493, 1494, 1495] (by decide +kernel) (by decide +kernel)
set_option maxRecDepth 20000 in
theorem gL_law_X9_decisions : GoodIn wsL_law (wsV RL 249 RX9 yX9_decisions wsX9_decisions) := goodIn_app (goodIn_of _ (by decide +kernel)) ggL_law_X9_decisions
set_option maxRecDepth 20000 in
theorem ggL_law_L_turnedAt : GoodIn wsL_law wsL_turnedAt := goodIn_ca (goodIn_ca (goodIn_r _ [1260, 159, 1261, 1262, 1263, 2, 1264, 22, 1265, 1266, 1267, 1268, 837, 838, 1225, 1226, 1227, 1228, 168, 169, 170, 171, 172, 957, 958, 959, 21, 960, 961, 962, 963, 964, 135, 136, 137, 138, 56, 82, 83, 84, 49, 85, 64, 1241, 1242, 1243, 1244, 1245, 57, 58, 55, 54, 1246, 1247, 1248, 1249, 94, 124, 125, 126, 127, 128, 129, 130, 131, 132, 133, 134, 86, 87, 88, 89, 839, 1441, 1442, 1443, 1444, 1445, 1446, 1447, 1460, 1461, 1462, 1463, 1464, 1465, 1466, 1467, 1468, 1469, 1470, 1471, 1475] (by decide +kernel) (by decide +kernel)) (goodIn_sub (fun _ h => List.mem_append_right _ h) (by decide +kernel))) (goodIn_sub (fun _ h => List.mem_append_left _ (List.mem_append_left _ (List.mem_append_left _ (List.mem_append_left _ (List.mem_append_right _ h))))) (by decide +kernel))
set_option maxRecDepth 20000 in
theorem gL_law_L_turnedAt : GoodIn wsL_law (va_wsS RL 250 yL_turnedAt wsL_turnedAt) := goodIn_app (goodIn_of _ (by decide +kernel)) ggL_law_L_turnedAt
set_option maxRecDepth 20000 in
theorem ggL_law_X9_turnedAt : GoodIn wsL_law wsX9_turnedAt := goodIn_r _ [1272, 1273, 1274, 1275, 5, 1276, 1277, 969, 970, 971, 261, 262, 263, 264, 265, 266, 267, 268, 972, 973, 974, 975, 976, 977, 978, 979, 980, 981, 982, 983, 984, 985, 986, 987, 988, 12, 13, 989, 990, 991, 992, 844, 151, 993, 114, 108, 115, 692, 693, 130, 694, 695, 696, 697, 698, 699, 700, 701, 675, 702, 703, 704, 705, 706, 994, 995, 996, 997, 998, 999, 1000, 1001, 1002, 1003, 1004, 1005, 1006, 1007, 1008, 1009, 1010, 1011, 1012, 1013, 1014, 663, 1015, 666, 1016, 1017, 1018, 1019, 1020, 1021, 1022, 1023, 1024, 1025, 1026, 682, 1027, 1028, 1029, 687, 1030, 1031, 1032, 1033, 685, 686, 1034, 1035, 690, 1036, 1037, 1038, 226, 1039, 1040, 1041, 1042, 1043, 233, 234, 235, 1044, 1045, 1046, 1047, 1048, 1049, 1050, 1051, 1052, 1053, 1054, 1055, 1056, 1057, 1058, 1059, 1060, 1061, 1062, 1063, 1064, 1065, 1066, 1067, 1068, 1069, 1070, 1071, 1072, 1073, 660, 661, 662, 664, 665, 667, 668, 669, 670, 671, 672, 673, 674, 676, 677, 678, 679, 680, 681, 683, 684, 688, 689, 691, 1074, 1075, 1076, 1077, 1078, 1079, 1080, 1081, 1082, 1083, 1084, 1085, 1086, 1087, 1088, 1089, 1090, 1091, 1092, 1093, 1094, 845, 269, 270, 174, 16, 176, 177, 1095, 1096, 1097, 1098, 1099, 1100, 1101, 1102, 1103, 1104, 1105, 1106, 1107, 1108, 1109, 1110, 1111, 1112, 1113, 1114, 1115, 1116, 1117, 1118, 1119, 1120, 1121, 1122, 1123, 1124, 1125, 1126, 1127, 1128, 1129, 1130, 1131, 1132, 1133, 1134, 1135, 1136, 1137, 1138, 1139, 1140, 1141, 1142, 1143, 1144, 1145, 1146, 1147, 1148, 1149, 1150, 1151, 1152, 1153, 1154, 1155, 1156, 1157, 1158, 1159, 1160, 1161, 1162, 1163, 1164, 1165, 1166, 1167, 1168, 1169, 1170, 1171, 1172, 1173, 1174, 1175, 1176, 1177, 1178, 1179, 1180, 1181, 1182, 1183, 1184, 1185, 1186, 1187, 1188, 1189, 1190, 1191, 1192, 1193, 1194, 1195, 1196, 1197, 1198, 1199, 1200, 1201, 1202, 1203, 1204, 1205, 1206, 1207, 340, 341, 315, 317, 318, 319, 320, 321, 322, 323, 324, 325, 326, 327, 328, 329, 32, 1208, 1209, 1210, 1211, 1212, 129, 131, 132, 133, 134, 1213, 1214, 1215, 1216, 1217, 107, 109, 1254, 1255, 1256, 1257, 148, 15, 63, 154, 29, 30, 31, 33, 34, 35, 36, 37, 38, 39, 40, 41, 42, 285, 286, 205, 207, 208, 209, 210, 211, 212, 213, 214, 215, 216, 217, 218, 219, 220, 221, 222, 223, 224, 225, 227, 228, 229, 230, 231, 232, 236, 237, 238, 239, 240, 241, 242, 243, 244, 245, 246, 247, 248, 249, 250, 251, 252, 253, 1448, 1449, 1450, 1451, 1452, 1453, 1454, 1455, 1456, 1530, 1531, 1532, 1533, 1534, 1535, 1536, 1537, 1457, 1458, 1459, 1525, 1538, 1539, 1540, 1541, 1542, 1543, 1544, 1545, 1546, 1547, 1548, 1549, 1550, 1551, 1552, 1526, 1527, 1528, 1529, 1492, 1493, 1494, 1495] (by decide +kernel) (by decide +kernel)
set_option maxRecDepth 20000 in
theorem gL_law_X9_turnedAt : GoodIn wsL_law (wsV RL 252 RX9 yX9_turnedAt wsX9_turnedAt) := goodIn_app (goodIn_of _ (by decide +kernel)) ggL_law_X9_turnedAt
set_option maxRecDepth 20000 in
theorem ggL_law_L_minuteAt : GoodIn wsL_law wsL_minuteAt := goodIn_ca (goodIn_ca (goodIn_r _ [1280, 159, 1281, 1282, 1283, 2, 1284, 22, 1265, 1266, 1267, 1268, 837, 838, 1225, 1226, 1227, 1228, 168, 169, 170, 171, 172, 957, 958, 959, 21, 960, 961, 962, 963, 964, 135, 136, 137, 138, 56, 82, 83, 84, 49, 85, 64, 1241, 1242, 1243, 1244, 1245, 57, 58, 55, 54, 1246, 1247, 1248, 1249, 94, 124, 125, 126, 127, 128, 129, 130, 131, 132, 133, 134, 86, 87, 88, 89, 839, 1441, 1442, 1443, 1444, 1445, 1446, 1447, 1460, 1461, 1462, 1463, 1464, 1465, 1466, 1467, 1468, 1469, 1470, 1471, 1475] (by decide +kernel) (by decide +kernel)) (goodIn_sub (fun _ h => List.mem_append_right _ h) (by decide +kernel))) (goodIn_sub (fun _ h => List.mem_append_left _ (List.mem_append_left _ (List.mem_append_left _ (List.mem_append_left _ (List.mem_append_right _ h))))) (by decide +kernel))
set_option maxRecDepth 20000 in
theorem gL_law_L_minuteAt : GoodIn wsL_law (va_wsS RL 253 yL_minuteAt wsL_minuteAt) := goodIn_app (goodIn_of _ (by decide +kernel)) ggL_law_L_minuteAt
set_option maxRecDepth 20000 in
theorem ggL_law_X9_minuteAt : GoodIn wsL_law wsX9_minuteAt := goodIn_r _ [1288, 1273, 1274, 1275, 5, 1276, 1277, 969, 970, 971, 261, 262, 263, 264, 265, 266, 267, 268, 972, 973, 974, 975, 976, 977, 978, 979, 980, 981, 982, 983, 984, 985, 986, 987, 988, 12, 13, 989, 990, 991, 992, 844, 151, 993, 114, 108, 115, 692, 693, 130, 694, 695, 696, 697, 698, 699, 700, 701, 675, 702, 703, 704, 705, 706, 994, 995, 996, 997, 998, 999, 1000, 1001, 1002, 1003, 1004, 1005, 1006, 1007, 1008, 1009, 1010, 1011, 1012, 1013, 1014, 663, 1015, 666, 1016, 1017, 1018, 1019, 1020, 1021, 1022, 1023, 1024, 1025, 1026, 682, 1027, 1028, 1029, 687, 1030, 1031, 1032, 1033, 685, 686, 1034, 1035, 690, 1036, 1037, 1038, 226, 1039, 1040, 1041, 1042, 1043, 233, 234, 235, 1044, 1045, 1046, 1047, 1048, 1049, 1050, 1051, 1052, 1053, 1054, 1055, 1056, 1057, 1058, 1059, 1060, 1061, 1062, 1063, 1064, 1065, 1066, 1067, 1068, 1069, 1070, 1071, 1072, 1073, 660, 661, 662, 664, 665, 667, 668, 669, 670, 671, 672, 673, 674, 676, 677, 678, 679, 680, 681, 683, 684, 688, 689, 691, 1074, 1075, 1076, 1077, 1078, 1079, 1080, 1081, 1082, 1083, 1084, 1085, 1086, 1087, 1088, 1089, 1090, 1091, 1092, 1093, 1094, 845, 269, 270, 174, 16, 176, 177, 1095, 1096, 1097, 1098, 1099, 1100, 1101, 1102, 1103, 1104, 1105, 1106, 1107, 1108, 1109, 1110, 1111, 1112, 1113, 1114, 1115, 1116, 1117, 1118, 1119, 1120, 1121, 1122, 1123, 1124, 1125, 1126, 1127, 1128, 1129, 1130, 1131, 1132, 1133, 1134, 1135, 1136, 1137, 1138, 1139, 1140, 1141, 1142, 1143, 1144, 1145, 1146, 1147, 1148, 1149, 1150, 1151, 1152, 1153, 1154, 1155, 1156, 1157, 1158, 1159, 1160, 1161, 1162, 1163, 1164, 1165, 1166, 1167, 1168, 1169, 1170, 1171, 1172, 1173, 1174, 1175, 1176, 1177, 1178, 1179, 1180, 1181, 1182, 1183, 1184, 1185, 1186, 1187, 1188, 1189, 1190, 1191, 1192, 1193, 1194, 1195, 1196, 1197, 1198, 1199, 1200, 1201, 1202, 1203, 1204, 1205, 1206, 1207, 340, 341, 315, 317, 318, 319, 320, 321, 322, 323, 324, 325, 326, 327, 328, 329, 32, 1208, 1209, 1210, 1211, 1212, 129, 131, 132, 133, 134, 1213, 1214, 1215, 1216, 1217, 107, 109, 1254, 1255, 1256, 1257, 148, 15, 63, 154, 29, 30, 31, 33, 34, 35, 36, 37, 38, 39, 40, 41, 42, 285, 286, 205, 207, 208, 209, 210, 211, 212, 213, 214, 215, 216, 217, 218, 219, 220, 221, 222, 223, 224, 225, 227, 228, 229, 230, 231, 232, 236, 237, 238, 239, 240, 241, 242, 243, 244, 245, 246, 247, 248, 249, 250, 251, 252, 253, 1448, 1449, 1450, 1451, 1452, 1453, 1454, 1455, 1456, 1530, 1531, 1532, 1533, 1534, 1535, 1536, 1537, 1457, 1458, 1459, 1525, 1538, 1539, 1540, 1541, 1542, 1543, 1544, 1545, 1546, 1547, 1548, 1549, 1550, 1551, 1552, 1526, 1527, 1528, 1529, 1492, 1493, 1494, 1495] (by decide +kernel) (by decide +kernel)
set_option maxRecDepth 20000 in
theorem gL_law_X9_minuteAt : GoodIn wsL_law (wsV RL 255 RX9 yX9_minuteAt wsX9_minuteAt) := goodIn_app (goodIn_of _ (by decide +kernel)) ggL_law_X9_minuteAt
set_option maxRecDepth 20000 in
theorem ggL_law_L_measurable : GoodIn wsL_law wsL_measurable := goodIn_ca (goodIn_r _ [1291, 159, 1292, 1293, 1294, 2, 1295, 22, 168, 169, 170, 171, 172, 957, 958, 959, 21, 960, 961, 962, 963, 964, 135, 136, 137, 138, 56, 82, 83, 84, 49, 85, 64, 1441, 1442, 1443, 1444, 1445, 1446, 1447, 1460, 1461, 1462, 1463, 1464, 1465, 1466, 1467, 1468, 1469, 1470, 1471, 1475] (by decide +kernel) (by decide +kernel)) (goodIn_sub (fun _ h => List.mem_append_left _ (List.mem_append_left _ (List.mem_append_left _ (List.mem_append_left _ (List.mem_append_right _ h))))) (by decide +kernel))
set_option maxRecDepth 20000 in
theorem gL_law_L_measurable : GoodIn wsL_law (va_wsS RL 256 yL_measurable wsL_measurable) := goodIn_app (goodIn_of _ (by decide +kernel)) ggL_law_L_measurable
set_option maxRecDepth 20000 in
theorem ggL_law_X9_measurable : GoodIn wsL_law wsX9_measurable := goodIn_r _ [1299, 969, 970, 5, 971, 261, 262, 263, 264, 265, 266, 267, 268, 972, 973, 974, 975, 976, 977, 978, 979, 980, 981, 982, 983, 984, 985, 986, 987, 988, 12, 13, 989, 990, 991, 992, 844, 151, 993, 114, 108, 115, 692, 693, 130, 694, 695, 696, 697, 698, 699, 700, 701, 675, 702, 703, 704, 705, 706, 994, 995, 996, 997, 998, 999, 1000, 1001, 1002, 1003, 1004, 1005, 1006, 1007, 1008, 1009, 1010, 1011, 1012, 1013, 1014, 663, 1015, 666, 1016, 1017, 1018, 1019, 1020, 1021, 1022, 1023, 1024, 1025, 1026, 682, 1027, 1028, 1029, 687, 1030, 1031, 1032, 1033, 685, 686, 1034, 1035, 690, 1036, 1037, 1038, 226, 1039, 1040, 1041, 1042, 1043, 233, 234, 235, 1044, 1045, 1046, 1047, 1048, 1049, 1050, 1051, 1052, 1053, 1054, 1055, 1056, 1057, 1058, 1059, 1060, 1061, 1062, 1063, 1064, 1065, 1066, 1067, 1068, 1069, 1070, 1071, 1072, 1073, 660, 661, 662, 664, 665, 667, 668, 669, 670, 671, 672, 673, 674, 676, 677, 678, 679, 680, 681, 683, 684, 688, 689, 691, 1074, 1075, 1076, 1077, 1078, 1079, 1080, 1081, 1082, 1083, 1084, 1085, 1086, 1087, 1088, 1089, 1090, 1091, 1092, 1093, 1094, 845, 269, 270, 174, 16, 176, 177, 1095, 1096, 1097, 1098, 1099, 1100, 1101, 1102, 1103, 1104, 1105, 1106, 1107, 1108, 1109, 1110, 1111, 1112, 1113, 1114, 1115, 1116, 1117, 1118, 1119, 1120, 1121, 1122, 1123, 1124, 1125, 1126, 1127, 1128, 1129, 1130, 1131, 1132, 1133, 1134, 1135, 1136, 1137, 1138, 1139, 1140, 1141, 1142, 1143, 1144, 1145, 1146, 1147, 1148, 1149, 1150, 1151, 1152, 1153, 1154, 1155, 1156, 1157, 1158, 1159, 1160, 1161, 1162, 1163, 1164, 1165, 1166, 1167, 1168, 1169, 1170, 1171, 1172, 1173, 1174, 1175, 1176, 1177, 1178, 1179, 1180, 1181, 1182, 1183, 1184, 1185, 1186, 1187, 1188, 1189, 1190, 1191, 1192, 1193, 1194, 1195, 1196, 1197, 1198, 1199, 1200, 1201, 1202, 1203, 1204, 1205, 1206, 1207, 340, 341, 315, 317, 318, 319, 320, 321, 322, 323, 324, 325, 326, 327, 328, 329, 32, 1208, 1209, 1210, 1211, 1212, 129, 131, 132, 133, 134, 1213, 1214, 1215, 1216, 1217, 107, 109, 1448, 1449, 1450, 1451, 1452, 1453, 1454, 1455, 1456, 1530, 1531, 1532, 1533, 1534, 1535, 1536, 1537, 1457, 1458, 1459, 1525, 1538, 1539, 1540, 1541, 1542, 1543, 1544, 1545, 1546, 1547, 1548, 1549, 1550, 1551, 1552, 1526, 1527, 1528, 1529, 1492, 1493, 1494, 1495] (by decide +kernel) (by decide +kernel)
set_option maxRecDepth 20000 in
theorem gL_law_X9_measurable : GoodIn wsL_law (wsV RL 258 RX9 yX9_measurable wsX9_measurable) := goodIn_app (goodIn_of _ (by decide +kernel)) ggL_law_X9_measurable
set_option maxRecDepth 20000 in
theorem ggL_law_L_canStretch : GoodIn wsL_law wsL_canStretch := goodIn_ca (goodIn_r _ [1302, 159, 1303, 1304, 1305, 2, 1306, 22, 168, 169, 170, 171, 172, 1307, 1308, 1309, 21, 1310, 73, 135, 136, 137, 138, 56, 82, 83, 84, 49, 85, 64, 1441, 1442, 1443, 1444, 1445, 1446, 1447, 1460, 1461, 1462, 1463, 1464, 1465, 1466, 1467, 1468, 1469, 1470, 1471, 1475] (by decide +kernel) (by decide +kernel)) (goodIn_sub (fun _ h => List.mem_append_left _ (List.mem_append_left _ (List.mem_append_left _ (List.mem_append_left _ (List.mem_append_right _ h))))) (by decide +kernel))
set_option maxRecDepth 20000 in
theorem gL_law_L_canStretch : GoodIn wsL_law (va_wsS RL 259 yL_canStretch wsL_canStretch) := goodIn_app (goodIn_of _ (by decide +kernel)) ggL_law_L_canStretch
set_option maxRecDepth 20000 in
theorem ggL_law_X9_canStretch : GoodIn wsL_law wsX9_canStretch := goodIn_r _ [1314, 976, 977, 978, 148, 15, 16, 63, 1277, 151, 969, 970, 5, 971, 261, 262, 263, 264, 265, 266, 267, 268, 979, 980, 981, 982, 983, 984, 985, 986, 987, 988, 12, 13, 154, 29, 30, 31, 32, 33, 34, 35, 36, 37, 38, 39, 40, 41, 42, 285, 286, 205, 207, 208, 209, 177, 210, 211, 212, 213, 214, 215, 216, 217, 218, 219, 220, 221, 222, 107, 108, 109, 223, 224, 225, 226, 227, 228, 229, 230, 231, 232, 233, 234, 235, 236, 237, 238, 239, 240, 241, 242, 243, 244, 245, 246, 247, 248, 249, 114, 115, 250, 251, 252, 253, 692, 693, 130, 694, 695, 696, 697, 698, 699, 700, 701, 675, 702, 703, 704, 705, 706, 1315, 1316, 663, 1317, 1318, 1319, 1098, 1099, 1100, 1101, 1008, 1009, 1010, 1011, 1012, 1013, 1014, 1015, 666, 1016, 1017, 1018, 1019, 1020, 1021, 1022, 1023, 1024, 1025, 1026, 682, 1027, 1028, 1029, 687, 1030, 1031, 1032, 1033, 685, 686, 1034, 1035, 690, 1036, 1037, 1038, 1039, 1040, 1041, 1042, 1043, 1044, 1045, 1046, 1047, 1048, 1049, 1050, 1051, 1052, 1053, 1054, 1055, 1056, 1057, 1058, 1059, 1060, 1061, 1062, 1063, 1064, 1065, 1066, 1067, 1068, 1069, 1070, 1071, 1072, 1102, 1103, 1104, 1105, 1003, 1004, 1005, 1007, 1006, 998, 1106, 1107, 1108, 1109, 1110, 1111, 1112, 1113, 1114, 1115, 1116, 1117, 1118, 1119, 1077, 1120, 1121, 1122, 1123, 1090, 1091, 1124, 1125, 1126, 1127, 1128, 1129, 1130, 1131, 1132, 1133, 1134, 1135, 1136, 1137, 1138, 1139, 1140, 1141, 1142, 1143, 1144, 1145, 1146, 1147, 1089, 1088, 1079, 1148, 1092, 1093, 1149, 1150, 1151, 1152, 1153, 1154, 1155, 1156, 1157, 1158, 1159, 1160, 1161, 1162, 1163, 1164, 1165, 1073, 660, 661, 662, 664, 665, 667, 668, 669, 670, 671, 672, 673, 674, 676, 677, 678, 679, 680, 681, 683, 684, 688, 689, 691, 1166, 1167, 1168, 1169, 1080, 1081, 1082, 1083, 1094, 1170, 1171, 1172, 1173, 1174, 1175, 1176, 1177, 1178, 1179, 1180, 1181, 1182, 1183, 1184, 1185, 1186, 1187, 1188, 1189, 1190, 1191, 1192, 1193, 1194, 1195, 1196, 1197, 1198, 1199, 1200, 1201, 1202, 269, 270, 174, 176, 340, 341, 315, 317, 318, 319, 320, 321, 322, 323, 324, 325, 326, 327, 328, 329, 989, 990, 991, 992, 844, 993, 994, 995, 996, 997, 999, 1000, 1001, 1002, 1074, 1075, 1076, 1078, 1084, 1085, 1086, 1087, 845, 1095, 1096, 1097, 1203, 1204, 1205, 1206, 1207, 1208, 1209, 1210, 1211, 1212, 129, 131, 132, 133, 134, 1213, 1214, 1215, 1216, 1217, 1530, 1531, 1532, 1533, 1534, 1535, 1536, 1537, 1457, 1458, 1459, 1448, 1449, 1450, 1451, 1452, 1453, 1454, 1455, 1456, 1492, 1493, 1494, 1495, 1525, 1526, 1527, 1528, 1529, 1538, 1539, 1540, 1541, 1542, 1543, 1544, 1545, 1546, 1547, 1548, 1549, 1550, 1551, 1552] (by decide +kernel) (by decide +kernel)
set_option maxRecDepth 20000 in
theorem gL_law_X9_canStretch : GoodIn wsL_law (wsV RL 261 RX9 yX9_canStretch wsX9_canStretch) := goodIn_app (goodIn_of _ (by decide +kernel)) ggL_law_X9_canStretch
set_option maxRecDepth 20000 in
theorem ggL_law_X6_divisor : GoodIn wsL_law wsX6_divisor := goodIn_r _ [1323, 22, 1324, 1325, 1326, 21, 1327, 94, 1328, 1329, 1330, 1331, 50, 82, 83, 84, 49, 85, 64, 1441, 1442, 1443, 1444, 1445, 1446, 1447, 1460, 1461, 1462, 1463, 1464, 1465, 1466, 1467, 1468, 1469, 1470, 1471, 1475] (by decide +kernel) (by decide +kernel)
set_option maxRecDepth 20000 in
theorem gL_law_X6_divisor : GoodIn wsL_law (wsV RL 262 RX6 yX6_divisor wsX6_divisor) := goodIn_app (goodIn_of _ (by decide +kernel)) ggL_law_X6_divisor
set_option maxRecDepth 20000 in
theorem ggL_law_X9_divisor : GoodIn wsL_law wsX9_divisor := goodIn_r _ [1335, 151, 844, 541, 542, 543, 16, 544, 545, 546, 547, 548, 549, 550, 551, 552, 12, 13, 553, 554, 209, 555, 556, 557, 558, 559, 560, 561, 562, 563, 564, 565, 566, 567, 568, 569, 845, 677, 678, 130, 679, 675, 1448, 1449, 1450, 1451, 1452, 1453, 1454, 1455, 1456, 1510, 1511, 1512, 1513, 1457, 1458, 1459, 1525] (by decide +kernel) (by decide +kernel)
set_option maxRecDepth 20000 in
theorem gL_law_X9_divisor : GoodIn wsL_law (wsV RL 265 RX9 yX9_divisor wsX9_divisor) := goodIn_app (goodIn_of _ (by decide +kernel)) ggL_law_X9_divisor
set_option maxRecDepth 20000 in
theorem ggL_law_L_setShip : GoodIn wsL_law wsL_setShip := goodIn_ca (goodIn_r _ [1338, 294, 1339, 1340, 1341, 2, 1342, 26, 304, 305, 306, 307, 308, 309, 310, 311, 312, 313, 17, 173, 174, 175, 16, 176, 177, 1441, 1442, 1443, 1444, 1445, 1446, 1447, 1472, 1473, 1474, 1457, 1458, 1459] (by decide +kernel) (by decide +kernel)) (goodIn_sub (fun _ h => List.mem_append_left _ (List.mem_append_left _ (List.mem_append_right _ h))) (by decide +kernel))
set_option maxRecDepth 20000 in
theorem gL_law_L_setShip : GoodIn wsL_law (va_wsS RL 266 yL_setShip wsL_setShip) := goodIn_app (goodIn_of _ (by decide +kernel)) ggL_law_L_setShip
set_option maxRecDepth 20000 in
theorem ggL_law_X9_setShip : GoodIn wsL_law wsX9_setShip := goodIn_r _ [1346, 153, 336, 337, 338, 5, 339, 149, 269, 270, 174, 16, 176, 177, 261, 262, 263, 264, 265, 266, 267, 268, 1448, 1449, 1450, 1451, 1452, 1453, 1454, 1455, 1456, 1457, 1458, 1459] (by decide +kernel) (by decide +kernel)
set_option maxRecDepth 20000 in
theorem gL_law_X9_setShip : GoodIn wsL_law (wsV RL 268 RX9 yX9_setShip wsX9_setShip) := goodIn_app (goodIn_of _ (by decide +kernel)) ggL_law_X9_setShip
set_option maxRecDepth 20000 in
theorem ggL_law_L_boy : GoodIn wsL_law wsL_boy := goodIn_ca (goodIn_r _ [1349, 1350, 1351, 1352, 1353, 2, 1354, 500, 501, 26, 17, 303, 384, 310, 311, 312, 313, 173, 174, 175, 16, 176, 177, 314, 315, 316, 317, 318, 319, 320, 321, 322, 323, 324, 325, 326, 327, 328, 329, 32, 385, 386, 387, 166, 388, 366, 194, 389, 365, 390, 391, 1441, 1442, 1443, 1444, 1445, 1446, 1447, 1472, 1473, 1474, 1457, 1458, 1459, 1476, 1477, 1478, 1479, 1480, 1481, 1482, 1483, 1484, 1485, 1486, 1487, 1488, 1489] (by decide +kernel) (by decide +kernel)) (goodIn_sub (fun _ h => List.mem_append_left _ (List.mem_append_right _ h)) (by decide +kernel))
set_option maxRecDepth 20000 in
theorem gL_law_L_boy : GoodIn wsL_law (va_wsS RL 269 yL_boy wsL_boy) := goodIn_app (goodIn_of _ (by decide +kernel)) ggL_law_L_boy
set_option maxRecDepth 20000 in
theorem ggL_law_X9_boy : GoodIn wsL_law wsX9_boy := goodIn_r _ [1358, 153, 149, 334, 1359, 264, 265, 266, 5, 267, 268, 340, 341, 315, 16, 317, 177, 318, 319, 320, 321, 322, 323, 324, 325, 326, 327, 328, 329, 32, 396, 397, 398, 399, 335, 353, 400, 375, 401, 402, 403, 1448, 1449, 1450, 1451, 1452, 1453, 1454, 1455, 1456, 1457, 1458, 1459, 1496, 1497, 1498, 1499, 1500, 1501, 1502, 1503, 1504, 1505, 1506, 1507, 1508, 1509] (by decide +kernel) (by decide +kernel)
set_option maxRecDepth 20000 in
theorem gL_law_X9_boy : GoodIn wsL_law (wsV RL 271 RX9 yX9_boy wsX9_boy) := goodIn_app (goodIn_of _ (by decide +kernel)) ggL_law_X9_boy
set_option maxRecDepth 20000 in
theorem ggL_law_X6_noon : GoodIn wsL_law wsX6_noon := goodIn_r _ [1363, 26, 384, 1441, 1442, 1443, 1444, 1445, 1446, 1447, 1472, 1473, 1474] (by decide +kernel) (by decide +kernel)
set_option maxRecDepth 20000 in
theorem gL_law_X6_noon : GoodIn wsL_law (wsV RL 272 RX6 yX6_noon wsX6_noon) := goodIn_app (goodIn_of _ (by decide +kernel)) ggL_law_X6_noon
set_option maxRecDepth 20000 in
theorem ggL_law_X9_noon : GoodIn wsL_law wsX9_noon := goodIn_r _ [1367, 1359, 402, 1368, 1448, 1449, 1450, 1451, 1452, 1453, 1454, 1455, 1456] (by decide +kernel) (by decide +kernel)
set_option maxRecDepth 20000 in
theorem gL_law_X9_noon : GoodIn wsL_law (wsV RL 275 RX9 yX9_noon wsX9_noon) := goodIn_app (goodIn_of _ (by decide +kernel)) ggL_law_X9_noon
set_option maxRecDepth 20000 in
theorem ggL_law_X6_bells : GoodIn wsL_law wsX6_bells := goodIn_r _ [1372, 26, 1441, 1442, 1443, 1444, 1445, 1446, 1447, 1472, 1473, 1474] (by decide +kernel) (by decide +kernel)
set_option maxRecDepth 20000 in
theorem gL_law_X6_bells : GoodIn wsL_law (wsV RL 276 RX6 yX6_bells wsX6_bells) := goodIn_app (goodIn_of _ (by decide +kernel)) ggL_law_X6_bells
set_option maxRecDepth 20000 in
theorem ggL_law_X9_bells : GoodIn wsL_law wsX9_bells := goodIn_r _ [1376, 1359, 1448, 1449, 1450, 1451, 1452, 1453, 1454, 1455, 1456] (by decide +kernel) (by decide +kernel)
set_option maxRecDepth 20000 in
theorem gL_law_X9_bells : GoodIn wsL_law (wsV RL 279 RX9 yX9_bells wsX9_bells) := goodIn_app (goodIn_of _ (by decide +kernel)) ggL_law_X9_bells
set_option maxRecDepth 20000 in
theorem ggL_law_X6_watch : GoodIn wsL_law wsX6_watch := goodIn_r _ [1380, 26, 1441, 1442, 1443, 1444, 1445, 1446, 1447, 1472, 1473, 1474] (by decide +kernel) (by decide +kernel)
set_option maxRecDepth 20000 in
theorem gL_law_X6_watch : GoodIn wsL_law (wsV RL 280 RX6 yX6_watch wsX6_watch) := goodIn_app (goodIn_of _ (by decide +kernel)) ggL_law_X6_watch
set_option maxRecDepth 20000 in
theorem ggL_law_X9_watch : GoodIn wsL_law wsX9_watch := goodIn_r _ [1384, 1359, 1448, 1449, 1450, 1451, 1452, 1453, 1454, 1455, 1456] (by decide +kernel) (by decide +kernel)
set_option maxRecDepth 20000 in
theorem gL_law_X9_watch : GoodIn wsL_law (wsV RL 283 RX9 yX9_watch wsX9_watch) := goodIn_app (goodIn_of _ (by decide +kernel)) ggL_law_X9_watch
set_option maxRecDepth 20000 in
theorem ggL_law_X6_wrongBy : GoodIn wsL_law wsX6_wrongBy := goodIn_r _ [1388, 26, 384, 1441, 1442, 1443, 1444, 1445, 1446, 1447, 1472, 1473, 1474] (by decide +kernel) (by decide +kernel)
set_option maxRecDepth 20000 in
theorem gL_law_X6_wrongBy : GoodIn wsL_law (wsV RL 284 RX6 yX6_wrongBy wsX6_wrongBy) := goodIn_app (goodIn_of _ (by decide +kernel)) ggL_law_X6_wrongBy
set_option maxRecDepth 20000 in
theorem ggL_law_X9_wrongBy : GoodIn wsL_law wsX9_wrongBy := goodIn_r _ [1392, 1359, 402, 1368, 1448, 1449, 1450, 1451, 1452, 1453, 1454, 1455, 1456] (by decide +kernel) (by decide +kernel)
set_option maxRecDepth 20000 in
theorem gL_law_X9_wrongBy : GoodIn wsL_law (wsV RL 287 RX9 yX9_wrongBy wsX9_wrongBy) := goodIn_app (goodIn_of _ (by decide +kernel)) ggL_law_X9_wrongBy
set_option maxRecDepth 20000 in
theorem ggL_law_X6_checksum : GoodIn wsL_law wsX6_checksum := goodIn_r _ [1396, 1397, 17, 303, 1398, 18, 595, 384, 27, 173, 174, 175, 16, 176, 177, 314, 315, 316, 317, 318, 319, 320, 321, 322, 323, 324, 325, 326, 327, 328, 329, 32, 1441, 1442, 1443, 1444, 1445, 1446, 1447, 1476, 1477, 1478, 1479, 1480, 1481, 1482, 1483, 1484, 1485, 1486, 1487, 1488, 1489, 1514, 1515, 1516, 1517, 1518, 1519, 1457, 1458, 1459] (by decide +kernel) (by decide +kernel)
set_option maxRecDepth 20000 in
theorem gL_law_X6_checksum : GoodIn wsL_law (wsV RL 288 RX6 yX6_checksum wsX6_checksum) := goodIn_app (goodIn_of _ (by decide +kernel)) ggL_law_X6_checksum
set_option maxRecDepth 20000 in
theorem ggL_law_X9_checksum : GoodIn wsL_law wsX9_checksum := goodIn_r _ [1402, 1403, 149, 334, 1404, 335, 353, 401, 150, 641, 649, 647, 402, 152, 541, 542, 543, 16, 544, 545, 546, 547, 548, 549, 550, 551, 552, 12, 13, 553, 554, 209, 555, 556, 557, 558, 559, 560, 561, 562, 563, 564, 565, 566, 567, 568, 569, 1448, 1449, 1450, 1451, 1452, 1453, 1454, 1455, 1456, 1496, 1497, 1498, 1499, 1500, 1501, 1502, 1503, 1504, 1505, 1506, 1507, 1508, 1509, 1520, 1521, 1522, 1523, 1524, 1510, 1511, 1512, 1513, 1457, 1458, 1459] (by decide +kernel) (by decide +kernel)
set_option maxRecDepth 20000 in
theorem gL_law_X9_checksum : GoodIn wsL_law (wsV RL 292 RX9 yX9_checksum wsX9_checksum) := goodIn_app (goodIn_of _ (by decide +kernel)) ggL_law_X9_checksum
set_option maxRecDepth 20000 in
theorem ggL_law_L_aboveShare : GoodIn wsL_law wsL_aboveShare := goodIn_ca (goodIn_r _ [1407, 899, 1408, 1409, 1410, 2, 1411, 837, 838, 17, 303, 1412, 866, 1413, 16, 867, 177, 173, 174, 175, 176, 314, 315, 316, 317, 318, 319, 320, 321, 322, 323, 324, 325, 326, 327, 328, 329, 32, 1414, 530, 531, 532, 456, 457, 458, 166, 459, 366, 194, 1441, 1442, 1443, 1444, 1445, 1446, 1447, 1476, 1477, 1478, 1479, 1480, 1481, 1482, 1483, 1484, 1485, 1486, 1487, 1488, 1489, 1457, 1458, 1459] (by decide +kernel) (by decide +kernel)) (goodIn_sub (fun _ h => List.mem_append_right _ h) (by decide +kernel))
set_option maxRecDepth 20000 in
theorem gL_law_L_aboveShare : GoodIn wsL_law (va_wsS RL 293 yL_aboveShare wsL_aboveShare) := goodIn_app (goodIn_of _ (by decide +kernel)) ggL_law_L_aboveShare
set_option maxRecDepth 20000 in
theorem ggL_law_X9_aboveShare : GoodIn wsL_law wsX9_aboveShare := goodIn_r _ [1418, 149, 334, 335, 541, 542, 543, 16, 544, 545, 546, 547, 548, 549, 550, 551, 552, 12, 13, 553, 554, 209, 555, 556, 557, 558, 559, 560, 561, 562, 563, 564, 565, 566, 567, 568, 569, 864, 865, 866, 867, 177, 264, 265, 266, 5, 267, 268, 537, 538, 539, 540, 353, 1448, 1449, 1450, 1451, 1452, 1453, 1454, 1455, 1456, 1496, 1497, 1498, 1499, 1500, 1501, 1502, 1503, 1504, 1505, 1506, 1507, 1508, 1509, 1510, 1511, 1512, 1513, 1457, 1458, 1459] (by decide +kernel) (by decide +kernel)
set_option maxRecDepth 20000 in
theorem gL_law_X9_aboveShare : GoodIn wsL_law (wsV RL 296 RX9 yX9_aboveShare wsX9_aboveShare) := goodIn_app (goodIn_of _ (by decide +kernel)) ggL_law_X9_aboveShare
set_option maxRecDepth 20000 in
theorem ggL_law_X6_isSound : GoodIn wsL_law wsX6_isSound := goodIn_r _ [1422, 167, 22, 1414, 530, 531, 2, 532, 17, 303, 173, 174, 175, 16, 176, 177, 314, 315, 316, 317, 318, 319, 320, 321, 322, 323, 324, 325, 326, 327, 328, 329, 32, 456, 457, 458, 166, 459, 366, 194, 1423, 1424, 1425, 1426, 1427, 1428, 1429, 1430, 18, 595, 1431, 1432, 1433, 21, 1434, 1435, 1325, 1326, 1327, 94, 1328, 1329, 1330, 1331, 50, 82, 83, 84, 49, 85, 64, 1436, 958, 959, 960, 961, 962, 963, 964, 135, 136, 137, 138, 56, 1441, 1442, 1443, 1444, 1445, 1446, 1447, 1457, 1458, 1459, 1476, 1477, 1478, 1479, 1480, 1481, 1482, 1483, 1484, 1485, 1486, 1487, 1488, 1489, 1514, 1515, 1516, 1517, 1518, 1519, 1460, 1461, 1462, 1463, 1464, 1465, 1466, 1467, 1468, 1469, 1470, 1471, 1475] (by decide +kernel) (by decide +kernel)
set_option maxRecDepth 20000 in
theorem gL_law_X6_isSound : GoodIn wsL_law (wsV RL 297 RX6 yX6_isSound wsX6_isSound) := goodIn_app (goodIn_of _ (by decide +kernel)) ggL_law_X6_isSound
set_option maxRecDepth 20000 in
theorem ggL_law_X9_isSound : GoodIn wsL_law wsX9_isSound := goodIn_r _ [1440] (by decide +kernel) (by decide +kernel)
set_option maxRecDepth 20000 in
theorem gL_law_X9_isSound : GoodIn wsL_law (wsV RL 301 RX9 yX9_isSound wsX9_isSound) := goodIn_app (goodIn_of _ (by decide +kernel)) ggL_law_X9_isSound
theorem dL_law_0 : decode cL_law 0 = .ok (.new 8, 3) := by decide +kernel
theorem dL_law_3 : decode cL_law 3 = .ok (.dup, 1) := by decide +kernel
theorem dL_law_4 : decode cL_law 4 = .ok (.invokespecial 136, 3) := by decide +kernel
theorem dL_law_7 : decode cL_law 7 = .ok (.astore_n 1, 1) := by decide +kernel
theorem dL_law_8 : decode cL_law 8 = .ok (.new 137, 3) := by decide +kernel
theorem dL_law_11 : decode cL_law 11 = .ok (.dup, 1) := by decide +kernel
theorem dL_law_12 : decode cL_law 12 = .ok (.invokespecial 139, 3) := by decide +kernel
theorem dL_law_15 : decode cL_law 15 = .ok (.astore_n 2, 1) := by decide +kernel
theorem dL_law_16 : decode cL_law 16 = .ok (.iconst 1, 1) := by decide +kernel
theorem dL_law_17 : decode cL_law 17 = .ok (.newarray .long, 2) := by decide +kernel
