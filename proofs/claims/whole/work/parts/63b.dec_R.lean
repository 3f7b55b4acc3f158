set_option maxRecDepth 20000 in
theorem ggX10_multiply_X10_trim : GoodIn wsX10_multiply wsX10_trim := goodIn_r _ [9, 2, 1, 4, 10, 11, 12, 13, 14, 15, 16, 17, 18, 19, 20, 21, 22, 23, 24, 25, 26, 27, 28, 29] rfl rfl
set_option maxRecDepth 20000 in
theorem gX10_multiply_X10_trim : GoodIn wsX10_multiply (wsV RX10 69 RX10 yX10_trim wsX10_trim) := goodIn_app (goodIn_of _ (by decide +kernel)) ggX10_multiply_X10_trim
theorem dX10_multiply_0 : decode cX10_multiply 0 = .ok (.aload_n 0, 1) := by decide +kernel
theorem dX10_multiply_1 : decode cX10_multiply 1 = .ok (.getfield 41, 3) := by decide +kernel
theorem dX10_multiply_4 : decode cX10_multiply 4 = .ok (.iload_n 1, 1) := by decide +kernel
theorem dX10_multiply_5 : decode cX10_multiply 5 = .ok (.iaload, 1) := by decide +kernel
theorem dX10_multiply_6 : decode cX10_multiply 6 = .ok (.aload_n 0, 1) := by decide +kernel
theorem dX10_multiply_7 : decode cX10_multiply 7 = .ok (.getfield 41, 3) := by decide +kernel
theorem dX10_multiply_10 : decode cX10_multiply 10 = .ok (.iload_n 2, 1) := by decide +kernel
theorem dX10_multiply_11 : decode cX10_multiply 11 = .ok (.iaload, 1) := by decide +kernel
theorem dX10_multiply_12 : decode cX10_multiply 12 = .ok (.iadd, 1) := by decide +kernel
theorem dX10_multiply_13 : decode cX10_multiply 13 = .ok (.istore 4, 2) := by decide +kernel
theorem dX10_multiply_15 : decode cX10_multiply 15 = .ok (.iconst 0, 1) := by decide +kernel
theorem dX10_multiply_16 : decode cX10_multiply 16 = .ok (.istore 5, 2) := by decide +kernel
theorem dX10_multiply_18 : decode cX10_multiply 18 = .ok (.iload 5, 2) := by decide +kernel
theorem dX10_multiply_20 : decode cX10_multiply 20 = .ok (.iload 4, 2) := by decide +kernel
theorem dX10_multiply_22 : decode cX10_multiply 22 = .ok (.if_icmp .ge 22, 3) := by decide +kernel
theorem dX10_multiply_25 : decode cX10_multiply 25 = .ok (.aload_n 0, 1) := by decide +kernel
theorem dX10_multiply_26 : decode cX10_multiply 26 = .ok (.getfield 38, 3) := by decide +kernel
theorem dX10_multiply_29 : decode cX10_multiply 29 = .ok (.bipush 64, 2) := by decide +kernel
theorem dX10_multiply_31 : decode cX10_multiply 31 = .ok (.iload_n 3, 1) := by decide +kernel
theorem dX10_multiply_32 : decode cX10_multiply 32 = .ok (.imul, 1) := by decide +kernel
theorem dX10_multiply_33 : decode cX10_multiply 33 = .ok (.iload 5, 2) := by decide +kernel
theorem dX10_multiply_35 : decode cX10_multiply 35 = .ok (.iadd, 1) := by decide +kernel
theorem dX10_multiply_36 : decode cX10_multiply 36 = .ok (.iconst 0, 1) := by decide +kernel
theorem dX10_multiply_37 : decode cX10_multiply 37 = .ok (.iastore, 1) := by decide +kernel
theorem dX10_multiply_38 : decode cX10_multiply 38 = .ok (.iinc 5 1, 3) := by decide +kernel
theorem dX10_multiply_41 : decode cX10_multiply 41 = .ok (.goto (-23), 3) := by decide +kernel
theorem dX10_multiply_44 : decode cX10_multiply 44 = .ok (.iconst 0, 1) := by decide +kernel
theorem dX10_multiply_45 : decode cX10_multiply 45 = .ok (.istore 5, 2) := by decide +kernel
theorem dX10_multiply_47 : decode cX10_multiply 47 = .ok (.iload 5, 2) := by decide +kernel
theorem dX10_multiply_49 : decode cX10_multiply 49 = .ok (.aload_n 0, 1) := by decide +kernel
theorem dX10_multiply_50 : decode cX10_multiply 50 = .ok (.getfield 41, 3) := by decide +kernel
theorem dX10_multiply_53 : decode cX10_multiply 53 = .ok (.iload_n 1, 1) := by decide +kernel
theorem dX10_multiply_54 : decode cX10_multiply 54 = .ok (.iaload, 1) := by decide +kernel
theorem dX10_multiply_55 : decode cX10_multiply 55 = .ok (.if_icmp .ge 136, 3) := by decide +kernel
theorem dX10_multiply_58 : decode cX10_multiply 58 = .ok (.lconst 0, 1) := by decide +kernel
theorem dX10_multiply_59 : decode cX10_multiply 59 = .ok (.lstore 6, 2) := by decide +kernel
theorem dX10_multiply_61 : decode cX10_multiply 61 = .ok (.aload_n 0, 1) := by decide +kernel
theorem dX10_multiply_62 : decode cX10_multiply 62 = .ok (.getfield 38, 3) := by decide +kernel
theorem dX10_multiply_65 : decode cX10_multiply 65 = .ok (.bipush 64, 2) := by decide +kernel
theorem dX10_multiply_67 : decode cX10_multiply 67 = .ok (.iload_n 1, 1) := by decide +kernel
theorem dX10_multiply_68 : decode cX10_multiply 68 = .ok (.imul, 1) := by decide +kernel
theorem dX10_multiply_69 : decode cX10_multiply 69 = .ok (.iload 5, 2) := by decide +kernel
theorem dX10_multiply_71 : decode cX10_multiply 71 = .ok (.iadd, 1) := by decide +kernel
theorem dX10_multiply_72 : decode cX10_multiply 72 = .ok (.iaload, 1) := by decide +kernel
theorem dX10_multiply_73 : decode cX10_multiply 73 = .ok (.i2l, 1) := by decide +kernel
theorem dX10_multiply_74 : decode cX10_multiply 74 = .ok (.lstore 8, 2) := by decide +kernel
theorem dX10_multiply_76 : decode cX10_multiply 76 = .ok (.iconst 0, 1) := by decide +kernel
theorem dX10_multiply_77 : decode cX10_multiply 77 = .ok (.istore 10, 2) := by decide +kernel
theorem dX10_multiply_79 : decode cX10_multiply 79 = .ok (.iload 10, 2) := by decide +kernel
theorem dX10_multiply_81 : decode cX10_multiply 81 = .ok (.aload_n 0, 1) := by decide +kernel
theorem dX10_multiply_82 : decode cX10_multiply 82 = .ok (.getfield 41, 3) := by decide +kernel
theorem dX10_multiply_85 : decode cX10_multiply 85 = .ok (.iload_n 2, 1) := by decide +kernel
theorem dX10_multiply_86 : decode cX10_multiply 86 = .ok (.iaload, 1) := by decide +kernel
theorem dX10_multiply_87 : decode cX10_multiply 87 = .ok (.if_icmp .lt 10, 3) := by decide +kernel
theorem dX10_multiply_90 : decode cX10_multiply 90 = .ok (.lload 6, 2) := by decide +kernel
theorem dX10_multiply_92 : decode cX10_multiply 92 = .ok (.lconst 0, 1) := by decide +kernel
theorem dX10_multiply_93 : decode cX10_multiply 93 = .ok (.lcmp, 1) := by decide +kernel
theorem dX10_multiply_94 : decode cX10_multiply 94 = .ok (.ifCond .le 91, 3) := by decide +kernel
theorem dX10_multiply_97 : decode cX10_multiply 97 = .ok (.aload_n 0, 1) := by decide +kernel
theorem dX10_multiply_98 : decode cX10_multiply 98 = .ok (.getfield 38, 3) := by decide +kernel
theorem dX10_multiply_101 : decode cX10_multiply 101 = .ok (.bipush 64, 2) := by decide +kernel
theorem dX10_multiply_103 : decode cX10_multiply 103 = .ok (.iload_n 3, 1) := by decide +kernel
theorem dX10_multiply_104 : decode cX10_multiply 104 = .ok (.imul, 1) := by decide +kernel
theorem dX10_multiply_105 : decode cX10_multiply 105 = .ok (.iload 5, 2) := by decide +kernel
theorem dX10_multiply_107 : decode cX10_multiply 107 = .ok (.iadd, 1) := by decide +kernel
theorem dX10_multiply_108 : decode cX10_multiply 108 = .ok (.iload 10, 2) := by decide +kernel
theorem dX10_multiply_110 : decode cX10_multiply 110 = .ok (.iadd, 1) := by decide +kernel
theorem dX10_multiply_111 : decode cX10_multiply 111 = .ok (.iaload, 1) := by decide +kernel
theorem dX10_multiply_112 : decode cX10_multiply 112 = .ok (.i2l, 1) := by decide +kernel
theorem dX10_multiply_113 : decode cX10_multiply 113 = .ok (.lload 6, 2) := by decide +kernel
theorem dX10_multiply_115 : decode cX10_multiply 115 = .ok (.ladd, 1) := by decide +kernel
theorem dX10_multiply_116 : decode cX10_multiply 116 = .ok (.iload 10, 2) := by decide +kernel
theorem dX10_multiply_118 : decode cX10_multiply 118 = .ok (.aload_n 0, 1) := by decide +kernel
theorem dX10_multiply_119 : decode cX10_multiply 119 = .ok (.getfield 41, 3) := by decide +kernel
theorem dX10_multiply_122 : decode cX10_multiply 122 = .ok (.iload_n 2, 1) := by decide +kernel
theorem dX10_multiply_123 : decode cX10_multiply 123 = .ok (.iaload, 1) := by decide +kernel
theorem dX10_multiply_124 : decode cX10_multiply 124 = .ok (.if_icmp .ge 22, 3) := by decide +kernel
theorem dX10_multiply_127 : decode cX10_multiply 127 = .ok (.lload 8, 2) := by decide +kernel
theorem dX10_multiply_129 : decode cX10_multiply 129 = .ok (.aload_n 0, 1) := by decide +kernel
theorem dX10_multiply_130 : decode cX10_multiply 130 = .ok (.getfield 38, 3) := by decide +kernel
theorem dX10_multiply_133 : decode cX10_multiply 133 = .ok (.bipush 64, 2) := by decide +kernel
theorem dX10_multiply_135 : decode cX10_multiply 135 = .ok (.iload_n 2, 1) := by decide +kernel
theorem dX10_multiply_136 : decode cX10_multiply 136 = .ok (.imul, 1) := by decide +kernel
theorem dX10_multiply_137 : decode cX10_multiply 137 = .ok (.iload 10, 2) := by decide +kernel
theorem dX10_multiply_139 : decode cX10_multiply 139 = .ok (.iadd, 1) := by decide +kernel
theorem dX10_multiply_140 : decode cX10_multiply 140 = .ok (.iaload, 1) := by decide +kernel
theorem dX10_multiply_141 : decode cX10_multiply 141 = .ok (.i2l, 1) := by decide +kernel
theorem dX10_multiply_142 : decode cX10_multiply 142 = .ok (.lmul, 1) := by decide +kernel
theorem dX10_multiply_143 : decode cX10_multiply 143 = .ok (.goto 4, 3) := by decide +kernel
theorem dX10_multiply_146 : decode cX10_multiply 146 = .ok (.lconst 0, 1) := by decide +kernel
theorem dX10_multiply_147 : decode cX10_multiply 147 = .ok (.ladd, 1) := by decide +kernel
theorem dX10_multiply_148 : decode cX10_multiply 148 = .ok (.lstore 11, 2) := by decide +kernel
theorem dX10_multiply_150 : decode cX10_multiply 150 = .ok (.aload_n 0, 1) := by decide +kernel
theorem dX10_multiply_151 : decode cX10_multiply 151 = .ok (.getfield 38, 3) := by decide +kernel
theorem dX10_multiply_154 : decode cX10_multiply 154 = .ok (.bipush 64, 2) := by decide +kernel
theorem dX10_multiply_156 : decode cX10_multiply 156 = .ok (.iload_n 3, 1) := by decide +kernel
theorem dX10_multiply_157 : decode cX10_multiply 157 = .ok (.imul, 1) := by decide +kernel
theorem dX10_multiply_158 : decode cX10_multiply 158 = .ok (.iload 5, 2) := by decide +kernel
theorem dX10_multiply_160 : decode cX10_multiply 160 = .ok (.iadd, 1) := by decide +kernel
theorem dX10_multiply_161 : decode cX10_multiply 161 = .ok (.iload 10, 2) := by decide +kernel
theorem dX10_multiply_163 : decode cX10_multiply 163 = .ok (.iadd, 1) := by decide +kernel
theorem dX10_multiply_164 : decode cX10_multiply 164 = .ok (.lload 11, 2) := by decide +kernel
theorem dX10_multiply_166 : decode cX10_multiply 166 = .ok (.ldc2_w 59, 3) := by decide +kernel
theorem dX10_multiply_169 : decode cX10_multiply 169 = .ok (.land, 1) := by decide +kernel
theorem dX10_multiply_170 : decode cX10_multiply 170 = .ok (.l2i, 1) := by decide +kernel
theorem dX10_multiply_171 : decode cX10_multiply 171 = .ok (.iastore, 1) := by decide +kernel
theorem dX10_multiply_172 : decode cX10_multiply 172 = .ok (.lload 11, 2) := by decide +kernel
theorem dX10_multiply_174 : decode cX10_multiply 174 = .ok (.bipush 28, 2) := by decide +kernel
theorem dX10_multiply_176 : decode cX10_multiply 176 = .ok (.lshr, 1) := by decide +kernel
theorem dX10_multiply_177 : decode cX10_multiply 177 = .ok (.lstore 6, 2) := by decide +kernel
theorem dX10_multiply_179 : decode cX10_multiply 179 = .ok (.iinc 10 1, 3) := by decide +kernel
theorem dX10_multiply_182 : decode cX10_multiply 182 = .ok (.goto (-103), 3) := by decide +kernel
theorem dX10_multiply_185 : decode cX10_multiply 185 = .ok (.iinc 5 1, 3) := by decide +kernel
theorem dX10_multiply_188 : decode cX10_multiply 188 = .ok (.goto (-141), 3) := by decide +kernel
theorem dX10_multiply_191 : decode cX10_multiply 191 = .ok (.aload_n 0, 1) := by decide +kernel
theorem dX10_multiply_192 : decode cX10_multiply 192 = .ok (.getfield 44, 3) := by decide +kernel
theorem dX10_multiply_195 : decode cX10_multiply 195 = .ok (.iload_n 3, 1) := by decide +kernel
theorem dX10_multiply_196 : decode cX10_multiply 196 = .ok (.aload_n 0, 1) := by decide +kernel
theorem dX10_multiply_197 : decode cX10_multiply 197 = .ok (.getfield 44, 3) := by decide +kernel
theorem dX10_multiply_200 : decode cX10_multiply 200 = .ok (.iload_n 1, 1) := by decide +kernel
theorem dX10_multiply_201 : decode cX10_multiply 201 = .ok (.iaload, 1) := by decide +kernel
theorem dX10_multiply_202 : decode cX10_multiply 202 = .ok (.aload_n 0, 1) := by decide +kernel
theorem dX10_multiply_203 : decode cX10_multiply 203 = .ok (.getfield 44, 3) := by decide +kernel
theorem dX10_multiply_206 : decode cX10_multiply 206 = .ok (.iload_n 2, 1) := by decide +kernel
theorem dX10_multiply_207 : decode cX10_multiply 207 = .ok (.iaload, 1) := by decide +kernel
theorem dX10_multiply_208 : decode cX10_multiply 208 = .ok (.imul, 1) := by decide +kernel
theorem dX10_multiply_209 : decode cX10_multiply 209 = .ok (.iastore, 1) := by decide +kernel
theorem dX10_multiply_210 : decode cX10_multiply 210 = .ok (.aload_n 0, 1) := by decide +kernel
theorem dX10_multiply_211 : decode cX10_multiply 211 = .ok (.iload_n 3, 1) := by decide +kernel
theorem dX10_multiply_212 : decode cX10_multiply 212 = .ok (.iload 4, 2) := by decide +kernel
theorem dX10_multiply_214 : decode cX10_multiply 214 = .ok (.invokevirtual 69, 3) := by decide +kernel
theorem dX10_multiply_217 : decode cX10_multiply 217 = .ok (.return_, 1) := by decide +kernel
set_option maxRecDepth 20000 in
theorem ggX10_overSmall_X10_trim : GoodIn wsX10_overSmall wsX10_trim := goodIn_r _ [8, 3, 1, 9, 10, 11, 12, 13, 14, 15, 16, 17, 18, 19, 20, 21, 22, 23, 24, 25, 26, 27, 28, 29] rfl rfl
set_option maxRecDepth 20000 in
theorem gX10_overSmall_X10_trim : GoodIn wsX10_overSmall (wsV RX10 69 RX10 yX10_trim wsX10_trim) := goodIn_app (goodIn_of _ (by decide +kernel)) ggX10_overSmall_X10_trim
theorem dX10_overSmall_0 : decode cX10_overSmall 0 = .ok (.lconst 0, 1) := by decide +kernel
theorem dX10_overSmall_1 : decode cX10_overSmall 1 = .ok (.lstore_n 3, 1) := by decide +kernel
theorem dX10_overSmall_2 : decode cX10_overSmall 2 = .ok (.aload_n 0, 1) := by decide +kernel
theorem dX10_overSmall_3 : decode cX10_overSmall 3 = .ok (.getfield 41, 3) := by decide +kernel
theorem dX10_overSmall_6 : decode cX10_overSmall 6 = .ok (.iload_n 1, 1) := by decide +kernel
theorem dX10_overSmall_7 : decode cX10_overSmall 7 = .ok (.iaload, 1) := by decide +kernel
theorem dX10_overSmall_8 : decode cX10_overSmall 8 = .ok (.iconst 1, 1) := by decide +kernel
theorem dX10_overSmall_9 : decode cX10_overSmall 9 = .ok (.isub, 1) := by decide +kernel
theorem dX10_overSmall_10 : decode cX10_overSmall 10 = .ok (.istore 5, 2) := by decide +kernel
theorem dX10_overSmall_12 : decode cX10_overSmall 12 = .ok (.iload 5, 2) := by decide +kernel
theorem dX10_overSmall_14 : decode cX10_overSmall 14 = .ok (.ifCond .lt 54, 3) := by decide +kernel
theorem dX10_overSmall_17 : decode cX10_overSmall 17 = .ok (.lload_n 3, 1) := by decide +kernel
theorem dX10_overSmall_18 : decode cX10_overSmall 18 = .ok (.ldc2_w 74, 3) := by decide +kernel
theorem dX10_overSmall_21 : decode cX10_overSmall 21 = .ok (.lmul, 1) := by decide +kernel
theorem dX10_overSmall_22 : decode cX10_overSmall 22 = .ok (.aload_n 0, 1) := by decide +kernel
theorem dX10_overSmall_23 : decode cX10_overSmall 23 = .ok (.getfield 38, 3) := by decide +kernel
theorem dX10_overSmall_26 : decode cX10_overSmall 26 = .ok (.bipush 64, 2) := by decide +kernel
theorem dX10_overSmall_28 : decode cX10_overSmall 28 = .ok (.iload_n 1, 1) := by decide +kernel
theorem dX10_overSmall_29 : decode cX10_overSmall 29 = .ok (.imul, 1) := by decide +kernel
theorem dX10_overSmall_30 : decode cX10_overSmall 30 = .ok (.iload 5, 2) := by decide +kernel
theorem dX10_overSmall_32 : decode cX10_overSmall 32 = .ok (.iadd, 1) := by decide +kernel
theorem dX10_overSmall_33 : decode cX10_overSmall 33 = .ok (.iaload, 1) := by decide +kernel
theorem dX10_overSmall_34 : decode cX10_overSmall 34 = .ok (.i2l, 1) := by decide +kernel
theorem dX10_overSmall_35 : decode cX10_overSmall 35 = .ok (.ladd, 1) := by decide +kernel
theorem dX10_overSmall_36 : decode cX10_overSmall 36 = .ok (.lstore 6, 2) := by decide +kernel
theorem dX10_overSmall_38 : decode cX10_overSmall 38 = .ok (.aload_n 0, 1) := by decide +kernel
theorem dX10_overSmall_39 : decode cX10_overSmall 39 = .ok (.getfield 38, 3) := by decide +kernel
theorem dX10_overSmall_42 : decode cX10_overSmall 42 = .ok (.bipush 64, 2) := by decide +kernel
theorem dX10_overSmall_44 : decode cX10_overSmall 44 = .ok (.iload_n 1, 1) := by decide +kernel
theorem dX10_overSmall_45 : decode cX10_overSmall 45 = .ok (.imul, 1) := by decide +kernel
theorem dX10_overSmall_46 : decode cX10_overSmall 46 = .ok (.iload 5, 2) := by decide +kernel
theorem dX10_overSmall_48 : decode cX10_overSmall 48 = .ok (.iadd, 1) := by decide +kernel
theorem dX10_overSmall_49 : decode cX10_overSmall 49 = .ok (.lload 6, 2) := by decide +kernel
theorem dX10_overSmall_51 : decode cX10_overSmall 51 = .ok (.iload_n 2, 1) := by decide +kernel
theorem dX10_overSmall_52 : decode cX10_overSmall 52 = .ok (.i2l, 1) := by decide +kernel
theorem dX10_overSmall_53 : decode cX10_overSmall 53 = .ok (.ldiv, 1) := by decide +kernel
theorem dX10_overSmall_54 : decode cX10_overSmall 54 = .ok (.l2i, 1) := by decide +kernel
theorem dX10_overSmall_55 : decode cX10_overSmall 55 = .ok (.iastore, 1) := by decide +kernel
theorem dX10_overSmall_56 : decode cX10_overSmall 56 = .ok (.lload 6, 2) := by decide +kernel
theorem dX10_overSmall_58 : decode cX10_overSmall 58 = .ok (.iload_n 2, 1) := by decide +kernel
theorem dX10_overSmall_59 : decode cX10_overSmall 59 = .ok (.i2l, 1) := by decide +kernel
theorem dX10_overSmall_60 : decode cX10_overSmall 60 = .ok (.lrem, 1) := by decide +kernel
theorem dX10_overSmall_61 : decode cX10_overSmall 61 = .ok (.lstore_n 3, 1) := by decide +kernel
theorem dX10_overSmall_62 : decode cX10_overSmall 62 = .ok (.iinc 5 (-1), 3) := by decide +kernel
theorem dX10_overSmall_65 : decode cX10_overSmall 65 = .ok (.goto (-53), 3) := by decide +kernel
theorem dX10_overSmall_68 : decode cX10_overSmall 68 = .ok (.aload_n 0, 1) := by decide +kernel
theorem dX10_overSmall_69 : decode cX10_overSmall 69 = .ok (.iload_n 1, 1) := by decide +kernel
theorem dX10_overSmall_70 : decode cX10_overSmall 70 = .ok (.aload_n 0, 1) := by decide +kernel
theorem dX10_overSmall_71 : decode cX10_overSmall 71 = .ok (.getfield 41, 3) := by decide +kernel
theorem dX10_overSmall_74 : decode cX10_overSmall 74 = .ok (.iload_n 1, 1) := by decide +kernel
theorem dX10_overSmall_75 : decode cX10_overSmall 75 = .ok (.iaload, 1) := by decide +kernel
theorem dX10_overSmall_76 : decode cX10_overSmall 76 = .ok (.invokevirtual 69, 3) := by decide +kernel
theorem dX10_overSmall_79 : decode cX10_overSmall 79 = .ok (.lload_n 3, 1) := by decide +kernel
theorem dX10_overSmall_80 : decode cX10_overSmall 80 = .ok (.l2i, 1) := by decide +kernel
theorem dX10_overSmall_81 : decode cX10_overSmall 81 = .ok (.ireturn, 1) := by decide +kernel
set_option maxRecDepth 20000 in
theorem ggX10_over_X10_setSmall : GoodIn wsX10_over wsX10_setSmall := goodIn_r _ [8, 1, 3, 9, 2, 32, 33, 34, 35, 36, 37, 38, 39, 40, 41, 42, 43, 44, 45, 46, 47, 48, 49, 50, 51] rfl rfl
set_option maxRecDepth 20000 in
theorem gX10_over_X10_setSmall : GoodIn wsX10_over (wsV RX10 76 RX10 yX10_setSmall wsX10_setSmall) := goodIn_app (goodIn_of _ (by decide +kernel)) ggX10_over_X10_setSmall
set_option maxRecDepth 20000 in
theorem ggX10_over_X10_times : GoodIn wsX10_over wsX10_times := goodIn_r _ [13, 2, 3, 9, 1, 14, 15, 16, 7, 17, 32, 33, 34, 35, 36, 37, 38, 39, 40, 41, 42, 43, 44, 45, 46, 47, 48, 49, 50, 51] rfl rfl
set_option maxRecDepth 20000 in
theorem gX10_over_X10_times : GoodIn wsX10_over (wsV RX10 80 RX10 yX10_times wsX10_times) := goodIn_app (goodIn_of _ (by decide +kernel)) ggX10_over_X10_times
set_option maxRecDepth 20000 in
theorem ggX10_over_X10_compareSizes : GoodIn wsX10_over wsX10_compareSizes := goodIn_r _ [21, 2, 3, 32, 33, 34, 35, 36, 37, 38, 39, 40, 41, 42, 43, 44, 45, 46, 47, 48, 49, 50, 51] rfl rfl
set_option maxRecDepth 20000 in
theorem gX10_over_X10_compareSizes : GoodIn wsX10_over (wsV RX10 61 RX10 yX10_compareSizes wsX10_compareSizes) := goodIn_app (goodIn_of _ (by decide +kernel)) ggX10_over_X10_compareSizes
set_option maxRecDepth 20000 in
theorem ggX10_over_X10_plus : GoodIn wsX10_over wsX10_plus := goodIn_r _ [25, 1, 2, 3, 26, 27, 28, 29, 30, 7, 31, 14, 15, 16, 17, 18, 19, 20, 21, 32, 33, 34, 35, 36, 37, 38, 39, 40, 41, 42, 43, 44, 45, 46, 47, 48, 49, 50, 51] rfl rfl
set_option maxRecDepth 20000 in
theorem gX10_over_X10_plus : GoodIn wsX10_over (wsV RX10 83 RX10 yX10_plus wsX10_plus) := goodIn_app (goodIn_of _ (by decide +kernel)) ggX10_over_X10_plus
set_option maxRecDepth 20000 in
theorem ggX10_over_X10_trim : GoodIn wsX10_over wsX10_trim := goodIn_r _ [17, 3, 2, 1, 32, 33, 34, 35, 36, 37, 38, 39, 40, 41, 42, 43, 44, 45, 46, 47, 48, 49, 50, 51] rfl rfl
set_option maxRecDepth 20000 in
theorem gX10_over_X10_trim : GoodIn wsX10_over (wsV RX10 69 RX10 yX10_trim wsX10_trim) := goodIn_app (goodIn_of _ (by decide +kernel)) ggX10_over_X10_trim
theorem dX10_over_0 : decode cX10_over 0 = .ok (.aload_n 0, 1) := by decide +kernel
theorem dX10_over_1 : decode cX10_over 1 = .ok (.getfield 44, 3) := by decide +kernel
theorem dX10_over_4 : decode cX10_over 4 = .ok (.iload_n 1, 1) := by decide +kernel
theorem dX10_over_5 : decode cX10_over 5 = .ok (.iaload, 1) := by decide +kernel
theorem dX10_over_6 : decode cX10_over 6 = .ok (.aload_n 0, 1) := by decide +kernel
theorem dX10_over_7 : decode cX10_over 7 = .ok (.getfield 44, 3) := by decide +kernel
theorem dX10_over_10 : decode cX10_over 10 = .ok (.iload_n 2, 1) := by decide +kernel
theorem dX10_over_11 : decode cX10_over 11 = .ok (.iaload, 1) := by decide +kernel
theorem dX10_over_12 : decode cX10_over 12 = .ok (.imul, 1) := by decide +kernel
theorem dX10_over_13 : decode cX10_over 13 = .ok (.istore_n 3, 1) := by decide +kernel
theorem dX10_over_14 : decode cX10_over 14 = .ok (.aload_n 0, 1) := by decide +kernel
theorem dX10_over_15 : decode cX10_over 15 = .ok (.getfield 41, 3) := by decide +kernel
theorem dX10_over_18 : decode cX10_over 18 = .ok (.iload_n 1, 1) := by decide +kernel
theorem dX10_over_19 : decode cX10_over 19 = .ok (.iaload, 1) := by decide +kernel
theorem dX10_over_20 : decode cX10_over 20 = .ok (.istore 4, 2) := by decide +kernel
theorem dX10_over_22 : decode cX10_over 22 = .ok (.aload_n 0, 1) := by decide +kernel
theorem dX10_over_23 : decode cX10_over 23 = .ok (.bipush 52, 2) := by decide +kernel
theorem dX10_over_25 : decode cX10_over 25 = .ok (.lconst 0, 1) := by decide +kernel
theorem dX10_over_26 : decode cX10_over 26 = .ok (.invokevirtual 76, 3) := by decide +kernel
theorem dX10_over_29 : decode cX10_over 29 = .ok (.bipush 28, 2) := by decide +kernel
theorem dX10_over_31 : decode cX10_over 31 = .ok (.iload 4, 2) := by decide +kernel
theorem dX10_over_33 : decode cX10_over 33 = .ok (.imul, 1) := by decide +kernel
theorem dX10_over_34 : decode cX10_over 34 = .ok (.iconst 1, 1) := by decide +kernel
theorem dX10_over_35 : decode cX10_over 35 = .ok (.isub, 1) := by decide +kernel
theorem dX10_over_36 : decode cX10_over 36 = .ok (.istore 5, 2) := by decide +kernel
theorem dX10_over_38 : decode cX10_over 38 = .ok (.iload 5, 2) := by decide +kernel
theorem dX10_over_40 : decode cX10_over 40 = .ok (.ifCond .lt 210, 3) := by decide +kernel
theorem dX10_over_43 : decode cX10_over 43 = .ok (.aload_n 0, 1) := by decide +kernel
theorem dX10_over_44 : decode cX10_over 44 = .ok (.bipush 52, 2) := by decide +kernel
theorem dX10_over_46 : decode cX10_over 46 = .ok (.iconst 2, 1) := by decide +kernel
theorem dX10_over_47 : decode cX10_over 47 = .ok (.invokevirtual 80, 3) := by decide +kernel
theorem dX10_over_50 : decode cX10_over 50 = .ok (.aload_n 0, 1) := by decide +kernel
theorem dX10_over_51 : decode cX10_over 51 = .ok (.getfield 38, 3) := by decide +kernel
theorem dX10_over_54 : decode cX10_over 54 = .ok (.bipush 64, 2) := by decide +kernel
theorem dX10_over_56 : decode cX10_over 56 = .ok (.iload_n 1, 1) := by decide +kernel
theorem dX10_over_57 : decode cX10_over 57 = .ok (.imul, 1) := by decide +kernel
theorem dX10_over_58 : decode cX10_over 58 = .ok (.iload 5, 2) := by decide +kernel
theorem dX10_over_60 : decode cX10_over 60 = .ok (.bipush 28, 2) := by decide +kernel
theorem dX10_over_62 : decode cX10_over 62 = .ok (.idiv, 1) := by decide +kernel
theorem dX10_over_63 : decode cX10_over 63 = .ok (.iadd, 1) := by decide +kernel
theorem dX10_over_64 : decode cX10_over 64 = .ok (.iaload, 1) := by decide +kernel
theorem dX10_over_65 : decode cX10_over 65 = .ok (.iload 5, 2) := by decide +kernel
theorem dX10_over_67 : decode cX10_over 67 = .ok (.bipush 28, 2) := by decide +kernel
theorem dX10_over_69 : decode cX10_over 69 = .ok (.irem, 1) := by decide +kernel
theorem dX10_over_70 : decode cX10_over 70 = .ok (.ishr, 1) := by decide +kernel
theorem dX10_over_71 : decode cX10_over 71 = .ok (.iconst 1, 1) := by decide +kernel
theorem dX10_over_72 : decode cX10_over 72 = .ok (.iand, 1) := by decide +kernel
theorem dX10_over_73 : decode cX10_over 73 = .ok (.istore 6, 2) := by decide +kernel
theorem dX10_over_75 : decode cX10_over 75 = .ok (.iload 6, 2) := by decide +kernel
theorem dX10_over_77 : decode cX10_over 77 = .ok (.iconst 1, 1) := by decide +kernel
theorem dX10_over_78 : decode cX10_over 78 = .ok (.if_icmp .ne 71, 3) := by decide +kernel
theorem dX10_over_81 : decode cX10_over 81 = .ok (.aload_n 0, 1) := by decide +kernel
theorem dX10_over_82 : decode cX10_over 82 = .ok (.getfield 38, 3) := by decide +kernel
theorem dX10_over_85 : decode cX10_over 85 = .ok (.sipush 3328, 3) := by decide +kernel
theorem dX10_over_88 : decode cX10_over 88 = .ok (.aload_n 0, 1) := by decide +kernel
theorem dX10_over_89 : decode cX10_over 89 = .ok (.getfield 41, 3) := by decide +kernel
theorem dX10_over_92 : decode cX10_over 92 = .ok (.bipush 52, 2) := by decide +kernel
theorem dX10_over_94 : decode cX10_over 94 = .ok (.iaload, 1) := by decide +kernel
theorem dX10_over_95 : decode cX10_over 95 = .ok (.ifCond .ne 7, 3) := by decide +kernel
theorem dX10_over_98 : decode cX10_over 98 = .ok (.iconst 1, 1) := by decide +kernel
theorem dX10_over_99 : decode cX10_over 99 = .ok (.goto 13, 3) := by decide +kernel
theorem dX10_over_102 : decode cX10_over 102 = .ok (.aload_n 0, 1) := by decide +kernel
theorem dX10_over_103 : decode cX10_over 103 = .ok (.getfield 38, 3) := by decide +kernel
theorem dX10_over_106 : decode cX10_over 106 = .ok (.sipush 3328, 3) := by decide +kernel
theorem dX10_over_109 : decode cX10_over 109 = .ok (.iaload, 1) := by decide +kernel
theorem dX10_over_110 : decode cX10_over 110 = .ok (.iconst 1, 1) := by decide +kernel
theorem dX10_over_111 : decode cX10_over 111 = .ok (.ior, 1) := by decide +kernel
theorem dX10_over_112 : decode cX10_over 112 = .ok (.iastore, 1) := by decide +kernel
theorem dX10_over_113 : decode cX10_over 113 = .ok (.aload_n 0, 1) := by decide +kernel
theorem dX10_over_114 : decode cX10_over 114 = .ok (.getfield 41, 3) := by decide +kernel
theorem dX10_over_117 : decode cX10_over 117 = .ok (.bipush 52, 2) := by decide +kernel
theorem dX10_over_119 : decode cX10_over 119 = .ok (.aload_n 0, 1) := by decide +kernel
theorem dX10_over_120 : decode cX10_over 120 = .ok (.getfield 41, 3) := by decide +kernel
theorem dX10_over_123 : decode cX10_over 123 = .ok (.bipush 52, 2) := by decide +kernel
theorem dX10_over_125 : decode cX10_over 125 = .ok (.iaload, 1) := by decide +kernel
theorem dX10_over_126 : decode cX10_over 126 = .ok (.ifCond .ne 7, 3) := by decide +kernel
theorem dX10_over_129 : decode cX10_over 129 = .ok (.iconst 1, 1) := by decide +kernel
theorem dX10_over_130 : decode cX10_over 130 = .ok (.goto 10, 3) := by decide +kernel
theorem dX10_over_133 : decode cX10_over 133 = .ok (.aload_n 0, 1) := by decide +kernel
theorem dX10_over_134 : decode cX10_over 134 = .ok (.getfield 41, 3) := by decide +kernel
theorem dX10_over_137 : decode cX10_over 137 = .ok (.bipush 52, 2) := by decide +kernel
theorem dX10_over_139 : decode cX10_over 139 = .ok (.iaload, 1) := by decide +kernel
theorem dX10_over_140 : decode cX10_over 140 = .ok (.iastore, 1) := by decide +kernel
theorem dX10_over_141 : decode cX10_over 141 = .ok (.aload_n 0, 1) := by decide +kernel
theorem dX10_over_142 : decode cX10_over 142 = .ok (.getfield 44, 3) := by decide +kernel
theorem dX10_over_145 : decode cX10_over 145 = .ok (.bipush 52, 2) := by decide +kernel
theorem dX10_over_147 : decode cX10_over 147 = .ok (.iconst 1, 1) := by decide +kernel
theorem dX10_over_148 : decode cX10_over 148 = .ok (.iastore, 1) := by decide +kernel
theorem dX10_over_149 : decode cX10_over 149 = .ok (.aload_n 0, 1) := by decide +kernel
theorem dX10_over_150 : decode cX10_over 150 = .ok (.bipush 52, 2) := by decide +kernel
theorem dX10_over_152 : decode cX10_over 152 = .ok (.iload_n 2, 1) := by decide +kernel
theorem dX10_over_153 : decode cX10_over 153 = .ok (.invokevirtual 61, 3) := by decide +kernel
theorem dX10_over_156 : decode cX10_over 156 = .ok (.ifCond .lt 7, 3) := by decide +kernel
theorem dX10_over_159 : decode cX10_over 159 = .ok (.iconst 1, 1) := by decide +kernel
theorem dX10_over_160 : decode cX10_over 160 = .ok (.goto 4, 3) := by decide +kernel
theorem dX10_over_163 : decode cX10_over 163 = .ok (.iconst 0, 1) := by decide +kernel
theorem dX10_over_164 : decode cX10_over 164 = .ok (.istore 7, 2) := by decide +kernel
theorem dX10_over_166 : decode cX10_over 166 = .ok (.iload 7, 2) := by decide +kernel
theorem dX10_over_168 : decode cX10_over 168 = .ok (.ifCond .eq 17, 3) := by decide +kernel
theorem dX10_over_171 : decode cX10_over 171 = .ok (.aload_n 0, 1) := by decide +kernel
theorem dX10_over_172 : decode cX10_over 172 = .ok (.bipush 52, 2) := by decide +kernel
theorem dX10_over_174 : decode cX10_over 174 = .ok (.iload_n 2, 1) := by decide +kernel
theorem dX10_over_175 : decode cX10_over 175 = .ok (.aload_n 0, 1) := by decide +kernel
theorem dX10_over_176 : decode cX10_over 176 = .ok (.getfield 44, 3) := by decide +kernel
theorem dX10_over_179 : decode cX10_over 179 = .ok (.iload_n 2, 1) := by decide +kernel
theorem dX10_over_180 : decode cX10_over 180 = .ok (.iaload, 1) := by decide +kernel
theorem dX10_over_181 : decode cX10_over 181 = .ok (.ineg, 1) := by decide +kernel
theorem dX10_over_182 : decode cX10_over 182 = .ok (.invokevirtual 83, 3) := by decide +kernel
theorem dX10_over_185 : decode cX10_over 185 = .ok (.bipush 64, 2) := by decide +kernel
theorem dX10_over_187 : decode cX10_over 187 = .ok (.iload_n 1, 1) := by decide +kernel
theorem dX10_over_188 : decode cX10_over 188 = .ok (.imul, 1) := by decide +kernel
theorem dX10_over_189 : decode cX10_over 189 = .ok (.iload 5, 2) := by decide +kernel
theorem dX10_over_191 : decode cX10_over 191 = .ok (.bipush 28, 2) := by decide +kernel
theorem dX10_over_193 : decode cX10_over 193 = .ok (.idiv, 1) := by decide +kernel
theorem dX10_over_194 : decode cX10_over 194 = .ok (.iadd, 1) := by decide +kernel
theorem dX10_over_195 : decode cX10_over 195 = .ok (.istore 8, 2) := by decide +kernel
theorem dX10_over_197 : decode cX10_over 197 = .ok (.aload_n 0, 1) := by decide +kernel
theorem dX10_over_198 : decode cX10_over 198 = .ok (.getfield 38, 3) := by decide +kernel
theorem dX10_over_201 : decode cX10_over 201 = .ok (.iload 8, 2) := by decide +kernel
theorem dX10_over_203 : decode cX10_over 203 = .ok (.iload 7, 2) := by decide +kernel
theorem dX10_over_205 : decode cX10_over 205 = .ok (.ifCond .eq 21, 3) := by decide +kernel
theorem dX10_over_208 : decode cX10_over 208 = .ok (.aload_n 0, 1) := by decide +kernel
theorem dX10_over_209 : decode cX10_over 209 = .ok (.getfield 38, 3) := by decide +kernel
theorem dX10_over_212 : decode cX10_over 212 = .ok (.iload 8, 2) := by decide +kernel
theorem dX10_over_214 : decode cX10_over 214 = .ok (.iaload, 1) := by decide +kernel
theorem dX10_over_215 : decode cX10_over 215 = .ok (.iconst 1, 1) := by decide +kernel
theorem dX10_over_216 : decode cX10_over 216 = .ok (.iload 5, 2) := by decide +kernel
theorem dX10_over_218 : decode cX10_over 218 = .ok (.bipush 28, 2) := by decide +kernel
theorem dX10_over_220 : decode cX10_over 220 = .ok (.irem, 1) := by decide +kernel
theorem dX10_over_221 : decode cX10_over 221 = .ok (.ishl, 1) := by decide +kernel
theorem dX10_over_222 : decode cX10_over 222 = .ok (.ior, 1) := by decide +kernel
theorem dX10_over_223 : decode cX10_over 223 = .ok (.goto 20, 3) := by decide +kernel
theorem dX10_over_226 : decode cX10_over 226 = .ok (.aload_n 0, 1) := by decide +kernel
theorem dX10_over_227 : decode cX10_over 227 = .ok (.getfield 38, 3) := by decide +kernel
theorem dX10_over_230 : decode cX10_over 230 = .ok (.iload 8, 2) := by decide +kernel
theorem dX10_over_232 : decode cX10_over 232 = .ok (.iaload, 1) := by decide +kernel
theorem dX10_over_233 : decode cX10_over 233 = .ok (.iconst 1, 1) := by decide +kernel
theorem dX10_over_234 : decode cX10_over 234 = .ok (.iload 5, 2) := by decide +kernel
theorem dX10_over_236 : decode cX10_over 236 = .ok (.bipush 28, 2) := by decide +kernel
theorem dX10_over_238 : decode cX10_over 238 = .ok (.irem, 1) := by decide +kernel
theorem dX10_over_239 : decode cX10_over 239 = .ok (.ishl, 1) := by decide +kernel
theorem dX10_over_240 : decode cX10_over 240 = .ok (.iconst (-1), 1) := by decide +kernel
theorem dX10_over_241 : decode cX10_over 241 = .ok (.ixor, 1) := by decide +kernel
theorem dX10_over_242 : decode cX10_over 242 = .ok (.iand, 1) := by decide +kernel
theorem dX10_over_243 : decode cX10_over 243 = .ok (.iastore, 1) := by decide +kernel
theorem dX10_over_244 : decode cX10_over 244 = .ok (.iinc 5 (-1), 3) := by decide +kernel
theorem dX10_over_247 : decode cX10_over 247 = .ok (.goto (-209), 3) := by decide +kernel
theorem dX10_over_250 : decode cX10_over 250 = .ok (.aload_n 0, 1) := by decide +kernel
theorem dX10_over_251 : decode cX10_over 251 = .ok (.getfield 44, 3) := by decide +kernel
theorem dX10_over_254 : decode cX10_over 254 = .ok (.iload_n 1, 1) := by decide +kernel
theorem dX10_over_255 : decode cX10_over 255 = .ok (.iload_n 3, 1) := by decide +kernel
theorem dX10_over_256 : decode cX10_over 256 = .ok (.iastore, 1) := by decide +kernel
theorem dX10_over_257 : decode cX10_over 257 = .ok (.aload_n 0, 1) := by decide +kernel
theorem dX10_over_258 : decode cX10_over 258 = .ok (.iload_n 1, 1) := by decide +kernel
theorem dX10_over_259 : decode cX10_over 259 = .ok (.iload 4, 2) := by decide +kernel
theorem dX10_over_261 : decode cX10_over 261 = .ok (.invokevirtual 69, 3) := by decide +kernel
theorem dX10_over_264 : decode cX10_over 264 = .ok (.return_, 1) := by decide +kernel
set_option maxRecDepth 20000 in
theorem ggX10_divisor_X10_overSmall : GoodIn wsX10_divisor wsX10_overSmall := goodIn_r _ [7, 8, 9, 2, 10, 11, 12, 6, 13, 1, 45, 46, 47, 48, 49, 50, 51, 52, 53, 54, 55, 56, 57, 58, 59, 60, 61, 62, 63, 64] rfl rfl
set_option maxRecDepth 20000 in
theorem gX10_divisor_X10_overSmall : GoodIn wsX10_divisor (wsV RX10 87 RX10 yX10_overSmall wsX10_overSmall) := goodIn_app (goodIn_of _ (by decide +kernel)) ggX10_divisor_X10_overSmall
set_option maxRecDepth 20000 in
theorem ggX10_divisor_X10_compareSizes : GoodIn wsX10_divisor wsX10_compareSizes := goodIn_r _ [17, 8, 2, 45, 46, 47, 48, 49, 50, 51, 52, 53, 54, 55, 56, 57, 58, 59, 60, 61, 62, 63, 64] rfl rfl
set_option maxRecDepth 20000 in
theorem gX10_divisor_X10_compareSizes : GoodIn wsX10_divisor (wsV RX10 61 RX10 yX10_compareSizes wsX10_compareSizes) := goodIn_app (goodIn_of _ (by decide +kernel)) ggX10_divisor_X10_compareSizes
set_option maxRecDepth 20000 in
theorem ggX10_divisor_X10_plus : GoodIn wsX10_divisor wsX10_plus := goodIn_r _ [21, 1, 8, 2, 22, 23, 24, 25, 26, 6, 27, 10, 11, 12, 13, 14, 15, 16, 17, 45, 46, 47, 48, 49, 50, 51, 52, 53, 54, 55, 56, 57, 58, 59, 60, 61, 62, 63, 64] rfl rfl
set_option maxRecDepth 20000 in
theorem gX10_divisor_X10_plus : GoodIn wsX10_divisor (wsV RX10 83 RX10 yX10_plus wsX10_plus) := goodIn_app (goodIn_of _ (by decide +kernel)) ggX10_divisor_X10_plus
set_option maxRecDepth 20000 in
theorem ggX10_divisor_X10_copy : GoodIn wsX10_divisor wsX10_copy := goodIn_r _ [31, 1, 8, 2, 45, 46, 47, 48, 49, 50, 51, 52, 53, 54, 55, 56, 57, 58, 59, 60, 61, 62, 63, 64] rfl rfl
set_option maxRecDepth 20000 in
theorem gX10_divisor_X10_copy : GoodIn wsX10_divisor (wsV RX10 90 RX10 yX10_copy wsX10_copy) := goodIn_app (goodIn_of _ (by decide +kernel)) ggX10_divisor_X10_copy
set_option maxRecDepth 20000 in
theorem ggX10_divisor_X10_swapped : GoodIn wsX10_divisor wsX10_swapped := goodIn_r _ [35, 28, 29, 30, 6, 31, 1, 8, 2, 36, 37, 38, 39, 40, 45, 46, 47, 48, 49, 50, 51, 52, 53, 54, 55, 56, 57, 58, 59, 60, 61, 62, 63, 64] rfl rfl
set_option maxRecDepth 20000 in
theorem gX10_divisor_X10_swapped : GoodIn wsX10_divisor (wsV RX10 93 RX10 yX10_swapped wsX10_swapped) := goodIn_app (goodIn_of _ (by decide +kernel)) ggX10_divisor_X10_swapped
set_option maxRecDepth 20000 in
theorem ggX10_divisor_X10_times : GoodIn wsX10_divisor wsX10_times := goodIn_r _ [44, 8, 2, 40, 1, 10, 11, 12, 6, 13, 45, 46, 47, 48, 49, 50, 51, 52, 53, 54, 55, 56, 57, 58, 59, 60, 61, 62, 63, 64] rfl rfl
set_option maxRecDepth 20000 in
theorem gX10_divisor_X10_times : GoodIn wsX10_divisor (wsV RX10 80 RX10 yX10_times wsX10_times) := goodIn_app (goodIn_of _ (by decide +kernel)) ggX10_divisor_X10_times
theorem dX10_divisor_0 : decode cX10_divisor 0 = .ok (.iconst 0, 1) := by decide +kernel
theorem dX10_divisor_1 : decode cX10_divisor 1 = .ok (.istore_n 3, 1) := by decide +kernel
theorem dX10_divisor_2 : decode cX10_divisor 2 = .ok (.aload_n 0, 1) := by decide +kernel
theorem dX10_divisor_3 : decode cX10_divisor 3 = .ok (.getfield 44, 3) := by decide +kernel
theorem dX10_divisor_6 : decode cX10_divisor 6 = .ok (.iload_n 1, 1) := by decide +kernel
theorem dX10_divisor_7 : decode cX10_divisor 7 = .ok (.iaload, 1) := by decide +kernel
theorem dX10_divisor_8 : decode cX10_divisor 8 = .ok (.ifCond .eq 61, 3) := by decide +kernel
theorem dX10_divisor_11 : decode cX10_divisor 11 = .ok (.aload_n 0, 1) := by decide +kernel
theorem dX10_divisor_12 : decode cX10_divisor 12 = .ok (.getfield 44, 3) := by decide +kernel
theorem dX10_divisor_15 : decode cX10_divisor 15 = .ok (.iload_n 2, 1) := by decide +kernel
theorem dX10_divisor_16 : decode cX10_divisor 16 = .ok (.iaload, 1) := by decide +kernel
theorem dX10_divisor_17 : decode cX10_divisor 17 = .ok (.ifCond .eq 52, 3) := by decide +kernel
theorem dX10_divisor_20 : decode cX10_divisor 20 = .ok (.aload_n 0, 1) := by decide +kernel
theorem dX10_divisor_21 : decode cX10_divisor 21 = .ok (.getfield 38, 3) := by decide +kernel
theorem dX10_divisor_24 : decode cX10_divisor 24 = .ok (.bipush 64, 2) := by decide +kernel
theorem dX10_divisor_26 : decode cX10_divisor 26 = .ok (.iload_n 1, 1) := by decide +kernel
theorem dX10_divisor_27 : decode cX10_divisor 27 = .ok (.imul, 1) := by decide +kernel
theorem dX10_divisor_28 : decode cX10_divisor 28 = .ok (.iaload, 1) := by decide +kernel
theorem dX10_divisor_29 : decode cX10_divisor 29 = .ok (.iconst 1, 1) := by decide +kernel
theorem dX10_divisor_30 : decode cX10_divisor 30 = .ok (.iand, 1) := by decide +kernel
theorem dX10_divisor_31 : decode cX10_divisor 31 = .ok (.ifCond .ne 38, 3) := by decide +kernel
theorem dX10_divisor_34 : decode cX10_divisor 34 = .ok (.aload_n 0, 1) := by decide +kernel
theorem dX10_divisor_35 : decode cX10_divisor 35 = .ok (.getfield 38, 3) := by decide +kernel
theorem dX10_divisor_38 : decode cX10_divisor 38 = .ok (.bipush 64, 2) := by decide +kernel
theorem dX10_divisor_40 : decode cX10_divisor 40 = .ok (.iload_n 2, 1) := by decide +kernel
theorem dX10_divisor_41 : decode cX10_divisor 41 = .ok (.imul, 1) := by decide +kernel
theorem dX10_divisor_42 : decode cX10_divisor 42 = .ok (.iaload, 1) := by decide +kernel
theorem dX10_divisor_43 : decode cX10_divisor 43 = .ok (.iconst 1, 1) := by decide +kernel
theorem dX10_divisor_44 : decode cX10_divisor 44 = .ok (.iand, 1) := by decide +kernel
theorem dX10_divisor_45 : decode cX10_divisor 45 = .ok (.ifCond .ne 24, 3) := by decide +kernel
theorem dX10_divisor_48 : decode cX10_divisor 48 = .ok (.aload_n 0, 1) := by decide +kernel
theorem dX10_divisor_49 : decode cX10_divisor 49 = .ok (.iload_n 1, 1) := by decide +kernel
theorem dX10_divisor_50 : decode cX10_divisor 50 = .ok (.iconst 2, 1) := by decide +kernel
theorem dX10_divisor_51 : decode cX10_divisor 51 = .ok (.invokevirtual 87, 3) := by decide +kernel
theorem dX10_divisor_54 : decode cX10_divisor 54 = .ok (.aload_n 0, 1) := by decide +kernel
theorem dX10_divisor_55 : decode cX10_divisor 55 = .ok (.iload_n 2, 1) := by decide +kernel
theorem dX10_divisor_56 : decode cX10_divisor 56 = .ok (.iconst 2, 1) := by decide +kernel
theorem dX10_divisor_57 : decode cX10_divisor 57 = .ok (.invokevirtual 87, 3) := by decide +kernel
theorem dX10_divisor_60 : decode cX10_divisor 60 = .ok (.iadd, 1) := by decide +kernel
theorem dX10_divisor_61 : decode cX10_divisor 61 = .ok (.istore 4, 2) := by decide +kernel
theorem dX10_divisor_63 : decode cX10_divisor 63 = .ok (.iinc 3 1, 3) := by decide +kernel
theorem dX10_divisor_66 : decode cX10_divisor 66 = .ok (.goto (-64), 3) := by decide +kernel
theorem dX10_divisor_69 : decode cX10_divisor 69 = .ok (.aload_n 0, 1) := by decide +kernel
theorem dX10_divisor_70 : decode cX10_divisor 70 = .ok (.getfield 44, 3) := by decide +kernel
theorem dX10_divisor_73 : decode cX10_divisor 73 = .ok (.iload_n 2, 1) := by decide +kernel
theorem dX10_divisor_74 : decode cX10_divisor 74 = .ok (.iaload, 1) := by decide +kernel
theorem dX10_divisor_75 : decode cX10_divisor 75 = .ok (.ifCond .eq 135, 3) := by decide +kernel
theorem dX10_divisor_78 : decode cX10_divisor 78 = .ok (.iconst 0, 1) := by decide +kernel
theorem dX10_divisor_79 : decode cX10_divisor 79 = .ok (.istore 4, 2) := by decide +kernel
theorem dX10_divisor_81 : decode cX10_divisor 81 = .ok (.aload_n 0, 1) := by decide +kernel
theorem dX10_divisor_82 : decode cX10_divisor 82 = .ok (.getfield 44, 3) := by decide +kernel
theorem dX10_divisor_85 : decode cX10_divisor 85 = .ok (.iload_n 1, 1) := by decide +kernel
theorem dX10_divisor_86 : decode cX10_divisor 86 = .ok (.iaload, 1) := by decide +kernel
theorem dX10_divisor_87 : decode cX10_divisor 87 = .ok (.ifCond .eq 28, 3) := by decide +kernel
theorem dX10_divisor_90 : decode cX10_divisor 90 = .ok (.aload_n 0, 1) := by decide +kernel
theorem dX10_divisor_91 : decode cX10_divisor 91 = .ok (.getfield 38, 3) := by decide +kernel
theorem dX10_divisor_94 : decode cX10_divisor 94 = .ok (.bipush 64, 2) := by decide +kernel
theorem dX10_divisor_96 : decode cX10_divisor 96 = .ok (.iload_n 1, 1) := by decide +kernel
theorem dX10_divisor_97 : decode cX10_divisor 97 = .ok (.imul, 1) := by decide +kernel
theorem dX10_divisor_98 : decode cX10_divisor 98 = .ok (.iaload, 1) := by decide +kernel
theorem dX10_divisor_99 : decode cX10_divisor 99 = .ok (.iconst 1, 1) := by decide +kernel
theorem dX10_divisor_100 : decode cX10_divisor 100 = .ok (.iand, 1) := by decide +kernel
theorem dX10_divisor_101 : decode cX10_divisor 101 = .ok (.ifCond .ne 14, 3) := by decide +kernel
theorem dX10_divisor_104 : decode cX10_divisor 104 = .ok (.aload_n 0, 1) := by decide +kernel
theorem dX10_divisor_105 : decode cX10_divisor 105 = .ok (.iload_n 1, 1) := by decide +kernel
theorem dX10_divisor_106 : decode cX10_divisor 106 = .ok (.iconst 2, 1) := by decide +kernel
theorem dX10_divisor_107 : decode cX10_divisor 107 = .ok (.invokevirtual 87, 3) := by decide +kernel
theorem dX10_divisor_110 : decode cX10_divisor 110 = .ok (.istore 4, 2) := by decide +kernel
theorem dX10_divisor_112 : decode cX10_divisor 112 = .ok (.goto (-31), 3) := by decide +kernel
theorem dX10_divisor_115 : decode cX10_divisor 115 = .ok (.aload_n 0, 1) := by decide +kernel
theorem dX10_divisor_116 : decode cX10_divisor 116 = .ok (.getfield 38, 3) := by decide +kernel
theorem dX10_divisor_119 : decode cX10_divisor 119 = .ok (.bipush 64, 2) := by decide +kernel
theorem dX10_divisor_121 : decode cX10_divisor 121 = .ok (.iload_n 2, 1) := by decide +kernel
theorem dX10_divisor_122 : decode cX10_divisor 122 = .ok (.imul, 1) := by decide +kernel
theorem dX10_divisor_123 : decode cX10_divisor 123 = .ok (.iaload, 1) := by decide +kernel
theorem dX10_divisor_124 : decode cX10_divisor 124 = .ok (.iconst 1, 1) := by decide +kernel
theorem dX10_divisor_125 : decode cX10_divisor 125 = .ok (.iand, 1) := by decide +kernel
theorem dX10_divisor_126 : decode cX10_divisor 126 = .ok (.ifCond .ne 14, 3) := by decide +kernel
theorem dX10_divisor_129 : decode cX10_divisor 129 = .ok (.aload_n 0, 1) := by decide +kernel
theorem dX10_divisor_130 : decode cX10_divisor 130 = .ok (.iload_n 2, 1) := by decide +kernel
theorem dX10_divisor_131 : decode cX10_divisor 131 = .ok (.iconst 2, 1) := by decide +kernel
theorem dX10_divisor_132 : decode cX10_divisor 132 = .ok (.invokevirtual 87, 3) := by decide +kernel
theorem dX10_divisor_135 : decode cX10_divisor 135 = .ok (.istore 4, 2) := by decide +kernel
theorem dX10_divisor_137 : decode cX10_divisor 137 = .ok (.goto (-22), 3) := by decide +kernel
theorem dX10_divisor_140 : decode cX10_divisor 140 = .ok (.aload_n 0, 1) := by decide +kernel
theorem dX10_divisor_141 : decode cX10_divisor 141 = .ok (.iload_n 1, 1) := by decide +kernel
theorem dX10_divisor_142 : decode cX10_divisor 142 = .ok (.iload_n 2, 1) := by decide +kernel
theorem dX10_divisor_143 : decode cX10_divisor 143 = .ok (.invokevirtual 61, 3) := by decide +kernel
theorem dX10_divisor_146 : decode cX10_divisor 146 = .ok (.ifCond .le 33, 3) := by decide +kernel
theorem dX10_divisor_149 : decode cX10_divisor 149 = .ok (.aload_n 0, 1) := by decide +kernel
theorem dX10_divisor_150 : decode cX10_divisor 150 = .ok (.iload_n 1, 1) := by decide +kernel
theorem dX10_divisor_151 : decode cX10_divisor 151 = .ok (.iload_n 2, 1) := by decide +kernel
theorem dX10_divisor_152 : decode cX10_divisor 152 = .ok (.iconst (-1), 1) := by decide +kernel
theorem dX10_divisor_153 : decode cX10_divisor 153 = .ok (.invokevirtual 83, 3) := by decide +kernel
theorem dX10_divisor_156 : decode cX10_divisor 156 = .ok (.aload_n 0, 1) := by decide +kernel
theorem dX10_divisor_157 : decode cX10_divisor 157 = .ok (.iload_n 1, 1) := by decide +kernel
theorem dX10_divisor_158 : decode cX10_divisor 158 = .ok (.bipush 52, 2) := by decide +kernel
theorem dX10_divisor_160 : decode cX10_divisor 160 = .ok (.invokevirtual 90, 3) := by decide +kernel
theorem dX10_divisor_163 : decode cX10_divisor 163 = .ok (.aload_n 0, 1) := by decide +kernel
theorem dX10_divisor_164 : decode cX10_divisor 164 = .ok (.iload_n 2, 1) := by decide +kernel
theorem dX10_divisor_165 : decode cX10_divisor 165 = .ok (.iload_n 1, 1) := by decide +kernel
theorem dX10_divisor_166 : decode cX10_divisor 166 = .ok (.invokevirtual 90, 3) := by decide +kernel
theorem dX10_divisor_169 : decode cX10_divisor 169 = .ok (.aload_n 0, 1) := by decide +kernel
theorem dX10_divisor_170 : decode cX10_divisor 170 = .ok (.bipush 52, 2) := by decide +kernel
theorem dX10_divisor_172 : decode cX10_divisor 172 = .ok (.iload_n 2, 1) := by decide +kernel
theorem dX10_divisor_173 : decode cX10_divisor 173 = .ok (.invokevirtual 90, 3) := by decide +kernel
theorem dX10_divisor_176 : decode cX10_divisor 176 = .ok (.goto 31, 3) := by decide +kernel
theorem dX10_divisor_179 : decode cX10_divisor 179 = .ok (.aload_n 0, 1) := by decide +kernel
theorem dX10_divisor_180 : decode cX10_divisor 180 = .ok (.iload_n 2, 1) := by decide +kernel
theorem dX10_divisor_181 : decode cX10_divisor 181 = .ok (.iload_n 1, 1) := by decide +kernel
theorem dX10_divisor_182 : decode cX10_divisor 182 = .ok (.iconst (-1), 1) := by decide +kernel
theorem dX10_divisor_183 : decode cX10_divisor 183 = .ok (.invokevirtual 83, 3) := by decide +kernel
theorem dX10_divisor_186 : decode cX10_divisor 186 = .ok (.aload_n 0, 1) := by decide +kernel
theorem dX10_divisor_187 : decode cX10_divisor 187 = .ok (.getfield 44, 3) := by decide +kernel
theorem dX10_divisor_190 : decode cX10_divisor 190 = .ok (.iload_n 1, 1) := by decide +kernel
theorem dX10_divisor_191 : decode cX10_divisor 191 = .ok (.iaload, 1) := by decide +kernel
theorem dX10_divisor_192 : decode cX10_divisor 192 = .ok (.ifCond .ne 12, 3) := by decide +kernel
theorem dX10_divisor_195 : decode cX10_divisor 195 = .ok (.aload_n 0, 1) := by decide +kernel
theorem dX10_divisor_196 : decode cX10_divisor 196 = .ok (.iload_n 1, 1) := by decide +kernel
theorem dX10_divisor_197 : decode cX10_divisor 197 = .ok (.iload_n 2, 1) := by decide +kernel
theorem dX10_divisor_198 : decode cX10_divisor 198 = .ok (.invokevirtual 93, 3) := by decide +kernel
theorem dX10_divisor_201 : decode cX10_divisor 201 = .ok (.goto 4, 3) := by decide +kernel
theorem dX10_divisor_204 : decode cX10_divisor 204 = .ok (.iconst 0, 1) := by decide +kernel
theorem dX10_divisor_205 : decode cX10_divisor 205 = .ok (.istore 4, 2) := by decide +kernel
theorem dX10_divisor_207 : decode cX10_divisor 207 = .ok (.goto (-138), 3) := by decide +kernel
theorem dX10_divisor_210 : decode cX10_divisor 210 = .ok (.iconst 0, 1) := by decide +kernel
theorem dX10_divisor_211 : decode cX10_divisor 211 = .ok (.istore 4, 2) := by decide +kernel
theorem dX10_divisor_213 : decode cX10_divisor 213 = .ok (.iload 4, 2) := by decide +kernel
theorem dX10_divisor_215 : decode cX10_divisor 215 = .ok (.iload_n 3, 1) := by decide +kernel
theorem dX10_divisor_216 : decode cX10_divisor 216 = .ok (.if_icmp .ge 15, 3) := by decide +kernel
theorem dX10_divisor_219 : decode cX10_divisor 219 = .ok (.aload_n 0, 1) := by decide +kernel
theorem dX10_divisor_220 : decode cX10_divisor 220 = .ok (.iload_n 1, 1) := by decide +kernel
theorem dX10_divisor_221 : decode cX10_divisor 221 = .ok (.iconst 2, 1) := by decide +kernel
theorem dX10_divisor_222 : decode cX10_divisor 222 = .ok (.invokevirtual 80, 3) := by decide +kernel
theorem dX10_divisor_225 : decode cX10_divisor 225 = .ok (.iinc 4 1, 3) := by decide +kernel
theorem dX10_divisor_228 : decode cX10_divisor 228 = .ok (.goto (-15), 3) := by decide +kernel
theorem dX10_divisor_231 : decode cX10_divisor 231 = .ok (.return_, 1) := by decide +kernel
set_option maxRecDepth 20000 in
theorem ggX10_swapped_X10_copy : GoodIn wsX10_swapped wsX10_copy := goodIn_r _ [5, 6, 7, 8, 14, 15, 16, 17, 18, 19, 20, 21, 22, 23, 24, 25, 26, 27, 28, 29, 30, 31, 32, 33] rfl rfl
set_option maxRecDepth 20000 in
theorem gX10_swapped_X10_copy : GoodIn wsX10_swapped (wsV RX10 90 RX10 yX10_copy wsX10_copy) := goodIn_app (goodIn_of _ (by decide +kernel)) ggX10_swapped_X10_copy
set_option maxRecDepth 20000 in
theorem ggX10_swapped_X10_setSmall : GoodIn wsX10_swapped wsX10_setSmall := goodIn_r _ [12, 6, 8, 13, 7, 14, 15, 16, 17, 18, 19, 20, 21, 22, 23, 24, 25, 26, 27, 28, 29, 30, 31, 32, 33] rfl rfl
set_option maxRecDepth 20000 in
theorem gX10_swapped_X10_setSmall : GoodIn wsX10_swapped (wsV RX10 76 RX10 yX10_setSmall wsX10_setSmall) := goodIn_app (goodIn_of _ (by decide +kernel)) ggX10_swapped_X10_setSmall
theorem dX10_swapped_0 : decode cX10_swapped 0 = .ok (.aload_n 0, 1) := by decide +kernel
theorem dX10_swapped_1 : decode cX10_swapped 1 = .ok (.iload_n 2, 1) := by decide +kernel
theorem dX10_swapped_2 : decode cX10_swapped 2 = .ok (.iload_n 1, 1) := by decide +kernel
theorem dX10_swapped_3 : decode cX10_swapped 3 = .ok (.invokevirtual 90, 3) := by decide +kernel
theorem dX10_swapped_6 : decode cX10_swapped 6 = .ok (.aload_n 0, 1) := by decide +kernel
theorem dX10_swapped_7 : decode cX10_swapped 7 = .ok (.iload_n 2, 1) := by decide +kernel
theorem dX10_swapped_8 : decode cX10_swapped 8 = .ok (.lconst 0, 1) := by decide +kernel
theorem dX10_swapped_9 : decode cX10_swapped 9 = .ok (.invokevirtual 76, 3) := by decide +kernel
theorem dX10_swapped_12 : decode cX10_swapped 12 = .ok (.iconst 0, 1) := by decide +kernel
theorem dX10_swapped_13 : decode cX10_swapped 13 = .ok (.ireturn, 1) := by decide +kernel
