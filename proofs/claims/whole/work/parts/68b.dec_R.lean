set_option maxRecDepth 20000 in
theorem ggX10_valuePolicy_X10_dividing : GoodIn wsX10_valuePolicy wsX10_dividing := goodIn_r _ [12] rfl rfl
set_option maxRecDepth 20000 in
theorem gX10_valuePolicy_X10_dividing : GoodIn wsX10_valuePolicy (va_wsS RX10 141 yX10_dividing wsX10_dividing) := goodIn_app (goodIn_of _ (by decide +kernel)) ggX10_valuePolicy_X10_dividing
set_option maxRecDepth 20000 in
theorem ggX10_valuePolicy_X10_sumOf : GoodIn wsX10_valuePolicy wsX10_sumOf := goodIn_r _ [16, 7, 63, 64, 65, 66, 67, 68, 69, 70, 71, 72, 73, 74, 75, 76, 77, 78, 79, 80, 81, 82] rfl rfl
set_option maxRecDepth 20000 in
theorem gX10_valuePolicy_X10_sumOf : GoodIn wsX10_valuePolicy (wsV RX10 127 RX10 yX10_sumOf wsX10_sumOf) := goodIn_app (goodIn_of _ (by decide +kernel)) ggX10_valuePolicy_X10_sumOf
set_option maxRecDepth 20000 in
theorem ggX10_valuePolicy_X10_setSmall : GoodIn wsX10_valuePolicy wsX10_setSmall := goodIn_r _ [20, 21, 22, 23, 24, 63, 64, 65, 66, 67, 68, 69, 70, 71, 72, 73, 74, 75, 76, 77, 78, 79, 80, 81, 82] rfl rfl
set_option maxRecDepth 20000 in
theorem gX10_valuePolicy_X10_setSmall : GoodIn wsX10_valuePolicy (wsV RX10 76 RX10 yX10_setSmall wsX10_setSmall) := goodIn_app (goodIn_of _ (by decide +kernel)) ggX10_valuePolicy_X10_setSmall
set_option maxRecDepth 20000 in
theorem ggX10_valuePolicy_X10_times : GoodIn wsX10_valuePolicy wsX10_times := goodIn_r _ [28, 24, 22, 23, 21, 29, 30, 31, 11, 32, 63, 64, 65, 66, 67, 68, 69, 70, 71, 72, 73, 74, 75, 76, 77, 78, 79, 80, 81, 82] rfl rfl
set_option maxRecDepth 20000 in
theorem gX10_valuePolicy_X10_times : GoodIn wsX10_valuePolicy (wsV RX10 80 RX10 yX10_times wsX10_times) := goodIn_app (goodIn_of _ (by decide +kernel)) ggX10_valuePolicy_X10_times
set_option maxRecDepth 20000 in
theorem ggX10_valuePolicy_X10_putRight : GoodIn wsX10_valuePolicy wsX10_putRight := goodIn_r _ [36, 37, 38, 39, 11, 40, 24, 22, 23, 21, 29, 30, 31, 32, 41, 42, 43, 44, 45, 46, 47, 48, 49, 50, 51, 52, 53, 54, 55, 56, 57, 58, 17, 18, 19, 20, 25, 26, 27, 28, 59, 60, 61, 62, 63, 64, 65, 66, 67, 68, 69, 70, 71, 72, 73, 74, 75, 76, 77, 78, 79, 80, 81, 82] rfl rfl
set_option maxRecDepth 20000 in
theorem gX10_valuePolicy_X10_putRight : GoodIn wsX10_valuePolicy (wsV RX10 144 RX10 yX10_putRight wsX10_putRight) := goodIn_app (goodIn_of _ (by decide +kernel)) ggX10_valuePolicy_X10_putRight
set_option maxRecDepth 20000 in
theorem ggX10_valuePolicy_X10_copy : GoodIn wsX10_valuePolicy wsX10_copy := goodIn_r _ [62, 21, 24, 22, 63, 64, 65, 66, 67, 68, 69, 70, 71, 72, 73, 74, 75, 76, 77, 78, 79, 80, 81, 82] rfl rfl
set_option maxRecDepth 20000 in
theorem gX10_valuePolicy_X10_copy : GoodIn wsX10_valuePolicy (wsV RX10 90 RX10 yX10_copy wsX10_copy) := goodIn_app (goodIn_of _ (by decide +kernel)) ggX10_valuePolicy_X10_copy
set_option maxRecDepth 20000 in
theorem ggX10_valuePolicy_X10_multiply : GoodIn wsX10_valuePolicy wsX10_multiply := goodIn_r _ [40, 24, 22, 23, 21, 29, 30, 31, 11, 32, 63, 64, 65, 66, 67, 68, 69, 70, 71, 72, 73, 74, 75, 76, 77, 78, 79, 80, 81, 82] rfl rfl
set_option maxRecDepth 20000 in
theorem gX10_valuePolicy_X10_multiply : GoodIn wsX10_valuePolicy (wsV RX10 147 RX10 yX10_multiply wsX10_multiply) := goodIn_app (goodIn_of _ (by decide +kernel)) ggX10_valuePolicy_X10_multiply
set_option maxRecDepth 20000 in
theorem ggX10_valuePolicy_X10_plus : GoodIn wsX10_valuePolicy wsX10_plus := goodIn_r _ [44, 21, 24, 22, 45, 46, 47, 48, 49, 11, 50, 29, 30, 31, 32, 51, 52, 53, 54, 63, 64, 65, 66, 67, 68, 69, 70, 71, 72, 73, 74, 75, 76, 77, 78, 79, 80, 81, 82] rfl rfl
set_option maxRecDepth 20000 in
theorem gX10_valuePolicy_X10_plus : GoodIn wsX10_valuePolicy (wsV RX10 83 RX10 yX10_plus wsX10_plus) := goodIn_app (goodIn_of _ (by decide +kernel)) ggX10_valuePolicy_X10_plus
set_option maxRecDepth 20000 in
theorem ggX10_valuePolicy_X10_over : GoodIn wsX10_valuePolicy wsX10_over := goodIn_r _ [58, 21, 24, 22, 17, 18, 19, 11, 20, 23, 25, 26, 27, 28, 29, 30, 31, 32, 51, 52, 53, 54, 41, 42, 43, 44, 45, 46, 47, 48, 49, 50, 63, 64, 65, 66, 67, 68, 69, 70, 71, 72, 73, 74, 75, 76, 77, 78, 79, 80, 81, 82] rfl rfl
set_option maxRecDepth 20000 in
theorem gX10_valuePolicy_X10_over : GoodIn wsX10_valuePolicy (wsV RX10 150 RX10 yX10_over wsX10_over) := goodIn_app (goodIn_of _ (by decide +kernel)) ggX10_valuePolicy_X10_over
theorem dX10_valuePolicy_0 : decode cX10_valuePolicy 0 = .ok (.aload_n 0, 1) := by decide +kernel
theorem dX10_valuePolicy_1 : decode cX10_valuePolicy 1 = .ok (.iconst 1, 1) := by decide +kernel
theorem dX10_valuePolicy_2 : decode cX10_valuePolicy 2 = .ok (.putfield 138, 3) := by decide +kernel
theorem dX10_valuePolicy_5 : decode cX10_valuePolicy 5 = .ok (.iconst 0, 1) := by decide +kernel
theorem dX10_valuePolicy_6 : decode cX10_valuePolicy 6 = .ok (.istore_n 1, 1) := by decide +kernel
theorem dX10_valuePolicy_7 : decode cX10_valuePolicy 7 = .ok (.iload_n 1, 1) := by decide +kernel
theorem dX10_valuePolicy_8 : decode cX10_valuePolicy 8 = .ok (.aload_n 0, 1) := by decide +kernel
theorem dX10_valuePolicy_9 : decode cX10_valuePolicy 9 = .ok (.getfield 103, 3) := by decide +kernel
theorem dX10_valuePolicy_12 : decode cX10_valuePolicy 12 = .ok (.if_icmp .ge 44, 3) := by decide +kernel
theorem dX10_valuePolicy_15 : decode cX10_valuePolicy 15 = .ok (.aload_n 0, 1) := by decide +kernel
theorem dX10_valuePolicy_16 : decode cX10_valuePolicy 16 = .ok (.getfield 16, 3) := by decide +kernel
theorem dX10_valuePolicy_19 : decode cX10_valuePolicy 19 = .ok (.iconst 4, 1) := by decide +kernel
theorem dX10_valuePolicy_20 : decode cX10_valuePolicy 20 = .ok (.iload_n 1, 1) := by decide +kernel
theorem dX10_valuePolicy_21 : decode cX10_valuePolicy 21 = .ok (.imul, 1) := by decide +kernel
theorem dX10_valuePolicy_22 : decode cX10_valuePolicy 22 = .ok (.aload_n 0, 1) := by decide +kernel
theorem dX10_valuePolicy_23 : decode cX10_valuePolicy 23 = .ok (.getfield 32, 3) := by decide +kernel
theorem dX10_valuePolicy_26 : decode cX10_valuePolicy 26 = .ok (.iload_n 1, 1) := by decide +kernel
theorem dX10_valuePolicy_27 : decode cX10_valuePolicy 27 = .ok (.iaload, 1) := by decide +kernel
theorem dX10_valuePolicy_28 : decode cX10_valuePolicy 28 = .ok (.iadd, 1) := by decide +kernel
theorem dX10_valuePolicy_29 : decode cX10_valuePolicy 29 = .ok (.iaload, 1) := by decide +kernel
theorem dX10_valuePolicy_30 : decode cX10_valuePolicy 30 = .ok (.istore_n 2, 1) := by decide +kernel
theorem dX10_valuePolicy_31 : decode cX10_valuePolicy 31 = .ok (.aload_n 0, 1) := by decide +kernel
theorem dX10_valuePolicy_32 : decode cX10_valuePolicy 32 = .ok (.aload_n 0, 1) := by decide +kernel
theorem dX10_valuePolicy_33 : decode cX10_valuePolicy 33 = .ok (.getfield 138, 3) := by decide +kernel
theorem dX10_valuePolicy_36 : decode cX10_valuePolicy 36 = .ok (.aload_n 0, 1) := by decide +kernel
theorem dX10_valuePolicy_37 : decode cX10_valuePolicy 37 = .ok (.getfield 138, 3) := by decide +kernel
theorem dX10_valuePolicy_40 : decode cX10_valuePolicy 40 = .ok (.iload_n 2, 1) := by decide +kernel
theorem dX10_valuePolicy_41 : decode cX10_valuePolicy 41 = .ok (.invokestatic 141, 3) := by decide +kernel
theorem dX10_valuePolicy_44 : decode cX10_valuePolicy 44 = .ok (.idiv, 1) := by decide +kernel
theorem dX10_valuePolicy_45 : decode cX10_valuePolicy 45 = .ok (.iload_n 2, 1) := by decide +kernel
theorem dX10_valuePolicy_46 : decode cX10_valuePolicy 46 = .ok (.imul, 1) := by decide +kernel
theorem dX10_valuePolicy_47 : decode cX10_valuePolicy 47 = .ok (.putfield 138, 3) := by decide +kernel
theorem dX10_valuePolicy_50 : decode cX10_valuePolicy 50 = .ok (.iinc 1 1, 3) := by decide +kernel
theorem dX10_valuePolicy_53 : decode cX10_valuePolicy 53 = .ok (.goto (-46), 3) := by decide +kernel
theorem dX10_valuePolicy_56 : decode cX10_valuePolicy 56 = .ok (.iconst 0, 1) := by decide +kernel
theorem dX10_valuePolicy_57 : decode cX10_valuePolicy 57 = .ok (.istore_n 1, 1) := by decide +kernel
theorem dX10_valuePolicy_58 : decode cX10_valuePolicy 58 = .ok (.iload_n 1, 1) := by decide +kernel
theorem dX10_valuePolicy_59 : decode cX10_valuePolicy 59 = .ok (.aload_n 0, 1) := by decide +kernel
theorem dX10_valuePolicy_60 : decode cX10_valuePolicy 60 = .ok (.getfield 103, 3) := by decide +kernel
theorem dX10_valuePolicy_63 : decode cX10_valuePolicy 63 = .ok (.if_icmp .ge 143, 3) := by decide +kernel
theorem dX10_valuePolicy_66 : decode cX10_valuePolicy 66 = .ok (.iconst 4, 1) := by decide +kernel
theorem dX10_valuePolicy_67 : decode cX10_valuePolicy 67 = .ok (.iload_n 1, 1) := by decide +kernel
theorem dX10_valuePolicy_68 : decode cX10_valuePolicy 68 = .ok (.imul, 1) := by decide +kernel
theorem dX10_valuePolicy_69 : decode cX10_valuePolicy 69 = .ok (.aload_n 0, 1) := by decide +kernel
theorem dX10_valuePolicy_70 : decode cX10_valuePolicy 70 = .ok (.getfield 32, 3) := by decide +kernel
theorem dX10_valuePolicy_73 : decode cX10_valuePolicy 73 = .ok (.iload_n 1, 1) := by decide +kernel
theorem dX10_valuePolicy_74 : decode cX10_valuePolicy 74 = .ok (.iaload, 1) := by decide +kernel
theorem dX10_valuePolicy_75 : decode cX10_valuePolicy 75 = .ok (.iadd, 1) := by decide +kernel
theorem dX10_valuePolicy_76 : decode cX10_valuePolicy 76 = .ok (.istore_n 2, 1) := by decide +kernel
theorem dX10_valuePolicy_77 : decode cX10_valuePolicy 77 = .ok (.aload_n 0, 1) := by decide +kernel
theorem dX10_valuePolicy_78 : decode cX10_valuePolicy 78 = .ok (.iload_n 2, 1) := by decide +kernel
theorem dX10_valuePolicy_79 : decode cX10_valuePolicy 79 = .ok (.invokevirtual 127, 3) := by decide +kernel
theorem dX10_valuePolicy_82 : decode cX10_valuePolicy 82 = .ok (.istore_n 3, 1) := by decide +kernel
theorem dX10_valuePolicy_83 : decode cX10_valuePolicy 83 = .ok (.iconst 0, 1) := by decide +kernel
theorem dX10_valuePolicy_84 : decode cX10_valuePolicy 84 = .ok (.istore 4, 2) := by decide +kernel
theorem dX10_valuePolicy_86 : decode cX10_valuePolicy 86 = .ok (.iload 4, 2) := by decide +kernel
theorem dX10_valuePolicy_88 : decode cX10_valuePolicy 88 = .ok (.aload_n 0, 1) := by decide +kernel
theorem dX10_valuePolicy_89 : decode cX10_valuePolicy 89 = .ok (.getfield 103, 3) := by decide +kernel
theorem dX10_valuePolicy_92 : decode cX10_valuePolicy 92 = .ok (.if_icmp .ge 59, 3) := by decide +kernel
theorem dX10_valuePolicy_95 : decode cX10_valuePolicy 95 = .ok (.iload_n 1, 1) := by decide +kernel
theorem dX10_valuePolicy_96 : decode cX10_valuePolicy 96 = .ok (.iload 4, 2) := by decide +kernel
theorem dX10_valuePolicy_98 : decode cX10_valuePolicy 98 = .ok (.if_icmp .ne 12, 3) := by decide +kernel
theorem dX10_valuePolicy_101 : decode cX10_valuePolicy 101 = .ok (.aload_n 0, 1) := by decide +kernel
theorem dX10_valuePolicy_102 : decode cX10_valuePolicy 102 = .ok (.getfield 26, 3) := by decide +kernel
theorem dX10_valuePolicy_105 : decode cX10_valuePolicy 105 = .ok (.iload_n 3, 1) := by decide +kernel
theorem dX10_valuePolicy_106 : decode cX10_valuePolicy 106 = .ok (.imul, 1) := by decide +kernel
theorem dX10_valuePolicy_107 : decode cX10_valuePolicy 107 = .ok (.goto 4, 3) := by decide +kernel
theorem dX10_valuePolicy_110 : decode cX10_valuePolicy 110 = .ok (.iconst 0, 1) := by decide +kernel
theorem dX10_valuePolicy_111 : decode cX10_valuePolicy 111 = .ok (.aload_n 0, 1) := by decide +kernel
theorem dX10_valuePolicy_112 : decode cX10_valuePolicy 112 = .ok (.getfield 22, 3) := by decide +kernel
theorem dX10_valuePolicy_115 : decode cX10_valuePolicy 115 = .ok (.aload_n 0, 1) := by decide +kernel
theorem dX10_valuePolicy_116 : decode cX10_valuePolicy 116 = .ok (.getfield 19, 3) := by decide +kernel
theorem dX10_valuePolicy_119 : decode cX10_valuePolicy 119 = .ok (.bipush 6, 2) := by decide +kernel
theorem dX10_valuePolicy_121 : decode cX10_valuePolicy 121 = .ok (.iload_n 2, 1) := by decide +kernel
theorem dX10_valuePolicy_122 : decode cX10_valuePolicy 122 = .ok (.imul, 1) := by decide +kernel
theorem dX10_valuePolicy_123 : decode cX10_valuePolicy 123 = .ok (.iload 4, 2) := by decide +kernel
theorem dX10_valuePolicy_125 : decode cX10_valuePolicy 125 = .ok (.iadd, 1) := by decide +kernel
theorem dX10_valuePolicy_126 : decode cX10_valuePolicy 126 = .ok (.iaload, 1) := by decide +kernel
theorem dX10_valuePolicy_127 : decode cX10_valuePolicy 127 = .ok (.imul, 1) := by decide +kernel
theorem dX10_valuePolicy_128 : decode cX10_valuePolicy 128 = .ok (.isub, 1) := by decide +kernel
theorem dX10_valuePolicy_129 : decode cX10_valuePolicy 129 = .ok (.istore 5, 2) := by decide +kernel
theorem dX10_valuePolicy_131 : decode cX10_valuePolicy 131 = .ok (.aload_n 0, 1) := by decide +kernel
theorem dX10_valuePolicy_132 : decode cX10_valuePolicy 132 = .ok (.bipush 7, 2) := by decide +kernel
theorem dX10_valuePolicy_134 : decode cX10_valuePolicy 134 = .ok (.iload_n 1, 1) := by decide +kernel
theorem dX10_valuePolicy_135 : decode cX10_valuePolicy 135 = .ok (.imul, 1) := by decide +kernel
theorem dX10_valuePolicy_136 : decode cX10_valuePolicy 136 = .ok (.iload 4, 2) := by decide +kernel
theorem dX10_valuePolicy_138 : decode cX10_valuePolicy 138 = .ok (.iadd, 1) := by decide +kernel
theorem dX10_valuePolicy_139 : decode cX10_valuePolicy 139 = .ok (.iload 5, 2) := by decide +kernel
theorem dX10_valuePolicy_141 : decode cX10_valuePolicy 141 = .ok (.i2l, 1) := by decide +kernel
theorem dX10_valuePolicy_142 : decode cX10_valuePolicy 142 = .ok (.invokevirtual 76, 3) := by decide +kernel
theorem dX10_valuePolicy_145 : decode cX10_valuePolicy 145 = .ok (.iinc 4 1, 3) := by decide +kernel
theorem dX10_valuePolicy_148 : decode cX10_valuePolicy 148 = .ok (.goto (-62), 3) := by decide +kernel
theorem dX10_valuePolicy_151 : decode cX10_valuePolicy 151 = .ok (.aload_n 0, 1) := by decide +kernel
theorem dX10_valuePolicy_152 : decode cX10_valuePolicy 152 = .ok (.bipush 7, 2) := by decide +kernel
theorem dX10_valuePolicy_154 : decode cX10_valuePolicy 154 = .ok (.iload_n 1, 1) := by decide +kernel
theorem dX10_valuePolicy_155 : decode cX10_valuePolicy 155 = .ok (.imul, 1) := by decide +kernel
theorem dX10_valuePolicy_156 : decode cX10_valuePolicy 156 = .ok (.bipush 6, 2) := by decide +kernel
theorem dX10_valuePolicy_158 : decode cX10_valuePolicy 158 = .ok (.iadd, 1) := by decide +kernel
theorem dX10_valuePolicy_159 : decode cX10_valuePolicy 159 = .ok (.aload_n 0, 1) := by decide +kernel
theorem dX10_valuePolicy_160 : decode cX10_valuePolicy 160 = .ok (.getfield 26, 3) := by decide +kernel
theorem dX10_valuePolicy_163 : decode cX10_valuePolicy 163 = .ok (.i2l, 1) := by decide +kernel
theorem dX10_valuePolicy_164 : decode cX10_valuePolicy 164 = .ok (.iload_n 3, 1) := by decide +kernel
theorem dX10_valuePolicy_165 : decode cX10_valuePolicy 165 = .ok (.i2l, 1) := by decide +kernel
theorem dX10_valuePolicy_166 : decode cX10_valuePolicy 166 = .ok (.lmul, 1) := by decide +kernel
theorem dX10_valuePolicy_167 : decode cX10_valuePolicy 167 = .ok (.aload_n 0, 1) := by decide +kernel
theorem dX10_valuePolicy_168 : decode cX10_valuePolicy 168 = .ok (.getfield 13, 3) := by decide +kernel
theorem dX10_valuePolicy_171 : decode cX10_valuePolicy 171 = .ok (.iload_n 2, 1) := by decide +kernel
theorem dX10_valuePolicy_172 : decode cX10_valuePolicy 172 = .ok (.iaload, 1) := by decide +kernel
theorem dX10_valuePolicy_173 : decode cX10_valuePolicy 173 = .ok (.i2l, 1) := by decide +kernel
theorem dX10_valuePolicy_174 : decode cX10_valuePolicy 174 = .ok (.lmul, 1) := by decide +kernel
theorem dX10_valuePolicy_175 : decode cX10_valuePolicy 175 = .ok (.invokevirtual 76, 3) := by decide +kernel
theorem dX10_valuePolicy_178 : decode cX10_valuePolicy 178 = .ok (.aload_n 0, 1) := by decide +kernel
theorem dX10_valuePolicy_179 : decode cX10_valuePolicy 179 = .ok (.bipush 7, 2) := by decide +kernel
theorem dX10_valuePolicy_181 : decode cX10_valuePolicy 181 = .ok (.iload_n 1, 1) := by decide +kernel
theorem dX10_valuePolicy_182 : decode cX10_valuePolicy 182 = .ok (.imul, 1) := by decide +kernel
theorem dX10_valuePolicy_183 : decode cX10_valuePolicy 183 = .ok (.bipush 6, 2) := by decide +kernel
theorem dX10_valuePolicy_185 : decode cX10_valuePolicy 185 = .ok (.iadd, 1) := by decide +kernel
theorem dX10_valuePolicy_186 : decode cX10_valuePolicy 186 = .ok (.aload_n 0, 1) := by decide +kernel
theorem dX10_valuePolicy_187 : decode cX10_valuePolicy 187 = .ok (.getfield 138, 3) := by decide +kernel
theorem dX10_valuePolicy_190 : decode cX10_valuePolicy 190 = .ok (.aload_n 0, 1) := by decide +kernel
theorem dX10_valuePolicy_191 : decode cX10_valuePolicy 191 = .ok (.getfield 16, 3) := by decide +kernel
theorem dX10_valuePolicy_194 : decode cX10_valuePolicy 194 = .ok (.iload_n 2, 1) := by decide +kernel
theorem dX10_valuePolicy_195 : decode cX10_valuePolicy 195 = .ok (.iaload, 1) := by decide +kernel
theorem dX10_valuePolicy_196 : decode cX10_valuePolicy 196 = .ok (.idiv, 1) := by decide +kernel
theorem dX10_valuePolicy_197 : decode cX10_valuePolicy 197 = .ok (.invokevirtual 80, 3) := by decide +kernel
theorem dX10_valuePolicy_200 : decode cX10_valuePolicy 200 = .ok (.iinc 1 1, 3) := by decide +kernel
theorem dX10_valuePolicy_203 : decode cX10_valuePolicy 203 = .ok (.goto (-145), 3) := by decide +kernel
theorem dX10_valuePolicy_206 : decode cX10_valuePolicy 206 = .ok (.aload_n 0, 1) := by decide +kernel
theorem dX10_valuePolicy_207 : decode cX10_valuePolicy 207 = .ok (.bipush 48, 2) := by decide +kernel
theorem dX10_valuePolicy_209 : decode cX10_valuePolicy 209 = .ok (.lconst 1, 1) := by decide +kernel
theorem dX10_valuePolicy_210 : decode cX10_valuePolicy 210 = .ok (.invokevirtual 76, 3) := by decide +kernel
theorem dX10_valuePolicy_213 : decode cX10_valuePolicy 213 = .ok (.iconst 0, 1) := by decide +kernel
theorem dX10_valuePolicy_214 : decode cX10_valuePolicy 214 = .ok (.istore_n 1, 1) := by decide +kernel
theorem dX10_valuePolicy_215 : decode cX10_valuePolicy 215 = .ok (.iload_n 1, 1) := by decide +kernel
theorem dX10_valuePolicy_216 : decode cX10_valuePolicy 216 = .ok (.iconst 1, 1) := by decide +kernel
theorem dX10_valuePolicy_217 : decode cX10_valuePolicy 217 = .ok (.iadd, 1) := by decide +kernel
theorem dX10_valuePolicy_218 : decode cX10_valuePolicy 218 = .ok (.aload_n 0, 1) := by decide +kernel
theorem dX10_valuePolicy_219 : decode cX10_valuePolicy 219 = .ok (.getfield 103, 3) := by decide +kernel
theorem dX10_valuePolicy_222 : decode cX10_valuePolicy 222 = .ok (.if_icmp .ge 75, 3) := by decide +kernel
theorem dX10_valuePolicy_225 : decode cX10_valuePolicy 225 = .ok (.iload_n 1, 1) := by decide +kernel
theorem dX10_valuePolicy_226 : decode cX10_valuePolicy 226 = .ok (.iconst 1, 1) := by decide +kernel
theorem dX10_valuePolicy_227 : decode cX10_valuePolicy 227 = .ok (.iadd, 1) := by decide +kernel
theorem dX10_valuePolicy_228 : decode cX10_valuePolicy 228 = .ok (.istore_n 2, 1) := by decide +kernel
theorem dX10_valuePolicy_229 : decode cX10_valuePolicy 229 = .ok (.iload_n 2, 1) := by decide +kernel
theorem dX10_valuePolicy_230 : decode cX10_valuePolicy 230 = .ok (.aload_n 0, 1) := by decide +kernel
theorem dX10_valuePolicy_231 : decode cX10_valuePolicy 231 = .ok (.getfield 103, 3) := by decide +kernel
theorem dX10_valuePolicy_234 : decode cX10_valuePolicy 234 = .ok (.if_icmp .ge 47, 3) := by decide +kernel
theorem dX10_valuePolicy_237 : decode cX10_valuePolicy 237 = .ok (.iload_n 1, 1) := by decide +kernel
theorem dX10_valuePolicy_238 : decode cX10_valuePolicy 238 = .ok (.iconst 1, 1) := by decide +kernel
theorem dX10_valuePolicy_239 : decode cX10_valuePolicy 239 = .ok (.iadd, 1) := by decide +kernel
theorem dX10_valuePolicy_240 : decode cX10_valuePolicy 240 = .ok (.istore_n 3, 1) := by decide +kernel
theorem dX10_valuePolicy_241 : decode cX10_valuePolicy 241 = .ok (.iload_n 3, 1) := by decide +kernel
theorem dX10_valuePolicy_242 : decode cX10_valuePolicy 242 = .ok (.aload_n 0, 1) := by decide +kernel
theorem dX10_valuePolicy_243 : decode cX10_valuePolicy 243 = .ok (.getfield 103, 3) := by decide +kernel
theorem dX10_valuePolicy_246 : decode cX10_valuePolicy 246 = .ok (.if_icmp .gt 29, 3) := by decide +kernel
theorem dX10_valuePolicy_249 : decode cX10_valuePolicy 249 = .ok (.aload_n 0, 1) := by decide +kernel
theorem dX10_valuePolicy_250 : decode cX10_valuePolicy 250 = .ok (.iload_n 1, 1) := by decide +kernel
theorem dX10_valuePolicy_251 : decode cX10_valuePolicy 251 = .ok (.iload_n 2, 1) := by decide +kernel
theorem dX10_valuePolicy_252 : decode cX10_valuePolicy 252 = .ok (.iload_n 3, 1) := by decide +kernel
theorem dX10_valuePolicy_253 : decode cX10_valuePolicy 253 = .ok (.aload_n 0, 1) := by decide +kernel
theorem dX10_valuePolicy_254 : decode cX10_valuePolicy 254 = .ok (.getfield 103, 3) := by decide +kernel
theorem dX10_valuePolicy_257 : decode cX10_valuePolicy 257 = .ok (.if_icmp .ne 8, 3) := by decide +kernel
theorem dX10_valuePolicy_260 : decode cX10_valuePolicy 260 = .ok (.bipush 6, 2) := by decide +kernel
theorem dX10_valuePolicy_262 : decode cX10_valuePolicy 262 = .ok (.goto 4, 3) := by decide +kernel
theorem dX10_valuePolicy_265 : decode cX10_valuePolicy 265 = .ok (.iload_n 3, 1) := by decide +kernel
theorem dX10_valuePolicy_266 : decode cX10_valuePolicy 266 = .ok (.invokevirtual 144, 3) := by decide +kernel
theorem dX10_valuePolicy_269 : decode cX10_valuePolicy 269 = .ok (.iinc 3 1, 3) := by decide +kernel
theorem dX10_valuePolicy_272 : decode cX10_valuePolicy 272 = .ok (.goto (-31), 3) := by decide +kernel
theorem dX10_valuePolicy_275 : decode cX10_valuePolicy 275 = .ok (.iinc 2 1, 3) := by decide +kernel
theorem dX10_valuePolicy_278 : decode cX10_valuePolicy 278 = .ok (.goto (-49), 3) := by decide +kernel
theorem dX10_valuePolicy_281 : decode cX10_valuePolicy 281 = .ok (.aload_n 0, 1) := by decide +kernel
theorem dX10_valuePolicy_282 : decode cX10_valuePolicy 282 = .ok (.bipush 8, 2) := by decide +kernel
theorem dX10_valuePolicy_284 : decode cX10_valuePolicy 284 = .ok (.iload_n 1, 1) := by decide +kernel
theorem dX10_valuePolicy_285 : decode cX10_valuePolicy 285 = .ok (.imul, 1) := by decide +kernel
theorem dX10_valuePolicy_286 : decode cX10_valuePolicy 286 = .ok (.bipush 48, 2) := by decide +kernel
theorem dX10_valuePolicy_288 : decode cX10_valuePolicy 288 = .ok (.invokevirtual 90, 3) := by decide +kernel
theorem dX10_valuePolicy_291 : decode cX10_valuePolicy 291 = .ok (.iinc 1 1, 3) := by decide +kernel
theorem dX10_valuePolicy_294 : decode cX10_valuePolicy 294 = .ok (.goto (-79), 3) := by decide +kernel
theorem dX10_valuePolicy_297 : decode cX10_valuePolicy 297 = .ok (.aload_n 0, 1) := by decide +kernel
theorem dX10_valuePolicy_298 : decode cX10_valuePolicy 298 = .ok (.bipush 8, 2) := by decide +kernel
theorem dX10_valuePolicy_300 : decode cX10_valuePolicy 300 = .ok (.aload_n 0, 1) := by decide +kernel
theorem dX10_valuePolicy_301 : decode cX10_valuePolicy 301 = .ok (.getfield 103, 3) := by decide +kernel
theorem dX10_valuePolicy_304 : decode cX10_valuePolicy 304 = .ok (.iconst 1, 1) := by decide +kernel
theorem dX10_valuePolicy_305 : decode cX10_valuePolicy 305 = .ok (.isub, 1) := by decide +kernel
theorem dX10_valuePolicy_306 : decode cX10_valuePolicy 306 = .ok (.imul, 1) := by decide +kernel
theorem dX10_valuePolicy_307 : decode cX10_valuePolicy 307 = .ok (.bipush 48, 2) := by decide +kernel
theorem dX10_valuePolicy_309 : decode cX10_valuePolicy 309 = .ok (.invokevirtual 90, 3) := by decide +kernel
theorem dX10_valuePolicy_312 : decode cX10_valuePolicy 312 = .ok (.aload_n 0, 1) := by decide +kernel
theorem dX10_valuePolicy_313 : decode cX10_valuePolicy 313 = .ok (.getfield 103, 3) := by decide +kernel
theorem dX10_valuePolicy_316 : decode cX10_valuePolicy 316 = .ok (.iconst 1, 1) := by decide +kernel
theorem dX10_valuePolicy_317 : decode cX10_valuePolicy 317 = .ok (.isub, 1) := by decide +kernel
theorem dX10_valuePolicy_318 : decode cX10_valuePolicy 318 = .ok (.istore_n 1, 1) := by decide +kernel
theorem dX10_valuePolicy_319 : decode cX10_valuePolicy 319 = .ok (.iload_n 1, 1) := by decide +kernel
theorem dX10_valuePolicy_320 : decode cX10_valuePolicy 320 = .ok (.ifCond .lt 83, 3) := by decide +kernel
theorem dX10_valuePolicy_323 : decode cX10_valuePolicy 323 = .ok (.aload_n 0, 1) := by decide +kernel
theorem dX10_valuePolicy_324 : decode cX10_valuePolicy 324 = .ok (.bipush 7, 2) := by decide +kernel
theorem dX10_valuePolicy_326 : decode cX10_valuePolicy 326 = .ok (.iload_n 1, 1) := by decide +kernel
theorem dX10_valuePolicy_327 : decode cX10_valuePolicy 327 = .ok (.imul, 1) := by decide +kernel
theorem dX10_valuePolicy_328 : decode cX10_valuePolicy 328 = .ok (.bipush 6, 2) := by decide +kernel
theorem dX10_valuePolicy_330 : decode cX10_valuePolicy 330 = .ok (.iadd, 1) := by decide +kernel
theorem dX10_valuePolicy_331 : decode cX10_valuePolicy 331 = .ok (.bipush 48, 2) := by decide +kernel
theorem dX10_valuePolicy_333 : decode cX10_valuePolicy 333 = .ok (.bipush 42, 2) := by decide +kernel
theorem dX10_valuePolicy_335 : decode cX10_valuePolicy 335 = .ok (.iload_n 1, 1) := by decide +kernel
theorem dX10_valuePolicy_336 : decode cX10_valuePolicy 336 = .ok (.iadd, 1) := by decide +kernel
theorem dX10_valuePolicy_337 : decode cX10_valuePolicy 337 = .ok (.invokevirtual 147, 3) := by decide +kernel
theorem dX10_valuePolicy_340 : decode cX10_valuePolicy 340 = .ok (.iload_n 1, 1) := by decide +kernel
theorem dX10_valuePolicy_341 : decode cX10_valuePolicy 341 = .ok (.iconst 1, 1) := by decide +kernel
theorem dX10_valuePolicy_342 : decode cX10_valuePolicy 342 = .ok (.iadd, 1) := by decide +kernel
theorem dX10_valuePolicy_343 : decode cX10_valuePolicy 343 = .ok (.istore_n 2, 1) := by decide +kernel
theorem dX10_valuePolicy_344 : decode cX10_valuePolicy 344 = .ok (.iload_n 2, 1) := by decide +kernel
theorem dX10_valuePolicy_345 : decode cX10_valuePolicy 345 = .ok (.aload_n 0, 1) := by decide +kernel
theorem dX10_valuePolicy_346 : decode cX10_valuePolicy 346 = .ok (.getfield 103, 3) := by decide +kernel
theorem dX10_valuePolicy_349 : decode cX10_valuePolicy 349 = .ok (.if_icmp .ge 36, 3) := by decide +kernel
theorem dX10_valuePolicy_352 : decode cX10_valuePolicy 352 = .ok (.aload_n 0, 1) := by decide +kernel
theorem dX10_valuePolicy_353 : decode cX10_valuePolicy 353 = .ok (.bipush 7, 2) := by decide +kernel
theorem dX10_valuePolicy_355 : decode cX10_valuePolicy 355 = .ok (.iload_n 1, 1) := by decide +kernel
theorem dX10_valuePolicy_356 : decode cX10_valuePolicy 356 = .ok (.imul, 1) := by decide +kernel
theorem dX10_valuePolicy_357 : decode cX10_valuePolicy 357 = .ok (.iload_n 2, 1) := by decide +kernel
theorem dX10_valuePolicy_358 : decode cX10_valuePolicy 358 = .ok (.iadd, 1) := by decide +kernel
theorem dX10_valuePolicy_359 : decode cX10_valuePolicy 359 = .ok (.bipush 42, 2) := by decide +kernel
theorem dX10_valuePolicy_361 : decode cX10_valuePolicy 361 = .ok (.iload_n 2, 1) := by decide +kernel
theorem dX10_valuePolicy_362 : decode cX10_valuePolicy 362 = .ok (.iadd, 1) := by decide +kernel
theorem dX10_valuePolicy_363 : decode cX10_valuePolicy 363 = .ok (.bipush 49, 2) := by decide +kernel
theorem dX10_valuePolicy_365 : decode cX10_valuePolicy 365 = .ok (.invokevirtual 147, 3) := by decide +kernel
theorem dX10_valuePolicy_368 : decode cX10_valuePolicy 368 = .ok (.aload_n 0, 1) := by decide +kernel
theorem dX10_valuePolicy_369 : decode cX10_valuePolicy 369 = .ok (.bipush 42, 2) := by decide +kernel
theorem dX10_valuePolicy_371 : decode cX10_valuePolicy 371 = .ok (.iload_n 1, 1) := by decide +kernel
theorem dX10_valuePolicy_372 : decode cX10_valuePolicy 372 = .ok (.iadd, 1) := by decide +kernel
theorem dX10_valuePolicy_373 : decode cX10_valuePolicy 373 = .ok (.bipush 49, 2) := by decide +kernel
theorem dX10_valuePolicy_375 : decode cX10_valuePolicy 375 = .ok (.iconst (-1), 1) := by decide +kernel
theorem dX10_valuePolicy_376 : decode cX10_valuePolicy 376 = .ok (.invokevirtual 83, 3) := by decide +kernel
theorem dX10_valuePolicy_379 : decode cX10_valuePolicy 379 = .ok (.iinc 2 1, 3) := by decide +kernel
theorem dX10_valuePolicy_382 : decode cX10_valuePolicy 382 = .ok (.goto (-38), 3) := by decide +kernel
theorem dX10_valuePolicy_385 : decode cX10_valuePolicy 385 = .ok (.aload_n 0, 1) := by decide +kernel
theorem dX10_valuePolicy_386 : decode cX10_valuePolicy 386 = .ok (.bipush 42, 2) := by decide +kernel
theorem dX10_valuePolicy_388 : decode cX10_valuePolicy 388 = .ok (.iload_n 1, 1) := by decide +kernel
theorem dX10_valuePolicy_389 : decode cX10_valuePolicy 389 = .ok (.iadd, 1) := by decide +kernel
theorem dX10_valuePolicy_390 : decode cX10_valuePolicy 390 = .ok (.bipush 8, 2) := by decide +kernel
theorem dX10_valuePolicy_392 : decode cX10_valuePolicy 392 = .ok (.iload_n 1, 1) := by decide +kernel
theorem dX10_valuePolicy_393 : decode cX10_valuePolicy 393 = .ok (.imul, 1) := by decide +kernel
theorem dX10_valuePolicy_394 : decode cX10_valuePolicy 394 = .ok (.invokevirtual 150, 3) := by decide +kernel
theorem dX10_valuePolicy_397 : decode cX10_valuePolicy 397 = .ok (.iinc 1 (-1), 3) := by decide +kernel
theorem dX10_valuePolicy_400 : decode cX10_valuePolicy 400 = .ok (.goto (-81), 3) := by decide +kernel
theorem dX10_valuePolicy_403 : decode cX10_valuePolicy 403 = .ok (.return_, 1) := by decide +kernel
set_option maxRecDepth 20000 in
theorem ggX10_putRight_X10_multiply : GoodIn wsX10_putRight wsX10_multiply := goodIn_r _ [5, 6, 7, 8, 9, 10, 11, 12, 4, 13, 44, 45, 46, 47, 48, 49, 50, 51, 52, 53, 54, 55, 56, 57, 58, 59, 60, 61, 62, 63] rfl rfl
set_option maxRecDepth 20000 in
theorem gX10_putRight_X10_multiply : GoodIn wsX10_putRight (wsV RX10 147 RX10 yX10_multiply wsX10_multiply) := goodIn_app (goodIn_of _ (by decide +kernel)) ggX10_putRight_X10_multiply
set_option maxRecDepth 20000 in
theorem ggX10_putRight_X10_plus : GoodIn wsX10_putRight wsX10_plus := goodIn_r _ [17, 9, 6, 7, 18, 19, 20, 21, 22, 4, 23, 10, 11, 12, 13, 24, 25, 26, 27, 44, 45, 46, 47, 48, 49, 50, 51, 52, 53, 54, 55, 56, 57, 58, 59, 60, 61, 62, 63] rfl rfl
set_option maxRecDepth 20000 in
theorem gX10_putRight_X10_plus : GoodIn wsX10_putRight (wsV RX10 83 RX10 yX10_plus wsX10_plus) := goodIn_app (goodIn_of _ (by decide +kernel)) ggX10_putRight_X10_plus
set_option maxRecDepth 20000 in
theorem ggX10_putRight_X10_over : GoodIn wsX10_putRight wsX10_over := goodIn_r _ [31, 9, 6, 7, 32, 33, 34, 4, 35, 8, 36, 37, 38, 39, 10, 11, 12, 13, 24, 25, 26, 27, 14, 15, 16, 17, 18, 19, 20, 21, 22, 23, 44, 45, 46, 47, 48, 49, 50, 51, 52, 53, 54, 55, 56, 57, 58, 59, 60, 61, 62, 63] rfl rfl
set_option maxRecDepth 20000 in
theorem gX10_putRight_X10_over : GoodIn wsX10_putRight (wsV RX10 150 RX10 yX10_over wsX10_over) := goodIn_app (goodIn_of _ (by decide +kernel)) ggX10_putRight_X10_over
set_option maxRecDepth 20000 in
theorem ggX10_putRight_X10_copy : GoodIn wsX10_putRight wsX10_copy := goodIn_r _ [43, 9, 6, 7, 44, 45, 46, 47, 48, 49, 50, 51, 52, 53, 54, 55, 56, 57, 58, 59, 60, 61, 62, 63] rfl rfl
set_option maxRecDepth 20000 in
theorem gX10_putRight_X10_copy : GoodIn wsX10_putRight (wsV RX10 90 RX10 yX10_copy wsX10_copy) := goodIn_app (goodIn_of _ (by decide +kernel)) ggX10_putRight_X10_copy
theorem dX10_putRight_0 : decode cX10_putRight 0 = .ok (.aload_n 0, 1) := by decide +kernel
theorem dX10_putRight_1 : decode cX10_putRight 1 = .ok (.bipush 8, 2) := by decide +kernel
theorem dX10_putRight_3 : decode cX10_putRight 3 = .ok (.iload_n 1, 1) := by decide +kernel
theorem dX10_putRight_4 : decode cX10_putRight 4 = .ok (.imul, 1) := by decide +kernel
theorem dX10_putRight_5 : decode cX10_putRight 5 = .ok (.bipush 7, 2) := by decide +kernel
theorem dX10_putRight_7 : decode cX10_putRight 7 = .ok (.iload_n 2, 1) := by decide +kernel
theorem dX10_putRight_8 : decode cX10_putRight 8 = .ok (.imul, 1) := by decide +kernel
theorem dX10_putRight_9 : decode cX10_putRight 9 = .ok (.iload_n 3, 1) := by decide +kernel
theorem dX10_putRight_10 : decode cX10_putRight 10 = .ok (.iadd, 1) := by decide +kernel
theorem dX10_putRight_11 : decode cX10_putRight 11 = .ok (.bipush 49, 2) := by decide +kernel
theorem dX10_putRight_13 : decode cX10_putRight 13 = .ok (.invokevirtual 147, 3) := by decide +kernel
theorem dX10_putRight_16 : decode cX10_putRight 16 = .ok (.aload_n 0, 1) := by decide +kernel
theorem dX10_putRight_17 : decode cX10_putRight 17 = .ok (.bipush 7, 2) := by decide +kernel
theorem dX10_putRight_19 : decode cX10_putRight 19 = .ok (.iload_n 2, 1) := by decide +kernel
theorem dX10_putRight_20 : decode cX10_putRight 20 = .ok (.imul, 1) := by decide +kernel
theorem dX10_putRight_21 : decode cX10_putRight 21 = .ok (.iload_n 1, 1) := by decide +kernel
theorem dX10_putRight_22 : decode cX10_putRight 22 = .ok (.iadd, 1) := by decide +kernel
theorem dX10_putRight_23 : decode cX10_putRight 23 = .ok (.bipush 7, 2) := by decide +kernel
theorem dX10_putRight_25 : decode cX10_putRight 25 = .ok (.iload_n 1, 1) := by decide +kernel
theorem dX10_putRight_26 : decode cX10_putRight 26 = .ok (.imul, 1) := by decide +kernel
theorem dX10_putRight_27 : decode cX10_putRight 27 = .ok (.iload_n 3, 1) := by decide +kernel
theorem dX10_putRight_28 : decode cX10_putRight 28 = .ok (.iadd, 1) := by decide +kernel
theorem dX10_putRight_29 : decode cX10_putRight 29 = .ok (.bipush 50, 2) := by decide +kernel
theorem dX10_putRight_31 : decode cX10_putRight 31 = .ok (.invokevirtual 147, 3) := by decide +kernel
theorem dX10_putRight_34 : decode cX10_putRight 34 = .ok (.aload_n 0, 1) := by decide +kernel
theorem dX10_putRight_35 : decode cX10_putRight 35 = .ok (.bipush 49, 2) := by decide +kernel
theorem dX10_putRight_37 : decode cX10_putRight 37 = .ok (.bipush 50, 2) := by decide +kernel
theorem dX10_putRight_39 : decode cX10_putRight 39 = .ok (.iconst (-1), 1) := by decide +kernel
theorem dX10_putRight_40 : decode cX10_putRight 40 = .ok (.invokevirtual 83, 3) := by decide +kernel
theorem dX10_putRight_43 : decode cX10_putRight 43 = .ok (.aload_n 0, 1) := by decide +kernel
theorem dX10_putRight_44 : decode cX10_putRight 44 = .ok (.bipush 49, 2) := by decide +kernel
theorem dX10_putRight_46 : decode cX10_putRight 46 = .ok (.bipush 48, 2) := by decide +kernel
theorem dX10_putRight_48 : decode cX10_putRight 48 = .ok (.invokevirtual 150, 3) := by decide +kernel
theorem dX10_putRight_51 : decode cX10_putRight 51 = .ok (.aload_n 0, 1) := by decide +kernel
theorem dX10_putRight_52 : decode cX10_putRight 52 = .ok (.bipush 49, 2) := by decide +kernel
theorem dX10_putRight_54 : decode cX10_putRight 54 = .ok (.bipush 7, 2) := by decide +kernel
theorem dX10_putRight_56 : decode cX10_putRight 56 = .ok (.iload_n 2, 1) := by decide +kernel
theorem dX10_putRight_57 : decode cX10_putRight 57 = .ok (.imul, 1) := by decide +kernel
theorem dX10_putRight_58 : decode cX10_putRight 58 = .ok (.iload_n 3, 1) := by decide +kernel
theorem dX10_putRight_59 : decode cX10_putRight 59 = .ok (.iadd, 1) := by decide +kernel
theorem dX10_putRight_60 : decode cX10_putRight 60 = .ok (.invokevirtual 90, 3) := by decide +kernel
theorem dX10_putRight_63 : decode cX10_putRight 63 = .ok (.return_, 1) := by decide +kernel
set_option maxRecDepth 20000 in
theorem ggX10_gainInto_X10_setSmall : GoodIn wsX10_gainInto wsX10_setSmall := goodIn_r _ [11, 12, 13, 14, 15, 46, 47, 48, 49, 50, 51, 52, 53, 54, 55, 56, 57, 58, 59, 60, 61, 62, 63, 64, 65] rfl rfl
set_option maxRecDepth 20000 in
theorem gX10_gainInto_X10_setSmall : GoodIn wsX10_gainInto (wsV RX10 76 RX10 yX10_setSmall wsX10_setSmall) := goodIn_app (goodIn_of _ (by decide +kernel)) ggX10_gainInto_X10_setSmall
set_option maxRecDepth 20000 in
theorem ggX10_gainInto_X10_copy : GoodIn wsX10_gainInto wsX10_copy := goodIn_r _ [19, 12, 15, 13, 46, 47, 48, 49, 50, 51, 52, 53, 54, 55, 56, 57, 58, 59, 60, 61, 62, 63, 64, 65] rfl rfl
set_option maxRecDepth 20000 in
theorem gX10_gainInto_X10_copy : GoodIn wsX10_gainInto (wsV RX10 90 RX10 yX10_copy wsX10_copy) := goodIn_app (goodIn_of _ (by decide +kernel)) ggX10_gainInto_X10_copy
set_option maxRecDepth 20000 in
theorem ggX10_gainInto_X10_times : GoodIn wsX10_gainInto wsX10_times := goodIn_r _ [23, 15, 13, 14, 12, 24, 25, 26, 10, 27, 46, 47, 48, 49, 50, 51, 52, 53, 54, 55, 56, 57, 58, 59, 60, 61, 62, 63, 64, 65] rfl rfl
set_option maxRecDepth 20000 in
theorem gX10_gainInto_X10_times : GoodIn wsX10_gainInto (wsV RX10 80 RX10 yX10_times wsX10_times) := goodIn_app (goodIn_of _ (by decide +kernel)) ggX10_gainInto_X10_times
set_option maxRecDepth 20000 in
theorem ggX10_gainInto_X10_plus : GoodIn wsX10_gainInto wsX10_plus := goodIn_r _ [31, 12, 15, 13, 32, 33, 34, 35, 36, 10, 37, 24, 25, 26, 27, 38, 39, 40, 41, 46, 47, 48, 49, 50, 51, 52, 53, 54, 55, 56, 57, 58, 59, 60, 61, 62, 63, 64, 65] rfl rfl
set_option maxRecDepth 20000 in
theorem gX10_gainInto_X10_plus : GoodIn wsX10_gainInto (wsV RX10 83 RX10 yX10_plus wsX10_plus) := goodIn_app (goodIn_of _ (by decide +kernel)) ggX10_gainInto_X10_plus
set_option maxRecDepth 20000 in
theorem ggX10_gainInto_X10_sumOf : GoodIn wsX10_gainInto wsX10_sumOf := goodIn_r _ [45, 2, 46, 47, 48, 49, 50, 51, 52, 53, 54, 55, 56, 57, 58, 59, 60, 61, 62, 63, 64, 65] rfl rfl
set_option maxRecDepth 20000 in
theorem gX10_gainInto_X10_sumOf : GoodIn wsX10_gainInto (wsV RX10 127 RX10 yX10_sumOf wsX10_sumOf) := goodIn_app (goodIn_of _ (by decide +kernel)) ggX10_gainInto_X10_sumOf
theorem dX10_gainInto_0 : decode cX10_gainInto 0 = .ok (.aload_n 0, 1) := by decide +kernel
theorem dX10_gainInto_1 : decode cX10_gainInto 1 = .ok (.iload 4, 2) := by decide +kernel
theorem dX10_gainInto_3 : decode cX10_gainInto 3 = .ok (.lconst 0, 1) := by decide +kernel
theorem dX10_gainInto_4 : decode cX10_gainInto 4 = .ok (.invokevirtual 76, 3) := by decide +kernel
theorem dX10_gainInto_7 : decode cX10_gainInto 7 = .ok (.iconst 0, 1) := by decide +kernel
theorem dX10_gainInto_8 : decode cX10_gainInto 8 = .ok (.istore 5, 2) := by decide +kernel
theorem dX10_gainInto_10 : decode cX10_gainInto 10 = .ok (.iload 5, 2) := by decide +kernel
theorem dX10_gainInto_12 : decode cX10_gainInto 12 = .ok (.aload_n 0, 1) := by decide +kernel
theorem dX10_gainInto_13 : decode cX10_gainInto 13 = .ok (.getfield 103, 3) := by decide +kernel
theorem dX10_gainInto_16 : decode cX10_gainInto 16 = .ok (.if_icmp .ge 46, 3) := by decide +kernel
theorem dX10_gainInto_19 : decode cX10_gainInto 19 = .ok (.aload_n 0, 1) := by decide +kernel
theorem dX10_gainInto_20 : decode cX10_gainInto 20 = .ok (.iload_n 2, 1) := by decide +kernel
theorem dX10_gainInto_21 : decode cX10_gainInto 21 = .ok (.iload 5, 2) := by decide +kernel
theorem dX10_gainInto_23 : decode cX10_gainInto 23 = .ok (.iadd, 1) := by decide +kernel
theorem dX10_gainInto_24 : decode cX10_gainInto 24 = .ok (.bipush 51, 2) := by decide +kernel
theorem dX10_gainInto_26 : decode cX10_gainInto 26 = .ok (.invokevirtual 90, 3) := by decide +kernel
theorem dX10_gainInto_29 : decode cX10_gainInto 29 = .ok (.aload_n 0, 1) := by decide +kernel
theorem dX10_gainInto_30 : decode cX10_gainInto 30 = .ok (.bipush 51, 2) := by decide +kernel
theorem dX10_gainInto_32 : decode cX10_gainInto 32 = .ok (.aload_n 0, 1) := by decide +kernel
theorem dX10_gainInto_33 : decode cX10_gainInto 33 = .ok (.getfield 19, 3) := by decide +kernel
theorem dX10_gainInto_36 : decode cX10_gainInto 36 = .ok (.bipush 6, 2) := by decide +kernel
theorem dX10_gainInto_38 : decode cX10_gainInto 38 = .ok (.iload_n 1, 1) := by decide +kernel
theorem dX10_gainInto_39 : decode cX10_gainInto 39 = .ok (.imul, 1) := by decide +kernel
theorem dX10_gainInto_40 : decode cX10_gainInto 40 = .ok (.iload 5, 2) := by decide +kernel
theorem dX10_gainInto_42 : decode cX10_gainInto 42 = .ok (.iadd, 1) := by decide +kernel
theorem dX10_gainInto_43 : decode cX10_gainInto 43 = .ok (.iaload, 1) := by decide +kernel
theorem dX10_gainInto_44 : decode cX10_gainInto 44 = .ok (.invokevirtual 80, 3) := by decide +kernel
theorem dX10_gainInto_47 : decode cX10_gainInto 47 = .ok (.aload_n 0, 1) := by decide +kernel
theorem dX10_gainInto_48 : decode cX10_gainInto 48 = .ok (.iload 4, 2) := by decide +kernel
theorem dX10_gainInto_50 : decode cX10_gainInto 50 = .ok (.bipush 51, 2) := by decide +kernel
theorem dX10_gainInto_52 : decode cX10_gainInto 52 = .ok (.iconst 1, 1) := by decide +kernel
theorem dX10_gainInto_53 : decode cX10_gainInto 53 = .ok (.invokevirtual 83, 3) := by decide +kernel
theorem dX10_gainInto_56 : decode cX10_gainInto 56 = .ok (.iinc 5 1, 3) := by decide +kernel
theorem dX10_gainInto_59 : decode cX10_gainInto 59 = .ok (.goto (-49), 3) := by decide +kernel
theorem dX10_gainInto_62 : decode cX10_gainInto 62 = .ok (.aload_n 0, 1) := by decide +kernel
theorem dX10_gainInto_63 : decode cX10_gainInto 63 = .ok (.iload 4, 2) := by decide +kernel
theorem dX10_gainInto_65 : decode cX10_gainInto 65 = .ok (.aload_n 0, 1) := by decide +kernel
theorem dX10_gainInto_66 : decode cX10_gainInto 66 = .ok (.getfield 22, 3) := by decide +kernel
theorem dX10_gainInto_69 : decode cX10_gainInto 69 = .ok (.invokevirtual 80, 3) := by decide +kernel
theorem dX10_gainInto_72 : decode cX10_gainInto 72 = .ok (.aload_n 0, 1) := by decide +kernel
theorem dX10_gainInto_73 : decode cX10_gainInto 73 = .ok (.iload 4, 2) := by decide +kernel
theorem dX10_gainInto_75 : decode cX10_gainInto 75 = .ok (.aload_n 0, 1) := by decide +kernel
theorem dX10_gainInto_76 : decode cX10_gainInto 76 = .ok (.getfield 16, 3) := by decide +kernel
theorem dX10_gainInto_79 : decode cX10_gainInto 79 = .ok (.iload_n 1, 1) := by decide +kernel
theorem dX10_gainInto_80 : decode cX10_gainInto 80 = .ok (.iaload, 1) := by decide +kernel
theorem dX10_gainInto_81 : decode cX10_gainInto 81 = .ok (.invokevirtual 80, 3) := by decide +kernel
theorem dX10_gainInto_84 : decode cX10_gainInto 84 = .ok (.aload_n 0, 1) := by decide +kernel
theorem dX10_gainInto_85 : decode cX10_gainInto 85 = .ok (.iload_n 3, 1) := by decide +kernel
theorem dX10_gainInto_86 : decode cX10_gainInto 86 = .ok (.bipush 51, 2) := by decide +kernel
theorem dX10_gainInto_88 : decode cX10_gainInto 88 = .ok (.invokevirtual 90, 3) := by decide +kernel
theorem dX10_gainInto_91 : decode cX10_gainInto 91 = .ok (.aload_n 0, 1) := by decide +kernel
theorem dX10_gainInto_92 : decode cX10_gainInto 92 = .ok (.bipush 51, 2) := by decide +kernel
theorem dX10_gainInto_94 : decode cX10_gainInto 94 = .ok (.aload_n 0, 1) := by decide +kernel
theorem dX10_gainInto_95 : decode cX10_gainInto 95 = .ok (.getfield 26, 3) := by decide +kernel
theorem dX10_gainInto_98 : decode cX10_gainInto 98 = .ok (.aload_n 0, 1) := by decide +kernel
theorem dX10_gainInto_99 : decode cX10_gainInto 99 = .ok (.iload_n 1, 1) := by decide +kernel
theorem dX10_gainInto_100 : decode cX10_gainInto 100 = .ok (.invokevirtual 127, 3) := by decide +kernel
theorem dX10_gainInto_103 : decode cX10_gainInto 103 = .ok (.imul, 1) := by decide +kernel
theorem dX10_gainInto_104 : decode cX10_gainInto 104 = .ok (.invokevirtual 80, 3) := by decide +kernel
theorem dX10_gainInto_107 : decode cX10_gainInto 107 = .ok (.aload_n 0, 1) := by decide +kernel
theorem dX10_gainInto_108 : decode cX10_gainInto 108 = .ok (.bipush 51, 2) := by decide +kernel
theorem dX10_gainInto_110 : decode cX10_gainInto 110 = .ok (.aload_n 0, 1) := by decide +kernel
theorem dX10_gainInto_111 : decode cX10_gainInto 111 = .ok (.getfield 13, 3) := by decide +kernel
theorem dX10_gainInto_114 : decode cX10_gainInto 114 = .ok (.iload_n 1, 1) := by decide +kernel
theorem dX10_gainInto_115 : decode cX10_gainInto 115 = .ok (.iaload, 1) := by decide +kernel
theorem dX10_gainInto_116 : decode cX10_gainInto 116 = .ok (.invokevirtual 80, 3) := by decide +kernel
theorem dX10_gainInto_119 : decode cX10_gainInto 119 = .ok (.aload_n 0, 1) := by decide +kernel
theorem dX10_gainInto_120 : decode cX10_gainInto 120 = .ok (.iload 4, 2) := by decide +kernel
theorem dX10_gainInto_122 : decode cX10_gainInto 122 = .ok (.bipush 51, 2) := by decide +kernel
theorem dX10_gainInto_124 : decode cX10_gainInto 124 = .ok (.iconst 1, 1) := by decide +kernel
theorem dX10_gainInto_125 : decode cX10_gainInto 125 = .ok (.invokevirtual 83, 3) := by decide +kernel
theorem dX10_gainInto_128 : decode cX10_gainInto 128 = .ok (.return_, 1) := by decide +kernel
set_option maxRecDepth 20000 in
theorem ggX10_compareGains_X10_gainInto : GoodIn wsX10_compareGains wsX10_gainInto := goodIn_r _ [6, 7, 8, 9, 1, 10, 11, 12, 13, 14, 5, 15, 16, 17, 18, 19, 20, 21, 22, 23, 24, 25, 26, 27, 28, 29, 30, 31, 32, 33, 34, 35, 36, 37, 38, 39, 40, 41, 42, 43, 44, 45, 46, 47, 48, 49, 54, 55, 56, 57, 58, 59, 60, 61, 62, 63, 64, 65, 66, 67, 68, 69, 70, 71, 72, 73] rfl rfl
set_option maxRecDepth 20000 in
theorem gX10_compareGains_X10_gainInto : GoodIn wsX10_compareGains (wsV RX10 153 RX10 yX10_gainInto wsX10_gainInto) := goodIn_app (goodIn_of _ (by decide +kernel)) ggX10_compareGains_X10_gainInto
set_option maxRecDepth 20000 in
theorem ggX10_compareGains_X10_sumOf : GoodIn wsX10_compareGains wsX10_sumOf := goodIn_r _ [49, 8, 54, 55, 56, 57, 58, 59, 60, 61, 62, 63, 64, 65, 66, 67, 68, 69, 70, 71, 72, 73] rfl rfl
set_option maxRecDepth 20000 in
theorem gX10_compareGains_X10_sumOf : GoodIn wsX10_compareGains (wsV RX10 127 RX10 yX10_sumOf wsX10_sumOf) := goodIn_app (goodIn_of _ (by decide +kernel)) ggX10_compareGains_X10_sumOf
set_option maxRecDepth 20000 in
theorem ggX10_compareGains_X10_times : GoodIn wsX10_compareGains wsX10_times := goodIn_r _ [27, 19, 17, 18, 16, 28, 29, 30, 5, 31, 54, 55, 56, 57, 58, 59, 60, 61, 62, 63, 64, 65, 66, 67, 68, 69, 70, 71, 72, 73] rfl rfl
set_option maxRecDepth 20000 in
theorem gX10_compareGains_X10_times : GoodIn wsX10_compareGains (wsV RX10 80 RX10 yX10_times wsX10_times) := goodIn_app (goodIn_of _ (by decide +kernel)) ggX10_compareGains_X10_times
set_option maxRecDepth 20000 in
theorem ggX10_compareGains_X10_compare : GoodIn wsX10_compareGains wsX10_compare := goodIn_r _ [53, 16, 42, 43, 44, 5, 45, 19, 17, 54, 55, 56, 57, 58, 59, 60, 61, 62, 63, 64, 65, 66, 67, 68, 69, 70, 71, 72, 73] rfl rfl
set_option maxRecDepth 20000 in
theorem gX10_compareGains_X10_compare : GoodIn wsX10_compareGains (wsV RX10 157 RX10 yX10_compare wsX10_compare) := goodIn_app (goodIn_of _ (by decide +kernel)) ggX10_compareGains_X10_compare
theorem dX10_compareGains_0 : decode cX10_compareGains 0 = .ok (.aload_n 0, 1) := by decide +kernel
theorem dX10_compareGains_1 : decode cX10_compareGains 1 = .ok (.iload_n 1, 1) := by decide +kernel
theorem dX10_compareGains_2 : decode cX10_compareGains 2 = .ok (.iload_n 3, 1) := by decide +kernel
theorem dX10_compareGains_3 : decode cX10_compareGains 3 = .ok (.iload 4, 2) := by decide +kernel
theorem dX10_compareGains_5 : decode cX10_compareGains 5 = .ok (.bipush 49, 2) := by decide +kernel
theorem dX10_compareGains_7 : decode cX10_compareGains 7 = .ok (.invokevirtual 153, 3) := by decide +kernel
theorem dX10_compareGains_10 : decode cX10_compareGains 10 = .ok (.aload_n 0, 1) := by decide +kernel
theorem dX10_compareGains_11 : decode cX10_compareGains 11 = .ok (.iload_n 2, 1) := by decide +kernel
theorem dX10_compareGains_12 : decode cX10_compareGains 12 = .ok (.iload_n 3, 1) := by decide +kernel
theorem dX10_compareGains_13 : decode cX10_compareGains 13 = .ok (.iload 4, 2) := by decide +kernel
theorem dX10_compareGains_15 : decode cX10_compareGains 15 = .ok (.bipush 50, 2) := by decide +kernel
theorem dX10_compareGains_17 : decode cX10_compareGains 17 = .ok (.invokevirtual 153, 3) := by decide +kernel
theorem dX10_compareGains_20 : decode cX10_compareGains 20 = .ok (.aload_n 0, 1) := by decide +kernel
theorem dX10_compareGains_21 : decode cX10_compareGains 21 = .ok (.bipush 49, 2) := by decide +kernel
theorem dX10_compareGains_23 : decode cX10_compareGains 23 = .ok (.aload_n 0, 1) := by decide +kernel
theorem dX10_compareGains_24 : decode cX10_compareGains 24 = .ok (.getfield 16, 3) := by decide +kernel
theorem dX10_compareGains_27 : decode cX10_compareGains 27 = .ok (.iload_n 2, 1) := by decide +kernel
theorem dX10_compareGains_28 : decode cX10_compareGains 28 = .ok (.iaload, 1) := by decide +kernel
theorem dX10_compareGains_29 : decode cX10_compareGains 29 = .ok (.aload_n 0, 1) := by decide +kernel
theorem dX10_compareGains_30 : decode cX10_compareGains 30 = .ok (.iload_n 2, 1) := by decide +kernel
theorem dX10_compareGains_31 : decode cX10_compareGains 31 = .ok (.invokevirtual 127, 3) := by decide +kernel
theorem dX10_compareGains_34 : decode cX10_compareGains 34 = .ok (.imul, 1) := by decide +kernel
theorem dX10_compareGains_35 : decode cX10_compareGains 35 = .ok (.invokevirtual 80, 3) := by decide +kernel
theorem dX10_compareGains_38 : decode cX10_compareGains 38 = .ok (.aload_n 0, 1) := by decide +kernel
theorem dX10_compareGains_39 : decode cX10_compareGains 39 = .ok (.bipush 50, 2) := by decide +kernel
theorem dX10_compareGains_41 : decode cX10_compareGains 41 = .ok (.aload_n 0, 1) := by decide +kernel
theorem dX10_compareGains_42 : decode cX10_compareGains 42 = .ok (.getfield 16, 3) := by decide +kernel
theorem dX10_compareGains_45 : decode cX10_compareGains 45 = .ok (.iload_n 1, 1) := by decide +kernel
theorem dX10_compareGains_46 : decode cX10_compareGains 46 = .ok (.iaload, 1) := by decide +kernel
theorem dX10_compareGains_47 : decode cX10_compareGains 47 = .ok (.aload_n 0, 1) := by decide +kernel
theorem dX10_compareGains_48 : decode cX10_compareGains 48 = .ok (.iload_n 1, 1) := by decide +kernel
theorem dX10_compareGains_49 : decode cX10_compareGains 49 = .ok (.invokevirtual 127, 3) := by decide +kernel
theorem dX10_compareGains_52 : decode cX10_compareGains 52 = .ok (.imul, 1) := by decide +kernel
theorem dX10_compareGains_53 : decode cX10_compareGains 53 = .ok (.invokevirtual 80, 3) := by decide +kernel
theorem dX10_compareGains_56 : decode cX10_compareGains 56 = .ok (.aload_n 0, 1) := by decide +kernel
theorem dX10_compareGains_57 : decode cX10_compareGains 57 = .ok (.bipush 49, 2) := by decide +kernel
theorem dX10_compareGains_59 : decode cX10_compareGains 59 = .ok (.bipush 50, 2) := by decide +kernel
theorem dX10_compareGains_61 : decode cX10_compareGains 61 = .ok (.invokevirtual 157, 3) := by decide +kernel
theorem dX10_compareGains_64 : decode cX10_compareGains 64 = .ok (.ireturn, 1) := by decide +kernel
set_option maxRecDepth 20000 in
theorem ggX10_greatest_X10_compareGains : GoodIn wsX10_greatest wsX10_compareGains := goodIn_r _ [6, 7, 8, 9, 10, 5, 11, 12, 13, 14, 15, 16, 17, 18, 19, 20, 21, 22, 23, 24, 25, 26, 27, 28, 29, 30, 31, 32, 33, 34, 35, 36, 37, 38, 39, 40, 41, 42, 43, 44, 45, 46, 47, 48, 49, 50, 51, 52, 53, 54, 55, 56, 57, 58, 59, 60, 61, 62, 63, 64, 65, 66, 67, 68, 69, 70, 71, 72, 73, 74, 75, 76, 77, 78] rfl rfl
set_option maxRecDepth 20000 in
theorem gX10_greatest_X10_compareGains : GoodIn wsX10_greatest (wsV RX10 160 RX10 yX10_compareGains wsX10_compareGains) := goodIn_app (goodIn_of _ (by decide +kernel)) ggX10_greatest_X10_compareGains
theorem dX10_greatest_0 : decode cX10_greatest 0 = .ok (.iconst 0, 1) := by decide +kernel
theorem dX10_greatest_1 : decode cX10_greatest 1 = .ok (.istore 4, 2) := by decide +kernel
theorem dX10_greatest_3 : decode cX10_greatest 3 = .ok (.iconst 1, 1) := by decide +kernel
theorem dX10_greatest_4 : decode cX10_greatest 4 = .ok (.istore 5, 2) := by decide +kernel
theorem dX10_greatest_6 : decode cX10_greatest 6 = .ok (.iload 5, 2) := by decide +kernel
theorem dX10_greatest_8 : decode cX10_greatest 8 = .ok (.aload_n 0, 1) := by decide +kernel
theorem dX10_greatest_9 : decode cX10_greatest 9 = .ok (.getfield 7, 3) := by decide +kernel
theorem dX10_greatest_12 : decode cX10_greatest 12 = .ok (.iload_n 1, 1) := by decide +kernel
theorem dX10_greatest_13 : decode cX10_greatest 13 = .ok (.iaload, 1) := by decide +kernel
theorem dX10_greatest_14 : decode cX10_greatest 14 = .ok (.if_icmp .ge 39, 3) := by decide +kernel
theorem dX10_greatest_17 : decode cX10_greatest 17 = .ok (.aload_n 0, 1) := by decide +kernel
theorem dX10_greatest_18 : decode cX10_greatest 18 = .ok (.iconst 4, 1) := by decide +kernel
theorem dX10_greatest_19 : decode cX10_greatest 19 = .ok (.iload_n 1, 1) := by decide +kernel
theorem dX10_greatest_20 : decode cX10_greatest 20 = .ok (.imul, 1) := by decide +kernel
theorem dX10_greatest_21 : decode cX10_greatest 21 = .ok (.iload 5, 2) := by decide +kernel
theorem dX10_greatest_23 : decode cX10_greatest 23 = .ok (.iadd, 1) := by decide +kernel
theorem dX10_greatest_24 : decode cX10_greatest 24 = .ok (.iconst 4, 1) := by decide +kernel
theorem dX10_greatest_25 : decode cX10_greatest 25 = .ok (.iload_n 1, 1) := by decide +kernel
theorem dX10_greatest_26 : decode cX10_greatest 26 = .ok (.imul, 1) := by decide +kernel
theorem dX10_greatest_27 : decode cX10_greatest 27 = .ok (.iload 4, 2) := by decide +kernel
theorem dX10_greatest_29 : decode cX10_greatest 29 = .ok (.iadd, 1) := by decide +kernel
theorem dX10_greatest_30 : decode cX10_greatest 30 = .ok (.iload_n 2, 1) := by decide +kernel
theorem dX10_greatest_31 : decode cX10_greatest 31 = .ok (.iload_n 3, 1) := by decide +kernel
theorem dX10_greatest_32 : decode cX10_greatest 32 = .ok (.invokevirtual 160, 3) := by decide +kernel
theorem dX10_greatest_35 : decode cX10_greatest 35 = .ok (.ifCond .le 8, 3) := by decide +kernel
theorem dX10_greatest_38 : decode cX10_greatest 38 = .ok (.iload 5, 2) := by decide +kernel
theorem dX10_greatest_40 : decode cX10_greatest 40 = .ok (.goto 5, 3) := by decide +kernel
theorem dX10_greatest_43 : decode cX10_greatest 43 = .ok (.iload 4, 2) := by decide +kernel
theorem dX10_greatest_45 : decode cX10_greatest 45 = .ok (.istore 4, 2) := by decide +kernel
theorem dX10_greatest_47 : decode cX10_greatest 47 = .ok (.iinc 5 1, 3) := by decide +kernel
theorem dX10_greatest_50 : decode cX10_greatest 50 = .ok (.goto (-44), 3) := by decide +kernel
theorem dX10_greatest_53 : decode cX10_greatest 53 = .ok (.iload 4, 2) := by decide +kernel
theorem dX10_greatest_55 : decode cX10_greatest 55 = .ok (.ireturn, 1) := by decide +kernel
set_option maxRecDepth 20000 in
theorem ggX10_belowInto_X10_copy : GoodIn wsX10_belowInto wsX10_copy := goodIn_r _ [6, 7, 8, 9, 19, 20, 21, 22, 23, 24, 25, 26, 27, 28, 29, 30, 31, 32, 33, 34, 35, 36, 37, 38] rfl rfl
set_option maxRecDepth 20000 in
theorem gX10_belowInto_X10_copy : GoodIn wsX10_belowInto (wsV RX10 90 RX10 yX10_copy wsX10_copy) := goodIn_app (goodIn_of _ (by decide +kernel)) ggX10_belowInto_X10_copy
set_option maxRecDepth 20000 in
theorem ggX10_belowInto_X10_times : GoodIn wsX10_belowInto wsX10_times := goodIn_r _ [13, 8, 9, 14, 7, 15, 16, 17, 5, 18, 19, 20, 21, 22, 23, 24, 25, 26, 27, 28, 29, 30, 31, 32, 33, 34, 35, 36, 37, 38] rfl rfl
set_option maxRecDepth 20000 in
theorem gX10_belowInto_X10_times : GoodIn wsX10_belowInto (wsV RX10 80 RX10 yX10_times wsX10_times) := goodIn_app (goodIn_of _ (by decide +kernel)) ggX10_belowInto_X10_times
theorem dX10_belowInto_0 : decode cX10_belowInto 0 = .ok (.aload_n 0, 1) := by decide +kernel
theorem dX10_belowInto_1 : decode cX10_belowInto 1 = .ok (.bipush 48, 2) := by decide +kernel
theorem dX10_belowInto_3 : decode cX10_belowInto 3 = .ok (.iload_n 1, 1) := by decide +kernel
theorem dX10_belowInto_4 : decode cX10_belowInto 4 = .ok (.invokevirtual 90, 3) := by decide +kernel
theorem dX10_belowInto_7 : decode cX10_belowInto 7 = .ok (.aload_n 0, 1) := by decide +kernel
theorem dX10_belowInto_8 : decode cX10_belowInto 8 = .ok (.iload_n 1, 1) := by decide +kernel
theorem dX10_belowInto_9 : decode cX10_belowInto 9 = .ok (.aload_n 0, 1) := by decide +kernel
theorem dX10_belowInto_10 : decode cX10_belowInto 10 = .ok (.getfield 138, 3) := by decide +kernel
theorem dX10_belowInto_13 : decode cX10_belowInto 13 = .ok (.invokevirtual 80, 3) := by decide +kernel
theorem dX10_belowInto_16 : decode cX10_belowInto 16 = .ok (.return_, 1) := by decide +kernel
