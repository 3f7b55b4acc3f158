set_option maxRecDepth 20000 in
theorem ggX10_solve_X10_isReady : GoodIn wsX10_solve wsX10_isReady := goodIn_r _ [12, 2, 13, 14, 15, 16, 11, 17, 18, 19, 20, 21, 22, 23, 24, 25, 26, 105, 106, 107, 108, 109, 110, 111, 112, 113, 114, 115, 116, 117, 118, 119, 120, 121, 122, 123, 124] rfl rfl
set_option maxRecDepth 20000 in
theorem gX10_solve_X10_isReady : GoodIn wsX10_solve (wsV RX10 164 RX10 yX10_isReady wsX10_isReady) := goodIn_app (goodIn_of _ (by decide +kernel)) ggX10_solve_X10_isReady
set_option maxRecDepth 20000 in
theorem ggX10_solve_X10_valuePolicy : GoodIn wsX10_solve wsX10_valuePolicy := goodIn_r _ [30, 31, 2, 32, 3, 33, 34, 22, 35, 36, 37, 11, 38, 18, 19, 20, 21, 39, 40, 41, 42, 43, 44, 45, 46, 47, 48, 49, 50, 51, 52, 53, 54, 55, 56, 57, 58, 59, 60, 61, 62, 63, 64, 65, 66, 67, 68, 69, 70, 71, 72, 73, 74, 75, 76, 77, 78, 79, 80, 81, 82, 83, 84, 105, 106, 107, 108, 109, 110, 111, 112, 113, 114, 115, 116, 117, 118, 119, 120, 121, 122, 123, 124] rfl rfl
set_option maxRecDepth 20000 in
theorem gX10_solve_X10_valuePolicy : GoodIn wsX10_solve (wsV RX10 168 RX10 yX10_valuePolicy wsX10_valuePolicy) := goodIn_app (goodIn_of _ (by decide +kernel)) ggX10_solve_X10_valuePolicy
set_option maxRecDepth 20000 in
theorem ggX10_solve_X10_belowInto : GoodIn wsX10_solve wsX10_belowInto := goodIn_r _ [88, 31, 81, 82, 83, 11, 84, 43, 46, 44, 47, 48, 49, 50, 45, 51, 52, 53, 54, 105, 106, 107, 108, 109, 110, 111, 112, 113, 114, 115, 116, 117, 118, 119, 120, 121, 122, 123, 124] rfl rfl
set_option maxRecDepth 20000 in
theorem gX10_solve_X10_belowInto : GoodIn wsX10_solve (wsV RX10 171 RX10 yX10_belowInto wsX10_belowInto) := goodIn_app (goodIn_of _ (by decide +kernel)) ggX10_solve_X10_belowInto
set_option maxRecDepth 20000 in
theorem ggX10_solve_X10_greatest : GoodIn wsX10_solve wsX10_greatest := goodIn_r _ [92, 13, 93, 94, 95, 11, 96, 32, 97, 98, 99, 100, 2, 22, 34, 33, 35, 39, 40, 41, 42, 43, 44, 45, 46, 81, 82, 83, 84, 47, 48, 49, 50, 51, 52, 53, 54, 63, 64, 65, 66, 67, 68, 69, 70, 71, 72, 73, 74, 75, 76, 18, 19, 20, 21, 101, 102, 103, 104, 105, 106, 107, 108, 109, 110, 111, 112, 113, 114, 115, 116, 117, 118, 119, 120, 121, 122, 123, 124] rfl rfl
set_option maxRecDepth 20000 in
theorem gX10_solve_X10_greatest : GoodIn wsX10_solve (wsV RX10 175 RX10 yX10_greatest wsX10_greatest) := goodIn_app (goodIn_of _ (by decide +kernel)) ggX10_solve_X10_greatest
set_option maxRecDepth 20000 in
theorem ggX10_solve_X10_compareGains : GoodIn wsX10_solve wsX10_compareGains := goodIn_r _ [96, 32, 97, 98, 99, 11, 100, 2, 22, 34, 33, 35, 39, 40, 41, 42, 43, 44, 45, 46, 81, 82, 83, 84, 47, 48, 49, 50, 51, 52, 53, 54, 63, 64, 65, 66, 67, 68, 69, 70, 71, 72, 73, 74, 75, 76, 18, 19, 20, 21, 101, 102, 103, 104, 105, 106, 107, 108, 109, 110, 111, 112, 113, 114, 115, 116, 117, 118, 119, 120, 121, 122, 123, 124] rfl rfl
set_option maxRecDepth 20000 in
theorem gX10_solve_X10_compareGains : GoodIn wsX10_solve (wsV RX10 160 RX10 yX10_compareGains wsX10_compareGains) := goodIn_app (goodIn_of _ (by decide +kernel)) ggX10_solve_X10_compareGains
set_option maxRecDepth 20000 in
theorem ggX10_solve_X10_copy : GoodIn wsX10_solve wsX10_copy := goodIn_r _ [84, 43, 46, 44, 105, 106, 107, 108, 109, 110, 111, 112, 113, 114, 115, 116, 117, 118, 119, 120, 121, 122, 123, 124] rfl rfl
set_option maxRecDepth 20000 in
theorem gX10_solve_X10_copy : GoodIn wsX10_solve (wsV RX10 90 RX10 yX10_copy wsX10_copy) := goodIn_app (goodIn_of _ (by decide +kernel)) ggX10_solve_X10_copy
theorem dX10_solve_0 : decode cX10_solve 0 = .ok (.aload_n 0, 1) := by decide +kernel
theorem dX10_solve_1 : decode cX10_solve 1 = .ok (.iconst 0, 1) := by decide +kernel
theorem dX10_solve_2 : decode cX10_solve 2 = .ok (.putfield 56, 3) := by decide +kernel
theorem dX10_solve_5 : decode cX10_solve 5 = .ok (.aload_n 0, 1) := by decide +kernel
theorem dX10_solve_6 : decode cX10_solve 6 = .ok (.invokevirtual 164, 3) := by decide +kernel
theorem dX10_solve_9 : decode cX10_solve 9 = .ok (.ifCond .ne 5, 3) := by decide +kernel
theorem dX10_solve_12 : decode cX10_solve 12 = .ok (.iconst (-1), 1) := by decide +kernel
theorem dX10_solve_13 : decode cX10_solve 13 = .ok (.ireturn, 1) := by decide +kernel
theorem dX10_solve_14 : decode cX10_solve 14 = .ok (.iconst 0, 1) := by decide +kernel
theorem dX10_solve_15 : decode cX10_solve 15 = .ok (.istore_n 1, 1) := by decide +kernel
theorem dX10_solve_16 : decode cX10_solve 16 = .ok (.iload_n 1, 1) := by decide +kernel
theorem dX10_solve_17 : decode cX10_solve 17 = .ok (.aload_n 0, 1) := by decide +kernel
theorem dX10_solve_18 : decode cX10_solve 18 = .ok (.getfield 103, 3) := by decide +kernel
theorem dX10_solve_21 : decode cX10_solve 21 = .ok (.if_icmp .ge 16, 3) := by decide +kernel
theorem dX10_solve_24 : decode cX10_solve 24 = .ok (.aload_n 0, 1) := by decide +kernel
theorem dX10_solve_25 : decode cX10_solve 25 = .ok (.getfield 32, 3) := by decide +kernel
theorem dX10_solve_28 : decode cX10_solve 28 = .ok (.iload_n 1, 1) := by decide +kernel
theorem dX10_solve_29 : decode cX10_solve 29 = .ok (.iconst 0, 1) := by decide +kernel
theorem dX10_solve_30 : decode cX10_solve 30 = .ok (.iastore, 1) := by decide +kernel
theorem dX10_solve_31 : decode cX10_solve 31 = .ok (.iinc 1 1, 3) := by decide +kernel
theorem dX10_solve_34 : decode cX10_solve 34 = .ok (.goto (-18), 3) := by decide +kernel
theorem dX10_solve_37 : decode cX10_solve 37 = .ok (.aload_n 0, 1) := by decide +kernel
theorem dX10_solve_38 : decode cX10_solve 38 = .ok (.iconst 0, 1) := by decide +kernel
theorem dX10_solve_39 : decode cX10_solve 39 = .ok (.putfield 100, 3) := by decide +kernel
theorem dX10_solve_42 : decode cX10_solve 42 = .ok (.iconst 1, 1) := by decide +kernel
theorem dX10_solve_43 : decode cX10_solve 43 = .ok (.istore_n 1, 1) := by decide +kernel
theorem dX10_solve_44 : decode cX10_solve 44 = .ok (.iload_n 1, 1) := by decide +kernel
theorem dX10_solve_45 : decode cX10_solve 45 = .ok (.ifCond .eq 173, 3) := by decide +kernel
theorem dX10_solve_48 : decode cX10_solve 48 = .ok (.aload_n 0, 1) := by decide +kernel
theorem dX10_solve_49 : decode cX10_solve 49 = .ok (.dup, 1) := by decide +kernel
theorem dX10_solve_50 : decode cX10_solve 50 = .ok (.getfield 100, 3) := by decide +kernel
theorem dX10_solve_53 : decode cX10_solve 53 = .ok (.iconst 1, 1) := by decide +kernel
theorem dX10_solve_54 : decode cX10_solve 54 = .ok (.iadd, 1) := by decide +kernel
theorem dX10_solve_55 : decode cX10_solve 55 = .ok (.putfield 100, 3) := by decide +kernel
theorem dX10_solve_58 : decode cX10_solve 58 = .ok (.aload_n 0, 1) := by decide +kernel
theorem dX10_solve_59 : decode cX10_solve 59 = .ok (.invokevirtual 168, 3) := by decide +kernel
theorem dX10_solve_62 : decode cX10_solve 62 = .ok (.aload_n 0, 1) := by decide +kernel
theorem dX10_solve_63 : decode cX10_solve 63 = .ok (.bipush 54, 2) := by decide +kernel
theorem dX10_solve_65 : decode cX10_solve 65 = .ok (.invokevirtual 171, 3) := by decide +kernel
theorem dX10_solve_68 : decode cX10_solve 68 = .ok (.iconst 0, 1) := by decide +kernel
theorem dX10_solve_69 : decode cX10_solve 69 = .ok (.istore_n 1, 1) := by decide +kernel
theorem dX10_solve_70 : decode cX10_solve 70 = .ok (.iconst 0, 1) := by decide +kernel
theorem dX10_solve_71 : decode cX10_solve 71 = .ok (.istore_n 2, 1) := by decide +kernel
theorem dX10_solve_72 : decode cX10_solve 72 = .ok (.iload_n 2, 1) := by decide +kernel
theorem dX10_solve_73 : decode cX10_solve 73 = .ok (.aload_n 0, 1) := by decide +kernel
theorem dX10_solve_74 : decode cX10_solve 74 = .ok (.getfield 103, 3) := by decide +kernel
theorem dX10_solve_77 : decode cX10_solve 77 = .ok (.if_icmp .ge 98, 3) := by decide +kernel
theorem dX10_solve_80 : decode cX10_solve 80 = .ok (.aload_n 0, 1) := by decide +kernel
theorem dX10_solve_81 : decode cX10_solve 81 = .ok (.iload_n 2, 1) := by decide +kernel
theorem dX10_solve_82 : decode cX10_solve 82 = .ok (.bipush 42, 2) := by decide +kernel
theorem dX10_solve_84 : decode cX10_solve 84 = .ok (.bipush 54, 2) := by decide +kernel
theorem dX10_solve_86 : decode cX10_solve 86 = .ok (.invokevirtual 175, 3) := by decide +kernel
theorem dX10_solve_89 : decode cX10_solve 89 = .ok (.istore_n 3, 1) := by decide +kernel
theorem dX10_solve_90 : decode cX10_solve 90 = .ok (.iload_n 3, 1) := by decide +kernel
theorem dX10_solve_91 : decode cX10_solve 91 = .ok (.aload_n 0, 1) := by decide +kernel
theorem dX10_solve_92 : decode cX10_solve 92 = .ok (.getfield 32, 3) := by decide +kernel
theorem dX10_solve_95 : decode cX10_solve 95 = .ok (.iload_n 2, 1) := by decide +kernel
theorem dX10_solve_96 : decode cX10_solve 96 = .ok (.iaload, 1) := by decide +kernel
theorem dX10_solve_97 : decode cX10_solve 97 = .ok (.if_icmp .eq 29, 3) := by decide +kernel
theorem dX10_solve_100 : decode cX10_solve 100 = .ok (.aload_n 0, 1) := by decide +kernel
theorem dX10_solve_101 : decode cX10_solve 101 = .ok (.iconst 4, 1) := by decide +kernel
theorem dX10_solve_102 : decode cX10_solve 102 = .ok (.iload_n 2, 1) := by decide +kernel
theorem dX10_solve_103 : decode cX10_solve 103 = .ok (.imul, 1) := by decide +kernel
theorem dX10_solve_104 : decode cX10_solve 104 = .ok (.aload_n 0, 1) := by decide +kernel
theorem dX10_solve_105 : decode cX10_solve 105 = .ok (.getfield 32, 3) := by decide +kernel
theorem dX10_solve_108 : decode cX10_solve 108 = .ok (.iload_n 2, 1) := by decide +kernel
theorem dX10_solve_109 : decode cX10_solve 109 = .ok (.iaload, 1) := by decide +kernel
theorem dX10_solve_110 : decode cX10_solve 110 = .ok (.iadd, 1) := by decide +kernel
theorem dX10_solve_111 : decode cX10_solve 111 = .ok (.iconst 4, 1) := by decide +kernel
theorem dX10_solve_112 : decode cX10_solve 112 = .ok (.iload_n 2, 1) := by decide +kernel
theorem dX10_solve_113 : decode cX10_solve 113 = .ok (.imul, 1) := by decide +kernel
theorem dX10_solve_114 : decode cX10_solve 114 = .ok (.iload_n 3, 1) := by decide +kernel
theorem dX10_solve_115 : decode cX10_solve 115 = .ok (.iadd, 1) := by decide +kernel
theorem dX10_solve_116 : decode cX10_solve 116 = .ok (.bipush 42, 2) := by decide +kernel
theorem dX10_solve_118 : decode cX10_solve 118 = .ok (.bipush 54, 2) := by decide +kernel
theorem dX10_solve_120 : decode cX10_solve 120 = .ok (.invokevirtual 160, 3) := by decide +kernel
theorem dX10_solve_123 : decode cX10_solve 123 = .ok (.ifCond .ne 7, 3) := by decide +kernel
theorem dX10_solve_126 : decode cX10_solve 126 = .ok (.iconst 1, 1) := by decide +kernel
theorem dX10_solve_127 : decode cX10_solve 127 = .ok (.goto 4, 3) := by decide +kernel
theorem dX10_solve_130 : decode cX10_solve 130 = .ok (.iconst 0, 1) := by decide +kernel
theorem dX10_solve_131 : decode cX10_solve 131 = .ok (.istore 4, 2) := by decide +kernel
theorem dX10_solve_133 : decode cX10_solve 133 = .ok (.aload_n 0, 1) := by decide +kernel
theorem dX10_solve_134 : decode cX10_solve 134 = .ok (.getfield 35, 3) := by decide +kernel
theorem dX10_solve_137 : decode cX10_solve 137 = .ok (.iload_n 2, 1) := by decide +kernel
theorem dX10_solve_138 : decode cX10_solve 138 = .ok (.iload 4, 2) := by decide +kernel
theorem dX10_solve_140 : decode cX10_solve 140 = .ok (.ifCond .eq 12, 3) := by decide +kernel
theorem dX10_solve_143 : decode cX10_solve 143 = .ok (.aload_n 0, 1) := by decide +kernel
theorem dX10_solve_144 : decode cX10_solve 144 = .ok (.getfield 32, 3) := by decide +kernel
theorem dX10_solve_147 : decode cX10_solve 147 = .ok (.iload_n 2, 1) := by decide +kernel
theorem dX10_solve_148 : decode cX10_solve 148 = .ok (.iaload, 1) := by decide +kernel
theorem dX10_solve_149 : decode cX10_solve 149 = .ok (.goto 4, 3) := by decide +kernel
theorem dX10_solve_152 : decode cX10_solve 152 = .ok (.iload_n 3, 1) := by decide +kernel
theorem dX10_solve_153 : decode cX10_solve 153 = .ok (.iastore, 1) := by decide +kernel
theorem dX10_solve_154 : decode cX10_solve 154 = .ok (.iload_n 1, 1) := by decide +kernel
theorem dX10_solve_155 : decode cX10_solve 155 = .ok (.ifCond .ne 8, 3) := by decide +kernel
theorem dX10_solve_158 : decode cX10_solve 158 = .ok (.iload 4, 2) := by decide +kernel
theorem dX10_solve_160 : decode cX10_solve 160 = .ok (.ifCond .ne 7, 3) := by decide +kernel
theorem dX10_solve_163 : decode cX10_solve 163 = .ok (.iconst 1, 1) := by decide +kernel
theorem dX10_solve_164 : decode cX10_solve 164 = .ok (.goto 4, 3) := by decide +kernel
theorem dX10_solve_167 : decode cX10_solve 167 = .ok (.iconst 0, 1) := by decide +kernel
theorem dX10_solve_168 : decode cX10_solve 168 = .ok (.istore_n 1, 1) := by decide +kernel
theorem dX10_solve_169 : decode cX10_solve 169 = .ok (.iinc 2 1, 3) := by decide +kernel
theorem dX10_solve_172 : decode cX10_solve 172 = .ok (.goto (-100), 3) := by decide +kernel
theorem dX10_solve_175 : decode cX10_solve 175 = .ok (.iconst 0, 1) := by decide +kernel
theorem dX10_solve_176 : decode cX10_solve 176 = .ok (.istore_n 2, 1) := by decide +kernel
theorem dX10_solve_177 : decode cX10_solve 177 = .ok (.iload_n 2, 1) := by decide +kernel
theorem dX10_solve_178 : decode cX10_solve 178 = .ok (.aload_n 0, 1) := by decide +kernel
theorem dX10_solve_179 : decode cX10_solve 179 = .ok (.getfield 103, 3) := by decide +kernel
theorem dX10_solve_182 : decode cX10_solve 182 = .ok (.if_icmp .ge 33, 3) := by decide +kernel
theorem dX10_solve_185 : decode cX10_solve 185 = .ok (.aload_n 0, 1) := by decide +kernel
theorem dX10_solve_186 : decode cX10_solve 186 = .ok (.getfield 29, 3) := by decide +kernel
theorem dX10_solve_189 : decode cX10_solve 189 = .ok (.iload_n 2, 1) := by decide +kernel
theorem dX10_solve_190 : decode cX10_solve 190 = .ok (.aload_n 0, 1) := by decide +kernel
theorem dX10_solve_191 : decode cX10_solve 191 = .ok (.getfield 32, 3) := by decide +kernel
theorem dX10_solve_194 : decode cX10_solve 194 = .ok (.iload_n 2, 1) := by decide +kernel
theorem dX10_solve_195 : decode cX10_solve 195 = .ok (.iaload, 1) := by decide +kernel
theorem dX10_solve_196 : decode cX10_solve 196 = .ok (.iastore, 1) := by decide +kernel
theorem dX10_solve_197 : decode cX10_solve 197 = .ok (.aload_n 0, 1) := by decide +kernel
theorem dX10_solve_198 : decode cX10_solve 198 = .ok (.getfield 32, 3) := by decide +kernel
theorem dX10_solve_201 : decode cX10_solve 201 = .ok (.iload_n 2, 1) := by decide +kernel
theorem dX10_solve_202 : decode cX10_solve 202 = .ok (.aload_n 0, 1) := by decide +kernel
theorem dX10_solve_203 : decode cX10_solve 203 = .ok (.getfield 35, 3) := by decide +kernel
theorem dX10_solve_206 : decode cX10_solve 206 = .ok (.iload_n 2, 1) := by decide +kernel
theorem dX10_solve_207 : decode cX10_solve 207 = .ok (.iaload, 1) := by decide +kernel
theorem dX10_solve_208 : decode cX10_solve 208 = .ok (.iastore, 1) := by decide +kernel
theorem dX10_solve_209 : decode cX10_solve 209 = .ok (.iinc 2 1, 3) := by decide +kernel
theorem dX10_solve_212 : decode cX10_solve 212 = .ok (.goto (-35), 3) := by decide +kernel
theorem dX10_solve_215 : decode cX10_solve 215 = .ok (.goto (-171), 3) := by decide +kernel
theorem dX10_solve_218 : decode cX10_solve 218 = .ok (.aload_n 0, 1) := by decide +kernel
theorem dX10_solve_219 : decode cX10_solve 219 = .ok (.iconst 1, 1) := by decide +kernel
theorem dX10_solve_220 : decode cX10_solve 220 = .ok (.putfield 96, 3) := by decide +kernel
theorem dX10_solve_223 : decode cX10_solve 223 = .ok (.iconst 0, 1) := by decide +kernel
theorem dX10_solve_224 : decode cX10_solve 224 = .ok (.istore_n 2, 1) := by decide +kernel
theorem dX10_solve_225 : decode cX10_solve 225 = .ok (.iload_n 2, 1) := by decide +kernel
theorem dX10_solve_226 : decode cX10_solve 226 = .ok (.aload_n 0, 1) := by decide +kernel
theorem dX10_solve_227 : decode cX10_solve 227 = .ok (.getfield 103, 3) := by decide +kernel
theorem dX10_solve_230 : decode cX10_solve 230 = .ok (.if_icmp .ge 21, 3) := by decide +kernel
theorem dX10_solve_233 : decode cX10_solve 233 = .ok (.aload_n 0, 1) := by decide +kernel
theorem dX10_solve_234 : decode cX10_solve 234 = .ok (.bipush 42, 2) := by decide +kernel
theorem dX10_solve_236 : decode cX10_solve 236 = .ok (.iload_n 2, 1) := by decide +kernel
theorem dX10_solve_237 : decode cX10_solve 237 = .ok (.iadd, 1) := by decide +kernel
theorem dX10_solve_238 : decode cX10_solve 238 = .ok (.bipush 68, 2) := by decide +kernel
theorem dX10_solve_240 : decode cX10_solve 240 = .ok (.iload_n 2, 1) := by decide +kernel
theorem dX10_solve_241 : decode cX10_solve 241 = .ok (.iadd, 1) := by decide +kernel
theorem dX10_solve_242 : decode cX10_solve 242 = .ok (.invokevirtual 90, 3) := by decide +kernel
theorem dX10_solve_245 : decode cX10_solve 245 = .ok (.iinc 2 1, 3) := by decide +kernel
theorem dX10_solve_248 : decode cX10_solve 248 = .ok (.goto (-23), 3) := by decide +kernel
theorem dX10_solve_251 : decode cX10_solve 251 = .ok (.aload_n 0, 1) := by decide +kernel
theorem dX10_solve_252 : decode cX10_solve 252 = .ok (.bipush 54, 2) := by decide +kernel
theorem dX10_solve_254 : decode cX10_solve 254 = .ok (.bipush 74, 2) := by decide +kernel
theorem dX10_solve_256 : decode cX10_solve 256 = .ok (.invokevirtual 90, 3) := by decide +kernel
theorem dX10_solve_259 : decode cX10_solve 259 = .ok (.aload_n 0, 1) := by decide +kernel
theorem dX10_solve_260 : decode cX10_solve 260 = .ok (.getfield 100, 3) := by decide +kernel
theorem dX10_solve_263 : decode cX10_solve 263 = .ok (.ireturn, 1) := by decide +kernel
set_option maxRecDepth 20000 in
theorem ggX10_policy_X10_isState : GoodIn wsX10_policy wsX10_isState := goodIn_r _ [8, 9, 10, 11, 12, 13, 14, 15, 16, 17, 18, 19, 20, 21, 22, 23, 24, 25, 26, 27, 28, 29] rfl rfl
set_option maxRecDepth 20000 in
theorem gX10_policy_X10_isState : GoodIn wsX10_policy (wsV RX10 109 RX10 yX10_isState wsX10_isState) := goodIn_app (goodIn_of _ (by decide +kernel)) ggX10_policy_X10_isState
theorem dX10_policy_0 : decode cX10_policy 0 = .ok (.aload_n 0, 1) := by decide +kernel
theorem dX10_policy_1 : decode cX10_policy 1 = .ok (.iconst 0, 1) := by decide +kernel
theorem dX10_policy_2 : decode cX10_policy 2 = .ok (.putfield 56, 3) := by decide +kernel
theorem dX10_policy_5 : decode cX10_policy 5 = .ok (.aload_n 0, 1) := by decide +kernel
theorem dX10_policy_6 : decode cX10_policy 6 = .ok (.getfield 96, 3) := by decide +kernel
theorem dX10_policy_9 : decode cX10_policy 9 = .ok (.ifCond .eq 20, 3) := by decide +kernel
theorem dX10_policy_12 : decode cX10_policy 12 = .ok (.aload_n 0, 1) := by decide +kernel
theorem dX10_policy_13 : decode cX10_policy 13 = .ok (.iload_n 1, 1) := by decide +kernel
theorem dX10_policy_14 : decode cX10_policy 14 = .ok (.invokevirtual 109, 3) := by decide +kernel
theorem dX10_policy_17 : decode cX10_policy 17 = .ok (.ifCond .eq 12, 3) := by decide +kernel
theorem dX10_policy_20 : decode cX10_policy 20 = .ok (.aload_n 0, 1) := by decide +kernel
theorem dX10_policy_21 : decode cX10_policy 21 = .ok (.getfield 29, 3) := by decide +kernel
theorem dX10_policy_24 : decode cX10_policy 24 = .ok (.iload_n 1, 1) := by decide +kernel
theorem dX10_policy_25 : decode cX10_policy 25 = .ok (.iaload, 1) := by decide +kernel
theorem dX10_policy_26 : decode cX10_policy 26 = .ok (.goto 4, 3) := by decide +kernel
theorem dX10_policy_29 : decode cX10_policy 29 = .ok (.iconst (-1), 1) := by decide +kernel
theorem dX10_policy_30 : decode cX10_policy 30 = .ok (.ireturn, 1) := by decide +kernel
theorem dX10_none_0 : decode cX10_none 0 = .ok (.iload_n 0, 1) := by decide +kernel
theorem dX10_none_1 : decode cX10_none 1 = .ok (.iconst (-1), 1) := by decide +kernel
theorem dX10_none_2 : decode cX10_none 2 = .ok (.if_icmp .ne 8, 3) := by decide +kernel
theorem dX10_none_5 : decode cX10_none 5 = .ok (.bipush (-2), 2) := by decide +kernel
theorem dX10_none_7 : decode cX10_none 7 = .ok (.goto 4, 3) := by decide +kernel
theorem dX10_none_10 : decode cX10_none 10 = .ok (.iconst (-1), 1) := by decide +kernel
theorem dX10_none_11 : decode cX10_none 11 = .ok (.ireturn, 1) := by decide +kernel
set_option maxRecDepth 20000 in
theorem ggX10_tell_X10_copy : GoodIn wsX10_tell wsX10_copy := goodIn_r _ [10, 2, 3, 11, 56, 57, 58, 59, 60, 61, 62, 63, 64, 65, 66, 67, 68, 69, 70, 71, 72, 73, 74, 75] rfl rfl
set_option maxRecDepth 20000 in
theorem gX10_tell_X10_copy : GoodIn wsX10_tell (wsV RX10 90 RX10 yX10_copy wsX10_copy) := goodIn_app (goodIn_of _ (by decide +kernel)) ggX10_tell_X10_copy
set_option maxRecDepth 20000 in
theorem ggX10_tell_X10_divisor : GoodIn wsX10_tell wsX10_divisor := goodIn_r _ [15, 2, 11, 16, 17, 18, 9, 19, 3, 20, 21, 22, 23, 24, 25, 26, 27, 28, 29, 30, 31, 32, 33, 34, 35, 36, 37, 38, 6, 7, 8, 10, 39, 40, 41, 42, 43, 44, 45, 46, 47, 48, 49, 50, 51, 56, 57, 58, 59, 60, 61, 62, 63, 64, 65, 66, 67, 68, 69, 70, 71, 72, 73, 74, 75] rfl rfl
set_option maxRecDepth 20000 in
theorem gX10_tell_X10_divisor : GoodIn wsX10_tell (wsV RX10 181 RX10 yX10_divisor wsX10_divisor) := goodIn_app (goodIn_of _ (by decide +kernel)) ggX10_tell_X10_divisor
set_option maxRecDepth 20000 in
theorem ggX10_tell_X10_over : GoodIn wsX10_tell wsX10_over := goodIn_r _ [55, 2, 3, 11, 43, 44, 45, 9, 46, 47, 48, 49, 50, 51, 21, 22, 23, 24, 25, 26, 27, 28, 29, 30, 31, 32, 33, 34, 35, 36, 37, 38, 56, 57, 58, 59, 60, 61, 62, 63, 64, 65, 66, 67, 68, 69, 70, 71, 72, 73, 74, 75] rfl rfl
set_option maxRecDepth 20000 in
theorem gX10_tell_X10_over : GoodIn wsX10_tell (wsV RX10 150 RX10 yX10_over wsX10_over) := goodIn_app (goodIn_of _ (by decide +kernel)) ggX10_tell_X10_over
set_option maxRecDepth 20000 in
theorem ggX10_tell_X10_overSmall : GoodIn wsX10_tell wsX10_overSmall := goodIn_r _ [19, 3, 20, 11, 21, 22, 23, 9, 24, 2, 56, 57, 58, 59, 60, 61, 62, 63, 64, 65, 66, 67, 68, 69, 70, 71, 72, 73, 74, 75] rfl rfl
set_option maxRecDepth 20000 in
theorem gX10_tell_X10_overSmall : GoodIn wsX10_tell (wsV RX10 87 RX10 yX10_overSmall wsX10_overSmall) := goodIn_app (goodIn_of _ (by decide +kernel)) ggX10_tell_X10_overSmall
theorem dX10_tell_0 : decode cX10_tell 0 = .ok (.iload_n 1, 1) := by decide +kernel
theorem dX10_tell_1 : decode cX10_tell 1 = .ok (.iconst (-1), 1) := by decide +kernel
theorem dX10_tell_2 : decode cX10_tell 2 = .ok (.if_icmp .ge 7, 3) := by decide +kernel
theorem dX10_tell_5 : decode cX10_tell 5 = .ok (.ldc2_w 179, 3) := by decide +kernel
theorem dX10_tell_8 : decode cX10_tell 8 = .ok (.lreturn, 1) := by decide +kernel
theorem dX10_tell_9 : decode cX10_tell 9 = .ok (.iload_n 1, 1) := by decide +kernel
theorem dX10_tell_10 : decode cX10_tell 10 = .ok (.iconst (-1), 1) := by decide +kernel
theorem dX10_tell_11 : decode cX10_tell 11 = .ok (.if_icmp .ne 12, 3) := by decide +kernel
theorem dX10_tell_14 : decode cX10_tell 14 = .ok (.aload_n 0, 1) := by decide +kernel
theorem dX10_tell_15 : decode cX10_tell 15 = .ok (.getfield 44, 3) := by decide +kernel
theorem dX10_tell_18 : decode cX10_tell 18 = .ok (.bipush 53, 2) := by decide +kernel
theorem dX10_tell_20 : decode cX10_tell 20 = .ok (.iaload, 1) := by decide +kernel
theorem dX10_tell_21 : decode cX10_tell 21 = .ok (.i2l, 1) := by decide +kernel
theorem dX10_tell_22 : decode cX10_tell 22 = .ok (.lreturn, 1) := by decide +kernel
theorem dX10_tell_23 : decode cX10_tell 23 = .ok (.aload_n 0, 1) := by decide +kernel
theorem dX10_tell_24 : decode cX10_tell 24 = .ok (.getfield 44, 3) := by decide +kernel
theorem dX10_tell_27 : decode cX10_tell 27 = .ok (.bipush 53, 2) := by decide +kernel
theorem dX10_tell_29 : decode cX10_tell 29 = .ok (.iaload, 1) := by decide +kernel
theorem dX10_tell_30 : decode cX10_tell 30 = .ok (.istore_n 2, 1) := by decide +kernel
theorem dX10_tell_31 : decode cX10_tell 31 = .ok (.aload_n 0, 1) := by decide +kernel
theorem dX10_tell_32 : decode cX10_tell 32 = .ok (.bipush 53, 2) := by decide +kernel
theorem dX10_tell_34 : decode cX10_tell 34 = .ok (.bipush 49, 2) := by decide +kernel
theorem dX10_tell_36 : decode cX10_tell 36 = .ok (.invokevirtual 90, 3) := by decide +kernel
theorem dX10_tell_39 : decode cX10_tell 39 = .ok (.aload_n 0, 1) := by decide +kernel
theorem dX10_tell_40 : decode cX10_tell 40 = .ok (.getfield 44, 3) := by decide +kernel
theorem dX10_tell_43 : decode cX10_tell 43 = .ok (.bipush 49, 2) := by decide +kernel
theorem dX10_tell_45 : decode cX10_tell 45 = .ok (.iload_n 2, 1) := by decide +kernel
theorem dX10_tell_46 : decode cX10_tell 46 = .ok (.ifCond .ne 7, 3) := by decide +kernel
theorem dX10_tell_49 : decode cX10_tell 49 = .ok (.iconst 0, 1) := by decide +kernel
theorem dX10_tell_50 : decode cX10_tell 50 = .ok (.goto 4, 3) := by decide +kernel
theorem dX10_tell_53 : decode cX10_tell 53 = .ok (.iconst 1, 1) := by decide +kernel
theorem dX10_tell_54 : decode cX10_tell 54 = .ok (.iastore, 1) := by decide +kernel
theorem dX10_tell_55 : decode cX10_tell 55 = .ok (.aload_n 0, 1) := by decide +kernel
theorem dX10_tell_56 : decode cX10_tell 56 = .ok (.bipush 54, 2) := by decide +kernel
theorem dX10_tell_58 : decode cX10_tell 58 = .ok (.bipush 50, 2) := by decide +kernel
theorem dX10_tell_60 : decode cX10_tell 60 = .ok (.invokevirtual 90, 3) := by decide +kernel
theorem dX10_tell_63 : decode cX10_tell 63 = .ok (.aload_n 0, 1) := by decide +kernel
theorem dX10_tell_64 : decode cX10_tell 64 = .ok (.bipush 50, 2) := by decide +kernel
theorem dX10_tell_66 : decode cX10_tell 66 = .ok (.bipush 49, 2) := by decide +kernel
theorem dX10_tell_68 : decode cX10_tell 68 = .ok (.invokevirtual 181, 3) := by decide +kernel
theorem dX10_tell_71 : decode cX10_tell 71 = .ok (.aload_n 0, 1) := by decide +kernel
theorem dX10_tell_72 : decode cX10_tell 72 = .ok (.iload_n 1, 1) := by decide +kernel
theorem dX10_tell_73 : decode cX10_tell 73 = .ok (.iconst 2, 1) := by decide +kernel
theorem dX10_tell_74 : decode cX10_tell 74 = .ok (.irem, 1) := by decide +kernel
theorem dX10_tell_75 : decode cX10_tell 75 = .ok (.ifCond .ne 8, 3) := by decide +kernel
theorem dX10_tell_78 : decode cX10_tell 78 = .ok (.bipush 53, 2) := by decide +kernel
theorem dX10_tell_80 : decode cX10_tell 80 = .ok (.goto 5, 3) := by decide +kernel
theorem dX10_tell_83 : decode cX10_tell 83 = .ok (.bipush 54, 2) := by decide +kernel
theorem dX10_tell_85 : decode cX10_tell 85 = .ok (.bipush 49, 2) := by decide +kernel
theorem dX10_tell_87 : decode cX10_tell 87 = .ok (.invokevirtual 90, 3) := by decide +kernel
theorem dX10_tell_90 : decode cX10_tell 90 = .ok (.aload_n 0, 1) := by decide +kernel
theorem dX10_tell_91 : decode cX10_tell 91 = .ok (.getfield 44, 3) := by decide +kernel
theorem dX10_tell_94 : decode cX10_tell 94 = .ok (.bipush 49, 2) := by decide +kernel
theorem dX10_tell_96 : decode cX10_tell 96 = .ok (.aload_n 0, 1) := by decide +kernel
theorem dX10_tell_97 : decode cX10_tell 97 = .ok (.getfield 41, 3) := by decide +kernel
theorem dX10_tell_100 : decode cX10_tell 100 = .ok (.bipush 49, 2) := by decide +kernel
theorem dX10_tell_102 : decode cX10_tell 102 = .ok (.iaload, 1) := by decide +kernel
theorem dX10_tell_103 : decode cX10_tell 103 = .ok (.ifCond .ne 7, 3) := by decide +kernel
theorem dX10_tell_106 : decode cX10_tell 106 = .ok (.iconst 0, 1) := by decide +kernel
theorem dX10_tell_107 : decode cX10_tell 107 = .ok (.goto 4, 3) := by decide +kernel
theorem dX10_tell_110 : decode cX10_tell 110 = .ok (.iconst 1, 1) := by decide +kernel
theorem dX10_tell_111 : decode cX10_tell 111 = .ok (.iastore, 1) := by decide +kernel
theorem dX10_tell_112 : decode cX10_tell 112 = .ok (.aload_n 0, 1) := by decide +kernel
theorem dX10_tell_113 : decode cX10_tell 113 = .ok (.bipush 49, 2) := by decide +kernel
theorem dX10_tell_115 : decode cX10_tell 115 = .ok (.bipush 50, 2) := by decide +kernel
theorem dX10_tell_117 : decode cX10_tell 117 = .ok (.invokevirtual 150, 3) := by decide +kernel
theorem dX10_tell_120 : decode cX10_tell 120 = .ok (.iconst 0, 1) := by decide +kernel
theorem dX10_tell_121 : decode cX10_tell 121 = .ok (.istore_n 3, 1) := by decide +kernel
theorem dX10_tell_122 : decode cX10_tell 122 = .ok (.iload_n 3, 1) := by decide +kernel
theorem dX10_tell_123 : decode cX10_tell 123 = .ok (.iload_n 1, 1) := by decide +kernel
theorem dX10_tell_124 : decode cX10_tell 124 = .ok (.iconst 2, 1) := by decide +kernel
theorem dX10_tell_125 : decode cX10_tell 125 = .ok (.idiv, 1) := by decide +kernel
theorem dX10_tell_126 : decode cX10_tell 126 = .ok (.if_icmp .ge 39, 3) := by decide +kernel
theorem dX10_tell_129 : decode cX10_tell 129 = .ok (.aload_n 0, 1) := by decide +kernel
theorem dX10_tell_130 : decode cX10_tell 130 = .ok (.getfield 41, 3) := by decide +kernel
theorem dX10_tell_133 : decode cX10_tell 133 = .ok (.bipush 49, 2) := by decide +kernel
theorem dX10_tell_135 : decode cX10_tell 135 = .ok (.iaload, 1) := by decide +kernel
theorem dX10_tell_136 : decode cX10_tell 136 = .ok (.ifCond .le 29, 3) := by decide +kernel
theorem dX10_tell_139 : decode cX10_tell 139 = .ok (.aload_n 0, 1) := by decide +kernel
theorem dX10_tell_140 : decode cX10_tell 140 = .ok (.bipush 49, 2) := by decide +kernel
theorem dX10_tell_142 : decode cX10_tell 142 = .ok (.ldc 184, 2) := by decide +kernel
theorem dX10_tell_144 : decode cX10_tell 144 = .ok (.invokevirtual 87, 3) := by decide +kernel
theorem dX10_tell_147 : decode cX10_tell 147 = .ok (.istore 4, 2) := by decide +kernel
theorem dX10_tell_149 : decode cX10_tell 149 = .ok (.aload_n 0, 1) := by decide +kernel
theorem dX10_tell_150 : decode cX10_tell 150 = .ok (.bipush 49, 2) := by decide +kernel
theorem dX10_tell_152 : decode cX10_tell 152 = .ok (.ldc 184, 2) := by decide +kernel
theorem dX10_tell_154 : decode cX10_tell 154 = .ok (.invokevirtual 87, 3) := by decide +kernel
theorem dX10_tell_157 : decode cX10_tell 157 = .ok (.istore 4, 2) := by decide +kernel
theorem dX10_tell_159 : decode cX10_tell 159 = .ok (.iinc 3 1, 3) := by decide +kernel
theorem dX10_tell_162 : decode cX10_tell 162 = .ok (.goto (-40), 3) := by decide +kernel
theorem dX10_tell_165 : decode cX10_tell 165 = .ok (.aload_n 0, 1) := by decide +kernel
theorem dX10_tell_166 : decode cX10_tell 166 = .ok (.bipush 49, 2) := by decide +kernel
theorem dX10_tell_168 : decode cX10_tell 168 = .ok (.ldc 184, 2) := by decide +kernel
theorem dX10_tell_170 : decode cX10_tell 170 = .ok (.invokevirtual 87, 3) := by decide +kernel
theorem dX10_tell_173 : decode cX10_tell 173 = .ok (.i2l, 1) := by decide +kernel
theorem dX10_tell_174 : decode cX10_tell 174 = .ok (.lstore_n 3, 1) := by decide +kernel
theorem dX10_tell_175 : decode cX10_tell 175 = .ok (.aload_n 0, 1) := by decide +kernel
theorem dX10_tell_176 : decode cX10_tell 176 = .ok (.bipush 49, 2) := by decide +kernel
theorem dX10_tell_178 : decode cX10_tell 178 = .ok (.ldc 184, 2) := by decide +kernel
theorem dX10_tell_180 : decode cX10_tell 180 = .ok (.invokevirtual 87, 3) := by decide +kernel
theorem dX10_tell_183 : decode cX10_tell 183 = .ok (.i2l, 1) := by decide +kernel
theorem dX10_tell_184 : decode cX10_tell 184 = .ok (.lstore 5, 2) := by decide +kernel
theorem dX10_tell_186 : decode cX10_tell 186 = .ok (.lload 5, 2) := by decide +kernel
theorem dX10_tell_188 : decode cX10_tell 188 = .ok (.ldc2_w 185, 3) := by decide +kernel
theorem dX10_tell_191 : decode cX10_tell 191 = .ok (.lmul, 1) := by decide +kernel
theorem dX10_tell_192 : decode cX10_tell 192 = .ok (.lload_n 3, 1) := by decide +kernel
theorem dX10_tell_193 : decode cX10_tell 193 = .ok (.ladd, 1) := by decide +kernel
theorem dX10_tell_194 : decode cX10_tell 194 = .ok (.lreturn, 1) := by decide +kernel
set_option maxRecDepth 20000 in
theorem ggX10_value_X10_isState : GoodIn wsX10_value wsX10_isState := goodIn_r _ [7, 8, 70, 71, 72, 73, 74, 75, 76, 77, 78, 79, 80, 81, 82, 83, 84, 85, 86, 87, 88, 89] rfl rfl
set_option maxRecDepth 20000 in
theorem gX10_value_X10_isState : GoodIn wsX10_value (wsV RX10 109 RX10 yX10_isState wsX10_isState) := goodIn_app (goodIn_of _ (by decide +kernel)) ggX10_value_X10_isState
set_option maxRecDepth 20000 in
theorem ggX10_value_X10_none : GoodIn wsX10_value wsX10_none := goodIn_r _ [11] rfl rfl
set_option maxRecDepth 20000 in
theorem gX10_value_X10_none : GoodIn wsX10_value (va_wsS RX10 187 yX10_none wsX10_none) := goodIn_app (goodIn_of _ (by decide +kernel)) ggX10_value_X10_none
set_option maxRecDepth 20000 in
theorem ggX10_value_X10_copy : GoodIn wsX10_value wsX10_copy := goodIn_r _ [15, 16, 17, 18, 70, 71, 72, 73, 74, 75, 76, 77, 78, 79, 80, 81, 82, 83, 84, 85, 86, 87, 88, 89] rfl rfl
set_option maxRecDepth 20000 in
theorem gX10_value_X10_copy : GoodIn wsX10_value (wsV RX10 90 RX10 yX10_copy wsX10_copy) := goodIn_app (goodIn_of _ (by decide +kernel)) ggX10_value_X10_copy
set_option maxRecDepth 20000 in
theorem ggX10_value_X10_tell : GoodIn wsX10_value wsX10_tell := goodIn_r _ [22, 23, 16, 17, 24, 25, 12, 13, 14, 6, 15, 18, 26, 27, 28, 29, 30, 31, 32, 33, 34, 35, 36, 37, 38, 39, 40, 41, 42, 43, 44, 45, 46, 47, 48, 49, 50, 51, 52, 53, 54, 55, 56, 57, 58, 59, 60, 61, 62, 63, 64, 65, 66, 67, 68, 69, 70, 71, 72, 73, 74, 75, 76, 77, 78, 79, 80, 81, 82, 83, 84, 85, 86, 87, 88, 89] rfl rfl
set_option maxRecDepth 20000 in
theorem gX10_value_X10_tell : GoodIn wsX10_value (wsV RX10 190 RX10 yX10_tell wsX10_tell) := goodIn_app (goodIn_of _ (by decide +kernel)) ggX10_value_X10_tell
theorem dX10_value_0 : decode cX10_value 0 = .ok (.aload_n 0, 1) := by decide +kernel
theorem dX10_value_1 : decode cX10_value 1 = .ok (.iconst 0, 1) := by decide +kernel
theorem dX10_value_2 : decode cX10_value 2 = .ok (.putfield 56, 3) := by decide +kernel
theorem dX10_value_5 : decode cX10_value 5 = .ok (.aload_n 0, 1) := by decide +kernel
theorem dX10_value_6 : decode cX10_value 6 = .ok (.getfield 96, 3) := by decide +kernel
theorem dX10_value_9 : decode cX10_value 9 = .ok (.ifCond .eq 11, 3) := by decide +kernel
theorem dX10_value_12 : decode cX10_value 12 = .ok (.aload_n 0, 1) := by decide +kernel
theorem dX10_value_13 : decode cX10_value 13 = .ok (.iload_n 1, 1) := by decide +kernel
theorem dX10_value_14 : decode cX10_value 14 = .ok (.invokevirtual 109, 3) := by decide +kernel
theorem dX10_value_17 : decode cX10_value 17 = .ok (.ifCond .ne 9, 3) := by decide +kernel
theorem dX10_value_20 : decode cX10_value 20 = .ok (.iload_n 2, 1) := by decide +kernel
theorem dX10_value_21 : decode cX10_value 21 = .ok (.invokestatic 187, 3) := by decide +kernel
theorem dX10_value_24 : decode cX10_value 24 = .ok (.i2l, 1) := by decide +kernel
theorem dX10_value_25 : decode cX10_value 25 = .ok (.lreturn, 1) := by decide +kernel
theorem dX10_value_26 : decode cX10_value 26 = .ok (.aload_n 0, 1) := by decide +kernel
theorem dX10_value_27 : decode cX10_value 27 = .ok (.bipush 68, 2) := by decide +kernel
theorem dX10_value_29 : decode cX10_value 29 = .ok (.iload_n 1, 1) := by decide +kernel
theorem dX10_value_30 : decode cX10_value 30 = .ok (.iadd, 1) := by decide +kernel
theorem dX10_value_31 : decode cX10_value 31 = .ok (.bipush 53, 2) := by decide +kernel
theorem dX10_value_33 : decode cX10_value 33 = .ok (.invokevirtual 90, 3) := by decide +kernel
theorem dX10_value_36 : decode cX10_value 36 = .ok (.aload_n 0, 1) := by decide +kernel
theorem dX10_value_37 : decode cX10_value 37 = .ok (.bipush 74, 2) := by decide +kernel
theorem dX10_value_39 : decode cX10_value 39 = .ok (.bipush 54, 2) := by decide +kernel
theorem dX10_value_41 : decode cX10_value 41 = .ok (.invokevirtual 90, 3) := by decide +kernel
theorem dX10_value_44 : decode cX10_value 44 = .ok (.aload_n 0, 1) := by decide +kernel
theorem dX10_value_45 : decode cX10_value 45 = .ok (.iload_n 2, 1) := by decide +kernel
theorem dX10_value_46 : decode cX10_value 46 = .ok (.invokevirtual 190, 3) := by decide +kernel
theorem dX10_value_49 : decode cX10_value 49 = .ok (.lreturn, 1) := by decide +kernel
