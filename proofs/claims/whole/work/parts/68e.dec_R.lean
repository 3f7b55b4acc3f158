theorem dX10_init_0 : decode cX10_init 0 = .ok (.aload_n 0, 1) := by decide +kernel
theorem dX10_init_1 : decode cX10_init 1 = .ok (.invokespecial 1, 3) := by decide +kernel
theorem dX10_init_4 : decode cX10_init 4 = .ok (.aload_n 0, 1) := by decide +kernel
theorem dX10_init_5 : decode cX10_init 5 = .ok (.bipush 6, 2) := by decide +kernel
theorem dX10_init_7 : decode cX10_init 7 = .ok (.newarray .int, 2) := by decide +kernel
theorem dX10_init_9 : decode cX10_init 9 = .ok (.putfield 7, 3) := by decide +kernel
theorem dX10_init_12 : decode cX10_init 12 = .ok (.aload_n 0, 1) := by decide +kernel
theorem dX10_init_13 : decode cX10_init 13 = .ok (.bipush 24, 2) := by decide +kernel
theorem dX10_init_15 : decode cX10_init 15 = .ok (.newarray .int, 2) := by decide +kernel
theorem dX10_init_17 : decode cX10_init 17 = .ok (.putfield 13, 3) := by decide +kernel
theorem dX10_init_20 : decode cX10_init 20 = .ok (.aload_n 0, 1) := by decide +kernel
theorem dX10_init_21 : decode cX10_init 21 = .ok (.bipush 24, 2) := by decide +kernel
theorem dX10_init_23 : decode cX10_init 23 = .ok (.newarray .int, 2) := by decide +kernel
theorem dX10_init_25 : decode cX10_init 25 = .ok (.putfield 16, 3) := by decide +kernel
theorem dX10_init_28 : decode cX10_init 28 = .ok (.aload_n 0, 1) := by decide +kernel
theorem dX10_init_29 : decode cX10_init 29 = .ok (.sipush 144, 3) := by decide +kernel
theorem dX10_init_32 : decode cX10_init 32 = .ok (.newarray .int, 2) := by decide +kernel
theorem dX10_init_34 : decode cX10_init 34 = .ok (.putfield 19, 3) := by decide +kernel
theorem dX10_init_37 : decode cX10_init 37 = .ok (.aload_n 0, 1) := by decide +kernel
theorem dX10_init_38 : decode cX10_init 38 = .ok (.iconst 1, 1) := by decide +kernel
theorem dX10_init_39 : decode cX10_init 39 = .ok (.putfield 22, 3) := by decide +kernel
theorem dX10_init_42 : decode cX10_init 42 = .ok (.aload_n 0, 1) := by decide +kernel
theorem dX10_init_43 : decode cX10_init 43 = .ok (.iconst 2, 1) := by decide +kernel
theorem dX10_init_44 : decode cX10_init 44 = .ok (.putfield 26, 3) := by decide +kernel
theorem dX10_init_47 : decode cX10_init 47 = .ok (.aload_n 0, 1) := by decide +kernel
theorem dX10_init_48 : decode cX10_init 48 = .ok (.bipush 6, 2) := by decide +kernel
theorem dX10_init_50 : decode cX10_init 50 = .ok (.newarray .int, 2) := by decide +kernel
theorem dX10_init_52 : decode cX10_init 52 = .ok (.putfield 29, 3) := by decide +kernel
theorem dX10_init_55 : decode cX10_init 55 = .ok (.aload_n 0, 1) := by decide +kernel
theorem dX10_init_56 : decode cX10_init 56 = .ok (.bipush 6, 2) := by decide +kernel
theorem dX10_init_58 : decode cX10_init 58 = .ok (.newarray .int, 2) := by decide +kernel
theorem dX10_init_60 : decode cX10_init 60 = .ok (.putfield 32, 3) := by decide +kernel
theorem dX10_init_63 : decode cX10_init 63 = .ok (.aload_n 0, 1) := by decide +kernel
theorem dX10_init_64 : decode cX10_init 64 = .ok (.bipush 6, 2) := by decide +kernel
theorem dX10_init_66 : decode cX10_init 66 = .ok (.newarray .int, 2) := by decide +kernel
theorem dX10_init_68 : decode cX10_init 68 = .ok (.putfield 35, 3) := by decide +kernel
theorem dX10_init_71 : decode cX10_init 71 = .ok (.aload_n 0, 1) := by decide +kernel
theorem dX10_init_72 : decode cX10_init 72 = .ok (.sipush 5120, 3) := by decide +kernel
theorem dX10_init_75 : decode cX10_init 75 = .ok (.newarray .int, 2) := by decide +kernel
theorem dX10_init_77 : decode cX10_init 77 = .ok (.putfield 38, 3) := by decide +kernel
theorem dX10_init_80 : decode cX10_init 80 = .ok (.aload_n 0, 1) := by decide +kernel
theorem dX10_init_81 : decode cX10_init 81 = .ok (.bipush 80, 2) := by decide +kernel
theorem dX10_init_83 : decode cX10_init 83 = .ok (.newarray .int, 2) := by decide +kernel
theorem dX10_init_85 : decode cX10_init 85 = .ok (.putfield 41, 3) := by decide +kernel
theorem dX10_init_88 : decode cX10_init 88 = .ok (.aload_n 0, 1) := by decide +kernel
theorem dX10_init_89 : decode cX10_init 89 = .ok (.bipush 80, 2) := by decide +kernel
theorem dX10_init_91 : decode cX10_init 91 = .ok (.newarray .int, 2) := by decide +kernel
theorem dX10_init_93 : decode cX10_init 93 = .ok (.putfield 44, 3) := by decide +kernel
theorem dX10_init_96 : decode cX10_init 96 = .ok (.aload_n 0, 1) := by decide +kernel
theorem dX10_init_97 : decode cX10_init 97 = .ok (.bipush 30, 2) := by decide +kernel
theorem dX10_init_99 : decode cX10_init 99 = .ok (.newarray .int, 2) := by decide +kernel
theorem dX10_init_101 : decode cX10_init 101 = .ok (.dup, 1) := by decide +kernel
theorem dX10_init_102 : decode cX10_init 102 = .ok (.iconst 0, 1) := by decide +kernel
theorem dX10_init_103 : decode cX10_init 103 = .ok (.iconst 2, 1) := by decide +kernel
theorem dX10_init_104 : decode cX10_init 104 = .ok (.iastore, 1) := by decide +kernel
theorem dX10_init_105 : decode cX10_init 105 = .ok (.dup, 1) := by decide +kernel
theorem dX10_init_106 : decode cX10_init 106 = .ok (.iconst 1, 1) := by decide +kernel
theorem dX10_init_107 : decode cX10_init 107 = .ok (.iconst 3, 1) := by decide +kernel
theorem dX10_init_108 : decode cX10_init 108 = .ok (.iastore, 1) := by decide +kernel
theorem dX10_init_109 : decode cX10_init 109 = .ok (.dup, 1) := by decide +kernel
theorem dX10_init_110 : decode cX10_init 110 = .ok (.iconst 2, 1) := by decide +kernel
theorem dX10_init_111 : decode cX10_init 111 = .ok (.iconst 5, 1) := by decide +kernel
theorem dX10_init_112 : decode cX10_init 112 = .ok (.iastore, 1) := by decide +kernel
theorem dX10_init_113 : decode cX10_init 113 = .ok (.dup, 1) := by decide +kernel
theorem dX10_init_114 : decode cX10_init 114 = .ok (.iconst 3, 1) := by decide +kernel
theorem dX10_init_115 : decode cX10_init 115 = .ok (.bipush 7, 2) := by decide +kernel
theorem dX10_init_117 : decode cX10_init 117 = .ok (.iastore, 1) := by decide +kernel
theorem dX10_init_118 : decode cX10_init 118 = .ok (.dup, 1) := by decide +kernel
theorem dX10_init_119 : decode cX10_init 119 = .ok (.iconst 4, 1) := by decide +kernel
theorem dX10_init_120 : decode cX10_init 120 = .ok (.bipush 11, 2) := by decide +kernel
theorem dX10_init_122 : decode cX10_init 122 = .ok (.iastore, 1) := by decide +kernel
theorem dX10_init_123 : decode cX10_init 123 = .ok (.dup, 1) := by decide +kernel
theorem dX10_init_124 : decode cX10_init 124 = .ok (.iconst 5, 1) := by decide +kernel
theorem dX10_init_125 : decode cX10_init 125 = .ok (.bipush 13, 2) := by decide +kernel
theorem dX10_init_127 : decode cX10_init 127 = .ok (.iastore, 1) := by decide +kernel
theorem dX10_init_128 : decode cX10_init 128 = .ok (.dup, 1) := by decide +kernel
theorem dX10_init_129 : decode cX10_init 129 = .ok (.bipush 6, 2) := by decide +kernel
theorem dX10_init_131 : decode cX10_init 131 = .ok (.bipush 17, 2) := by decide +kernel
theorem dX10_init_133 : decode cX10_init 133 = .ok (.iastore, 1) := by decide +kernel
theorem dX10_init_134 : decode cX10_init 134 = .ok (.dup, 1) := by decide +kernel
theorem dX10_init_135 : decode cX10_init 135 = .ok (.bipush 7, 2) := by decide +kernel
theorem dX10_init_137 : decode cX10_init 137 = .ok (.bipush 19, 2) := by decide +kernel
theorem dX10_init_139 : decode cX10_init 139 = .ok (.iastore, 1) := by decide +kernel
theorem dX10_init_140 : decode cX10_init 140 = .ok (.dup, 1) := by decide +kernel
theorem dX10_init_141 : decode cX10_init 141 = .ok (.bipush 8, 2) := by decide +kernel
theorem dX10_init_143 : decode cX10_init 143 = .ok (.bipush 23, 2) := by decide +kernel
theorem dX10_init_145 : decode cX10_init 145 = .ok (.iastore, 1) := by decide +kernel
theorem dX10_init_146 : decode cX10_init 146 = .ok (.dup, 1) := by decide +kernel
theorem dX10_init_147 : decode cX10_init 147 = .ok (.bipush 9, 2) := by decide +kernel
theorem dX10_init_149 : decode cX10_init 149 = .ok (.bipush 29, 2) := by decide +kernel
theorem dX10_init_151 : decode cX10_init 151 = .ok (.iastore, 1) := by decide +kernel
theorem dX10_init_152 : decode cX10_init 152 = .ok (.dup, 1) := by decide +kernel
theorem dX10_init_153 : decode cX10_init 153 = .ok (.bipush 10, 2) := by decide +kernel
theorem dX10_init_155 : decode cX10_init 155 = .ok (.bipush 31, 2) := by decide +kernel
theorem dX10_init_157 : decode cX10_init 157 = .ok (.iastore, 1) := by decide +kernel
theorem dX10_init_158 : decode cX10_init 158 = .ok (.dup, 1) := by decide +kernel
theorem dX10_init_159 : decode cX10_init 159 = .ok (.bipush 11, 2) := by decide +kernel
theorem dX10_init_161 : decode cX10_init 161 = .ok (.bipush 37, 2) := by decide +kernel
theorem dX10_init_163 : decode cX10_init 163 = .ok (.iastore, 1) := by decide +kernel
theorem dX10_init_164 : decode cX10_init 164 = .ok (.dup, 1) := by decide +kernel
theorem dX10_init_165 : decode cX10_init 165 = .ok (.bipush 12, 2) := by decide +kernel
theorem dX10_init_167 : decode cX10_init 167 = .ok (.bipush 41, 2) := by decide +kernel
theorem dX10_init_169 : decode cX10_init 169 = .ok (.iastore, 1) := by decide +kernel
theorem dX10_init_170 : decode cX10_init 170 = .ok (.dup, 1) := by decide +kernel
theorem dX10_init_171 : decode cX10_init 171 = .ok (.bipush 13, 2) := by decide +kernel
theorem dX10_init_173 : decode cX10_init 173 = .ok (.bipush 43, 2) := by decide +kernel
theorem dX10_init_175 : decode cX10_init 175 = .ok (.iastore, 1) := by decide +kernel
theorem dX10_init_176 : decode cX10_init 176 = .ok (.dup, 1) := by decide +kernel
theorem dX10_init_177 : decode cX10_init 177 = .ok (.bipush 14, 2) := by decide +kernel
theorem dX10_init_179 : decode cX10_init 179 = .ok (.bipush 47, 2) := by decide +kernel
theorem dX10_init_181 : decode cX10_init 181 = .ok (.iastore, 1) := by decide +kernel
theorem dX10_init_182 : decode cX10_init 182 = .ok (.dup, 1) := by decide +kernel
theorem dX10_init_183 : decode cX10_init 183 = .ok (.bipush 15, 2) := by decide +kernel
theorem dX10_init_185 : decode cX10_init 185 = .ok (.bipush 53, 2) := by decide +kernel
theorem dX10_init_187 : decode cX10_init 187 = .ok (.iastore, 1) := by decide +kernel
theorem dX10_init_188 : decode cX10_init 188 = .ok (.dup, 1) := by decide +kernel
theorem dX10_init_189 : decode cX10_init 189 = .ok (.bipush 16, 2) := by decide +kernel
theorem dX10_init_191 : decode cX10_init 191 = .ok (.bipush 59, 2) := by decide +kernel
theorem dX10_init_193 : decode cX10_init 193 = .ok (.iastore, 1) := by decide +kernel
theorem dX10_init_194 : decode cX10_init 194 = .ok (.dup, 1) := by decide +kernel
theorem dX10_init_195 : decode cX10_init 195 = .ok (.bipush 17, 2) := by decide +kernel
theorem dX10_init_197 : decode cX10_init 197 = .ok (.bipush 61, 2) := by decide +kernel
theorem dX10_init_199 : decode cX10_init 199 = .ok (.iastore, 1) := by decide +kernel
theorem dX10_init_200 : decode cX10_init 200 = .ok (.dup, 1) := by decide +kernel
theorem dX10_init_201 : decode cX10_init 201 = .ok (.bipush 18, 2) := by decide +kernel
theorem dX10_init_203 : decode cX10_init 203 = .ok (.bipush 67, 2) := by decide +kernel
theorem dX10_init_205 : decode cX10_init 205 = .ok (.iastore, 1) := by decide +kernel
theorem dX10_init_206 : decode cX10_init 206 = .ok (.dup, 1) := by decide +kernel
theorem dX10_init_207 : decode cX10_init 207 = .ok (.bipush 19, 2) := by decide +kernel
theorem dX10_init_209 : decode cX10_init 209 = .ok (.bipush 71, 2) := by decide +kernel
theorem dX10_init_211 : decode cX10_init 211 = .ok (.iastore, 1) := by decide +kernel
theorem dX10_init_212 : decode cX10_init 212 = .ok (.dup, 1) := by decide +kernel
theorem dX10_init_213 : decode cX10_init 213 = .ok (.bipush 20, 2) := by decide +kernel
theorem dX10_init_215 : decode cX10_init 215 = .ok (.bipush 73, 2) := by decide +kernel
theorem dX10_init_217 : decode cX10_init 217 = .ok (.iastore, 1) := by decide +kernel
theorem dX10_init_218 : decode cX10_init 218 = .ok (.dup, 1) := by decide +kernel
theorem dX10_init_219 : decode cX10_init 219 = .ok (.bipush 21, 2) := by decide +kernel
theorem dX10_init_221 : decode cX10_init 221 = .ok (.bipush 79, 2) := by decide +kernel
theorem dX10_init_223 : decode cX10_init 223 = .ok (.iastore, 1) := by decide +kernel
theorem dX10_init_224 : decode cX10_init 224 = .ok (.dup, 1) := by decide +kernel
theorem dX10_init_225 : decode cX10_init 225 = .ok (.bipush 22, 2) := by decide +kernel
theorem dX10_init_227 : decode cX10_init 227 = .ok (.bipush 83, 2) := by decide +kernel
theorem dX10_init_229 : decode cX10_init 229 = .ok (.iastore, 1) := by decide +kernel
theorem dX10_init_230 : decode cX10_init 230 = .ok (.dup, 1) := by decide +kernel
theorem dX10_init_231 : decode cX10_init 231 = .ok (.bipush 23, 2) := by decide +kernel
theorem dX10_init_233 : decode cX10_init 233 = .ok (.bipush 89, 2) := by decide +kernel
theorem dX10_init_235 : decode cX10_init 235 = .ok (.iastore, 1) := by decide +kernel
theorem dX10_init_236 : decode cX10_init 236 = .ok (.dup, 1) := by decide +kernel
theorem dX10_init_237 : decode cX10_init 237 = .ok (.bipush 24, 2) := by decide +kernel
theorem dX10_init_239 : decode cX10_init 239 = .ok (.bipush 97, 2) := by decide +kernel
theorem dX10_init_241 : decode cX10_init 241 = .ok (.iastore, 1) := by decide +kernel
theorem dX10_init_242 : decode cX10_init 242 = .ok (.dup, 1) := by decide +kernel
theorem dX10_init_243 : decode cX10_init 243 = .ok (.bipush 25, 2) := by decide +kernel
theorem dX10_init_245 : decode cX10_init 245 = .ok (.bipush 101, 2) := by decide +kernel
theorem dX10_init_247 : decode cX10_init 247 = .ok (.iastore, 1) := by decide +kernel
theorem dX10_init_248 : decode cX10_init 248 = .ok (.dup, 1) := by decide +kernel
theorem dX10_init_249 : decode cX10_init 249 = .ok (.bipush 26, 2) := by decide +kernel
theorem dX10_init_251 : decode cX10_init 251 = .ok (.bipush 103, 2) := by decide +kernel
theorem dX10_init_253 : decode cX10_init 253 = .ok (.iastore, 1) := by decide +kernel
theorem dX10_init_254 : decode cX10_init 254 = .ok (.dup, 1) := by decide +kernel
theorem dX10_init_255 : decode cX10_init 255 = .ok (.bipush 27, 2) := by decide +kernel
theorem dX10_init_257 : decode cX10_init 257 = .ok (.bipush 107, 2) := by decide +kernel
theorem dX10_init_259 : decode cX10_init 259 = .ok (.iastore, 1) := by decide +kernel
theorem dX10_init_260 : decode cX10_init 260 = .ok (.dup, 1) := by decide +kernel
theorem dX10_init_261 : decode cX10_init 261 = .ok (.bipush 28, 2) := by decide +kernel
theorem dX10_init_263 : decode cX10_init 263 = .ok (.bipush 109, 2) := by decide +kernel
theorem dX10_init_265 : decode cX10_init 265 = .ok (.iastore, 1) := by decide +kernel
theorem dX10_init_266 : decode cX10_init 266 = .ok (.dup, 1) := by decide +kernel
theorem dX10_init_267 : decode cX10_init 267 = .ok (.bipush 29, 2) := by decide +kernel
theorem dX10_init_269 : decode cX10_init 269 = .ok (.bipush 113, 2) := by decide +kernel
theorem dX10_init_271 : decode cX10_init 271 = .ok (.iastore, 1) := by decide +kernel
theorem dX10_init_272 : decode cX10_init 272 = .ok (.putfield 47, 3) := by decide +kernel
theorem dX10_init_275 : decode cX10_init 275 = .ok (.aload_n 0, 1) := by decide +kernel
theorem dX10_init_276 : decode cX10_init 276 = .ok (.bipush 30, 2) := by decide +kernel
theorem dX10_init_278 : decode cX10_init 278 = .ok (.newarray .int, 2) := by decide +kernel
theorem dX10_init_280 : decode cX10_init 280 = .ok (.putfield 50, 3) := by decide +kernel
theorem dX10_init_283 : decode cX10_init 283 = .ok (.aload_n 0, 1) := by decide +kernel
theorem dX10_init_284 : decode cX10_init 284 = .ok (.bipush 30, 2) := by decide +kernel
theorem dX10_init_286 : decode cX10_init 286 = .ok (.newarray .int, 2) := by decide +kernel
theorem dX10_init_288 : decode cX10_init 288 = .ok (.putfield 53, 3) := by decide +kernel
theorem dX10_init_291 : decode cX10_init 291 = .ok (.return_, 1) := by decide +kernel
set_option maxRecDepth 20000 in
theorem ggX10_steps_X10_isReady : GoodIn wsX10_steps wsX10_isReady := goodIn_r _ [7, 8, 9, 10, 11, 12, 6, 13, 14, 15, 16, 17, 18, 19, 20, 21, 22, 127, 128, 129, 130, 131, 132, 133, 134, 135, 136, 137, 138, 139, 140, 141, 142, 143, 144, 145, 146] rfl rfl
set_option maxRecDepth 20000 in
theorem gX10_steps_X10_isReady : GoodIn wsX10_steps (wsV RX10 164 RX10 yX10_isReady wsX10_isReady) := goodIn_app (goodIn_of _ (by decide +kernel)) ggX10_steps_X10_isReady
set_option maxRecDepth 20000 in
theorem ggX10_steps_X10_in : GoodIn wsX10_steps wsX10_in := goodIn_r _ [25] rfl rfl
set_option maxRecDepth 20000 in
theorem gX10_steps_X10_in : GoodIn wsX10_steps (va_wsS RX10 121 yX10_in wsX10_in) := goodIn_app (goodIn_of _ (by decide +kernel)) ggX10_steps_X10_in
set_option maxRecDepth 20000 in
theorem ggX10_steps_X10_isState : GoodIn wsX10_steps wsX10_isState := goodIn_r _ [29, 8, 127, 128, 129, 130, 131, 132, 133, 134, 135, 136, 137, 138, 139, 140, 141, 142, 143, 144, 145, 146] rfl rfl
set_option maxRecDepth 20000 in
theorem gX10_steps_X10_isState : GoodIn wsX10_steps (wsV RX10 109 RX10 yX10_isState wsX10_isState) := goodIn_app (goodIn_of _ (by decide +kernel)) ggX10_steps_X10_isState
set_option maxRecDepth 20000 in
theorem ggX10_steps_X10_none : GoodIn wsX10_steps wsX10_none := goodIn_r _ [32] rfl rfl
set_option maxRecDepth 20000 in
theorem gX10_steps_X10_none : GoodIn wsX10_steps (va_wsS RX10 187 yX10_none wsX10_none) := goodIn_app (goodIn_of _ (by decide +kernel)) ggX10_steps_X10_none
set_option maxRecDepth 20000 in
theorem ggX10_steps_X10_go : GoodIn wsX10_steps wsX10_go := goodIn_r _ [36, 8, 37, 38, 39, 40, 41, 42, 43, 44, 45, 6, 46, 47, 48, 49, 50, 51, 52, 53, 54, 9, 55, 56, 57, 58, 59, 60, 61, 62, 18, 63, 64, 65, 66, 67, 68, 69, 70, 71, 72, 73, 74, 75, 76, 77, 78, 79, 80, 81, 82, 83, 84, 85, 86, 87, 88, 89, 90, 14, 15, 16, 17, 91, 92, 93, 94, 95, 96, 97, 98, 99, 100, 101, 102, 127, 128, 129, 130, 131, 132, 133, 134, 135, 136, 137, 138, 139, 140, 141, 142, 143, 144, 145, 146] rfl rfl
set_option maxRecDepth 20000 in
theorem gX10_steps_X10_go : GoodIn wsX10_steps (wsV RX10 204 RX10 yX10_go wsX10_go) := goodIn_app (goodIn_of _ (by decide +kernel)) ggX10_steps_X10_go
set_option maxRecDepth 20000 in
theorem ggX10_steps_X10_copy : GoodIn wsX10_steps wsX10_copy := goodIn_r _ [68, 47, 50, 48, 127, 128, 129, 130, 131, 132, 133, 134, 135, 136, 137, 138, 139, 140, 141, 142, 143, 144, 145, 146] rfl rfl
set_option maxRecDepth 20000 in
theorem gX10_steps_X10_copy : GoodIn wsX10_steps (wsV RX10 90 RX10 yX10_copy wsX10_copy) := goodIn_app (goodIn_of _ (by decide +kernel)) ggX10_steps_X10_copy
set_option maxRecDepth 20000 in
theorem ggX10_steps_X10_tell : GoodIn wsX10_steps wsX10_tell := goodIn_r _ [106, 107, 47, 50, 108, 109, 65, 66, 67, 6, 68, 48, 110, 111, 112, 113, 114, 115, 116, 117, 118, 73, 74, 75, 76, 87, 88, 89, 90, 77, 78, 79, 80, 81, 82, 83, 84, 85, 86, 119, 120, 121, 122, 43, 44, 45, 46, 49, 69, 70, 71, 72, 123, 124, 125, 126, 127, 128, 129, 130, 131, 132, 133, 134, 135, 136, 137, 138, 139, 140, 141, 142, 143, 144, 145, 146] rfl rfl
set_option maxRecDepth 20000 in
theorem gX10_steps_X10_tell : GoodIn wsX10_steps (wsV RX10 190 RX10 yX10_tell wsX10_tell) := goodIn_app (goodIn_of _ (by decide +kernel)) ggX10_steps_X10_tell
theorem dX10_steps_0 : decode cX10_steps 0 = .ok (.aload_n 0, 1) := by decide +kernel
theorem dX10_steps_1 : decode cX10_steps 1 = .ok (.iconst 0, 1) := by decide +kernel
theorem dX10_steps_2 : decode cX10_steps 2 = .ok (.putfield 56, 3) := by decide +kernel
theorem dX10_steps_5 : decode cX10_steps 5 = .ok (.aload_n 0, 1) := by decide +kernel
theorem dX10_steps_6 : decode cX10_steps 6 = .ok (.invokevirtual 164, 3) := by decide +kernel
theorem dX10_steps_9 : decode cX10_steps 9 = .ok (.ifCond .eq 23, 3) := by decide +kernel
theorem dX10_steps_12 : decode cX10_steps 12 = .ok (.iload_n 1, 1) := by decide +kernel
theorem dX10_steps_13 : decode cX10_steps 13 = .ok (.i2l, 1) := by decide +kernel
theorem dX10_steps_14 : decode cX10_steps 14 = .ok (.lconst 0, 1) := by decide +kernel
theorem dX10_steps_15 : decode cX10_steps 15 = .ok (.ldc2_w 202, 3) := by decide +kernel
theorem dX10_steps_18 : decode cX10_steps 18 = .ok (.invokestatic 121, 3) := by decide +kernel
theorem dX10_steps_21 : decode cX10_steps 21 = .ok (.ifCond .eq 11, 3) := by decide +kernel
theorem dX10_steps_24 : decode cX10_steps 24 = .ok (.aload_n 0, 1) := by decide +kernel
theorem dX10_steps_25 : decode cX10_steps 25 = .ok (.iload_n 2, 1) := by decide +kernel
theorem dX10_steps_26 : decode cX10_steps 26 = .ok (.invokevirtual 109, 3) := by decide +kernel
theorem dX10_steps_29 : decode cX10_steps 29 = .ok (.ifCond .ne 9, 3) := by decide +kernel
theorem dX10_steps_32 : decode cX10_steps 32 = .ok (.iload_n 3, 1) := by decide +kernel
theorem dX10_steps_33 : decode cX10_steps 33 = .ok (.invokestatic 187, 3) := by decide +kernel
theorem dX10_steps_36 : decode cX10_steps 36 = .ok (.i2l, 1) := by decide +kernel
theorem dX10_steps_37 : decode cX10_steps 37 = .ok (.lreturn, 1) := by decide +kernel
theorem dX10_steps_38 : decode cX10_steps 38 = .ok (.aload_n 0, 1) := by decide +kernel
theorem dX10_steps_39 : decode cX10_steps 39 = .ok (.iload_n 1, 1) := by decide +kernel
theorem dX10_steps_40 : decode cX10_steps 40 = .ok (.invokevirtual 204, 3) := by decide +kernel
theorem dX10_steps_43 : decode cX10_steps 43 = .ok (.aload_n 0, 1) := by decide +kernel
theorem dX10_steps_44 : decode cX10_steps 44 = .ok (.bipush 55, 2) := by decide +kernel
theorem dX10_steps_46 : decode cX10_steps 46 = .ok (.iload_n 2, 1) := by decide +kernel
theorem dX10_steps_47 : decode cX10_steps 47 = .ok (.iadd, 1) := by decide +kernel
theorem dX10_steps_48 : decode cX10_steps 48 = .ok (.bipush 53, 2) := by decide +kernel
theorem dX10_steps_50 : decode cX10_steps 50 = .ok (.invokevirtual 90, 3) := by decide +kernel
theorem dX10_steps_53 : decode cX10_steps 53 = .ok (.aload_n 0, 1) := by decide +kernel
theorem dX10_steps_54 : decode cX10_steps 54 = .ok (.bipush 67, 2) := by decide +kernel
theorem dX10_steps_56 : decode cX10_steps 56 = .ok (.bipush 54, 2) := by decide +kernel
theorem dX10_steps_58 : decode cX10_steps 58 = .ok (.invokevirtual 90, 3) := by decide +kernel
theorem dX10_steps_61 : decode cX10_steps 61 = .ok (.aload_n 0, 1) := by decide +kernel
theorem dX10_steps_62 : decode cX10_steps 62 = .ok (.iload_n 3, 1) := by decide +kernel
theorem dX10_steps_63 : decode cX10_steps 63 = .ok (.invokevirtual 190, 3) := by decide +kernel
theorem dX10_steps_66 : decode cX10_steps 66 = .ok (.lreturn, 1) := by decide +kernel
set_option maxRecDepth 20000 in
theorem ggX10_plan_X10_isReady : GoodIn wsX10_plan wsX10_isReady := goodIn_r _ [7, 8, 9, 10, 11, 12, 6, 13, 14, 15, 16, 17, 18, 19, 20, 21, 22, 100, 101, 102, 103, 104, 105, 106, 107, 108, 109, 110, 111, 112, 113, 114, 115, 116, 117, 118, 119] rfl rfl
set_option maxRecDepth 20000 in
theorem gX10_plan_X10_isReady : GoodIn wsX10_plan (wsV RX10 164 RX10 yX10_isReady wsX10_isReady) := goodIn_app (goodIn_of _ (by decide +kernel)) ggX10_plan_X10_isReady
set_option maxRecDepth 20000 in
theorem ggX10_plan_X10_in : GoodIn wsX10_plan wsX10_in := goodIn_r _ [25] rfl rfl
set_option maxRecDepth 20000 in
theorem gX10_plan_X10_in : GoodIn wsX10_plan (va_wsS RX10 121 yX10_in wsX10_in) := goodIn_app (goodIn_of _ (by decide +kernel)) ggX10_plan_X10_in
set_option maxRecDepth 20000 in
theorem ggX10_plan_X10_isState : GoodIn wsX10_plan wsX10_isState := goodIn_r _ [29, 8, 100, 101, 102, 103, 104, 105, 106, 107, 108, 109, 110, 111, 112, 113, 114, 115, 116, 117, 118, 119] rfl rfl
set_option maxRecDepth 20000 in
theorem gX10_plan_X10_isState : GoodIn wsX10_plan (wsV RX10 109 RX10 yX10_isState wsX10_isState) := goodIn_app (goodIn_of _ (by decide +kernel)) ggX10_plan_X10_isState
set_option maxRecDepth 20000 in
theorem ggX10_plan_X10_go : GoodIn wsX10_plan wsX10_go := goodIn_r _ [33, 8, 34, 35, 36, 37, 38, 39, 40, 41, 42, 6, 43, 44, 45, 46, 47, 48, 49, 50, 51, 9, 52, 53, 54, 55, 56, 57, 58, 59, 18, 60, 61, 62, 63, 64, 65, 66, 67, 68, 69, 70, 71, 72, 73, 74, 75, 76, 77, 78, 79, 80, 81, 82, 83, 84, 85, 86, 87, 14, 15, 16, 17, 88, 89, 90, 91, 92, 93, 94, 95, 96, 97, 98, 99, 100, 101, 102, 103, 104, 105, 106, 107, 108, 109, 110, 111, 112, 113, 114, 115, 116, 117, 118, 119] rfl rfl
set_option maxRecDepth 20000 in
theorem gX10_plan_X10_go : GoodIn wsX10_plan (wsV RX10 204 RX10 yX10_go wsX10_go) := goodIn_app (goodIn_of _ (by decide +kernel)) ggX10_plan_X10_go
set_option maxRecDepth 20000 in
theorem ggX10_plan_X10_greatest : GoodIn wsX10_plan wsX10_greatest := goodIn_r _ [51, 9, 52, 53, 54, 6, 55, 36, 56, 57, 58, 59, 8, 18, 60, 39, 61, 40, 41, 42, 43, 44, 45, 46, 47, 62, 63, 64, 65, 66, 67, 68, 69, 70, 71, 72, 73, 74, 75, 76, 77, 78, 79, 80, 81, 82, 83, 84, 85, 86, 87, 14, 15, 16, 17, 88, 89, 90, 91, 100, 101, 102, 103, 104, 105, 106, 107, 108, 109, 110, 111, 112, 113, 114, 115, 116, 117, 118, 119] rfl rfl
set_option maxRecDepth 20000 in
theorem gX10_plan_X10_greatest : GoodIn wsX10_plan (wsV RX10 175 RX10 yX10_greatest wsX10_greatest) := goodIn_app (goodIn_of _ (by decide +kernel)) ggX10_plan_X10_greatest
theorem dX10_plan_0 : decode cX10_plan 0 = .ok (.aload_n 0, 1) := by decide +kernel
theorem dX10_plan_1 : decode cX10_plan 1 = .ok (.iconst 0, 1) := by decide +kernel
theorem dX10_plan_2 : decode cX10_plan 2 = .ok (.putfield 56, 3) := by decide +kernel
theorem dX10_plan_5 : decode cX10_plan 5 = .ok (.aload_n 0, 1) := by decide +kernel
theorem dX10_plan_6 : decode cX10_plan 6 = .ok (.invokevirtual 164, 3) := by decide +kernel
theorem dX10_plan_9 : decode cX10_plan 9 = .ok (.ifCond .eq 23, 3) := by decide +kernel
theorem dX10_plan_12 : decode cX10_plan 12 = .ok (.iload_n 1, 1) := by decide +kernel
theorem dX10_plan_13 : decode cX10_plan 13 = .ok (.i2l, 1) := by decide +kernel
theorem dX10_plan_14 : decode cX10_plan 14 = .ok (.lconst 1, 1) := by decide +kernel
theorem dX10_plan_15 : decode cX10_plan 15 = .ok (.ldc2_w 202, 3) := by decide +kernel
theorem dX10_plan_18 : decode cX10_plan 18 = .ok (.invokestatic 121, 3) := by decide +kernel
theorem dX10_plan_21 : decode cX10_plan 21 = .ok (.ifCond .eq 11, 3) := by decide +kernel
theorem dX10_plan_24 : decode cX10_plan 24 = .ok (.aload_n 0, 1) := by decide +kernel
theorem dX10_plan_25 : decode cX10_plan 25 = .ok (.iload_n 2, 1) := by decide +kernel
theorem dX10_plan_26 : decode cX10_plan 26 = .ok (.invokevirtual 109, 3) := by decide +kernel
theorem dX10_plan_29 : decode cX10_plan 29 = .ok (.ifCond .ne 5, 3) := by decide +kernel
theorem dX10_plan_32 : decode cX10_plan 32 = .ok (.iconst (-1), 1) := by decide +kernel
theorem dX10_plan_33 : decode cX10_plan 33 = .ok (.ireturn, 1) := by decide +kernel
theorem dX10_plan_34 : decode cX10_plan 34 = .ok (.aload_n 0, 1) := by decide +kernel
theorem dX10_plan_35 : decode cX10_plan 35 = .ok (.iload_n 1, 1) := by decide +kernel
theorem dX10_plan_36 : decode cX10_plan 36 = .ok (.iconst 1, 1) := by decide +kernel
theorem dX10_plan_37 : decode cX10_plan 37 = .ok (.isub, 1) := by decide +kernel
theorem dX10_plan_38 : decode cX10_plan 38 = .ok (.invokevirtual 204, 3) := by decide +kernel
theorem dX10_plan_41 : decode cX10_plan 41 = .ok (.aload_n 0, 1) := by decide +kernel
theorem dX10_plan_42 : decode cX10_plan 42 = .ok (.iload_n 2, 1) := by decide +kernel
theorem dX10_plan_43 : decode cX10_plan 43 = .ok (.bipush 55, 2) := by decide +kernel
theorem dX10_plan_45 : decode cX10_plan 45 = .ok (.bipush 67, 2) := by decide +kernel
theorem dX10_plan_47 : decode cX10_plan 47 = .ok (.invokevirtual 175, 3) := by decide +kernel
theorem dX10_plan_50 : decode cX10_plan 50 = .ok (.ireturn, 1) := by decide +kernel
set_option maxRecDepth 20000 in
theorem ggX10_bound_X10_isReady : GoodIn wsX10_bound wsX10_isReady := goodIn_r _ [13, 3, 6, 14, 15, 16, 12, 17, 18, 19, 20, 21, 22, 23, 24, 25, 26, 91, 92, 93, 94, 95, 96, 97, 98, 99, 100, 101, 102, 103, 104, 105, 106, 107, 108, 109, 110] rfl rfl
set_option maxRecDepth 20000 in
theorem gX10_bound_X10_isReady : GoodIn wsX10_bound (wsV RX10 164 RX10 yX10_isReady wsX10_isReady) := goodIn_app (goodIn_of _ (by decide +kernel)) ggX10_bound_X10_isReady
set_option maxRecDepth 20000 in
theorem ggX10_bound_X10_in : GoodIn wsX10_bound wsX10_in := goodIn_r _ [29] rfl rfl
set_option maxRecDepth 20000 in
theorem gX10_bound_X10_in : GoodIn wsX10_bound (va_wsS RX10 121 yX10_in wsX10_in) := goodIn_app (goodIn_of _ (by decide +kernel)) ggX10_bound_X10_in
set_option maxRecDepth 20000 in
theorem ggX10_bound_X10_none : GoodIn wsX10_bound wsX10_none := goodIn_r _ [32] rfl rfl
set_option maxRecDepth 20000 in
theorem gX10_bound_X10_none : GoodIn wsX10_bound (va_wsS RX10 187 yX10_none wsX10_none) := goodIn_app (goodIn_of _ (by decide +kernel)) ggX10_bound_X10_none
set_option maxRecDepth 20000 in
theorem ggX10_bound_X10_setSmall : GoodIn wsX10_bound wsX10_setSmall := goodIn_r _ [36, 37, 38, 39, 40, 91, 92, 93, 94, 95, 96, 97, 98, 99, 100, 101, 102, 103, 104, 105, 106, 107, 108, 109, 110] rfl rfl
set_option maxRecDepth 20000 in
theorem gX10_bound_X10_setSmall : GoodIn wsX10_bound (wsV RX10 76 RX10 yX10_setSmall wsX10_setSmall) := goodIn_app (goodIn_of _ (by decide +kernel)) ggX10_bound_X10_setSmall
set_option maxRecDepth 20000 in
theorem ggX10_bound_X10_times : GoodIn wsX10_bound wsX10_times := goodIn_r _ [44, 40, 38, 39, 37, 45, 46, 47, 12, 48, 91, 92, 93, 94, 95, 96, 97, 98, 99, 100, 101, 102, 103, 104, 105, 106, 107, 108, 109, 110] rfl rfl
set_option maxRecDepth 20000 in
theorem gX10_bound_X10_times : GoodIn wsX10_bound (wsV RX10 80 RX10 yX10_times wsX10_times) := goodIn_app (goodIn_of _ (by decide +kernel)) ggX10_bound_X10_times
set_option maxRecDepth 20000 in
theorem ggX10_bound_X10_tell : GoodIn wsX10_bound wsX10_tell := goodIn_r _ [52, 53, 37, 40, 54, 55, 56, 57, 58, 12, 59, 38, 60, 61, 62, 63, 64, 65, 66, 67, 68, 45, 46, 47, 48, 69, 70, 71, 72, 73, 74, 75, 76, 77, 78, 79, 80, 81, 82, 83, 84, 85, 86, 33, 34, 35, 36, 39, 41, 42, 43, 44, 87, 88, 89, 90, 91, 92, 93, 94, 95, 96, 97, 98, 99, 100, 101, 102, 103, 104, 105, 106, 107, 108, 109, 110] rfl rfl
set_option maxRecDepth 20000 in
theorem gX10_bound_X10_tell : GoodIn wsX10_bound (wsV RX10 190 RX10 yX10_tell wsX10_tell) := goodIn_app (goodIn_of _ (by decide +kernel)) ggX10_bound_X10_tell
theorem dX10_bound_0 : decode cX10_bound 0 = .ok (.aload_n 0, 1) := by decide +kernel
theorem dX10_bound_1 : decode cX10_bound 1 = .ok (.iconst 0, 1) := by decide +kernel
theorem dX10_bound_2 : decode cX10_bound 2 = .ok (.putfield 56, 3) := by decide +kernel
theorem dX10_bound_5 : decode cX10_bound 5 = .ok (.aload_n 0, 1) := by decide +kernel
theorem dX10_bound_6 : decode cX10_bound 6 = .ok (.invokevirtual 164, 3) := by decide +kernel
theorem dX10_bound_9 : decode cX10_bound 9 = .ok (.ifCond .eq 15, 3) := by decide +kernel
theorem dX10_bound_12 : decode cX10_bound 12 = .ok (.iload_n 1, 1) := by decide +kernel
theorem dX10_bound_13 : decode cX10_bound 13 = .ok (.i2l, 1) := by decide +kernel
theorem dX10_bound_14 : decode cX10_bound 14 = .ok (.lconst 0, 1) := by decide +kernel
theorem dX10_bound_15 : decode cX10_bound 15 = .ok (.ldc2_w 202, 3) := by decide +kernel
theorem dX10_bound_18 : decode cX10_bound 18 = .ok (.invokestatic 121, 3) := by decide +kernel
theorem dX10_bound_21 : decode cX10_bound 21 = .ok (.ifCond .ne 9, 3) := by decide +kernel
theorem dX10_bound_24 : decode cX10_bound 24 = .ok (.iload_n 2, 1) := by decide +kernel
theorem dX10_bound_25 : decode cX10_bound 25 = .ok (.invokestatic 187, 3) := by decide +kernel
theorem dX10_bound_28 : decode cX10_bound 28 = .ok (.i2l, 1) := by decide +kernel
theorem dX10_bound_29 : decode cX10_bound 29 = .ok (.lreturn, 1) := by decide +kernel
theorem dX10_bound_30 : decode cX10_bound 30 = .ok (.iconst 0, 1) := by decide +kernel
theorem dX10_bound_31 : decode cX10_bound 31 = .ok (.istore_n 3, 1) := by decide +kernel
theorem dX10_bound_32 : decode cX10_bound 32 = .ok (.iconst 1, 1) := by decide +kernel
theorem dX10_bound_33 : decode cX10_bound 33 = .ok (.istore 4, 2) := by decide +kernel
theorem dX10_bound_35 : decode cX10_bound 35 = .ok (.iconst 0, 1) := by decide +kernel
theorem dX10_bound_36 : decode cX10_bound 36 = .ok (.istore 5, 2) := by decide +kernel
theorem dX10_bound_38 : decode cX10_bound 38 = .ok (.iload 5, 2) := by decide +kernel
theorem dX10_bound_40 : decode cX10_bound 40 = .ok (.aload_n 0, 1) := by decide +kernel
theorem dX10_bound_41 : decode cX10_bound 41 = .ok (.getfield 103, 3) := by decide +kernel
theorem dX10_bound_44 : decode cX10_bound 44 = .ok (.if_icmp .ge 200, 3) := by decide +kernel
theorem dX10_bound_47 : decode cX10_bound 47 = .ok (.aload_n 0, 1) := by decide +kernel
theorem dX10_bound_48 : decode cX10_bound 48 = .ok (.getfield 13, 3) := by decide +kernel
theorem dX10_bound_51 : decode cX10_bound 51 = .ok (.iconst 4, 1) := by decide +kernel
theorem dX10_bound_52 : decode cX10_bound 52 = .ok (.iload 5, 2) := by decide +kernel
theorem dX10_bound_54 : decode cX10_bound 54 = .ok (.imul, 1) := by decide +kernel
theorem dX10_bound_55 : decode cX10_bound 55 = .ok (.iaload, 1) := by decide +kernel
theorem dX10_bound_56 : decode cX10_bound 56 = .ok (.istore 6, 2) := by decide +kernel
theorem dX10_bound_58 : decode cX10_bound 58 = .ok (.aload_n 0, 1) := by decide +kernel
theorem dX10_bound_59 : decode cX10_bound 59 = .ok (.getfield 16, 3) := by decide +kernel
theorem dX10_bound_62 : decode cX10_bound 62 = .ok (.iconst 4, 1) := by decide +kernel
theorem dX10_bound_63 : decode cX10_bound 63 = .ok (.iload 5, 2) := by decide +kernel
theorem dX10_bound_65 : decode cX10_bound 65 = .ok (.imul, 1) := by decide +kernel
theorem dX10_bound_66 : decode cX10_bound 66 = .ok (.iaload, 1) := by decide +kernel
theorem dX10_bound_67 : decode cX10_bound 67 = .ok (.istore 7, 2) := by decide +kernel
theorem dX10_bound_69 : decode cX10_bound 69 = .ok (.iconst 1, 1) := by decide +kernel
theorem dX10_bound_70 : decode cX10_bound 70 = .ok (.istore 8, 2) := by decide +kernel
theorem dX10_bound_72 : decode cX10_bound 72 = .ok (.iload 8, 2) := by decide +kernel
theorem dX10_bound_74 : decode cX10_bound 74 = .ok (.aload_n 0, 1) := by decide +kernel
theorem dX10_bound_75 : decode cX10_bound 75 = .ok (.getfield 7, 3) := by decide +kernel
theorem dX10_bound_78 : decode cX10_bound 78 = .ok (.iload 5, 2) := by decide +kernel
theorem dX10_bound_80 : decode cX10_bound 80 = .ok (.iaload, 1) := by decide +kernel
theorem dX10_bound_81 : decode cX10_bound 81 = .ok (.if_icmp .ge 97, 3) := by decide +kernel
theorem dX10_bound_84 : decode cX10_bound 84 = .ok (.aload_n 0, 1) := by decide +kernel
theorem dX10_bound_85 : decode cX10_bound 85 = .ok (.getfield 13, 3) := by decide +kernel
theorem dX10_bound_88 : decode cX10_bound 88 = .ok (.iconst 4, 1) := by decide +kernel
theorem dX10_bound_89 : decode cX10_bound 89 = .ok (.iload 5, 2) := by decide +kernel
theorem dX10_bound_91 : decode cX10_bound 91 = .ok (.imul, 1) := by decide +kernel
theorem dX10_bound_92 : decode cX10_bound 92 = .ok (.iload 8, 2) := by decide +kernel
theorem dX10_bound_94 : decode cX10_bound 94 = .ok (.iadd, 1) := by decide +kernel
theorem dX10_bound_95 : decode cX10_bound 95 = .ok (.iaload, 1) := by decide +kernel
theorem dX10_bound_96 : decode cX10_bound 96 = .ok (.iload 7, 2) := by decide +kernel
theorem dX10_bound_98 : decode cX10_bound 98 = .ok (.imul, 1) := by decide +kernel
theorem dX10_bound_99 : decode cX10_bound 99 = .ok (.iload 6, 2) := by decide +kernel
theorem dX10_bound_101 : decode cX10_bound 101 = .ok (.aload_n 0, 1) := by decide +kernel
theorem dX10_bound_102 : decode cX10_bound 102 = .ok (.getfield 16, 3) := by decide +kernel
theorem dX10_bound_105 : decode cX10_bound 105 = .ok (.iconst 4, 1) := by decide +kernel
theorem dX10_bound_106 : decode cX10_bound 106 = .ok (.iload 5, 2) := by decide +kernel
theorem dX10_bound_108 : decode cX10_bound 108 = .ok (.imul, 1) := by decide +kernel
theorem dX10_bound_109 : decode cX10_bound 109 = .ok (.iload 8, 2) := by decide +kernel
theorem dX10_bound_111 : decode cX10_bound 111 = .ok (.iadd, 1) := by decide +kernel
theorem dX10_bound_112 : decode cX10_bound 112 = .ok (.iaload, 1) := by decide +kernel
theorem dX10_bound_113 : decode cX10_bound 113 = .ok (.imul, 1) := by decide +kernel
theorem dX10_bound_114 : decode cX10_bound 114 = .ok (.if_icmp .le 7, 3) := by decide +kernel
theorem dX10_bound_117 : decode cX10_bound 117 = .ok (.iconst 1, 1) := by decide +kernel
theorem dX10_bound_118 : decode cX10_bound 118 = .ok (.goto 4, 3) := by decide +kernel
theorem dX10_bound_121 : decode cX10_bound 121 = .ok (.iconst 0, 1) := by decide +kernel
theorem dX10_bound_122 : decode cX10_bound 122 = .ok (.istore 9, 2) := by decide +kernel
theorem dX10_bound_124 : decode cX10_bound 124 = .ok (.iload 9, 2) := by decide +kernel
theorem dX10_bound_126 : decode cX10_bound 126 = .ok (.ifCond .eq 18, 3) := by decide +kernel
theorem dX10_bound_129 : decode cX10_bound 129 = .ok (.aload_n 0, 1) := by decide +kernel
theorem dX10_bound_130 : decode cX10_bound 130 = .ok (.getfield 13, 3) := by decide +kernel
theorem dX10_bound_133 : decode cX10_bound 133 = .ok (.iconst 4, 1) := by decide +kernel
theorem dX10_bound_134 : decode cX10_bound 134 = .ok (.iload 5, 2) := by decide +kernel
theorem dX10_bound_136 : decode cX10_bound 136 = .ok (.imul, 1) := by decide +kernel
theorem dX10_bound_137 : decode cX10_bound 137 = .ok (.iload 8, 2) := by decide +kernel
theorem dX10_bound_139 : decode cX10_bound 139 = .ok (.iadd, 1) := by decide +kernel
theorem dX10_bound_140 : decode cX10_bound 140 = .ok (.iaload, 1) := by decide +kernel
theorem dX10_bound_141 : decode cX10_bound 141 = .ok (.goto 5, 3) := by decide +kernel
theorem dX10_bound_144 : decode cX10_bound 144 = .ok (.iload 6, 2) := by decide +kernel
theorem dX10_bound_146 : decode cX10_bound 146 = .ok (.istore 6, 2) := by decide +kernel
theorem dX10_bound_148 : decode cX10_bound 148 = .ok (.iload 9, 2) := by decide +kernel
theorem dX10_bound_150 : decode cX10_bound 150 = .ok (.ifCond .eq 18, 3) := by decide +kernel
theorem dX10_bound_153 : decode cX10_bound 153 = .ok (.aload_n 0, 1) := by decide +kernel
theorem dX10_bound_154 : decode cX10_bound 154 = .ok (.getfield 16, 3) := by decide +kernel
theorem dX10_bound_157 : decode cX10_bound 157 = .ok (.iconst 4, 1) := by decide +kernel
theorem dX10_bound_158 : decode cX10_bound 158 = .ok (.iload 5, 2) := by decide +kernel
theorem dX10_bound_160 : decode cX10_bound 160 = .ok (.imul, 1) := by decide +kernel
theorem dX10_bound_161 : decode cX10_bound 161 = .ok (.iload 8, 2) := by decide +kernel
theorem dX10_bound_163 : decode cX10_bound 163 = .ok (.iadd, 1) := by decide +kernel
theorem dX10_bound_164 : decode cX10_bound 164 = .ok (.iaload, 1) := by decide +kernel
theorem dX10_bound_165 : decode cX10_bound 165 = .ok (.goto 5, 3) := by decide +kernel
theorem dX10_bound_168 : decode cX10_bound 168 = .ok (.iload 7, 2) := by decide +kernel
theorem dX10_bound_170 : decode cX10_bound 170 = .ok (.istore 7, 2) := by decide +kernel
theorem dX10_bound_172 : decode cX10_bound 172 = .ok (.iinc 8 1, 3) := by decide +kernel
theorem dX10_bound_175 : decode cX10_bound 175 = .ok (.goto (-103), 3) := by decide +kernel
theorem dX10_bound_178 : decode cX10_bound 178 = .ok (.iload 6, 2) := by decide +kernel
theorem dX10_bound_180 : decode cX10_bound 180 = .ok (.ifCond .ge 9, 3) := by decide +kernel
theorem dX10_bound_183 : decode cX10_bound 183 = .ok (.iload 6, 2) := by decide +kernel
theorem dX10_bound_185 : decode cX10_bound 185 = .ok (.ineg, 1) := by decide +kernel
theorem dX10_bound_186 : decode cX10_bound 186 = .ok (.goto 5, 3) := by decide +kernel
theorem dX10_bound_189 : decode cX10_bound 189 = .ok (.iload 6, 2) := by decide +kernel
theorem dX10_bound_191 : decode cX10_bound 191 = .ok (.istore 6, 2) := by decide +kernel
theorem dX10_bound_193 : decode cX10_bound 193 = .ok (.iload 6, 2) := by decide +kernel
theorem dX10_bound_195 : decode cX10_bound 195 = .ok (.iload 4, 2) := by decide +kernel
theorem dX10_bound_197 : decode cX10_bound 197 = .ok (.imul, 1) := by decide +kernel
theorem dX10_bound_198 : decode cX10_bound 198 = .ok (.iload_n 3, 1) := by decide +kernel
theorem dX10_bound_199 : decode cX10_bound 199 = .ok (.iload 7, 2) := by decide +kernel
theorem dX10_bound_201 : decode cX10_bound 201 = .ok (.imul, 1) := by decide +kernel
theorem dX10_bound_202 : decode cX10_bound 202 = .ok (.if_icmp .le 7, 3) := by decide +kernel
theorem dX10_bound_205 : decode cX10_bound 205 = .ok (.iconst 1, 1) := by decide +kernel
theorem dX10_bound_206 : decode cX10_bound 206 = .ok (.goto 4, 3) := by decide +kernel
theorem dX10_bound_209 : decode cX10_bound 209 = .ok (.iconst 0, 1) := by decide +kernel
theorem dX10_bound_210 : decode cX10_bound 210 = .ok (.istore 8, 2) := by decide +kernel
theorem dX10_bound_212 : decode cX10_bound 212 = .ok (.iload 8, 2) := by decide +kernel
theorem dX10_bound_214 : decode cX10_bound 214 = .ok (.ifCond .eq 8, 3) := by decide +kernel
theorem dX10_bound_217 : decode cX10_bound 217 = .ok (.iload 6, 2) := by decide +kernel
theorem dX10_bound_219 : decode cX10_bound 219 = .ok (.goto 4, 3) := by decide +kernel
theorem dX10_bound_222 : decode cX10_bound 222 = .ok (.iload_n 3, 1) := by decide +kernel
theorem dX10_bound_223 : decode cX10_bound 223 = .ok (.istore_n 3, 1) := by decide +kernel
theorem dX10_bound_224 : decode cX10_bound 224 = .ok (.iload 8, 2) := by decide +kernel
theorem dX10_bound_226 : decode cX10_bound 226 = .ok (.ifCond .eq 8, 3) := by decide +kernel
theorem dX10_bound_229 : decode cX10_bound 229 = .ok (.iload 7, 2) := by decide +kernel
theorem dX10_bound_231 : decode cX10_bound 231 = .ok (.goto 5, 3) := by decide +kernel
theorem dX10_bound_234 : decode cX10_bound 234 = .ok (.iload 4, 2) := by decide +kernel
theorem dX10_bound_236 : decode cX10_bound 236 = .ok (.istore 4, 2) := by decide +kernel
theorem dX10_bound_238 : decode cX10_bound 238 = .ok (.iinc 5 1, 3) := by decide +kernel
theorem dX10_bound_241 : decode cX10_bound 241 = .ok (.goto (-203), 3) := by decide +kernel
theorem dX10_bound_244 : decode cX10_bound 244 = .ok (.aload_n 0, 1) := by decide +kernel
theorem dX10_bound_245 : decode cX10_bound 245 = .ok (.bipush 53, 2) := by decide +kernel
theorem dX10_bound_247 : decode cX10_bound 247 = .ok (.iload_n 3, 1) := by decide +kernel
theorem dX10_bound_248 : decode cX10_bound 248 = .ok (.i2l, 1) := by decide +kernel
theorem dX10_bound_249 : decode cX10_bound 249 = .ok (.invokevirtual 76, 3) := by decide +kernel
theorem dX10_bound_252 : decode cX10_bound 252 = .ok (.aload_n 0, 1) := by decide +kernel
theorem dX10_bound_253 : decode cX10_bound 253 = .ok (.bipush 54, 2) := by decide +kernel
theorem dX10_bound_255 : decode cX10_bound 255 = .ok (.iload 4, 2) := by decide +kernel
theorem dX10_bound_257 : decode cX10_bound 257 = .ok (.i2l, 1) := by decide +kernel
theorem dX10_bound_258 : decode cX10_bound 258 = .ok (.invokevirtual 76, 3) := by decide +kernel
theorem dX10_bound_261 : decode cX10_bound 261 = .ok (.iconst 0, 1) := by decide +kernel
theorem dX10_bound_262 : decode cX10_bound 262 = .ok (.istore 5, 2) := by decide +kernel
theorem dX10_bound_264 : decode cX10_bound 264 = .ok (.iload 5, 2) := by decide +kernel
theorem dX10_bound_266 : decode cX10_bound 266 = .ok (.iload_n 1, 1) := by decide +kernel
theorem dX10_bound_267 : decode cX10_bound 267 = .ok (.if_icmp .ge 29, 3) := by decide +kernel
theorem dX10_bound_270 : decode cX10_bound 270 = .ok (.aload_n 0, 1) := by decide +kernel
theorem dX10_bound_271 : decode cX10_bound 271 = .ok (.bipush 53, 2) := by decide +kernel
theorem dX10_bound_273 : decode cX10_bound 273 = .ok (.aload_n 0, 1) := by decide +kernel
theorem dX10_bound_274 : decode cX10_bound 274 = .ok (.getfield 22, 3) := by decide +kernel
theorem dX10_bound_277 : decode cX10_bound 277 = .ok (.invokevirtual 80, 3) := by decide +kernel
theorem dX10_bound_280 : decode cX10_bound 280 = .ok (.aload_n 0, 1) := by decide +kernel
theorem dX10_bound_281 : decode cX10_bound 281 = .ok (.bipush 54, 2) := by decide +kernel
theorem dX10_bound_283 : decode cX10_bound 283 = .ok (.aload_n 0, 1) := by decide +kernel
theorem dX10_bound_284 : decode cX10_bound 284 = .ok (.getfield 26, 3) := by decide +kernel
theorem dX10_bound_287 : decode cX10_bound 287 = .ok (.invokevirtual 80, 3) := by decide +kernel
theorem dX10_bound_290 : decode cX10_bound 290 = .ok (.iinc 5 1, 3) := by decide +kernel
theorem dX10_bound_293 : decode cX10_bound 293 = .ok (.goto (-29), 3) := by decide +kernel
theorem dX10_bound_296 : decode cX10_bound 296 = .ok (.aload_n 0, 1) := by decide +kernel
theorem dX10_bound_297 : decode cX10_bound 297 = .ok (.bipush 53, 2) := by decide +kernel
theorem dX10_bound_299 : decode cX10_bound 299 = .ok (.aload_n 0, 1) := by decide +kernel
theorem dX10_bound_300 : decode cX10_bound 300 = .ok (.getfield 26, 3) := by decide +kernel
theorem dX10_bound_303 : decode cX10_bound 303 = .ok (.invokevirtual 80, 3) := by decide +kernel
theorem dX10_bound_306 : decode cX10_bound 306 = .ok (.aload_n 0, 1) := by decide +kernel
theorem dX10_bound_307 : decode cX10_bound 307 = .ok (.bipush 54, 2) := by decide +kernel
theorem dX10_bound_309 : decode cX10_bound 309 = .ok (.aload_n 0, 1) := by decide +kernel
theorem dX10_bound_310 : decode cX10_bound 310 = .ok (.getfield 26, 3) := by decide +kernel
theorem dX10_bound_313 : decode cX10_bound 313 = .ok (.aload_n 0, 1) := by decide +kernel
theorem dX10_bound_314 : decode cX10_bound 314 = .ok (.getfield 22, 3) := by decide +kernel
theorem dX10_bound_317 : decode cX10_bound 317 = .ok (.isub, 1) := by decide +kernel
theorem dX10_bound_318 : decode cX10_bound 318 = .ok (.invokevirtual 80, 3) := by decide +kernel
theorem dX10_bound_321 : decode cX10_bound 321 = .ok (.aload_n 0, 1) := by decide +kernel
theorem dX10_bound_322 : decode cX10_bound 322 = .ok (.iload_n 2, 1) := by decide +kernel
theorem dX10_bound_323 : decode cX10_bound 323 = .ok (.invokevirtual 190, 3) := by decide +kernel
theorem dX10_bound_326 : decode cX10_bound 326 = .ok (.lreturn, 1) := by decide +kernel
theorem dX10_best_0 : decode cX10_best 0 = .ok (.aload_n 0, 1) := by decide +kernel
theorem dX10_best_1 : decode cX10_best 1 = .ok (.iconst 0, 1) := by decide +kernel
theorem dX10_best_2 : decode cX10_best 2 = .ok (.putfield 56, 3) := by decide +kernel
theorem dX10_best_5 : decode cX10_best 5 = .ok (.aload_n 0, 1) := by decide +kernel
theorem dX10_best_6 : decode cX10_best 6 = .ok (.getfield 96, 3) := by decide +kernel
theorem dX10_best_9 : decode cX10_best 9 = .ok (.ireturn, 1) := by decide +kernel
set_option maxRecDepth 20000 in
theorem ggX10_count_X10_allActions : GoodIn wsX10_count wsX10_allActions := goodIn_r _ [8, 2, 9, 19, 20, 21, 22, 23, 24, 25, 26, 27, 28, 29, 30, 31, 32, 33, 34, 35, 36, 37, 38] rfl rfl
set_option maxRecDepth 20000 in
theorem gX10_count_X10_allActions : GoodIn wsX10_count (wsV RX10 135 RX10 yX10_allActions wsX10_allActions) := goodIn_app (goodIn_of _ (by decide +kernel)) ggX10_count_X10_allActions
set_option maxRecDepth 20000 in
theorem ggX10_count_X10_readyCount : GoodIn wsX10_count wsX10_readyCount := goodIn_r _ [13, 2, 9, 14, 15, 16, 7, 17, 18, 19, 20, 21, 22, 23, 24, 25, 26, 27, 28, 29, 30, 31, 32, 33, 34, 35, 36, 37, 38] rfl rfl
set_option maxRecDepth 20000 in
theorem gX10_count_X10_readyCount : GoodIn wsX10_count (wsV RX10 131 RX10 yX10_readyCount wsX10_readyCount) := goodIn_app (goodIn_of _ (by decide +kernel)) ggX10_count_X10_readyCount
theorem dX10_count_0 : decode cX10_count 0 = .ok (.aload_n 0, 1) := by decide +kernel
theorem dX10_count_1 : decode cX10_count 1 = .ok (.iconst 0, 1) := by decide +kernel
theorem dX10_count_2 : decode cX10_count 2 = .ok (.putfield 56, 3) := by decide +kernel
theorem dX10_count_5 : decode cX10_count 5 = .ok (.iload_n 1, 1) := by decide +kernel
theorem dX10_count_6 : decode cX10_count 6 = .ok (.ifCond .ne 10, 3) := by decide +kernel
theorem dX10_count_9 : decode cX10_count 9 = .ok (.aload_n 0, 1) := by decide +kernel
theorem dX10_count_10 : decode cX10_count 10 = .ok (.getfield 103, 3) := by decide +kernel
theorem dX10_count_13 : decode cX10_count 13 = .ok (.goto 40, 3) := by decide +kernel
theorem dX10_count_16 : decode cX10_count 16 = .ok (.iload_n 1, 1) := by decide +kernel
theorem dX10_count_17 : decode cX10_count 17 = .ok (.iconst 1, 1) := by decide +kernel
theorem dX10_count_18 : decode cX10_count 18 = .ok (.if_icmp .ne 10, 3) := by decide +kernel
theorem dX10_count_21 : decode cX10_count 21 = .ok (.aload_n 0, 1) := by decide +kernel
theorem dX10_count_22 : decode cX10_count 22 = .ok (.invokevirtual 135, 3) := by decide +kernel
theorem dX10_count_25 : decode cX10_count 25 = .ok (.goto 28, 3) := by decide +kernel
theorem dX10_count_28 : decode cX10_count 28 = .ok (.iload_n 1, 1) := by decide +kernel
theorem dX10_count_29 : decode cX10_count 29 = .ok (.iconst 2, 1) := by decide +kernel
theorem dX10_count_30 : decode cX10_count 30 = .ok (.if_icmp .ne 10, 3) := by decide +kernel
theorem dX10_count_33 : decode cX10_count 33 = .ok (.aload_n 0, 1) := by decide +kernel
theorem dX10_count_34 : decode cX10_count 34 = .ok (.getfield 100, 3) := by decide +kernel
theorem dX10_count_37 : decode cX10_count 37 = .ok (.goto 16, 3) := by decide +kernel
theorem dX10_count_40 : decode cX10_count 40 = .ok (.iload_n 1, 1) := by decide +kernel
theorem dX10_count_41 : decode cX10_count 41 = .ok (.iconst 3, 1) := by decide +kernel
theorem dX10_count_42 : decode cX10_count 42 = .ok (.if_icmp .ne 10, 3) := by decide +kernel
theorem dX10_count_45 : decode cX10_count 45 = .ok (.aload_n 0, 1) := by decide +kernel
theorem dX10_count_46 : decode cX10_count 46 = .ok (.invokevirtual 131, 3) := by decide +kernel
theorem dX10_count_49 : decode cX10_count 49 = .ok (.goto 4, 3) := by decide +kernel
theorem dX10_count_52 : decode cX10_count 52 = .ok (.iconst (-1), 1) := by decide +kernel
theorem dX10_count_53 : decode cX10_count 53 = .ok (.ireturn, 1) := by decide +kernel
