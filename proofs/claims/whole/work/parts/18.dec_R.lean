theorem dX10_init_0 : decode cX10_init 0 = .ok (.aload_n 0, 1) := by decide +kernel
theorem dX10_init_1 : decode cX10_init 1 = .ok (.invokespecial 1, 3) := by decide +kernel
theorem dX10_init_4 : decode cX10_init 4 = .ok (.aload_n 0, 1) := by decide +kernel
theorem dX10_init_5 : decode cX10_init 5 = .ok (.bipush 6, 2) := by decide +kernel
theorem dX10_init_7 : decode cX10_init 7 = .ok (.newarray .int, 2) := by decide +kernel
theorem dX10_init_9 : decode cX10_init 9 = .ok (.putfield 7, 3) := by decide +kernel
theorem dX10_init_12 : decode cX10_init 12 = .ok (.aload_n 0, 1) := by decide +kernel
theorem dX10_init_13 : decode cX10_init 13 = .ok (.bipush 24, 2) := by decide +kernel
theorem dX10_init_15 : decode cX10_init 15 = .ok (.newarray .int, 2) := by decide +kernel
theorem dX10_init_17 : decode cX10_init 17 = .ok (.putfield 13, 3) := by decide +kernel
theorem dX10_init_20 : decode cX10_init 20 = .ok (.aload_n 0, 1) := by decide +kernel
theorem dX10_init_21 : decode cX10_init 21 = .ok (.bipush 24, 2) := by decide +kernel
theorem dX10_init_23 : decode cX10_init 23 = .ok (.newarray .int, 2) := by decide +kernel
theorem dX10_init_25 : decode cX10_init 25 = .ok (.putfield 16, 3) := by decide +kernel
theorem dX10_init_28 : decode cX10_init 28 = .ok (.aload_n 0, 1) := by decide +kernel
theorem dX10_init_29 : decode cX10_init 29 = .ok (.sipush 144, 3) := by decide +kernel
theorem dX10_init_32 : decode cX10_init 32 = .ok (.newarray .int, 2) := by decide +kernel
theorem dX10_init_34 : decode cX10_init 34 = .ok (.putfield 19, 3) := by decide +kernel
theorem dX10_init_37 : decode cX10_init 37 = .ok (.aload_n 0, 1) := by decide +kernel
theorem dX10_init_38 : decode cX10_init 38 = .ok (.iconst 1, 1) := by decide +kernel
theorem dX10_init_39 : decode cX10_init 39 = .ok (.putfield 22, 3) := by decide +kernel
theorem dX10_init_42 : decode cX10_init 42 = .ok (.aload_n 0, 1) := by decide +kernel
theorem dX10_init_43 : decode cX10_init 43 = .ok (.iconst 2, 1) := by decide +kernel
theorem dX10_init_44 : decode cX10_init 44 = .ok (.putfield 26, 3) := by decide +kernel
theorem dX10_init_47 : decode cX10_init 47 = .ok (.aload_n 0, 1) := by decide +kernel
theorem dX10_init_48 : decode cX10_init 48 = .ok (.bipush 6, 2) := by decide +kernel
theorem dX10_init_50 : decode cX10_init 50 = .ok (.newarray .int, 2) := by decide +kernel
theorem dX10_init_52 : decode cX10_init 52 = .ok (.putfield 29, 3) := by decide +kernel
theorem dX10_init_55 : decode cX10_init 55 = .ok (.aload_n 0, 1) := by decide +kernel
theorem dX10_init_56 : decode cX10_init 56 = .ok (.bipush 6, 2) := by decide +kernel
theorem dX10_init_58 : decode cX10_init 58 = .ok (.newarray .int, 2) := by decide +kernel
theorem dX10_init_60 : decode cX10_init 60 = .ok (.putfield 32, 3) := by decide +kernel
theorem dX10_init_63 : decode cX10_init 63 = .ok (.aload_n 0, 1) := by decide +kernel
theorem dX10_init_64 : decode cX10_init 64 = .ok (.bipush 6, 2) := by decide +kernel
theorem dX10_init_66 : decode cX10_init 66 = .ok (.newarray .int, 2) := by decide +kernel
theorem dX10_init_68 : decode cX10_init 68 = .ok (.putfield 35, 3) := by decide +kernel
theorem dX10_init_71 : decode cX10_init 71 = .ok (.aload_n 0, 1) := by decide +kernel
theorem dX10_init_72 : decode cX10_init 72 = .ok (.sipush 5120, 3) := by decide +kernel
theorem dX10_init_75 : decode cX10_init 75 = .ok (.newarray .int, 2) := by decide +kernel
theorem dX10_init_77 : decode cX10_init 77 = .ok (.putfield 38, 3) := by decide +kernel
theorem dX10_init_80 : decode cX10_init 80 = .ok (.aload_n 0, 1) := by decide +kernel
theorem dX10_init_81 : decode cX10_init 81 = .ok (.bipush 80, 2) := by decide +kernel
theorem dX10_init_83 : decode cX10_init 83 = .ok (.newarray .int, 2) := by decide +kernel
theorem dX10_init_85 : decode cX10_init 85 = .ok (.putfield 41, 3) := by decide +kernel
theorem dX10_init_88 : decode cX10_init 88 = .ok (.aload_n 0, 1) := by decide +kernel
theorem dX10_init_89 : decode cX10_init 89 = .ok (.bipush 80, 2) := by decide +kernel
theorem dX10_init_91 : decode cX10_init 91 = .ok (.newarray .int, 2) := by decide +kernel
theorem dX10_init_93 : decode cX10_init 93 = .ok (.putfield 44, 3) := by decide +kernel
theorem dX10_init_96 : decode cX10_init 96 = .ok (.aload_n 0, 1) := by decide +kernel
theorem dX10_init_97 : decode cX10_init 97 = .ok (.bipush 30, 2) := by decide +kernel
theorem dX10_init_99 : decode cX10_init 99 = .ok (.newarray .int, 2) := by decide +kernel
theorem dX10_init_101 : decode cX10_init 101 = .ok (.dup, 1) := by decide +kernel
theorem dX10_init_102 : decode cX10_init 102 = .ok (.iconst 0, 1) := by decide +kernel
theorem dX10_init_103 : decode cX10_init 103 = .ok (.iconst 2, 1) := by decide +kernel
theorem dX10_init_104 : decode cX10_init 104 = .ok (.iastore, 1) := by decide +kernel
theorem dX10_init_105 : decode cX10_init 105 = .ok (.dup, 1) := by decide +kernel
theorem dX10_init_106 : decode cX10_init 106 = .ok (.iconst 1, 1) := by decide +kernel
theorem dX10_init_107 : decode cX10_init 107 = .ok (.iconst 3, 1) := by decide +kernel
theorem dX10_init_108 : decode cX10_init 108 = .ok (.iastore, 1) := by decide +kernel
theorem dX10_init_109 : decode cX10_init 109 = .ok (.dup, 1) := by decide +kernel
theorem dX10_init_110 : decode cX10_init 110 = .ok (.iconst 2, 1) := by decide +kernel
theorem dX10_init_111 : decode cX10_init 111 = .ok (.iconst 5, 1) := by decide +kernel
theorem dX10_init_112 : decode cX10_init 112 = .ok (.iastore, 1) := by decide +kernel
theorem dX10_init_113 : decode cX10_init 113 = .ok (.dup, 1) := by decide +kernel
theorem dX10_init_114 : decode cX10_init 114 = .ok (.iconst 3, 1) := by decide +kernel
theorem dX10_init_115 : decode cX10_init 115 = .ok (.bipush 7, 2) := by decide +kernel
theorem dX10_init_117 : decode cX10_init 117 = .ok (.iastore, 1) := by decide +kernel
theorem dX10_init_118 : decode cX10_init 118 = .ok (.dup, 1) := by decide +kernel
theorem dX10_init_119 : decode cX10_init 119 = .ok (.iconst 4, 1) := by decide +kernel
theorem dX10_init_120 : decode cX10_init 120 = .ok (.bipush 11, 2) := by decide +kernel
theorem dX10_init_122 : decode cX10_init 122 = .ok (.iastore, 1) := by decide +kernel
theorem dX10_init_123 : decode cX10_init 123 = .ok (.dup, 1) := by decide +kernel
theorem dX10_init_124 : decode cX10_init 124 = .ok (.iconst 5, 1) := by decide +kernel
theorem dX10_init_125 : decode cX10_init 125 = .ok (.bipush 13, 2) := by decide +kernel
theorem dX10_init_127 : decode cX10_init 127 = .ok (.iastore, 1) := by decide +kernel
theorem dX10_init_128 : decode cX10_init 128 = .ok (.dup, 1) := by decide +kernel
theorem dX10_init_129 : decode cX10_init 129 = .ok (.bipush 6, 2) := by decide +kernel
theorem dX10_init_131 : decode cX10_init 131 = .ok (.bipush 17, 2) := by decide +kernel
theorem dX10_init_133 : decode cX10_init 133 = .ok (.iastore, 1) := by decide +kernel
theorem dX10_init_134 : decode cX10_init 134 = .ok (.dup, 1) := by decide +kernel
theorem dX10_init_135 : decode cX10_init 135 = .ok (.bipush 7, 2) := by decide +kernel
theorem dX10_init_137 : decode cX10_init 137 = .ok (.bipush 19, 2) := by decide +kernel
theorem dX10_init_139 : decode cX10_init 139 = .ok (.iastore, 1) := by decide +kernel
theorem dX10_init_140 : decode cX10_init 140 = .ok (.dup, 1) := by decide +kernel
theorem dX10_init_141 : decode cX10_init 141 = .ok (.bipush 8, 2) := by decide +kernel
theorem dX10_init_143 : decode cX10_init 143 = .ok (.bipush 23, 2) := by decide +kernel
theorem dX10_init_145 : decode cX10_init 145 = .ok (.iastore, 1) := by decide +kernel
theorem dX10_init_146 : decode cX10_init 146 = .ok (.dup, 1) := by decide +kernel
theorem dX10_init_147 : decode cX10_init 147 = .ok (.bipush 9, 2) := by decide +kernel
theorem dX10_init_149 : decode cX10_init 149 = .ok (.bipush 29, 2) := by decide +kernel
theorem dX10_init_151 : decode cX10_init 151 = .ok (.iastore, 1) := by decide +kernel
theorem dX10_init_152 : decode cX10_init 152 = .ok (.dup, 1) := by decide +kernel
theorem dX10_init_153 : decode cX10_init 153 = .ok (.bipush 10, 2) := by decide +kernel
theorem dX10_init_155 : decode cX10_init 155 = .ok (.bipush 31, 2) := by decide +kernel
theorem dX10_init_157 : decode cX10_init 157 = .ok (.iastore, 1) := by decide +kernel
theorem dX10_init_158 : decode cX10_init 158 = .ok (.dup, 1) := by decide +kernel
theorem dX10_init_159 : decode cX10_init 159 = .ok (.bipush 11, 2) := by decide +kernel
theorem dX10_init_161 : decode cX10_init 161 = .ok (.bipush 37, 2) := by decide +kernel
theorem dX10_init_163 : decode cX10_init 163 = .ok (.iastore, 1) := by decide +kernel
theorem dX10_init_164 : decode cX10_init 164 = .ok (.dup, 1) := by decide +kernel
theorem dX10_init_165 : decode cX10_init 165 = .ok (.bipush 12, 2) := by decide +kernel
theorem dX10_init_167 : decode cX10_init 167 = .ok (.bipush 41, 2) := by decide +kernel
theorem dX10_init_169 : decode cX10_init 169 = .ok (.iastore, 1) := by decide +kernel
theorem dX10_init_170 : decode cX10_init 170 = .ok (.dup, 1) := by decide +kernel
theorem dX10_init_171 : decode cX10_init 171 = .ok (.bipush 13, 2) := by decide +kernel
theorem dX10_init_173 : decode cX10_init 173 = .ok (.bipush 43, 2) := by decide +kernel
theorem dX10_init_175 : decode cX10_init 175 = .ok (.iastore, 1) := by decide +kernel
theorem dX10_init_176 : decode cX10_init 176 = .ok (.dup, 1) := by decide +kernel
theorem dX10_init_177 : decode cX10_init 177 = .ok (.bipush 14, 2) := by decide +kernel
theorem dX10_init_179 : decode cX10_init 179 = .ok (.bipush 47, 2) := by decide +kernel
theorem dX10_init_181 : decode cX10_init 181 = .ok (.iastore, 1) := by decide +kernel
theorem dX10_init_182 : decode cX10_init 182 = .ok (.dup, 1) := by decide +kernel
theorem dX10_init_183 : decode cX10_init 183 = .ok (.bipush 15, 2) := by decide +kernel
theorem dX10_init_185 : decode cX10_init 185 = .ok (.bipush 53, 2) := by decide +kernel
theorem dX10_init_187 : decode cX10_init 187 = .ok (.iastore, 1) := by decide +kernel
theorem dX10_init_188 : decode cX10_init 188 = .ok (.dup, 1) := by decide +kernel
theorem dX10_init_189 : decode cX10_init 189 = .ok (.bipush 16, 2) := by decide +kernel
theorem dX10_init_191 : decode cX10_init 191 = .ok (.bipush 59, 2) := by decide +kernel
theorem dX10_init_193 : decode cX10_init 193 = .ok (.iastore, 1) := by decide +kernel
theorem dX10_init_194 : decode cX10_init 194 = .ok (.dup, 1) := by decide +kernel
theorem dX10_init_195 : decode cX10_init 195 = .ok (.bipush 17, 2) := by decide +kernel
theorem dX10_init_197 : decode cX10_init 197 = .ok (.bipush 61, 2) := by decide +kernel
theorem dX10_init_199 : decode cX10_init 199 = .ok (.iastore, 1) := by decide +kernel
theorem dX10_init_200 : decode cX10_init 200 = .ok (.dup, 1) := by decide +kernel
theorem dX10_init_201 : decode cX10_init 201 = .ok (.bipush 18, 2) := by decide +kernel
theorem dX10_init_203 : decode cX10_init 203 = .ok (.bipush 67, 2) := by decide +kernel
theorem dX10_init_205 : decode cX10_init 205 = .ok (.iastore, 1) := by decide +kernel
theorem dX10_init_206 : decode cX10_init 206 = .ok (.dup, 1) := by decide +kernel
theorem dX10_init_207 : decode cX10_init 207 = .ok (.bipush 19, 2) := by decide +kernel
theorem dX10_init_209 : decode cX10_init 209 = .ok (.bipush 71, 2) := by decide +kernel
theorem dX10_init_211 : decode cX10_init 211 = .ok (.iastore, 1) := by decide +kernel
theorem dX10_init_212 : decode cX10_init 212 = .ok (.dup, 1) := by decide +kernel
theorem dX10_init_213 : decode cX10_init 213 = .ok (.bipush 20, 2) := by decide +kernel
theorem dX10_init_215 : decode cX10_init 215 = .ok (.bipush 73, 2) := by decide +kernel
theorem dX10_init_217 : decode cX10_init 217 = .ok (.iastore, 1) := by decide +kernel
theorem dX10_init_218 : decode cX10_init 218 = .ok (.dup, 1) := by decide +kernel
theorem dX10_init_219 : decode cX10_init 219 = .ok (.bipush 21, 2) := by decide +kernel
theorem dX10_init_221 : decode cX10_init 221 = .ok (.bipush 79, 2) := by decide +kernel
theorem dX10_init_223 : decode cX10_init 223 = .ok (.iastore, 1) := by decide +kernel
theorem dX10_init_224 : decode cX10_init 224 = .ok (.dup, 1) := by decide +kernel
theorem dX10_init_225 : decode cX10_init 225 = .ok (.bipush 22, 2) := by decide +kernel
theorem dX10_init_227 : decode cX10_init 227 = .ok (.bipush 83, 2) := by decide +kernel
theorem dX10_init_229 : decode cX10_init 229 = .ok (.iastore, 1) := by decide +kernel
theorem dX10_init_230 : decode cX10_init 230 = .ok (.dup, 1) := by decide +kernel
theorem dX10_init_231 : decode cX10_init 231 = .ok (.bipush 23, 2) := by decide +kernel
theorem dX10_init_233 : decode cX10_init 233 = .ok (.bipush 89, 2) := by decide +kernel
theorem dX10_init_235 : decode cX10_init 235 = .ok (.iastore, 1) := by decide +kernel
theorem dX10_init_236 : decode cX10_init 236 = .ok (.dup, 1) := by decide +kernel
theorem dX10_init_237 : decode cX10_init 237 = .ok (.bipush 24, 2) := by decide +kernel
theorem dX10_init_239 : decode cX10_init 239 = .ok (.bipush 97, 2) := by decide +kernel
theorem dX10_init_241 : decode cX10_init 241 = .ok (.iastore, 1) := by decide +kernel
theorem dX10_init_242 : decode cX10_init 242 = .ok (.dup, 1) := by decide +kernel
theorem dX10_init_243 : decode cX10_init 243 = .ok (.bipush 25, 2) := by decide +kernel
theorem dX10_init_245 : decode cX10_init 245 = .ok (.bipush 101, 2) := by decide +kernel
theorem dX10_init_247 : decode cX10_init 247 = .ok (.iastore, 1) := by decide +kernel
theorem dX10_init_248 : decode cX10_init 248 = .ok (.dup, 1) := by decide +kernel
theorem dX10_init_249 : decode cX10_init 249 = .ok (.bipush 26, 2) := by decide +kernel
theorem dX10_init_251 : decode cX10_init 251 = .ok (.bipush 103, 2) := by decide +kernel
theorem dX10_init_253 : decode cX10_init 253 = .ok (.iastore, 1) := by decide +kernel
theorem dX10_init_254 : decode cX10_init 254 = .ok (.dup, 1) := by decide +kernel
theorem dX10_init_255 : decode cX10_init 255 = .ok (.bipush 27, 2) := by decide +kernel
theorem dX10_init_257 : decode cX10_init 257 = .ok (.bipush 107, 2) := by decide +kernel
theorem dX10_init_259 : decode cX10_init 259 = .ok (.iastore, 1) := by decide +kernel
theorem dX10_init_260 : decode cX10_init 260 = .ok (.dup, 1) := by decide +kernel
theorem dX10_init_261 : decode cX10_init 261 = .ok (.bipush 28, 2) := by decide +kernel
theorem dX10_init_263 : decode cX10_init 263 = .ok (.bipush 109, 2) := by decide +kernel
theorem dX10_init_265 : decode cX10_init 265 = .ok (.iastore, 1) := by decide +kernel
theorem dX10_init_266 : decode cX10_init 266 = .ok (.dup, 1) := by decide +kernel
theorem dX10_init_267 : decode cX10_init 267 = .ok (.bipush 29, 2) := by decide +kernel
theorem dX10_init_269 : decode cX10_init 269 = .ok (.bipush 113, 2) := by decide +kernel
theorem dX10_init_271 : decode cX10_init 271 = .ok (.iastore, 1) := by decide +kernel
theorem dX10_init_272 : decode cX10_init 272 = .ok (.putfield 47, 3) := by decide +kernel
theorem dX10_init_275 : decode cX10_init 275 = .ok (.aload_n 0, 1) := by decide +kernel
theorem dX10_init_276 : decode cX10_init 276 = .ok (.bipush 30, 2) := by decide +kernel
theorem dX10_init_278 : decode cX10_init 278 = .ok (.newarray .int, 2) := by decide +kernel
theorem dX10_init_280 : decode cX10_init 280 = .ok (.putfield 50, 3) := by decide +kernel
theorem dX10_init_283 : decode cX10_init 283 = .ok (.aload_n 0, 1) := by decide +kernel
theorem dX10_init_284 : decode cX10_init 284 = .ok (.bipush 30, 2) := by decide +kernel
theorem dX10_init_286 : decode cX10_init 286 = .ok (.newarray .int, 2) := by decide +kernel
theorem dX10_init_288 : decode cX10_init 288 = .ok (.putfield 53, 3) := by decide +kernel
theorem dX10_init_291 : decode cX10_init 291 = .ok (.return_, 1) := by decide +kernel
theorem dX10_in_0 : decode cX10_in 0 = .ok (.lload_n 0, 1) := by decide +kernel
theorem dX10_in_1 : decode cX10_in 1 = .ok (.lload_n 2, 1) := by decide +kernel
theorem dX10_in_2 : decode cX10_in 2 = .ok (.lcmp, 1) := by decide +kernel
theorem dX10_in_3 : decode cX10_in 3 = .ok (.ifCond .lt 14, 3) := by decide +kernel
theorem dX10_in_6 : decode cX10_in 6 = .ok (.lload_n 0, 1) := by decide +kernel
theorem dX10_in_7 : decode cX10_in 7 = .ok (.lload 4, 2) := by decide +kernel
theorem dX10_in_9 : decode cX10_in 9 = .ok (.lcmp, 1) := by decide +kernel
theorem dX10_in_10 : decode cX10_in 10 = .ok (.ifCond .gt 7, 3) := by decide +kernel
theorem dX10_in_13 : decode cX10_in 13 = .ok (.iconst 1, 1) := by decide +kernel
theorem dX10_in_14 : decode cX10_in 14 = .ok (.goto 4, 3) := by decide +kernel
theorem dX10_in_17 : decode cX10_in 17 = .ok (.iconst 0, 1) := by decide +kernel
theorem dX10_in_18 : decode cX10_in 18 = .ok (.ireturn, 1) := by decide +kernel
theorem dX10_setSmall_0 : decode cX10_setSmall 0 = .ok (.aload_n 0, 1) := by decide +kernel
theorem dX10_setSmall_1 : decode cX10_setSmall 1 = .ok (.getfield 44, 3) := by decide +kernel
theorem dX10_setSmall_4 : decode cX10_setSmall 4 = .ok (.iload_n 1, 1) := by decide +kernel
theorem dX10_setSmall_5 : decode cX10_setSmall 5 = .ok (.lload_n 2, 1) := by decide +kernel
theorem dX10_setSmall_6 : decode cX10_setSmall 6 = .ok (.lconst 0, 1) := by decide +kernel
theorem dX10_setSmall_7 : decode cX10_setSmall 7 = .ok (.lcmp, 1) := by decide +kernel
theorem dX10_setSmall_8 : decode cX10_setSmall 8 = .ok (.ifCond .ge 7, 3) := by decide +kernel
theorem dX10_setSmall_11 : decode cX10_setSmall 11 = .ok (.iconst (-1), 1) := by decide +kernel
theorem dX10_setSmall_12 : decode cX10_setSmall 12 = .ok (.goto 14, 3) := by decide +kernel
theorem dX10_setSmall_15 : decode cX10_setSmall 15 = .ok (.lload_n 2, 1) := by decide +kernel
theorem dX10_setSmall_16 : decode cX10_setSmall 16 = .ok (.lconst 0, 1) := by decide +kernel
theorem dX10_setSmall_17 : decode cX10_setSmall 17 = .ok (.lcmp, 1) := by decide +kernel
theorem dX10_setSmall_18 : decode cX10_setSmall 18 = .ok (.ifCond .le 7, 3) := by decide +kernel
theorem dX10_setSmall_21 : decode cX10_setSmall 21 = .ok (.iconst 1, 1) := by decide +kernel
theorem dX10_setSmall_22 : decode cX10_setSmall 22 = .ok (.goto 4, 3) := by decide +kernel
theorem dX10_setSmall_25 : decode cX10_setSmall 25 = .ok (.iconst 0, 1) := by decide +kernel
theorem dX10_setSmall_26 : decode cX10_setSmall 26 = .ok (.iastore, 1) := by decide +kernel
theorem dX10_setSmall_27 : decode cX10_setSmall 27 = .ok (.lload_n 2, 1) := by decide +kernel
theorem dX10_setSmall_28 : decode cX10_setSmall 28 = .ok (.lconst 0, 1) := by decide +kernel
theorem dX10_setSmall_29 : decode cX10_setSmall 29 = .ok (.lcmp, 1) := by decide +kernel
theorem dX10_setSmall_30 : decode cX10_setSmall 30 = .ok (.ifCond .ge 8, 3) := by decide +kernel
theorem dX10_setSmall_33 : decode cX10_setSmall 33 = .ok (.lload_n 2, 1) := by decide +kernel
theorem dX10_setSmall_34 : decode cX10_setSmall 34 = .ok (.lneg, 1) := by decide +kernel
theorem dX10_setSmall_35 : decode cX10_setSmall 35 = .ok (.goto 4, 3) := by decide +kernel
theorem dX10_setSmall_38 : decode cX10_setSmall 38 = .ok (.lload_n 2, 1) := by decide +kernel
theorem dX10_setSmall_39 : decode cX10_setSmall 39 = .ok (.lstore 4, 2) := by decide +kernel
theorem dX10_setSmall_41 : decode cX10_setSmall 41 = .ok (.iconst 0, 1) := by decide +kernel
theorem dX10_setSmall_42 : decode cX10_setSmall 42 = .ok (.istore 6, 2) := by decide +kernel
theorem dX10_setSmall_44 : decode cX10_setSmall 44 = .ok (.lload 4, 2) := by decide +kernel
theorem dX10_setSmall_46 : decode cX10_setSmall 46 = .ok (.lconst 0, 1) := by decide +kernel
theorem dX10_setSmall_47 : decode cX10_setSmall 47 = .ok (.lcmp, 1) := by decide +kernel
theorem dX10_setSmall_48 : decode cX10_setSmall 48 = .ok (.ifCond .le 35, 3) := by decide +kernel
theorem dX10_setSmall_51 : decode cX10_setSmall 51 = .ok (.aload_n 0, 1) := by decide +kernel
theorem dX10_setSmall_52 : decode cX10_setSmall 52 = .ok (.getfield 38, 3) := by decide +kernel
theorem dX10_setSmall_55 : decode cX10_setSmall 55 = .ok (.bipush 64, 2) := by decide +kernel
theorem dX10_setSmall_57 : decode cX10_setSmall 57 = .ok (.iload_n 1, 1) := by decide +kernel
theorem dX10_setSmall_58 : decode cX10_setSmall 58 = .ok (.imul, 1) := by decide +kernel
theorem dX10_setSmall_59 : decode cX10_setSmall 59 = .ok (.iload 6, 2) := by decide +kernel
theorem dX10_setSmall_61 : decode cX10_setSmall 61 = .ok (.iadd, 1) := by decide +kernel
theorem dX10_setSmall_62 : decode cX10_setSmall 62 = .ok (.lload 4, 2) := by decide +kernel
theorem dX10_setSmall_64 : decode cX10_setSmall 64 = .ok (.ldc2_w 59, 3) := by decide +kernel
theorem dX10_setSmall_67 : decode cX10_setSmall 67 = .ok (.land, 1) := by decide +kernel
theorem dX10_setSmall_68 : decode cX10_setSmall 68 = .ok (.l2i, 1) := by decide +kernel
theorem dX10_setSmall_69 : decode cX10_setSmall 69 = .ok (.iastore, 1) := by decide +kernel
theorem dX10_setSmall_70 : decode cX10_setSmall 70 = .ok (.lload 4, 2) := by decide +kernel
theorem dX10_setSmall_72 : decode cX10_setSmall 72 = .ok (.bipush 28, 2) := by decide +kernel
theorem dX10_setSmall_74 : decode cX10_setSmall 74 = .ok (.lshr, 1) := by decide +kernel
theorem dX10_setSmall_75 : decode cX10_setSmall 75 = .ok (.lstore 4, 2) := by decide +kernel
theorem dX10_setSmall_77 : decode cX10_setSmall 77 = .ok (.iinc 6 1, 3) := by decide +kernel
theorem dX10_setSmall_80 : decode cX10_setSmall 80 = .ok (.goto (-36), 3) := by decide +kernel
theorem dX10_setSmall_83 : decode cX10_setSmall 83 = .ok (.aload_n 0, 1) := by decide +kernel
theorem dX10_setSmall_84 : decode cX10_setSmall 84 = .ok (.getfield 41, 3) := by decide +kernel
theorem dX10_setSmall_87 : decode cX10_setSmall 87 = .ok (.iload_n 1, 1) := by decide +kernel
theorem dX10_setSmall_88 : decode cX10_setSmall 88 = .ok (.iload 6, 2) := by decide +kernel
theorem dX10_setSmall_90 : decode cX10_setSmall 90 = .ok (.iastore, 1) := by decide +kernel
theorem dX10_setSmall_91 : decode cX10_setSmall 91 = .ok (.return_, 1) := by decide +kernel
theorem dX10_copy_0 : decode cX10_copy 0 = .ok (.aload_n 0, 1) := by decide +kernel
theorem dX10_copy_1 : decode cX10_copy 1 = .ok (.getfield 44, 3) := by decide +kernel
theorem dX10_copy_4 : decode cX10_copy 4 = .ok (.iload_n 2, 1) := by decide +kernel
theorem dX10_copy_5 : decode cX10_copy 5 = .ok (.aload_n 0, 1) := by decide +kernel
theorem dX10_copy_6 : decode cX10_copy 6 = .ok (.getfield 44, 3) := by decide +kernel
theorem dX10_copy_9 : decode cX10_copy 9 = .ok (.iload_n 1, 1) := by decide +kernel
theorem dX10_copy_10 : decode cX10_copy 10 = .ok (.iaload, 1) := by decide +kernel
theorem dX10_copy_11 : decode cX10_copy 11 = .ok (.iastore, 1) := by decide +kernel
theorem dX10_copy_12 : decode cX10_copy 12 = .ok (.aload_n 0, 1) := by decide +kernel
theorem dX10_copy_13 : decode cX10_copy 13 = .ok (.getfield 41, 3) := by decide +kernel
theorem dX10_copy_16 : decode cX10_copy 16 = .ok (.iload_n 2, 1) := by decide +kernel
theorem dX10_copy_17 : decode cX10_copy 17 = .ok (.aload_n 0, 1) := by decide +kernel
theorem dX10_copy_18 : decode cX10_copy 18 = .ok (.getfield 41, 3) := by decide +kernel
theorem dX10_copy_21 : decode cX10_copy 21 = .ok (.iload_n 1, 1) := by decide +kernel
theorem dX10_copy_22 : decode cX10_copy 22 = .ok (.iaload, 1) := by decide +kernel
theorem dX10_copy_23 : decode cX10_copy 23 = .ok (.iastore, 1) := by decide +kernel
theorem dX10_copy_24 : decode cX10_copy 24 = .ok (.iconst 0, 1) := by decide +kernel
theorem dX10_copy_25 : decode cX10_copy 25 = .ok (.istore_n 3, 1) := by decide +kernel
theorem dX10_copy_26 : decode cX10_copy 26 = .ok (.iload_n 3, 1) := by decide +kernel
theorem dX10_copy_27 : decode cX10_copy 27 = .ok (.aload_n 0, 1) := by decide +kernel
theorem dX10_copy_28 : decode cX10_copy 28 = .ok (.getfield 41, 3) := by decide +kernel
theorem dX10_copy_31 : decode cX10_copy 31 = .ok (.iload_n 1, 1) := by decide +kernel
theorem dX10_copy_32 : decode cX10_copy 32 = .ok (.iaload, 1) := by decide +kernel
theorem dX10_copy_33 : decode cX10_copy 33 = .ok (.if_icmp .ge 31, 3) := by decide +kernel
theorem dX10_copy_36 : decode cX10_copy 36 = .ok (.aload_n 0, 1) := by decide +kernel
theorem dX10_copy_37 : decode cX10_copy 37 = .ok (.getfield 38, 3) := by decide +kernel
theorem dX10_copy_40 : decode cX10_copy 40 = .ok (.bipush 64, 2) := by decide +kernel
theorem dX10_copy_42 : decode cX10_copy 42 = .ok (.iload_n 2, 1) := by decide +kernel
theorem dX10_copy_43 : decode cX10_copy 43 = .ok (.imul, 1) := by decide +kernel
theorem dX10_copy_44 : decode cX10_copy 44 = .ok (.iload_n 3, 1) := by decide +kernel
theorem dX10_copy_45 : decode cX10_copy 45 = .ok (.iadd, 1) := by decide +kernel
theorem dX10_copy_46 : decode cX10_copy 46 = .ok (.aload_n 0, 1) := by decide +kernel
theorem dX10_copy_47 : decode cX10_copy 47 = .ok (.getfield 38, 3) := by decide +kernel
theorem dX10_copy_50 : decode cX10_copy 50 = .ok (.bipush 64, 2) := by decide +kernel
theorem dX10_copy_52 : decode cX10_copy 52 = .ok (.iload_n 1, 1) := by decide +kernel
theorem dX10_copy_53 : decode cX10_copy 53 = .ok (.imul, 1) := by decide +kernel
theorem dX10_copy_54 : decode cX10_copy 54 = .ok (.iload_n 3, 1) := by decide +kernel
theorem dX10_copy_55 : decode cX10_copy 55 = .ok (.iadd, 1) := by decide +kernel
theorem dX10_copy_56 : decode cX10_copy 56 = .ok (.iaload, 1) := by decide +kernel
theorem dX10_copy_57 : decode cX10_copy 57 = .ok (.iastore, 1) := by decide +kernel
theorem dX10_copy_58 : decode cX10_copy 58 = .ok (.iinc 3 1, 3) := by decide +kernel
theorem dX10_copy_61 : decode cX10_copy 61 = .ok (.goto (-35), 3) := by decide +kernel
theorem dX10_copy_64 : decode cX10_copy 64 = .ok (.return_, 1) := by decide +kernel
theorem dX10_compareSizes_0 : decode cX10_compareSizes 0 = .ok (.aload_n 0, 1) := by decide +kernel
theorem dX10_compareSizes_1 : decode cX10_compareSizes 1 = .ok (.getfield 41, 3) := by decide +kernel
theorem dX10_compareSizes_4 : decode cX10_compareSizes 4 = .ok (.iload_n 1, 1) := by decide +kernel
theorem dX10_compareSizes_5 : decode cX10_compareSizes 5 = .ok (.iaload, 1) := by decide +kernel
theorem dX10_compareSizes_6 : decode cX10_compareSizes 6 = .ok (.aload_n 0, 1) := by decide +kernel
theorem dX10_compareSizes_7 : decode cX10_compareSizes 7 = .ok (.getfield 41, 3) := by decide +kernel
theorem dX10_compareSizes_10 : decode cX10_compareSizes 10 = .ok (.iload_n 2, 1) := by decide +kernel
theorem dX10_compareSizes_11 : decode cX10_compareSizes 11 = .ok (.iaload, 1) := by decide +kernel
theorem dX10_compareSizes_12 : decode cX10_compareSizes 12 = .ok (.if_icmp .eq 24, 3) := by decide +kernel
theorem dX10_compareSizes_15 : decode cX10_compareSizes 15 = .ok (.aload_n 0, 1) := by decide +kernel
theorem dX10_compareSizes_16 : decode cX10_compareSizes 16 = .ok (.getfield 41, 3) := by decide +kernel
theorem dX10_compareSizes_19 : decode cX10_compareSizes 19 = .ok (.iload_n 1, 1) := by decide +kernel
theorem dX10_compareSizes_20 : decode cX10_compareSizes 20 = .ok (.iaload, 1) := by decide +kernel
theorem dX10_compareSizes_21 : decode cX10_compareSizes 21 = .ok (.aload_n 0, 1) := by decide +kernel
theorem dX10_compareSizes_22 : decode cX10_compareSizes 22 = .ok (.getfield 41, 3) := by decide +kernel
theorem dX10_compareSizes_25 : decode cX10_compareSizes 25 = .ok (.iload_n 2, 1) := by decide +kernel
theorem dX10_compareSizes_26 : decode cX10_compareSizes 26 = .ok (.iaload, 1) := by decide +kernel
theorem dX10_compareSizes_27 : decode cX10_compareSizes 27 = .ok (.if_icmp .ge 7, 3) := by decide +kernel
theorem dX10_compareSizes_30 : decode cX10_compareSizes 30 = .ok (.iconst (-1), 1) := by decide +kernel
theorem dX10_compareSizes_31 : decode cX10_compareSizes 31 = .ok (.goto 4, 3) := by decide +kernel
theorem dX10_compareSizes_34 : decode cX10_compareSizes 34 = .ok (.iconst 1, 1) := by decide +kernel
theorem dX10_compareSizes_35 : decode cX10_compareSizes 35 = .ok (.ireturn, 1) := by decide +kernel
theorem dX10_compareSizes_36 : decode cX10_compareSizes 36 = .ok (.aload_n 0, 1) := by decide +kernel
theorem dX10_compareSizes_37 : decode cX10_compareSizes 37 = .ok (.getfield 41, 3) := by decide +kernel
theorem dX10_compareSizes_40 : decode cX10_compareSizes 40 = .ok (.iload_n 1, 1) := by decide +kernel
theorem dX10_compareSizes_41 : decode cX10_compareSizes 41 = .ok (.iaload, 1) := by decide +kernel
theorem dX10_compareSizes_42 : decode cX10_compareSizes 42 = .ok (.iconst 1, 1) := by decide +kernel
theorem dX10_compareSizes_43 : decode cX10_compareSizes 43 = .ok (.isub, 1) := by decide +kernel
theorem dX10_compareSizes_44 : decode cX10_compareSizes 44 = .ok (.istore_n 3, 1) := by decide +kernel
theorem dX10_compareSizes_45 : decode cX10_compareSizes 45 = .ok (.iload_n 3, 1) := by decide +kernel
theorem dX10_compareSizes_46 : decode cX10_compareSizes 46 = .ok (.ifCond .lt 34, 3) := by decide +kernel
theorem dX10_compareSizes_49 : decode cX10_compareSizes 49 = .ok (.aload_n 0, 1) := by decide +kernel
theorem dX10_compareSizes_50 : decode cX10_compareSizes 50 = .ok (.getfield 38, 3) := by decide +kernel
theorem dX10_compareSizes_53 : decode cX10_compareSizes 53 = .ok (.bipush 64, 2) := by decide +kernel
theorem dX10_compareSizes_55 : decode cX10_compareSizes 55 = .ok (.iload_n 1, 1) := by decide +kernel
theorem dX10_compareSizes_56 : decode cX10_compareSizes 56 = .ok (.imul, 1) := by decide +kernel
theorem dX10_compareSizes_57 : decode cX10_compareSizes 57 = .ok (.iload_n 3, 1) := by decide +kernel
theorem dX10_compareSizes_58 : decode cX10_compareSizes 58 = .ok (.iadd, 1) := by decide +kernel
theorem dX10_compareSizes_59 : decode cX10_compareSizes 59 = .ok (.iaload, 1) := by decide +kernel
theorem dX10_compareSizes_60 : decode cX10_compareSizes 60 = .ok (.aload_n 0, 1) := by decide +kernel
theorem dX10_compareSizes_61 : decode cX10_compareSizes 61 = .ok (.getfield 38, 3) := by decide +kernel
theorem dX10_compareSizes_64 : decode cX10_compareSizes 64 = .ok (.bipush 64, 2) := by decide +kernel
theorem dX10_compareSizes_66 : decode cX10_compareSizes 66 = .ok (.iload_n 2, 1) := by decide +kernel
theorem dX10_compareSizes_67 : decode cX10_compareSizes 67 = .ok (.imul, 1) := by decide +kernel
theorem dX10_compareSizes_68 : decode cX10_compareSizes 68 = .ok (.iload_n 3, 1) := by decide +kernel
theorem dX10_compareSizes_69 : decode cX10_compareSizes 69 = .ok (.iadd, 1) := by decide +kernel
theorem dX10_compareSizes_70 : decode cX10_compareSizes 70 = .ok (.iaload, 1) := by decide +kernel
theorem dX10_compareSizes_71 : decode cX10_compareSizes 71 = .ok (.if_icmp .ne 9, 3) := by decide +kernel
theorem dX10_compareSizes_74 : decode cX10_compareSizes 74 = .ok (.iinc 3 (-1), 3) := by decide +kernel
theorem dX10_compareSizes_77 : decode cX10_compareSizes 77 = .ok (.goto (-32), 3) := by decide +kernel
theorem dX10_compareSizes_80 : decode cX10_compareSizes 80 = .ok (.iload_n 3, 1) := by decide +kernel
theorem dX10_compareSizes_81 : decode cX10_compareSizes 81 = .ok (.ifCond .ge 7, 3) := by decide +kernel
theorem dX10_compareSizes_84 : decode cX10_compareSizes 84 = .ok (.iconst 0, 1) := by decide +kernel
theorem dX10_compareSizes_85 : decode cX10_compareSizes 85 = .ok (.goto 33, 3) := by decide +kernel
theorem dX10_compareSizes_88 : decode cX10_compareSizes 88 = .ok (.aload_n 0, 1) := by decide +kernel
theorem dX10_compareSizes_89 : decode cX10_compareSizes 89 = .ok (.getfield 38, 3) := by decide +kernel
theorem dX10_compareSizes_92 : decode cX10_compareSizes 92 = .ok (.bipush 64, 2) := by decide +kernel
theorem dX10_compareSizes_94 : decode cX10_compareSizes 94 = .ok (.iload_n 1, 1) := by decide +kernel
theorem dX10_compareSizes_95 : decode cX10_compareSizes 95 = .ok (.imul, 1) := by decide +kernel
theorem dX10_compareSizes_96 : decode cX10_compareSizes 96 = .ok (.iload_n 3, 1) := by decide +kernel
theorem dX10_compareSizes_97 : decode cX10_compareSizes 97 = .ok (.iadd, 1) := by decide +kernel
theorem dX10_compareSizes_98 : decode cX10_compareSizes 98 = .ok (.iaload, 1) := by decide +kernel
theorem dX10_compareSizes_99 : decode cX10_compareSizes 99 = .ok (.aload_n 0, 1) := by decide +kernel
theorem dX10_compareSizes_100 : decode cX10_compareSizes 100 = .ok (.getfield 38, 3) := by decide +kernel
theorem dX10_compareSizes_103 : decode cX10_compareSizes 103 = .ok (.bipush 64, 2) := by decide +kernel
theorem dX10_compareSizes_105 : decode cX10_compareSizes 105 = .ok (.iload_n 2, 1) := by decide +kernel
theorem dX10_compareSizes_106 : decode cX10_compareSizes 106 = .ok (.imul, 1) := by decide +kernel
theorem dX10_compareSizes_107 : decode cX10_compareSizes 107 = .ok (.iload_n 3, 1) := by decide +kernel
theorem dX10_compareSizes_108 : decode cX10_compareSizes 108 = .ok (.iadd, 1) := by decide +kernel
theorem dX10_compareSizes_109 : decode cX10_compareSizes 109 = .ok (.iaload, 1) := by decide +kernel
theorem dX10_compareSizes_110 : decode cX10_compareSizes 110 = .ok (.if_icmp .ge 7, 3) := by decide +kernel
theorem dX10_compareSizes_113 : decode cX10_compareSizes 113 = .ok (.iconst (-1), 1) := by decide +kernel
theorem dX10_compareSizes_114 : decode cX10_compareSizes 114 = .ok (.goto 4, 3) := by decide +kernel
theorem dX10_compareSizes_117 : decode cX10_compareSizes 117 = .ok (.iconst 1, 1) := by decide +kernel
theorem dX10_compareSizes_118 : decode cX10_compareSizes 118 = .ok (.ireturn, 1) := by decide +kernel
set_option maxRecDepth 20000 in
theorem ggX10_compare_X10_compareSizes : GoodIn wsX10_compare wsX10_compareSizes := goodIn_r _ [6, 7, 8, 9, 10, 11, 12, 13, 14, 15, 16, 17, 18, 19, 20, 21, 22, 23, 24, 25, 26, 27, 28] (by decide +kernel) (by decide +kernel)
set_option maxRecDepth 20000 in
theorem gX10_compare_X10_compareSizes : GoodIn wsX10_compare (wsV RX10 61 RX10 yX10_compareSizes wsX10_compareSizes) := goodIn_app (goodIn_of _ (by decide +kernel)) ggX10_compare_X10_compareSizes
theorem dX10_compare_0 : decode cX10_compare 0 = .ok (.aload_n 0, 1) := by decide +kernel
theorem dX10_compare_1 : decode cX10_compare 1 = .ok (.getfield 44, 3) := by decide +kernel
theorem dX10_compare_4 : decode cX10_compare 4 = .ok (.iload_n 1, 1) := by decide +kernel
theorem dX10_compare_5 : decode cX10_compare 5 = .ok (.iaload, 1) := by decide +kernel
theorem dX10_compare_6 : decode cX10_compare 6 = .ok (.aload_n 0, 1) := by decide +kernel
theorem dX10_compare_7 : decode cX10_compare 7 = .ok (.getfield 44, 3) := by decide +kernel
theorem dX10_compare_10 : decode cX10_compare 10 = .ok (.iload_n 2, 1) := by decide +kernel
theorem dX10_compare_11 : decode cX10_compare 11 = .ok (.iaload, 1) := by decide +kernel
theorem dX10_compare_12 : decode cX10_compare 12 = .ok (.if_icmp .eq 24, 3) := by decide +kernel
theorem dX10_compare_15 : decode cX10_compare 15 = .ok (.aload_n 0, 1) := by decide +kernel
theorem dX10_compare_16 : decode cX10_compare 16 = .ok (.getfield 44, 3) := by decide +kernel
theorem dX10_compare_19 : decode cX10_compare 19 = .ok (.iload_n 1, 1) := by decide +kernel
theorem dX10_compare_20 : decode cX10_compare 20 = .ok (.iaload, 1) := by decide +kernel
theorem dX10_compare_21 : decode cX10_compare 21 = .ok (.aload_n 0, 1) := by decide +kernel
theorem dX10_compare_22 : decode cX10_compare 22 = .ok (.getfield 44, 3) := by decide +kernel
theorem dX10_compare_25 : decode cX10_compare 25 = .ok (.iload_n 2, 1) := by decide +kernel
theorem dX10_compare_26 : decode cX10_compare 26 = .ok (.iaload, 1) := by decide +kernel
theorem dX10_compare_27 : decode cX10_compare 27 = .ok (.if_icmp .ge 7, 3) := by decide +kernel
theorem dX10_compare_30 : decode cX10_compare 30 = .ok (.iconst (-1), 1) := by decide +kernel
theorem dX10_compare_31 : decode cX10_compare 31 = .ok (.goto 4, 3) := by decide +kernel
theorem dX10_compare_34 : decode cX10_compare 34 = .ok (.iconst 1, 1) := by decide +kernel
theorem dX10_compare_35 : decode cX10_compare 35 = .ok (.ireturn, 1) := by decide +kernel
theorem dX10_compare_36 : decode cX10_compare 36 = .ok (.aload_n 0, 1) := by decide +kernel
theorem dX10_compare_37 : decode cX10_compare 37 = .ok (.getfield 44, 3) := by decide +kernel
theorem dX10_compare_40 : decode cX10_compare 40 = .ok (.iload_n 1, 1) := by decide +kernel
theorem dX10_compare_41 : decode cX10_compare 41 = .ok (.iaload, 1) := by decide +kernel
theorem dX10_compare_42 : decode cX10_compare 42 = .ok (.aload_n 0, 1) := by decide +kernel
theorem dX10_compare_43 : decode cX10_compare 43 = .ok (.iload_n 1, 1) := by decide +kernel
theorem dX10_compare_44 : decode cX10_compare 44 = .ok (.iload_n 2, 1) := by decide +kernel
theorem dX10_compare_45 : decode cX10_compare 45 = .ok (.invokevirtual 61, 3) := by decide +kernel
theorem dX10_compare_48 : decode cX10_compare 48 = .ok (.imul, 1) := by decide +kernel
theorem dX10_compare_49 : decode cX10_compare 49 = .ok (.ireturn, 1) := by decide +kernel
theorem dX10_trim_0 : decode cX10_trim 0 = .ok (.iload_n 2, 1) := by decide +kernel
theorem dX10_trim_1 : decode cX10_trim 1 = .ok (.istore_n 3, 1) := by decide +kernel
theorem dX10_trim_2 : decode cX10_trim 2 = .ok (.iload_n 3, 1) := by decide +kernel
theorem dX10_trim_3 : decode cX10_trim 3 = .ok (.ifCond .le 25, 3) := by decide +kernel
theorem dX10_trim_6 : decode cX10_trim 6 = .ok (.aload_n 0, 1) := by decide +kernel
theorem dX10_trim_7 : decode cX10_trim 7 = .ok (.getfield 38, 3) := by decide +kernel
theorem dX10_trim_10 : decode cX10_trim 10 = .ok (.bipush 64, 2) := by decide +kernel
theorem dX10_trim_12 : decode cX10_trim 12 = .ok (.iload_n 1, 1) := by decide +kernel
theorem dX10_trim_13 : decode cX10_trim 13 = .ok (.imul, 1) := by decide +kernel
theorem dX10_trim_14 : decode cX10_trim 14 = .ok (.iload_n 3, 1) := by decide +kernel
theorem dX10_trim_15 : decode cX10_trim 15 = .ok (.iadd, 1) := by decide +kernel
theorem dX10_trim_16 : decode cX10_trim 16 = .ok (.iconst 1, 1) := by decide +kernel
theorem dX10_trim_17 : decode cX10_trim 17 = .ok (.isub, 1) := by decide +kernel
theorem dX10_trim_18 : decode cX10_trim 18 = .ok (.iaload, 1) := by decide +kernel
theorem dX10_trim_19 : decode cX10_trim 19 = .ok (.ifCond .ne 9, 3) := by decide +kernel
theorem dX10_trim_22 : decode cX10_trim 22 = .ok (.iinc 3 (-1), 3) := by decide +kernel
theorem dX10_trim_25 : decode cX10_trim 25 = .ok (.goto (-23), 3) := by decide +kernel
theorem dX10_trim_28 : decode cX10_trim 28 = .ok (.aload_n 0, 1) := by decide +kernel
theorem dX10_trim_29 : decode cX10_trim 29 = .ok (.getfield 41, 3) := by decide +kernel
theorem dX10_trim_32 : decode cX10_trim 32 = .ok (.iload_n 1, 1) := by decide +kernel
theorem dX10_trim_33 : decode cX10_trim 33 = .ok (.iload_n 3, 1) := by decide +kernel
theorem dX10_trim_34 : decode cX10_trim 34 = .ok (.iastore, 1) := by decide +kernel
theorem dX10_trim_35 : decode cX10_trim 35 = .ok (.aload_n 0, 1) := by decide +kernel
theorem dX10_trim_36 : decode cX10_trim 36 = .ok (.getfield 44, 3) := by decide +kernel
theorem dX10_trim_39 : decode cX10_trim 39 = .ok (.iload_n 1, 1) := by decide +kernel
theorem dX10_trim_40 : decode cX10_trim 40 = .ok (.iload_n 3, 1) := by decide +kernel
theorem dX10_trim_41 : decode cX10_trim 41 = .ok (.ifCond .ne 7, 3) := by decide +kernel
theorem dX10_trim_44 : decode cX10_trim 44 = .ok (.iconst 0, 1) := by decide +kernel
theorem dX10_trim_45 : decode cX10_trim 45 = .ok (.goto 9, 3) := by decide +kernel
theorem dX10_trim_48 : decode cX10_trim 48 = .ok (.aload_n 0, 1) := by decide +kernel
theorem dX10_trim_49 : decode cX10_trim 49 = .ok (.getfield 44, 3) := by decide +kernel
theorem dX10_trim_52 : decode cX10_trim 52 = .ok (.iload_n 1, 1) := by decide +kernel
theorem dX10_trim_53 : decode cX10_trim 53 = .ok (.iaload, 1) := by decide +kernel
theorem dX10_trim_54 : decode cX10_trim 54 = .ok (.iastore, 1) := by decide +kernel
theorem dX10_trim_55 : decode cX10_trim 55 = .ok (.return_, 1) := by decide +kernel
theorem dX10_limb_0 : decode cX10_limb 0 = .ok (.iload_n 2, 1) := by decide +kernel
theorem dX10_limb_1 : decode cX10_limb 1 = .ok (.aload_n 0, 1) := by decide +kernel
theorem dX10_limb_2 : decode cX10_limb 2 = .ok (.getfield 41, 3) := by decide +kernel
theorem dX10_limb_5 : decode cX10_limb 5 = .ok (.iload_n 1, 1) := by decide +kernel
theorem dX10_limb_6 : decode cX10_limb 6 = .ok (.iaload, 1) := by decide +kernel
theorem dX10_limb_7 : decode cX10_limb 7 = .ok (.if_icmp .ge 17, 3) := by decide +kernel
theorem dX10_limb_10 : decode cX10_limb 10 = .ok (.aload_n 0, 1) := by decide +kernel
theorem dX10_limb_11 : decode cX10_limb 11 = .ok (.getfield 38, 3) := by decide +kernel
theorem dX10_limb_14 : decode cX10_limb 14 = .ok (.bipush 64, 2) := by decide +kernel
theorem dX10_limb_16 : decode cX10_limb 16 = .ok (.iload_n 1, 1) := by decide +kernel
theorem dX10_limb_17 : decode cX10_limb 17 = .ok (.imul, 1) := by decide +kernel
theorem dX10_limb_18 : decode cX10_limb 18 = .ok (.iload_n 2, 1) := by decide +kernel
theorem dX10_limb_19 : decode cX10_limb 19 = .ok (.iadd, 1) := by decide +kernel
theorem dX10_limb_20 : decode cX10_limb 20 = .ok (.iaload, 1) := by decide +kernel
theorem dX10_limb_21 : decode cX10_limb 21 = .ok (.goto 4, 3) := by decide +kernel
theorem dX10_limb_24 : decode cX10_limb 24 = .ok (.iconst 0, 1) := by decide +kernel
theorem dX10_limb_25 : decode cX10_limb 25 = .ok (.ireturn, 1) := by decide +kernel
set_option maxRecDepth 20000 in
theorem ggX10_plus_X10_limb : GoodIn wsX10_plus wsX10_limb := goodIn_r _ [10, 2, 3, 19, 20, 21, 22, 23, 24, 25, 26, 27, 28, 29, 30, 31, 32, 33, 34, 35, 36, 37, 38] (by decide +kernel) (by decide +kernel)
set_option maxRecDepth 20000 in
theorem gX10_plus_X10_limb : GoodIn wsX10_plus (wsV RX10 65 RX10 yX10_limb wsX10_limb) := goodIn_app (goodIn_of _ (by decide +kernel)) ggX10_plus_X10_limb
set_option maxRecDepth 20000 in
theorem ggX10_plus_X10_trim : GoodIn wsX10_plus wsX10_trim := goodIn_r _ [14, 3, 2, 1, 19, 20, 21, 22, 23, 24, 25, 26, 27, 28, 29, 30, 31, 32, 33, 34, 35, 36, 37, 38] (by decide +kernel) (by decide +kernel)
set_option maxRecDepth 20000 in
theorem gX10_plus_X10_trim : GoodIn wsX10_plus (wsV RX10 69 RX10 yX10_trim wsX10_trim) := goodIn_app (goodIn_of _ (by decide +kernel)) ggX10_plus_X10_trim
set_option maxRecDepth 20000 in
theorem ggX10_plus_X10_compareSizes : GoodIn wsX10_plus wsX10_compareSizes := goodIn_r _ [18, 2, 3, 19, 20, 21, 22, 23, 24, 25, 26, 27, 28, 29, 30, 31, 32, 33, 34, 35, 36, 37, 38] (by decide +kernel) (by decide +kernel)
set_option maxRecDepth 20000 in
theorem gX10_plus_X10_compareSizes : GoodIn wsX10_plus (wsV RX10 61 RX10 yX10_compareSizes wsX10_compareSizes) := goodIn_app (goodIn_of _ (by decide +kernel)) ggX10_plus_X10_compareSizes
theorem dX10_plus_0 : decode cX10_plus 0 = .ok (.iload_n 3, 1) := by decide +kernel
theorem dX10_plus_1 : decode cX10_plus 1 = .ok (.aload_n 0, 1) := by decide +kernel
theorem dX10_plus_2 : decode cX10_plus 2 = .ok (.getfield 44, 3) := by decide +kernel
theorem dX10_plus_5 : decode cX10_plus 5 = .ok (.iload_n 2, 1) := by decide +kernel
theorem dX10_plus_6 : decode cX10_plus 6 = .ok (.iaload, 1) := by decide +kernel
theorem dX10_plus_7 : decode cX10_plus 7 = .ok (.imul, 1) := by decide +kernel
theorem dX10_plus_8 : decode cX10_plus 8 = .ok (.istore 4, 2) := by decide +kernel
theorem dX10_plus_10 : decode cX10_plus 10 = .ok (.iload 4, 2) := by decide +kernel
theorem dX10_plus_12 : decode cX10_plus 12 = .ok (.ifCond .ne 4, 3) := by decide +kernel
theorem dX10_plus_15 : decode cX10_plus 15 = .ok (.return_, 1) := by decide +kernel
theorem dX10_plus_16 : decode cX10_plus 16 = .ok (.aload_n 0, 1) := by decide +kernel
theorem dX10_plus_17 : decode cX10_plus 17 = .ok (.getfield 41, 3) := by decide +kernel
theorem dX10_plus_20 : decode cX10_plus 20 = .ok (.iload_n 1, 1) := by decide +kernel
theorem dX10_plus_21 : decode cX10_plus 21 = .ok (.iaload, 1) := by decide +kernel
theorem dX10_plus_22 : decode cX10_plus 22 = .ok (.aload_n 0, 1) := by decide +kernel
theorem dX10_plus_23 : decode cX10_plus 23 = .ok (.getfield 41, 3) := by decide +kernel
theorem dX10_plus_26 : decode cX10_plus 26 = .ok (.iload_n 2, 1) := by decide +kernel
theorem dX10_plus_27 : decode cX10_plus 27 = .ok (.iaload, 1) := by decide +kernel
theorem dX10_plus_28 : decode cX10_plus 28 = .ok (.if_icmp .le 12, 3) := by decide +kernel
theorem dX10_plus_31 : decode cX10_plus 31 = .ok (.aload_n 0, 1) := by decide +kernel
theorem dX10_plus_32 : decode cX10_plus 32 = .ok (.getfield 41, 3) := by decide +kernel
theorem dX10_plus_35 : decode cX10_plus 35 = .ok (.iload_n 1, 1) := by decide +kernel
theorem dX10_plus_36 : decode cX10_plus 36 = .ok (.iaload, 1) := by decide +kernel
theorem dX10_plus_37 : decode cX10_plus 37 = .ok (.goto 9, 3) := by decide +kernel
theorem dX10_plus_40 : decode cX10_plus 40 = .ok (.aload_n 0, 1) := by decide +kernel
theorem dX10_plus_41 : decode cX10_plus 41 = .ok (.getfield 41, 3) := by decide +kernel
theorem dX10_plus_44 : decode cX10_plus 44 = .ok (.iload_n 2, 1) := by decide +kernel
theorem dX10_plus_45 : decode cX10_plus 45 = .ok (.iaload, 1) := by decide +kernel
theorem dX10_plus_46 : decode cX10_plus 46 = .ok (.istore 5, 2) := by decide +kernel
theorem dX10_plus_48 : decode cX10_plus 48 = .ok (.aload_n 0, 1) := by decide +kernel
theorem dX10_plus_49 : decode cX10_plus 49 = .ok (.getfield 44, 3) := by decide +kernel
theorem dX10_plus_52 : decode cX10_plus 52 = .ok (.iload_n 1, 1) := by decide +kernel
theorem dX10_plus_53 : decode cX10_plus 53 = .ok (.iaload, 1) := by decide +kernel
theorem dX10_plus_54 : decode cX10_plus 54 = .ok (.ifCond .eq 14, 3) := by decide +kernel
theorem dX10_plus_57 : decode cX10_plus 57 = .ok (.aload_n 0, 1) := by decide +kernel
theorem dX10_plus_58 : decode cX10_plus 58 = .ok (.getfield 44, 3) := by decide +kernel
theorem dX10_plus_61 : decode cX10_plus 61 = .ok (.iload_n 1, 1) := by decide +kernel
theorem dX10_plus_62 : decode cX10_plus 62 = .ok (.iaload, 1) := by decide +kernel
theorem dX10_plus_63 : decode cX10_plus 63 = .ok (.iload 4, 2) := by decide +kernel
theorem dX10_plus_65 : decode cX10_plus 65 = .ok (.if_icmp .ne 128, 3) := by decide +kernel
theorem dX10_plus_68 : decode cX10_plus 68 = .ok (.iconst 0, 1) := by decide +kernel
theorem dX10_plus_69 : decode cX10_plus 69 = .ok (.istore 6, 2) := by decide +kernel
theorem dX10_plus_71 : decode cX10_plus 71 = .ok (.iconst 0, 1) := by decide +kernel
theorem dX10_plus_72 : decode cX10_plus 72 = .ok (.istore 7, 2) := by decide +kernel
theorem dX10_plus_74 : decode cX10_plus 74 = .ok (.iload 7, 2) := by decide +kernel
theorem dX10_plus_76 : decode cX10_plus 76 = .ok (.iload 5, 2) := by decide +kernel
theorem dX10_plus_78 : decode cX10_plus 78 = .ok (.if_icmp .ge 83, 3) := by decide +kernel
theorem dX10_plus_81 : decode cX10_plus 81 = .ok (.aload_n 0, 1) := by decide +kernel
theorem dX10_plus_82 : decode cX10_plus 82 = .ok (.iload_n 1, 1) := by decide +kernel
theorem dX10_plus_83 : decode cX10_plus 83 = .ok (.iload 7, 2) := by decide +kernel
theorem dX10_plus_85 : decode cX10_plus 85 = .ok (.invokevirtual 65, 3) := by decide +kernel
theorem dX10_plus_88 : decode cX10_plus 88 = .ok (.aload_n 0, 1) := by decide +kernel
theorem dX10_plus_89 : decode cX10_plus 89 = .ok (.iload_n 2, 1) := by decide +kernel
theorem dX10_plus_90 : decode cX10_plus 90 = .ok (.iload 7, 2) := by decide +kernel
theorem dX10_plus_92 : decode cX10_plus 92 = .ok (.invokevirtual 65, 3) := by decide +kernel
theorem dX10_plus_95 : decode cX10_plus 95 = .ok (.iadd, 1) := by decide +kernel
theorem dX10_plus_96 : decode cX10_plus 96 = .ok (.iload 6, 2) := by decide +kernel
theorem dX10_plus_98 : decode cX10_plus 98 = .ok (.iadd, 1) := by decide +kernel
theorem dX10_plus_99 : decode cX10_plus 99 = .ok (.istore 8, 2) := by decide +kernel
theorem dX10_plus_101 : decode cX10_plus 101 = .ok (.iload 8, 2) := by decide +kernel
theorem dX10_plus_103 : decode cX10_plus 103 = .ok (.bipush 28, 2) := by decide +kernel
theorem dX10_plus_105 : decode cX10_plus 105 = .ok (.ishr, 1) := by decide +kernel
theorem dX10_plus_106 : decode cX10_plus 106 = .ok (.istore 6, 2) := by decide +kernel
theorem dX10_plus_108 : decode cX10_plus 108 = .ok (.aload_n 0, 1) := by decide +kernel
theorem dX10_plus_109 : decode cX10_plus 109 = .ok (.getfield 38, 3) := by decide +kernel
theorem dX10_plus_112 : decode cX10_plus 112 = .ok (.bipush 64, 2) := by decide +kernel
theorem dX10_plus_114 : decode cX10_plus 114 = .ok (.iload_n 1, 1) := by decide +kernel
theorem dX10_plus_115 : decode cX10_plus 115 = .ok (.imul, 1) := by decide +kernel
theorem dX10_plus_116 : decode cX10_plus 116 = .ok (.iload 7, 2) := by decide +kernel
theorem dX10_plus_118 : decode cX10_plus 118 = .ok (.iadd, 1) := by decide +kernel
theorem dX10_plus_119 : decode cX10_plus 119 = .ok (.iload 8, 2) := by decide +kernel
theorem dX10_plus_121 : decode cX10_plus 121 = .ok (.ldc 68, 2) := by decide +kernel
theorem dX10_plus_123 : decode cX10_plus 123 = .ok (.iand, 1) := by decide +kernel
theorem dX10_plus_124 : decode cX10_plus 124 = .ok (.iastore, 1) := by decide +kernel
theorem dX10_plus_125 : decode cX10_plus 125 = .ok (.aload_n 0, 1) := by decide +kernel
theorem dX10_plus_126 : decode cX10_plus 126 = .ok (.getfield 41, 3) := by decide +kernel
theorem dX10_plus_129 : decode cX10_plus 129 = .ok (.iload_n 1, 1) := by decide +kernel
theorem dX10_plus_130 : decode cX10_plus 130 = .ok (.aload_n 0, 1) := by decide +kernel
theorem dX10_plus_131 : decode cX10_plus 131 = .ok (.getfield 41, 3) := by decide +kernel
theorem dX10_plus_134 : decode cX10_plus 134 = .ok (.iload_n 1, 1) := by decide +kernel
theorem dX10_plus_135 : decode cX10_plus 135 = .ok (.iaload, 1) := by decide +kernel
theorem dX10_plus_136 : decode cX10_plus 136 = .ok (.iload 7, 2) := by decide +kernel
theorem dX10_plus_138 : decode cX10_plus 138 = .ok (.if_icmp .gt 10, 3) := by decide +kernel
theorem dX10_plus_141 : decode cX10_plus 141 = .ok (.iload 7, 2) := by decide +kernel
theorem dX10_plus_143 : decode cX10_plus 143 = .ok (.iconst 1, 1) := by decide +kernel
theorem dX10_plus_144 : decode cX10_plus 144 = .ok (.iadd, 1) := by decide +kernel
theorem dX10_plus_145 : decode cX10_plus 145 = .ok (.goto 9, 3) := by decide +kernel
theorem dX10_plus_148 : decode cX10_plus 148 = .ok (.aload_n 0, 1) := by decide +kernel
theorem dX10_plus_149 : decode cX10_plus 149 = .ok (.getfield 41, 3) := by decide +kernel
theorem dX10_plus_152 : decode cX10_plus 152 = .ok (.iload_n 1, 1) := by decide +kernel
theorem dX10_plus_153 : decode cX10_plus 153 = .ok (.iaload, 1) := by decide +kernel
theorem dX10_plus_154 : decode cX10_plus 154 = .ok (.iastore, 1) := by decide +kernel
theorem dX10_plus_155 : decode cX10_plus 155 = .ok (.iinc 7 1, 3) := by decide +kernel
theorem dX10_plus_158 : decode cX10_plus 158 = .ok (.goto (-84), 3) := by decide +kernel
theorem dX10_plus_161 : decode cX10_plus 161 = .ok (.aload_n 0, 1) := by decide +kernel
theorem dX10_plus_162 : decode cX10_plus 162 = .ok (.getfield 38, 3) := by decide +kernel
theorem dX10_plus_165 : decode cX10_plus 165 = .ok (.bipush 64, 2) := by decide +kernel
theorem dX10_plus_167 : decode cX10_plus 167 = .ok (.iload_n 1, 1) := by decide +kernel
theorem dX10_plus_168 : decode cX10_plus 168 = .ok (.imul, 1) := by decide +kernel
theorem dX10_plus_169 : decode cX10_plus 169 = .ok (.iload 5, 2) := by decide +kernel
theorem dX10_plus_171 : decode cX10_plus 171 = .ok (.iadd, 1) := by decide +kernel
theorem dX10_plus_172 : decode cX10_plus 172 = .ok (.iload 6, 2) := by decide +kernel
theorem dX10_plus_174 : decode cX10_plus 174 = .ok (.iastore, 1) := by decide +kernel
theorem dX10_plus_175 : decode cX10_plus 175 = .ok (.aload_n 0, 1) := by decide +kernel
theorem dX10_plus_176 : decode cX10_plus 176 = .ok (.getfield 44, 3) := by decide +kernel
theorem dX10_plus_179 : decode cX10_plus 179 = .ok (.iload_n 1, 1) := by decide +kernel
theorem dX10_plus_180 : decode cX10_plus 180 = .ok (.iload 4, 2) := by decide +kernel
theorem dX10_plus_182 : decode cX10_plus 182 = .ok (.iastore, 1) := by decide +kernel
theorem dX10_plus_183 : decode cX10_plus 183 = .ok (.aload_n 0, 1) := by decide +kernel
theorem dX10_plus_184 : decode cX10_plus 184 = .ok (.iload_n 1, 1) := by decide +kernel
theorem dX10_plus_185 : decode cX10_plus 185 = .ok (.iload 5, 2) := by decide +kernel
theorem dX10_plus_187 : decode cX10_plus 187 = .ok (.iconst 1, 1) := by decide +kernel
theorem dX10_plus_188 : decode cX10_plus 188 = .ok (.iadd, 1) := by decide +kernel
theorem dX10_plus_189 : decode cX10_plus 189 = .ok (.invokevirtual 69, 3) := by decide +kernel
theorem dX10_plus_192 : decode cX10_plus 192 = .ok (.return_, 1) := by decide +kernel
theorem dX10_plus_193 : decode cX10_plus 193 = .ok (.aload_n 0, 1) := by decide +kernel
theorem dX10_plus_194 : decode cX10_plus 194 = .ok (.iload_n 1, 1) := by decide +kernel
theorem dX10_plus_195 : decode cX10_plus 195 = .ok (.iload_n 2, 1) := by decide +kernel
theorem dX10_plus_196 : decode cX10_plus 196 = .ok (.invokevirtual 61, 3) := by decide +kernel
theorem dX10_plus_199 : decode cX10_plus 199 = .ok (.istore 6, 2) := by decide +kernel
theorem dX10_plus_201 : decode cX10_plus 201 = .ok (.iconst 0, 1) := by decide +kernel
theorem dX10_plus_202 : decode cX10_plus 202 = .ok (.istore 7, 2) := by decide +kernel
theorem dX10_plus_204 : decode cX10_plus 204 = .ok (.iconst 0, 1) := by decide +kernel
theorem dX10_plus_205 : decode cX10_plus 205 = .ok (.istore 8, 2) := by decide +kernel
theorem dX10_plus_207 : decode cX10_plus 207 = .ok (.iload 8, 2) := by decide +kernel
theorem dX10_plus_209 : decode cX10_plus 209 = .ok (.iload 5, 2) := by decide +kernel
theorem dX10_plus_211 : decode cX10_plus 211 = .ok (.if_icmp .ge 121, 3) := by decide +kernel
theorem dX10_plus_214 : decode cX10_plus 214 = .ok (.iload 6, 2) := by decide +kernel
theorem dX10_plus_216 : decode cX10_plus 216 = .ok (.ifCond .lt 21, 3) := by decide +kernel
theorem dX10_plus_219 : decode cX10_plus 219 = .ok (.aload_n 0, 1) := by decide +kernel
theorem dX10_plus_220 : decode cX10_plus 220 = .ok (.iload_n 1, 1) := by decide +kernel
theorem dX10_plus_221 : decode cX10_plus 221 = .ok (.iload 8, 2) := by decide +kernel
theorem dX10_plus_223 : decode cX10_plus 223 = .ok (.invokevirtual 65, 3) := by decide +kernel
theorem dX10_plus_226 : decode cX10_plus 226 = .ok (.aload_n 0, 1) := by decide +kernel
theorem dX10_plus_227 : decode cX10_plus 227 = .ok (.iload_n 2, 1) := by decide +kernel
theorem dX10_plus_228 : decode cX10_plus 228 = .ok (.iload 8, 2) := by decide +kernel
theorem dX10_plus_230 : decode cX10_plus 230 = .ok (.invokevirtual 65, 3) := by decide +kernel
theorem dX10_plus_233 : decode cX10_plus 233 = .ok (.isub, 1) := by decide +kernel
theorem dX10_plus_234 : decode cX10_plus 234 = .ok (.goto 18, 3) := by decide +kernel
theorem dX10_plus_237 : decode cX10_plus 237 = .ok (.aload_n 0, 1) := by decide +kernel
theorem dX10_plus_238 : decode cX10_plus 238 = .ok (.iload_n 2, 1) := by decide +kernel
theorem dX10_plus_239 : decode cX10_plus 239 = .ok (.iload 8, 2) := by decide +kernel
theorem dX10_plus_241 : decode cX10_plus 241 = .ok (.invokevirtual 65, 3) := by decide +kernel
theorem dX10_plus_244 : decode cX10_plus 244 = .ok (.aload_n 0, 1) := by decide +kernel
theorem dX10_plus_245 : decode cX10_plus 245 = .ok (.iload_n 1, 1) := by decide +kernel
theorem dX10_plus_246 : decode cX10_plus 246 = .ok (.iload 8, 2) := by decide +kernel
theorem dX10_plus_248 : decode cX10_plus 248 = .ok (.invokevirtual 65, 3) := by decide +kernel
theorem dX10_plus_251 : decode cX10_plus 251 = .ok (.isub, 1) := by decide +kernel
theorem dX10_plus_252 : decode cX10_plus 252 = .ok (.iload 7, 2) := by decide +kernel
theorem dX10_plus_254 : decode cX10_plus 254 = .ok (.isub, 1) := by decide +kernel
theorem dX10_plus_255 : decode cX10_plus 255 = .ok (.istore 9, 2) := by decide +kernel
theorem dX10_plus_257 : decode cX10_plus 257 = .ok (.iload 9, 2) := by decide +kernel
theorem dX10_plus_259 : decode cX10_plus 259 = .ok (.ifCond .ge 7, 3) := by decide +kernel
theorem dX10_plus_262 : decode cX10_plus 262 = .ok (.iconst 1, 1) := by decide +kernel
theorem dX10_plus_263 : decode cX10_plus 263 = .ok (.goto 4, 3) := by decide +kernel
theorem dX10_plus_266 : decode cX10_plus 266 = .ok (.iconst 0, 1) := by decide +kernel
theorem dX10_plus_267 : decode cX10_plus 267 = .ok (.istore 7, 2) := by decide +kernel
theorem dX10_plus_269 : decode cX10_plus 269 = .ok (.aload_n 0, 1) := by decide +kernel
theorem dX10_plus_270 : decode cX10_plus 270 = .ok (.getfield 38, 3) := by decide +kernel
theorem dX10_plus_273 : decode cX10_plus 273 = .ok (.bipush 64, 2) := by decide +kernel
theorem dX10_plus_275 : decode cX10_plus 275 = .ok (.iload_n 1, 1) := by decide +kernel
theorem dX10_plus_276 : decode cX10_plus 276 = .ok (.imul, 1) := by decide +kernel
theorem dX10_plus_277 : decode cX10_plus 277 = .ok (.iload 8, 2) := by decide +kernel
theorem dX10_plus_279 : decode cX10_plus 279 = .ok (.iadd, 1) := by decide +kernel
theorem dX10_plus_280 : decode cX10_plus 280 = .ok (.iload 9, 2) := by decide +kernel
theorem dX10_plus_282 : decode cX10_plus 282 = .ok (.iload 7, 2) := by decide +kernel
theorem dX10_plus_284 : decode cX10_plus 284 = .ok (.iconst 1, 1) := by decide +kernel
theorem dX10_plus_285 : decode cX10_plus 285 = .ok (.if_icmp .ne 8, 3) := by decide +kernel
theorem dX10_plus_288 : decode cX10_plus 288 = .ok (.ldc 73, 2) := by decide +kernel
theorem dX10_plus_290 : decode cX10_plus 290 = .ok (.goto 4, 3) := by decide +kernel
theorem dX10_plus_293 : decode cX10_plus 293 = .ok (.iconst 0, 1) := by decide +kernel
theorem dX10_plus_294 : decode cX10_plus 294 = .ok (.iadd, 1) := by decide +kernel
theorem dX10_plus_295 : decode cX10_plus 295 = .ok (.iastore, 1) := by decide +kernel
theorem dX10_plus_296 : decode cX10_plus 296 = .ok (.aload_n 0, 1) := by decide +kernel
theorem dX10_plus_297 : decode cX10_plus 297 = .ok (.getfield 41, 3) := by decide +kernel
theorem dX10_plus_300 : decode cX10_plus 300 = .ok (.iload_n 1, 1) := by decide +kernel
theorem dX10_plus_301 : decode cX10_plus 301 = .ok (.aload_n 0, 1) := by decide +kernel
theorem dX10_plus_302 : decode cX10_plus 302 = .ok (.getfield 41, 3) := by decide +kernel
theorem dX10_plus_305 : decode cX10_plus 305 = .ok (.iload_n 1, 1) := by decide +kernel
theorem dX10_plus_306 : decode cX10_plus 306 = .ok (.iaload, 1) := by decide +kernel
theorem dX10_plus_307 : decode cX10_plus 307 = .ok (.iload 8, 2) := by decide +kernel
theorem dX10_plus_309 : decode cX10_plus 309 = .ok (.if_icmp .gt 10, 3) := by decide +kernel
theorem dX10_plus_312 : decode cX10_plus 312 = .ok (.iload 8, 2) := by decide +kernel
theorem dX10_plus_314 : decode cX10_plus 314 = .ok (.iconst 1, 1) := by decide +kernel
theorem dX10_plus_315 : decode cX10_plus 315 = .ok (.iadd, 1) := by decide +kernel
theorem dX10_plus_316 : decode cX10_plus 316 = .ok (.goto 9, 3) := by decide +kernel
theorem dX10_plus_319 : decode cX10_plus 319 = .ok (.aload_n 0, 1) := by decide +kernel
theorem dX10_plus_320 : decode cX10_plus 320 = .ok (.getfield 41, 3) := by decide +kernel
theorem dX10_plus_323 : decode cX10_plus 323 = .ok (.iload_n 1, 1) := by decide +kernel
theorem dX10_plus_324 : decode cX10_plus 324 = .ok (.iaload, 1) := by decide +kernel
theorem dX10_plus_325 : decode cX10_plus 325 = .ok (.iastore, 1) := by decide +kernel
theorem dX10_plus_326 : decode cX10_plus 326 = .ok (.iinc 8 1, 3) := by decide +kernel
theorem dX10_plus_329 : decode cX10_plus 329 = .ok (.goto (-122), 3) := by decide +kernel
theorem dX10_plus_332 : decode cX10_plus 332 = .ok (.aload_n 0, 1) := by decide +kernel
theorem dX10_plus_333 : decode cX10_plus 333 = .ok (.getfield 44, 3) := by decide +kernel
theorem dX10_plus_336 : decode cX10_plus 336 = .ok (.iload_n 1, 1) := by decide +kernel
theorem dX10_plus_337 : decode cX10_plus 337 = .ok (.iload 6, 2) := by decide +kernel
theorem dX10_plus_339 : decode cX10_plus 339 = .ok (.ifCond .lt 12, 3) := by decide +kernel
theorem dX10_plus_342 : decode cX10_plus 342 = .ok (.aload_n 0, 1) := by decide +kernel
theorem dX10_plus_343 : decode cX10_plus 343 = .ok (.getfield 44, 3) := by decide +kernel
theorem dX10_plus_346 : decode cX10_plus 346 = .ok (.iload_n 1, 1) := by decide +kernel
theorem dX10_plus_347 : decode cX10_plus 347 = .ok (.iaload, 1) := by decide +kernel
theorem dX10_plus_348 : decode cX10_plus 348 = .ok (.goto 5, 3) := by decide +kernel
theorem dX10_plus_351 : decode cX10_plus 351 = .ok (.iload 4, 2) := by decide +kernel
theorem dX10_plus_353 : decode cX10_plus 353 = .ok (.iastore, 1) := by decide +kernel
theorem dX10_plus_354 : decode cX10_plus 354 = .ok (.aload_n 0, 1) := by decide +kernel
theorem dX10_plus_355 : decode cX10_plus 355 = .ok (.iload_n 1, 1) := by decide +kernel
theorem dX10_plus_356 : decode cX10_plus 356 = .ok (.iload 5, 2) := by decide +kernel
theorem dX10_plus_358 : decode cX10_plus 358 = .ok (.invokevirtual 69, 3) := by decide +kernel
theorem dX10_plus_361 : decode cX10_plus 361 = .ok (.return_, 1) := by decide +kernel
set_option maxRecDepth 20000 in
theorem ggX10_times_X10_trim : GoodIn wsX10_times wsX10_trim := goodIn_r _ [9, 2, 1, 4, 10, 11, 12, 13, 14, 15, 16, 17, 18, 19, 20, 21, 22, 23, 24, 25, 26, 27, 28, 29] (by decide +kernel) (by decide +kernel)
set_option maxRecDepth 20000 in
theorem gX10_times_X10_trim : GoodIn wsX10_times (wsV RX10 69 RX10 yX10_trim wsX10_trim) := goodIn_app (goodIn_of _ (by decide +kernel)) ggX10_times_X10_trim
theorem dX10_times_0 : decode cX10_times 0 = .ok (.iload_n 2, 1) := by decide +kernel
theorem dX10_times_1 : decode cX10_times 1 = .ok (.ifCond .ge 9, 3) := by decide +kernel
theorem dX10_times_4 : decode cX10_times 4 = .ok (.iload_n 2, 1) := by decide +kernel
theorem dX10_times_5 : decode cX10_times 5 = .ok (.i2l, 1) := by decide +kernel
theorem dX10_times_6 : decode cX10_times 6 = .ok (.lneg, 1) := by decide +kernel
theorem dX10_times_7 : decode cX10_times 7 = .ok (.goto 5, 3) := by decide +kernel
theorem dX10_times_10 : decode cX10_times 10 = .ok (.iload_n 2, 1) := by decide +kernel
theorem dX10_times_11 : decode cX10_times 11 = .ok (.i2l, 1) := by decide +kernel
theorem dX10_times_12 : decode cX10_times 12 = .ok (.lstore_n 3, 1) := by decide +kernel
theorem dX10_times_13 : decode cX10_times 13 = .ok (.lconst 0, 1) := by decide +kernel
theorem dX10_times_14 : decode cX10_times 14 = .ok (.lstore 5, 2) := by decide +kernel
theorem dX10_times_16 : decode cX10_times 16 = .ok (.aload_n 0, 1) := by decide +kernel
theorem dX10_times_17 : decode cX10_times 17 = .ok (.getfield 41, 3) := by decide +kernel
theorem dX10_times_20 : decode cX10_times 20 = .ok (.iload_n 1, 1) := by decide +kernel
theorem dX10_times_21 : decode cX10_times 21 = .ok (.iaload, 1) := by decide +kernel
theorem dX10_times_22 : decode cX10_times 22 = .ok (.istore 7, 2) := by decide +kernel
theorem dX10_times_24 : decode cX10_times 24 = .ok (.iconst 0, 1) := by decide +kernel
theorem dX10_times_25 : decode cX10_times 25 = .ok (.istore 8, 2) := by decide +kernel
theorem dX10_times_27 : decode cX10_times 27 = .ok (.iload 8, 2) := by decide +kernel
theorem dX10_times_29 : decode cX10_times 29 = .ok (.iload 7, 2) := by decide +kernel
theorem dX10_times_31 : decode cX10_times 31 = .ok (.if_icmp .ge 55, 3) := by decide +kernel
theorem dX10_times_34 : decode cX10_times 34 = .ok (.aload_n 0, 1) := by decide +kernel
theorem dX10_times_35 : decode cX10_times 35 = .ok (.getfield 38, 3) := by decide +kernel
theorem dX10_times_38 : decode cX10_times 38 = .ok (.bipush 64, 2) := by decide +kernel
theorem dX10_times_40 : decode cX10_times 40 = .ok (.iload_n 1, 1) := by decide +kernel
theorem dX10_times_41 : decode cX10_times 41 = .ok (.imul, 1) := by decide +kernel
theorem dX10_times_42 : decode cX10_times 42 = .ok (.iload 8, 2) := by decide +kernel
theorem dX10_times_44 : decode cX10_times 44 = .ok (.iadd, 1) := by decide +kernel
theorem dX10_times_45 : decode cX10_times 45 = .ok (.iaload, 1) := by decide +kernel
theorem dX10_times_46 : decode cX10_times 46 = .ok (.i2l, 1) := by decide +kernel
theorem dX10_times_47 : decode cX10_times 47 = .ok (.lload_n 3, 1) := by decide +kernel
theorem dX10_times_48 : decode cX10_times 48 = .ok (.lmul, 1) := by decide +kernel
theorem dX10_times_49 : decode cX10_times 49 = .ok (.lload 5, 2) := by decide +kernel
theorem dX10_times_51 : decode cX10_times 51 = .ok (.ladd, 1) := by decide +kernel
theorem dX10_times_52 : decode cX10_times 52 = .ok (.lstore 9, 2) := by decide +kernel
theorem dX10_times_54 : decode cX10_times 54 = .ok (.aload_n 0, 1) := by decide +kernel
theorem dX10_times_55 : decode cX10_times 55 = .ok (.getfield 38, 3) := by decide +kernel
theorem dX10_times_58 : decode cX10_times 58 = .ok (.bipush 64, 2) := by decide +kernel
theorem dX10_times_60 : decode cX10_times 60 = .ok (.iload_n 1, 1) := by decide +kernel
theorem dX10_times_61 : decode cX10_times 61 = .ok (.imul, 1) := by decide +kernel
theorem dX10_times_62 : decode cX10_times 62 = .ok (.iload 8, 2) := by decide +kernel
theorem dX10_times_64 : decode cX10_times 64 = .ok (.iadd, 1) := by decide +kernel
theorem dX10_times_65 : decode cX10_times 65 = .ok (.lload 9, 2) := by decide +kernel
theorem dX10_times_67 : decode cX10_times 67 = .ok (.ldc2_w 59, 3) := by decide +kernel
theorem dX10_times_70 : decode cX10_times 70 = .ok (.land, 1) := by decide +kernel
theorem dX10_times_71 : decode cX10_times 71 = .ok (.l2i, 1) := by decide +kernel
theorem dX10_times_72 : decode cX10_times 72 = .ok (.iastore, 1) := by decide +kernel
theorem dX10_times_73 : decode cX10_times 73 = .ok (.lload 9, 2) := by decide +kernel
theorem dX10_times_75 : decode cX10_times 75 = .ok (.bipush 28, 2) := by decide +kernel
theorem dX10_times_77 : decode cX10_times 77 = .ok (.lshr, 1) := by decide +kernel
theorem dX10_times_78 : decode cX10_times 78 = .ok (.lstore 5, 2) := by decide +kernel
theorem dX10_times_80 : decode cX10_times 80 = .ok (.iinc 8 1, 3) := by decide +kernel
theorem dX10_times_83 : decode cX10_times 83 = .ok (.goto (-56), 3) := by decide +kernel
theorem dX10_times_86 : decode cX10_times 86 = .ok (.lload 5, 2) := by decide +kernel
theorem dX10_times_88 : decode cX10_times 88 = .ok (.lconst 0, 1) := by decide +kernel
theorem dX10_times_89 : decode cX10_times 89 = .ok (.lcmp, 1) := by decide +kernel
theorem dX10_times_90 : decode cX10_times 90 = .ok (.ifCond .le 35, 3) := by decide +kernel
theorem dX10_times_93 : decode cX10_times 93 = .ok (.aload_n 0, 1) := by decide +kernel
theorem dX10_times_94 : decode cX10_times 94 = .ok (.getfield 38, 3) := by decide +kernel
theorem dX10_times_97 : decode cX10_times 97 = .ok (.bipush 64, 2) := by decide +kernel
theorem dX10_times_99 : decode cX10_times 99 = .ok (.iload_n 1, 1) := by decide +kernel
theorem dX10_times_100 : decode cX10_times 100 = .ok (.imul, 1) := by decide +kernel
theorem dX10_times_101 : decode cX10_times 101 = .ok (.iload 7, 2) := by decide +kernel
theorem dX10_times_103 : decode cX10_times 103 = .ok (.iadd, 1) := by decide +kernel
theorem dX10_times_104 : decode cX10_times 104 = .ok (.lload 5, 2) := by decide +kernel
theorem dX10_times_106 : decode cX10_times 106 = .ok (.ldc2_w 59, 3) := by decide +kernel
theorem dX10_times_109 : decode cX10_times 109 = .ok (.land, 1) := by decide +kernel
theorem dX10_times_110 : decode cX10_times 110 = .ok (.l2i, 1) := by decide +kernel
theorem dX10_times_111 : decode cX10_times 111 = .ok (.iastore, 1) := by decide +kernel
theorem dX10_times_112 : decode cX10_times 112 = .ok (.lload 5, 2) := by decide +kernel
theorem dX10_times_114 : decode cX10_times 114 = .ok (.bipush 28, 2) := by decide +kernel
theorem dX10_times_116 : decode cX10_times 116 = .ok (.lshr, 1) := by decide +kernel
theorem dX10_times_117 : decode cX10_times 117 = .ok (.lstore 5, 2) := by decide +kernel
theorem dX10_times_119 : decode cX10_times 119 = .ok (.iinc 7 1, 3) := by decide +kernel
theorem dX10_times_122 : decode cX10_times 122 = .ok (.goto (-36), 3) := by decide +kernel
theorem dX10_times_125 : decode cX10_times 125 = .ok (.aload_n 0, 1) := by decide +kernel
theorem dX10_times_126 : decode cX10_times 126 = .ok (.getfield 44, 3) := by decide +kernel
theorem dX10_times_129 : decode cX10_times 129 = .ok (.iload_n 1, 1) := by decide +kernel
theorem dX10_times_130 : decode cX10_times 130 = .ok (.iload_n 2, 1) := by decide +kernel
theorem dX10_times_131 : decode cX10_times 131 = .ok (.ifCond .ge 13, 3) := by decide +kernel
theorem dX10_times_134 : decode cX10_times 134 = .ok (.aload_n 0, 1) := by decide +kernel
theorem dX10_times_135 : decode cX10_times 135 = .ok (.getfield 44, 3) := by decide +kernel
theorem dX10_times_138 : decode cX10_times 138 = .ok (.iload_n 1, 1) := by decide +kernel
theorem dX10_times_139 : decode cX10_times 139 = .ok (.iaload, 1) := by decide +kernel
theorem dX10_times_140 : decode cX10_times 140 = .ok (.ineg, 1) := by decide +kernel
theorem dX10_times_141 : decode cX10_times 141 = .ok (.goto 9, 3) := by decide +kernel
theorem dX10_times_144 : decode cX10_times 144 = .ok (.aload_n 0, 1) := by decide +kernel
theorem dX10_times_145 : decode cX10_times 145 = .ok (.getfield 44, 3) := by decide +kernel
theorem dX10_times_148 : decode cX10_times 148 = .ok (.iload_n 1, 1) := by decide +kernel
theorem dX10_times_149 : decode cX10_times 149 = .ok (.iaload, 1) := by decide +kernel
theorem dX10_times_150 : decode cX10_times 150 = .ok (.iastore, 1) := by decide +kernel
theorem dX10_times_151 : decode cX10_times 151 = .ok (.aload_n 0, 1) := by decide +kernel
theorem dX10_times_152 : decode cX10_times 152 = .ok (.iload_n 1, 1) := by decide +kernel
theorem dX10_times_153 : decode cX10_times 153 = .ok (.iload 7, 2) := by decide +kernel
theorem dX10_times_155 : decode cX10_times 155 = .ok (.invokevirtual 69, 3) := by decide +kernel
theorem dX10_times_158 : decode cX10_times 158 = .ok (.return_, 1) := by decide +kernel
set_option maxRecDepth 20000 in
theorem ggX10_multiply_X10_trim : GoodIn wsX10_multiply wsX10_trim := goodIn_r _ [9, 2, 1, 4, 10, 11, 12, 13, 14, 15, 16, 17, 18, 19, 20, 21, 22, 23, 24, 25, 26, 27, 28, 29] (by decide +kernel) (by decide +kernel)
set_option maxRecDepth 20000 in
theorem gX10_multiply_X10_trim : GoodIn wsX10_multiply (wsV RX10 69 RX10 yX10_trim wsX10_trim) := goodIn_app (goodIn_of _ (by decide +kernel)) ggX10_multiply_X10_trim
theorem dX10_multiply_0 : decode cX10_multiply 0 = .ok (.aload_n 0, 1) := by decide +kernel
theorem dX10_multiply_1 : decode cX10_multiply 1 = .ok (.getfield 41, 3) := by decide +kernel
theorem dX10_multiply_4 : decode cX10_multiply 4 = .ok (.iload_n 1, 1) := by decide +kernel
theorem dX10_multiply_5 : decode cX10_multiply 5 = .ok (.iaload, 1) := by decide +kernel
theorem dX10_multiply_6 : decode cX10_multiply 6 = .ok (.aload_n 0, 1) := by decide +kernel
theorem dX10_multiply_7 : decode cX10_multiply 7 = .ok (.getfield 41, 3) := by decide +kernel
theorem dX10_multiply_10 : decode cX10_multiply 10 = .ok (.iload_n 2, 1) := by decide +kernel
theorem dX10_multiply_11 : decode cX10_multiply 11 = .ok (.iaload, 1) := by decide +kernel
theorem dX10_multiply_12 : decode cX10_multiply 12 = .ok (.iadd, 1) := by decide +kernel
theorem dX10_multiply_13 : decode cX10_multiply 13 = .ok (.istore 4, 2) := by decide +kernel
theorem dX10_multiply_15 : decode cX10_multiply 15 = .ok (.iconst 0, 1) := by decide +kernel
theorem dX10_multiply_16 : decode cX10_multiply 16 = .ok (.istore 5, 2) := by decide +kernel
theorem dX10_multiply_18 : decode cX10_multiply 18 = .ok (.iload 5, 2) := by decide +kernel
theorem dX10_multiply_20 : decode cX10_multiply 20 = .ok (.iload 4, 2) := by decide +kernel
theorem dX10_multiply_22 : decode cX10_multiply 22 = .ok (.if_icmp .ge 22, 3) := by decide +kernel
theorem dX10_multiply_25 : decode cX10_multiply 25 = .ok (.aload_n 0, 1) := by decide +kernel
theorem dX10_multiply_26 : decode cX10_multiply 26 = .ok (.getfield 38, 3) := by decide +kernel
theorem dX10_multiply_29 : decode cX10_multiply 29 = .ok (.bipush 64, 2) := by decide +kernel
theorem dX10_multiply_31 : decode cX10_multiply 31 = .ok (.iload_n 3, 1) := by decide +kernel
theorem dX10_multiply_32 : decode cX10_multiply 32 = .ok (.imul, 1) := by decide +kernel
theorem dX10_multiply_33 : decode cX10_multiply 33 = .ok (.iload 5, 2) := by decide +kernel
theorem dX10_multiply_35 : decode cX10_multiply 35 = .ok (.iadd, 1) := by decide +kernel
theorem dX10_multiply_36 : decode cX10_multiply 36 = .ok (.iconst 0, 1) := by decide +kernel
theorem dX10_multiply_37 : decode cX10_multiply 37 = .ok (.iastore, 1) := by decide +kernel
theorem dX10_multiply_38 : decode cX10_multiply 38 = .ok (.iinc 5 1, 3) := by decide +kernel
theorem dX10_multiply_41 : decode cX10_multiply 41 = .ok (.goto (-23), 3) := by decide +kernel
theorem dX10_multiply_44 : decode cX10_multiply 44 = .ok (.iconst 0, 1) := by decide +kernel
theorem dX10_multiply_45 : decode cX10_multiply 45 = .ok (.istore 5, 2) := by decide +kernel
theorem dX10_multiply_47 : decode cX10_multiply 47 = .ok (.iload 5, 2) := by decide +kernel
theorem dX10_multiply_49 : decode cX10_multiply 49 = .ok (.aload_n 0, 1) := by decide +kernel
theorem dX10_multiply_50 : decode cX10_multiply 50 = .ok (.getfield 41, 3) := by decide +kernel
theorem dX10_multiply_53 : decode cX10_multiply 53 = .ok (.iload_n 1, 1) := by decide +kernel
theorem dX10_multiply_54 : decode cX10_multiply 54 = .ok (.iaload, 1) := by decide +kernel
theorem dX10_multiply_55 : decode cX10_multiply 55 = .ok (.if_icmp .ge 136, 3) := by decide +kernel
theorem dX10_multiply_58 : decode cX10_multiply 58 = .ok (.lconst 0, 1) := by decide +kernel
theorem dX10_multiply_59 : decode cX10_multiply 59 = .ok (.lstore 6, 2) := by decide +kernel
theorem dX10_multiply_61 : decode cX10_multiply 61 = .ok (.aload_n 0, 1) := by decide +kernel
theorem dX10_multiply_62 : decode cX10_multiply 62 = .ok (.getfield 38, 3) := by decide +kernel
theorem dX10_multiply_65 : decode cX10_multiply 65 = .ok (.bipush 64, 2) := by decide +kernel
theorem dX10_multiply_67 : decode cX10_multiply 67 = .ok (.iload_n 1, 1) := by decide +kernel
theorem dX10_multiply_68 : decode cX10_multiply 68 = .ok (.imul, 1) := by decide +kernel
theorem dX10_multiply_69 : decode cX10_multiply 69 = .ok (.iload 5, 2) := by decide +kernel
theorem dX10_multiply_71 : decode cX10_multiply 71 = .ok (.iadd, 1) := by decide +kernel
theorem dX10_multiply_72 : decode cX10_multiply 72 = .ok (.iaload, 1) := by decide +kernel
theorem dX10_multiply_73 : decode cX10_multiply 73 = .ok (.i2l, 1) := by decide +kernel
theorem dX10_multiply_74 : decode cX10_multiply 74 = .ok (.lstore 8, 2) := by decide +kernel
theorem dX10_multiply_76 : decode cX10_multiply 76 = .ok (.iconst 0, 1) := by decide +kernel
theorem dX10_multiply_77 : decode cX10_multiply 77 = .ok (.istore 10, 2) := by decide +kernel
theorem dX10_multiply_79 : decode cX10_multiply 79 = .ok (.iload 10, 2) := by decide +kernel
theorem dX10_multiply_81 : decode cX10_multiply 81 = .ok (.aload_n 0, 1) := by decide +kernel
theorem dX10_multiply_82 : decode cX10_multiply 82 = .ok (.getfield 41, 3) := by decide +kernel
theorem dX10_multiply_85 : decode cX10_multiply 85 = .ok (.iload_n 2, 1) := by decide +kernel
theorem dX10_multiply_86 : decode cX10_multiply 86 = .ok (.iaload, 1) := by decide +kernel
theorem dX10_multiply_87 : decode cX10_multiply 87 = .ok (.if_icmp .lt 10, 3) := by decide +kernel
theorem dX10_multiply_90 : decode cX10_multiply 90 = .ok (.lload 6, 2) := by decide +kernel
theorem dX10_multiply_92 : decode cX10_multiply 92 = .ok (.lconst 0, 1) := by decide +kernel
theorem dX10_multiply_93 : decode cX10_multiply 93 = .ok (.lcmp, 1) := by decide +kernel
theorem dX10_multiply_94 : decode cX10_multiply 94 = .ok (.ifCond .le 91, 3) := by decide +kernel
theorem dX10_multiply_97 : decode cX10_multiply 97 = .ok (.aload_n 0, 1) := by decide +kernel
theorem dX10_multiply_98 : decode cX10_multiply 98 = .ok (.getfield 38, 3) := by decide +kernel
theorem dX10_multiply_101 : decode cX10_multiply 101 = .ok (.bipush 64, 2) := by decide +kernel
theorem dX10_multiply_103 : decode cX10_multiply 103 = .ok (.iload_n 3, 1) := by decide +kernel
theorem dX10_multiply_104 : decode cX10_multiply 104 = .ok (.imul, 1) := by decide +kernel
theorem dX10_multiply_105 : decode cX10_multiply 105 = .ok (.iload 5, 2) := by decide +kernel
theorem dX10_multiply_107 : decode cX10_multiply 107 = .ok (.iadd, 1) := by decide +kernel
theorem dX10_multiply_108 : decode cX10_multiply 108 = .ok (.iload 10, 2) := by decide +kernel
theorem dX10_multiply_110 : decode cX10_multiply 110 = .ok (.iadd, 1) := by decide +kernel
theorem dX10_multiply_111 : decode cX10_multiply 111 = .ok (.iaload, 1) := by decide +kernel
theorem dX10_multiply_112 : decode cX10_multiply 112 = .ok (.i2l, 1) := by decide +kernel
theorem dX10_multiply_113 : decode cX10_multiply 113 = .ok (.lload 6, 2) := by decide +kernel
theorem dX10_multiply_115 : decode cX10_multiply 115 = .ok (.ladd, 1) := by decide +kernel
theorem dX10_multiply_116 : decode cX10_multiply 116 = .ok (.iload 10, 2) := by decide +kernel
theorem dX10_multiply_118 : decode cX10_multiply 118 = .ok (.aload_n 0, 1) := by decide +kernel
theorem dX10_multiply_119 : decode cX10_multiply 119 = .ok (.getfield 41, 3) := by decide +kernel
theorem dX10_multiply_122 : decode cX10_multiply 122 = .ok (.iload_n 2, 1) := by decide +kernel
theorem dX10_multiply_123 : decode cX10_multiply 123 = .ok (.iaload, 1) := by decide +kernel
theorem dX10_multiply_124 : decode cX10_multiply 124 = .ok (.if_icmp .ge 22, 3) := by decide +kernel
theorem dX10_multiply_127 : decode cX10_multiply 127 = .ok (.lload 8, 2) := by decide +kernel
theorem dX10_multiply_129 : decode cX10_multiply 129 = .ok (.aload_n 0, 1) := by decide +kernel
theorem dX10_multiply_130 : decode cX10_multiply 130 = .ok (.getfield 38, 3) := by decide +kernel
theorem dX10_multiply_133 : decode cX10_multiply 133 = .ok (.bipush 64, 2) := by decide +kernel
theorem dX10_multiply_135 : decode cX10_multiply 135 = .ok (.iload_n 2, 1) := by decide +kernel
theorem dX10_multiply_136 : decode cX10_multiply 136 = .ok (.imul, 1) := by decide +kernel
theorem dX10_multiply_137 : decode cX10_multiply 137 = .ok (.iload 10, 2) := by decide +kernel
theorem dX10_multiply_139 : decode cX10_multiply 139 = .ok (.iadd, 1) := by decide +kernel
theorem dX10_multiply_140 : decode cX10_multiply 140 = .ok (.iaload, 1) := by decide +kernel
theorem dX10_multiply_141 : decode cX10_multiply 141 = .ok (.i2l, 1) := by decide +kernel
theorem dX10_multiply_142 : decode cX10_multiply 142 = .ok (.lmul, 1) := by decide +kernel
theorem dX10_multiply_143 : decode cX10_multiply 143 = .ok (.goto 4, 3) := by decide +kernel
theorem dX10_multiply_146 : decode cX10_multiply 146 = .ok (.lconst 0, 1) := by decide +kernel
theorem dX10_multiply_147 : decode cX10_multiply 147 = .ok (.ladd, 1) := by decide +kernel
theorem dX10_multiply_148 : decode cX10_multiply 148 = .ok (.lstore 11, 2) := by decide +kernel
theorem dX10_multiply_150 : decode cX10_multiply 150 = .ok (.aload_n 0, 1) := by decide +kernel
theorem dX10_multiply_151 : decode cX10_multiply 151 = .ok (.getfield 38, 3) := by decide +kernel
theorem dX10_multiply_154 : decode cX10_multiply 154 = .ok (.bipush 64, 2) := by decide +kernel
theorem dX10_multiply_156 : decode cX10_multiply 156 = .ok (.iload_n 3, 1) := by decide +kernel
theorem dX10_multiply_157 : decode cX10_multiply 157 = .ok (.imul, 1) := by decide +kernel
theorem dX10_multiply_158 : decode cX10_multiply 158 = .ok (.iload 5, 2) := by decide +kernel
theorem dX10_multiply_160 : decode cX10_multiply 160 = .ok (.iadd, 1) := by decide +kernel
theorem dX10_multiply_161 : decode cX10_multiply 161 = .ok (.iload 10, 2) := by decide +kernel
theorem dX10_multiply_163 : decode cX10_multiply 163 = .ok (.iadd, 1) := by decide +kernel
theorem dX10_multiply_164 : decode cX10_multiply 164 = .ok (.lload 11, 2) := by decide +kernel
theorem dX10_multiply_166 : decode cX10_multiply 166 = .ok (.ldc2_w 59, 3) := by decide +kernel
theorem dX10_multiply_169 : decode cX10_multiply 169 = .ok (.land, 1) := by decide +kernel
theorem dX10_multiply_170 : decode cX10_multiply 170 = .ok (.l2i, 1) := by decide +kernel
theorem dX10_multiply_171 : decode cX10_multiply 171 = .ok (.iastore, 1) := by decide +kernel
theorem dX10_multiply_172 : decode cX10_multiply 172 = .ok (.lload 11, 2) := by decide +kernel
theorem dX10_multiply_174 : decode cX10_multiply 174 = .ok (.bipush 28, 2) := by decide +kernel
theorem dX10_multiply_176 : decode cX10_multiply 176 = .ok (.lshr, 1) := by decide +kernel
theorem dX10_multiply_177 : decode cX10_multiply 177 = .ok (.lstore 6, 2) := by decide +kernel
theorem dX10_multiply_179 : decode cX10_multiply 179 = .ok (.iinc 10 1, 3) := by decide +kernel
theorem dX10_multiply_182 : decode cX10_multiply 182 = .ok (.goto (-103), 3) := by decide +kernel
theorem dX10_multiply_185 : decode cX10_multiply 185 = .ok (.iinc 5 1, 3) := by decide +kernel
theorem dX10_multiply_188 : decode cX10_multiply 188 = .ok (.goto (-141), 3) := by decide +kernel
theorem dX10_multiply_191 : decode cX10_multiply 191 = .ok (.aload_n 0, 1) := by decide +kernel
theorem dX10_multiply_192 : decode cX10_multiply 192 = .ok (.getfield 44, 3) := by decide +kernel
theorem dX10_multiply_195 : decode cX10_multiply 195 = .ok (.iload_n 3, 1) := by decide +kernel
theorem dX10_multiply_196 : decode cX10_multiply 196 = .ok (.aload_n 0, 1) := by decide +kernel
theorem dX10_multiply_197 : decode cX10_multiply 197 = .ok (.getfield 44, 3) := by decide +kernel
theorem dX10_multiply_200 : decode cX10_multiply 200 = .ok (.iload_n 1, 1) := by decide +kernel
theorem dX10_multiply_201 : decode cX10_multiply 201 = .ok (.iaload, 1) := by decide +kernel
theorem dX10_multiply_202 : decode cX10_multiply 202 = .ok (.aload_n 0, 1) := by decide +kernel
theorem dX10_multiply_203 : decode cX10_multiply 203 = .ok (.getfield 44, 3) := by decide +kernel
theorem dX10_multiply_206 : decode cX10_multiply 206 = .ok (.iload_n 2, 1) := by decide +kernel
theorem dX10_multiply_207 : decode cX10_multiply 207 = .ok (.iaload, 1) := by decide +kernel
theorem dX10_multiply_208 : decode cX10_multiply 208 = .ok (.imul, 1) := by decide +kernel
theorem dX10_multiply_209 : decode cX10_multiply 209 = .ok (.iastore, 1) := by decide +kernel
theorem dX10_multiply_210 : decode cX10_multiply 210 = .ok (.aload_n 0, 1) := by decide +kernel
theorem dX10_multiply_211 : decode cX10_multiply 211 = .ok (.iload_n 3, 1) := by decide +kernel
theorem dX10_multiply_212 : decode cX10_multiply 212 = .ok (.iload 4, 2) := by decide +kernel
theorem dX10_multiply_214 : decode cX10_multiply 214 = .ok (.invokevirtual 69, 3) := by decide +kernel
theorem dX10_multiply_217 : decode cX10_multiply 217 = .ok (.return_, 1) := by decide +kernel
set_option maxRecDepth 20000 in
theorem ggX10_overSmall_X10_trim : GoodIn wsX10_overSmall wsX10_trim := goodIn_r _ [8, 3, 1, 9, 10, 11, 12, 13, 14, 15, 16, 17, 18, 19, 20, 21, 22, 23, 24, 25, 26, 27, 28, 29] (by decide +kernel) (by decide +kernel)
set_option maxRecDepth 20000 in
theorem gX10_overSmall_X10_trim : GoodIn wsX10_overSmall (wsV RX10 69 RX10 yX10_trim wsX10_trim) := goodIn_app (goodIn_of _ (by decide +kernel)) ggX10_overSmall_X10_trim
theorem dX10_overSmall_0 : decode cX10_overSmall 0 = .ok (.lconst 0, 1) := by decide +kernel
theorem dX10_overSmall_1 : decode cX10_overSmall 1 = .ok (.lstore_n 3, 1) := by decide +kernel
theorem dX10_overSmall_2 : decode cX10_overSmall 2 = .ok (.aload_n 0, 1) := by decide +kernel
theorem dX10_overSmall_3 : decode cX10_overSmall 3 = .ok (.getfield 41, 3) := by decide +kernel
theorem dX10_overSmall_6 : decode cX10_overSmall 6 = .ok (.iload_n 1, 1) := by decide +kernel
theorem dX10_overSmall_7 : decode cX10_overSmall 7 = .ok (.iaload, 1) := by decide +kernel
theorem dX10_overSmall_8 : decode cX10_overSmall 8 = .ok (.iconst 1, 1) := by decide +kernel
theorem dX10_overSmall_9 : decode cX10_overSmall 9 = .ok (.isub, 1) := by decide +kernel
theorem dX10_overSmall_10 : decode cX10_overSmall 10 = .ok (.istore 5, 2) := by decide +kernel
theorem dX10_overSmall_12 : decode cX10_overSmall 12 = .ok (.iload 5, 2) := by decide +kernel
theorem dX10_overSmall_14 : decode cX10_overSmall 14 = .ok (.ifCond .lt 54, 3) := by decide +kernel
theorem dX10_overSmall_17 : decode cX10_overSmall 17 = .ok (.lload_n 3, 1) := by decide +kernel
theorem dX10_overSmall_18 : decode cX10_overSmall 18 = .ok (.ldc2_w 74, 3) := by decide +kernel
theorem dX10_overSmall_21 : decode cX10_overSmall 21 = .ok (.lmul, 1) := by decide +kernel
theorem dX10_overSmall_22 : decode cX10_overSmall 22 = .ok (.aload_n 0, 1) := by decide +kernel
theorem dX10_overSmall_23 : decode cX10_overSmall 23 = .ok (.getfield 38, 3) := by decide +kernel
theorem dX10_overSmall_26 : decode cX10_overSmall 26 = .ok (.bipush 64, 2) := by decide +kernel
theorem dX10_overSmall_28 : decode cX10_overSmall 28 = .ok (.iload_n 1, 1) := by decide +kernel
theorem dX10_overSmall_29 : decode cX10_overSmall 29 = .ok (.imul, 1) := by decide +kernel
theorem dX10_overSmall_30 : decode cX10_overSmall 30 = .ok (.iload 5, 2) := by decide +kernel
theorem dX10_overSmall_32 : decode cX10_overSmall 32 = .ok (.iadd, 1) := by decide +kernel
theorem dX10_overSmall_33 : decode cX10_overSmall 33 = .ok (.iaload, 1) := by decide +kernel
theorem dX10_overSmall_34 : decode cX10_overSmall 34 = .ok (.i2l, 1) := by decide +kernel
theorem dX10_overSmall_35 : decode cX10_overSmall 35 = .ok (.ladd, 1) := by decide +kernel
theorem dX10_overSmall_36 : decode cX10_overSmall 36 = .ok (.lstore 6, 2) := by decide +kernel
theorem dX10_overSmall_38 : decode cX10_overSmall 38 = .ok (.aload_n 0, 1) := by decide +kernel
theorem dX10_overSmall_39 : decode cX10_overSmall 39 = .ok (.getfield 38, 3) := by decide +kernel
theorem dX10_overSmall_42 : decode cX10_overSmall 42 = .ok (.bipush 64, 2) := by decide +kernel
theorem dX10_overSmall_44 : decode cX10_overSmall 44 = .ok (.iload_n 1, 1) := by decide +kernel
theorem dX10_overSmall_45 : decode cX10_overSmall 45 = .ok (.imul, 1) := by decide +kernel
theorem dX10_overSmall_46 : decode cX10_overSmall 46 = .ok (.iload 5, 2) := by decide +kernel
theorem dX10_overSmall_48 : decode cX10_overSmall 48 = .ok (.iadd, 1) := by decide +kernel
theorem dX10_overSmall_49 : decode cX10_overSmall 49 = .ok (.lload 6, 2) := by decide +kernel
theorem dX10_overSmall_51 : decode cX10_overSmall 51 = .ok (.iload_n 2, 1) := by decide +kernel
theorem dX10_overSmall_52 : decode cX10_overSmall 52 = .ok (.i2l, 1) := by decide +kernel
theorem dX10_overSmall_53 : decode cX10_overSmall 53 = .ok (.ldiv, 1) := by decide +kernel
theorem dX10_overSmall_54 : decode cX10_overSmall 54 = .ok (.l2i, 1) := by decide +kernel
theorem dX10_overSmall_55 : decode cX10_overSmall 55 = .ok (.iastore, 1) := by decide +kernel
theorem dX10_overSmall_56 : decode cX10_overSmall 56 = .ok (.lload 6, 2) := by decide +kernel
theorem dX10_overSmall_58 : decode cX10_overSmall 58 = .ok (.iload_n 2, 1) := by decide +kernel
theorem dX10_overSmall_59 : decode cX10_overSmall 59 = .ok (.i2l, 1) := by decide +kernel
theorem dX10_overSmall_60 : decode cX10_overSmall 60 = .ok (.lrem, 1) := by decide +kernel
theorem dX10_overSmall_61 : decode cX10_overSmall 61 = .ok (.lstore_n 3, 1) := by decide +kernel
theorem dX10_overSmall_62 : decode cX10_overSmall 62 = .ok (.iinc 5 (-1), 3) := by decide +kernel
theorem dX10_overSmall_65 : decode cX10_overSmall 65 = .ok (.goto (-53), 3) := by decide +kernel
theorem dX10_overSmall_68 : decode cX10_overSmall 68 = .ok (.aload_n 0, 1) := by decide +kernel
theorem dX10_overSmall_69 : decode cX10_overSmall 69 = .ok (.iload_n 1, 1) := by decide +kernel
theorem dX10_overSmall_70 : decode cX10_overSmall 70 = .ok (.aload_n 0, 1) := by decide +kernel
theorem dX10_overSmall_71 : decode cX10_overSmall 71 = .ok (.getfield 41, 3) := by decide +kernel
theorem dX10_overSmall_74 : decode cX10_overSmall 74 = .ok (.iload_n 1, 1) := by decide +kernel
theorem dX10_overSmall_75 : decode cX10_overSmall 75 = .ok (.iaload, 1) := by decide +kernel
theorem dX10_overSmall_76 : decode cX10_overSmall 76 = .ok (.invokevirtual 69, 3) := by decide +kernel
theorem dX10_overSmall_79 : decode cX10_overSmall 79 = .ok (.lload_n 3, 1) := by decide +kernel
theorem dX10_overSmall_80 : decode cX10_overSmall 80 = .ok (.l2i, 1) := by decide +kernel
theorem dX10_overSmall_81 : decode cX10_overSmall 81 = .ok (.ireturn, 1) := by decide +kernel
set_option maxRecDepth 20000 in
theorem ggX10_over_X10_setSmall : GoodIn wsX10_over wsX10_setSmall := goodIn_r _ [8, 1, 3, 9, 2, 32, 33, 34, 35, 36, 37, 38, 39, 40, 41, 42, 43, 44, 45, 46, 47, 48, 49, 50, 51] (by decide +kernel) (by decide +kernel)
set_option maxRecDepth 20000 in
theorem gX10_over_X10_setSmall : GoodIn wsX10_over (wsV RX10 76 RX10 yX10_setSmall wsX10_setSmall) := goodIn_app (goodIn_of _ (by decide +kernel)) ggX10_over_X10_setSmall
set_option maxRecDepth 20000 in
theorem ggX10_over_X10_times : GoodIn wsX10_over wsX10_times := goodIn_r _ [13, 2, 3, 9, 1, 14, 15, 16, 7, 17, 32, 33, 34, 35, 36, 37, 38, 39, 40, 41, 42, 43, 44, 45, 46, 47, 48, 49, 50, 51] (by decide +kernel) (by decide +kernel)
set_option maxRecDepth 20000 in
theorem gX10_over_X10_times : GoodIn wsX10_over (wsV RX10 80 RX10 yX10_times wsX10_times) := goodIn_app (goodIn_of _ (by decide +kernel)) ggX10_over_X10_times
set_option maxRecDepth 20000 in
theorem ggX10_over_X10_compareSizes : GoodIn wsX10_over wsX10_compareSizes := goodIn_r _ [21, 2, 3, 32, 33, 34, 35, 36, 37, 38, 39, 40, 41, 42, 43, 44, 45, 46, 47, 48, 49, 50, 51] (by decide +kernel) (by decide +kernel)
set_option maxRecDepth 20000 in
theorem gX10_over_X10_compareSizes : GoodIn wsX10_over (wsV RX10 61 RX10 yX10_compareSizes wsX10_compareSizes) := goodIn_app (goodIn_of _ (by decide +kernel)) ggX10_over_X10_compareSizes
set_option maxRecDepth 20000 in
theorem ggX10_over_X10_plus : GoodIn wsX10_over wsX10_plus := goodIn_r _ [25, 1, 2, 3, 26, 27, 28, 29, 30, 7, 31, 14, 15, 16, 17, 18, 19, 20, 21, 32, 33, 34, 35, 36, 37, 38, 39, 40, 41, 42, 43, 44, 45, 46, 47, 48, 49, 50, 51] (by decide +kernel) (by decide +kernel)
set_option maxRecDepth 20000 in
theorem gX10_over_X10_plus : GoodIn wsX10_over (wsV RX10 83 RX10 yX10_plus wsX10_plus) := goodIn_app (goodIn_of _ (by decide +kernel)) ggX10_over_X10_plus
set_option maxRecDepth 20000 in
theorem ggX10_over_X10_trim : GoodIn wsX10_over wsX10_trim := goodIn_r _ [17, 3, 2, 1, 32, 33, 34, 35, 36, 37, 38, 39, 40, 41, 42, 43, 44, 45, 46, 47, 48, 49, 50, 51] (by decide +kernel) (by decide +kernel)
set_option maxRecDepth 20000 in
theorem gX10_over_X10_trim : GoodIn wsX10_over (wsV RX10 69 RX10 yX10_trim wsX10_trim) := goodIn_app (goodIn_of _ (by decide +kernel)) ggX10_over_X10_trim
theorem dX10_over_0 : decode cX10_over 0 = .ok (.aload_n 0, 1) := by decide +kernel
theorem dX10_over_1 : decode cX10_over 1 = .ok (.getfield 44, 3) := by decide +kernel
theorem dX10_over_4 : decode cX10_over 4 = .ok (.iload_n 1, 1) := by decide +kernel
theorem dX10_over_5 : decode cX10_over 5 = .ok (.iaload, 1) := by decide +kernel
theorem dX10_over_6 : decode cX10_over 6 = .ok (.aload_n 0, 1) := by decide +kernel
theorem dX10_over_7 : decode cX10_over 7 = .ok (.getfield 44, 3) := by decide +kernel
theorem dX10_over_10 : decode cX10_over 10 = .ok (.iload_n 2, 1) := by decide +kernel
theorem dX10_over_11 : decode cX10_over 11 = .ok (.iaload, 1) := by decide +kernel
theorem dX10_over_12 : decode cX10_over 12 = .ok (.imul, 1) := by decide +kernel
theorem dX10_over_13 : decode cX10_over 13 = .ok (.istore_n 3, 1) := by decide +kernel
theorem dX10_over_14 : decode cX10_over 14 = .ok (.aload_n 0, 1) := by decide +kernel
theorem dX10_over_15 : decode cX10_over 15 = .ok (.getfield 41, 3) := by decide +kernel
theorem dX10_over_18 : decode cX10_over 18 = .ok (.iload_n 1, 1) := by decide +kernel
theorem dX10_over_19 : decode cX10_over 19 = .ok (.iaload, 1) := by decide +kernel
theorem dX10_over_20 : decode cX10_over 20 = .ok (.istore 4, 2) := by decide +kernel
theorem dX10_over_22 : decode cX10_over 22 = .ok (.aload_n 0, 1) := by decide +kernel
theorem dX10_over_23 : decode cX10_over 23 = .ok (.bipush 52, 2) := by decide +kernel
theorem dX10_over_25 : decode cX10_over 25 = .ok (.lconst 0, 1) := by decide +kernel
theorem dX10_over_26 : decode cX10_over 26 = .ok (.invokevirtual 76, 3) := by decide +kernel
theorem dX10_over_29 : decode cX10_over 29 = .ok (.bipush 28, 2) := by decide +kernel
theorem dX10_over_31 : decode cX10_over 31 = .ok (.iload 4, 2) := by decide +kernel
theorem dX10_over_33 : decode cX10_over 33 = .ok (.imul, 1) := by decide +kernel
theorem dX10_over_34 : decode cX10_over 34 = .ok (.iconst 1, 1) := by decide +kernel
theorem dX10_over_35 : decode cX10_over 35 = .ok (.isub, 1) := by decide +kernel
theorem dX10_over_36 : decode cX10_over 36 = .ok (.istore 5, 2) := by decide +kernel
theorem dX10_over_38 : decode cX10_over 38 = .ok (.iload 5, 2) := by decide +kernel
theorem dX10_over_40 : decode cX10_over 40 = .ok (.ifCond .lt 210, 3) := by decide +kernel
theorem dX10_over_43 : decode cX10_over 43 = .ok (.aload_n 0, 1) := by decide +kernel
theorem dX10_over_44 : decode cX10_over 44 = .ok (.bipush 52, 2) := by decide +kernel
theorem dX10_over_46 : decode cX10_over 46 = .ok (.iconst 2, 1) := by decide +kernel
theorem dX10_over_47 : decode cX10_over 47 = .ok (.invokevirtual 80, 3) := by decide +kernel
theorem dX10_over_50 : decode cX10_over 50 = .ok (.aload_n 0, 1) := by decide +kernel
theorem dX10_over_51 : decode cX10_over 51 = .ok (.getfield 38, 3) := by decide +kernel
theorem dX10_over_54 : decode cX10_over 54 = .ok (.bipush 64, 2) := by decide +kernel
theorem dX10_over_56 : decode cX10_over 56 = .ok (.iload_n 1, 1) := by decide +kernel
theorem dX10_over_57 : decode cX10_over 57 = .ok (.imul, 1) := by decide +kernel
theorem dX10_over_58 : decode cX10_over 58 = .ok (.iload 5, 2) := by decide +kernel
theorem dX10_over_60 : decode cX10_over 60 = .ok (.bipush 28, 2) := by decide +kernel
theorem dX10_over_62 : decode cX10_over 62 = .ok (.idiv, 1) := by decide +kernel
theorem dX10_over_63 : decode cX10_over 63 = .ok (.iadd, 1) := by decide +kernel
theorem dX10_over_64 : decode cX10_over 64 = .ok (.iaload, 1) := by decide +kernel
theorem dX10_over_65 : decode cX10_over 65 = .ok (.iload 5, 2) := by decide +kernel
theorem dX10_over_67 : decode cX10_over 67 = .ok (.bipush 28, 2) := by decide +kernel
theorem dX10_over_69 : decode cX10_over 69 = .ok (.irem, 1) := by decide +kernel
theorem dX10_over_70 : decode cX10_over 70 = .ok (.ishr, 1) := by decide +kernel
theorem dX10_over_71 : decode cX10_over 71 = .ok (.iconst 1, 1) := by decide +kernel
theorem dX10_over_72 : decode cX10_over 72 = .ok (.iand, 1) := by decide +kernel
theorem dX10_over_73 : decode cX10_over 73 = .ok (.istore 6, 2) := by decide +kernel
theorem dX10_over_75 : decode cX10_over 75 = .ok (.iload 6, 2) := by decide +kernel
theorem dX10_over_77 : decode cX10_over 77 = .ok (.iconst 1, 1) := by decide +kernel
theorem dX10_over_78 : decode cX10_over 78 = .ok (.if_icmp .ne 71, 3) := by decide +kernel
theorem dX10_over_81 : decode cX10_over 81 = .ok (.aload_n 0, 1) := by decide +kernel
theorem dX10_over_82 : decode cX10_over 82 = .ok (.getfield 38, 3) := by decide +kernel
theorem dX10_over_85 : decode cX10_over 85 = .ok (.sipush 3328, 3) := by decide +kernel
theorem dX10_over_88 : decode cX10_over 88 = .ok (.aload_n 0, 1) := by decide +kernel
theorem dX10_over_89 : decode cX10_over 89 = .ok (.getfield 41, 3) := by decide +kernel
theorem dX10_over_92 : decode cX10_over 92 = .ok (.bipush 52, 2) := by decide +kernel
theorem dX10_over_94 : decode cX10_over 94 = .ok (.iaload, 1) := by decide +kernel
theorem dX10_over_95 : decode cX10_over 95 = .ok (.ifCond .ne 7, 3) := by decide +kernel
theorem dX10_over_98 : decode cX10_over 98 = .ok (.iconst 1, 1) := by decide +kernel
theorem dX10_over_99 : decode cX10_over 99 = .ok (.goto 13, 3) := by decide +kernel
theorem dX10_over_102 : decode cX10_over 102 = .ok (.aload_n 0, 1) := by decide +kernel
theorem dX10_over_103 : decode cX10_over 103 = .ok (.getfield 38, 3) := by decide +kernel
theorem dX10_over_106 : decode cX10_over 106 = .ok (.sipush 3328, 3) := by decide +kernel
theorem dX10_over_109 : decode cX10_over 109 = .ok (.iaload, 1) := by decide +kernel
theorem dX10_over_110 : decode cX10_over 110 = .ok (.iconst 1, 1) := by decide +kernel
theorem dX10_over_111 : decode cX10_over 111 = .ok (.ior, 1) := by decide +kernel
theorem dX10_over_112 : decode cX10_over 112 = .ok (.iastore, 1) := by decide +kernel
theorem dX10_over_113 : decode cX10_over 113 = .ok (.aload_n 0, 1) := by decide +kernel
theorem dX10_over_114 : decode cX10_over 114 = .ok (.getfield 41, 3) := by decide +kernel
theorem dX10_over_117 : decode cX10_over 117 = .ok (.bipush 52, 2) := by decide +kernel
theorem dX10_over_119 : decode cX10_over 119 = .ok (.aload_n 0, 1) := by decide +kernel
theorem dX10_over_120 : decode cX10_over 120 = .ok (.getfield 41, 3) := by decide +kernel
theorem dX10_over_123 : decode cX10_over 123 = .ok (.bipush 52, 2) := by decide +kernel
theorem dX10_over_125 : decode cX10_over 125 = .ok (.iaload, 1) := by decide +kernel
theorem dX10_over_126 : decode cX10_over 126 = .ok (.ifCond .ne 7, 3) := by decide +kernel
theorem dX10_over_129 : decode cX10_over 129 = .ok (.iconst 1, 1) := by decide +kernel
theorem dX10_over_130 : decode cX10_over 130 = .ok (.goto 10, 3) := by decide +kernel
theorem dX10_over_133 : decode cX10_over 133 = .ok (.aload_n 0, 1) := by decide +kernel
theorem dX10_over_134 : decode cX10_over 134 = .ok (.getfield 41, 3) := by decide +kernel
theorem dX10_over_137 : decode cX10_over 137 = .ok (.bipush 52, 2) := by decide +kernel
theorem dX10_over_139 : decode cX10_over 139 = .ok (.iaload, 1) := by decide +kernel
theorem dX10_over_140 : decode cX10_over 140 = .ok (.iastore, 1) := by decide +kernel
theorem dX10_over_141 : decode cX10_over 141 = .ok (.aload_n 0, 1) := by decide +kernel
theorem dX10_over_142 : decode cX10_over 142 = .ok (.getfield 44, 3) := by decide +kernel
theorem dX10_over_145 : decode cX10_over 145 = .ok (.bipush 52, 2) := by decide +kernel
theorem dX10_over_147 : decode cX10_over 147 = .ok (.iconst 1, 1) := by decide +kernel
theorem dX10_over_148 : decode cX10_over 148 = .ok (.iastore, 1) := by decide +kernel
theorem dX10_over_149 : decode cX10_over 149 = .ok (.aload_n 0, 1) := by decide +kernel
theorem dX10_over_150 : decode cX10_over 150 = .ok (.bipush 52, 2) := by decide +kernel
theorem dX10_over_152 : decode cX10_over 152 = .ok (.iload_n 2, 1) := by decide +kernel
theorem dX10_over_153 : decode cX10_over 153 = .ok (.invokevirtual 61, 3) := by decide +kernel
theorem dX10_over_156 : decode cX10_over 156 = .ok (.ifCond .lt 7, 3) := by decide +kernel
theorem dX10_over_159 : decode cX10_over 159 = .ok (.iconst 1, 1) := by decide +kernel
theorem dX10_over_160 : decode cX10_over 160 = .ok (.goto 4, 3) := by decide +kernel
theorem dX10_over_163 : decode cX10_over 163 = .ok (.iconst 0, 1) := by decide +kernel
theorem dX10_over_164 : decode cX10_over 164 = .ok (.istore 7, 2) := by decide +kernel
theorem dX10_over_166 : decode cX10_over 166 = .ok (.iload 7, 2) := by decide +kernel
theorem dX10_over_168 : decode cX10_over 168 = .ok (.ifCond .eq 17, 3) := by decide +kernel
theorem dX10_over_171 : decode cX10_over 171 = .ok (.aload_n 0, 1) := by decide +kernel
theorem dX10_over_172 : decode cX10_over 172 = .ok (.bipush 52, 2) := by decide +kernel
theorem dX10_over_174 : decode cX10_over 174 = .ok (.iload_n 2, 1) := by decide +kernel
theorem dX10_over_175 : decode cX10_over 175 = .ok (.aload_n 0, 1) := by decide +kernel
theorem dX10_over_176 : decode cX10_over 176 = .ok (.getfield 44, 3) := by decide +kernel
theorem dX10_over_179 : decode cX10_over 179 = .ok (.iload_n 2, 1) := by decide +kernel
theorem dX10_over_180 : decode cX10_over 180 = .ok (.iaload, 1) := by decide +kernel
theorem dX10_over_181 : decode cX10_over 181 = .ok (.ineg, 1) := by decide +kernel
theorem dX10_over_182 : decode cX10_over 182 = .ok (.invokevirtual 83, 3) := by decide +kernel
theorem dX10_over_185 : decode cX10_over 185 = .ok (.bipush 64, 2) := by decide +kernel
theorem dX10_over_187 : decode cX10_over 187 = .ok (.iload_n 1, 1) := by decide +kernel
theorem dX10_over_188 : decode cX10_over 188 = .ok (.imul, 1) := by decide +kernel
theorem dX10_over_189 : decode cX10_over 189 = .ok (.iload 5, 2) := by decide +kernel
theorem dX10_over_191 : decode cX10_over 191 = .ok (.bipush 28, 2) := by decide +kernel
theorem dX10_over_193 : decode cX10_over 193 = .ok (.idiv, 1) := by decide +kernel
theorem dX10_over_194 : decode cX10_over 194 = .ok (.iadd, 1) := by decide +kernel
theorem dX10_over_195 : decode cX10_over 195 = .ok (.istore 8, 2) := by decide +kernel
theorem dX10_over_197 : decode cX10_over 197 = .ok (.aload_n 0, 1) := by decide +kernel
theorem dX10_over_198 : decode cX10_over 198 = .ok (.getfield 38, 3) := by decide +kernel
theorem dX10_over_201 : decode cX10_over 201 = .ok (.iload 8, 2) := by decide +kernel
theorem dX10_over_203 : decode cX10_over 203 = .ok (.iload 7, 2) := by decide +kernel
theorem dX10_over_205 : decode cX10_over 205 = .ok (.ifCond .eq 21, 3) := by decide +kernel
theorem dX10_over_208 : decode cX10_over 208 = .ok (.aload_n 0, 1) := by decide +kernel
theorem dX10_over_209 : decode cX10_over 209 = .ok (.getfield 38, 3) := by decide +kernel
theorem dX10_over_212 : decode cX10_over 212 = .ok (.iload 8, 2) := by decide +kernel
theorem dX10_over_214 : decode cX10_over 214 = .ok (.iaload, 1) := by decide +kernel
theorem dX10_over_215 : decode cX10_over 215 = .ok (.iconst 1, 1) := by decide +kernel
theorem dX10_over_216 : decode cX10_over 216 = .ok (.iload 5, 2) := by decide +kernel
theorem dX10_over_218 : decode cX10_over 218 = .ok (.bipush 28, 2) := by decide +kernel
theorem dX10_over_220 : decode cX10_over 220 = .ok (.irem, 1) := by decide +kernel
theorem dX10_over_221 : decode cX10_over 221 = .ok (.ishl, 1) := by decide +kernel
theorem dX10_over_222 : decode cX10_over 222 = .ok (.ior, 1) := by decide +kernel
theorem dX10_over_223 : decode cX10_over 223 = .ok (.goto 20, 3) := by decide +kernel
theorem dX10_over_226 : decode cX10_over 226 = .ok (.aload_n 0, 1) := by decide +kernel
theorem dX10_over_227 : decode cX10_over 227 = .ok (.getfield 38, 3) := by decide +kernel
theorem dX10_over_230 : decode cX10_over 230 = .ok (.iload 8, 2) := by decide +kernel
theorem dX10_over_232 : decode cX10_over 232 = .ok (.iaload, 1) := by decide +kernel
theorem dX10_over_233 : decode cX10_over 233 = .ok (.iconst 1, 1) := by decide +kernel
theorem dX10_over_234 : decode cX10_over 234 = .ok (.iload 5, 2) := by decide +kernel
theorem dX10_over_236 : decode cX10_over 236 = .ok (.bipush 28, 2) := by decide +kernel
theorem dX10_over_238 : decode cX10_over 238 = .ok (.irem, 1) := by decide +kernel
theorem dX10_over_239 : decode cX10_over 239 = .ok (.ishl, 1) := by decide +kernel
theorem dX10_over_240 : decode cX10_over 240 = .ok (.iconst (-1), 1) := by decide +kernel
theorem dX10_over_241 : decode cX10_over 241 = .ok (.ixor, 1) := by decide +kernel
theorem dX10_over_242 : decode cX10_over 242 = .ok (.iand, 1) := by decide +kernel
theorem dX10_over_243 : decode cX10_over 243 = .ok (.iastore, 1) := by decide +kernel
theorem dX10_over_244 : decode cX10_over 244 = .ok (.iinc 5 (-1), 3) := by decide +kernel
theorem dX10_over_247 : decode cX10_over 247 = .ok (.goto (-209), 3) := by decide +kernel
theorem dX10_over_250 : decode cX10_over 250 = .ok (.aload_n 0, 1) := by decide +kernel
theorem dX10_over_251 : decode cX10_over 251 = .ok (.getfield 44, 3) := by decide +kernel
theorem dX10_over_254 : decode cX10_over 254 = .ok (.iload_n 1, 1) := by decide +kernel
theorem dX10_over_255 : decode cX10_over 255 = .ok (.iload_n 3, 1) := by decide +kernel
theorem dX10_over_256 : decode cX10_over 256 = .ok (.iastore, 1) := by decide +kernel
theorem dX10_over_257 : decode cX10_over 257 = .ok (.aload_n 0, 1) := by decide +kernel
theorem dX10_over_258 : decode cX10_over 258 = .ok (.iload_n 1, 1) := by decide +kernel
theorem dX10_over_259 : decode cX10_over 259 = .ok (.iload 4, 2) := by decide +kernel
theorem dX10_over_261 : decode cX10_over 261 = .ok (.invokevirtual 69, 3) := by decide +kernel
theorem dX10_over_264 : decode cX10_over 264 = .ok (.return_, 1) := by decide +kernel
set_option maxRecDepth 20000 in
theorem ggX10_divisor_X10_overSmall : GoodIn wsX10_divisor wsX10_overSmall := goodIn_r _ [7, 8, 9, 2, 10, 11, 12, 6, 13, 1, 45, 46, 47, 48, 49, 50, 51, 52, 53, 54, 55, 56, 57, 58, 59, 60, 61, 62, 63, 64] (by decide +kernel) (by decide +kernel)
set_option maxRecDepth 20000 in
theorem gX10_divisor_X10_overSmall : GoodIn wsX10_divisor (wsV RX10 87 RX10 yX10_overSmall wsX10_overSmall) := goodIn_app (goodIn_of _ (by decide +kernel)) ggX10_divisor_X10_overSmall
set_option maxRecDepth 20000 in
theorem ggX10_divisor_X10_compareSizes : GoodIn wsX10_divisor wsX10_compareSizes := goodIn_r _ [17, 8, 2, 45, 46, 47, 48, 49, 50, 51, 52, 53, 54, 55, 56, 57, 58, 59, 60, 61, 62, 63, 64] (by decide +kernel) (by decide +kernel)
set_option maxRecDepth 20000 in
theorem gX10_divisor_X10_compareSizes : GoodIn wsX10_divisor (wsV RX10 61 RX10 yX10_compareSizes wsX10_compareSizes) := goodIn_app (goodIn_of _ (by decide +kernel)) ggX10_divisor_X10_compareSizes
set_option maxRecDepth 20000 in
theorem ggX10_divisor_X10_plus : GoodIn wsX10_divisor wsX10_plus := goodIn_r _ [21, 1, 8, 2, 22, 23, 24, 25, 26, 6, 27, 10, 11, 12, 13, 14, 15, 16, 17, 45, 46, 47, 48, 49, 50, 51, 52, 53, 54, 55, 56, 57, 58, 59, 60, 61, 62, 63, 64] (by decide +kernel) (by decide +kernel)
set_option maxRecDepth 20000 in
theorem gX10_divisor_X10_plus : GoodIn wsX10_divisor (wsV RX10 83 RX10 yX10_plus wsX10_plus) := goodIn_app (goodIn_of _ (by decide +kernel)) ggX10_divisor_X10_plus
set_option maxRecDepth 20000 in
theorem ggX10_divisor_X10_copy : GoodIn wsX10_divisor wsX10_copy := goodIn_r _ [31, 1, 8, 2, 45, 46, 47, 48, 49, 50, 51, 52, 53, 54, 55, 56, 57, 58, 59, 60, 61, 62, 63, 64] (by decide +kernel) (by decide +kernel)
set_option maxRecDepth 20000 in
theorem gX10_divisor_X10_copy : GoodIn wsX10_divisor (wsV RX10 90 RX10 yX10_copy wsX10_copy) := goodIn_app (goodIn_of _ (by decide +kernel)) ggX10_divisor_X10_copy
set_option maxRecDepth 20000 in
theorem ggX10_divisor_X10_swapped : GoodIn wsX10_divisor wsX10_swapped := goodIn_r _ [35, 28, 29, 30, 6, 31, 1, 8, 2, 36, 37, 38, 39, 40, 45, 46, 47, 48, 49, 50, 51, 52, 53, 54, 55, 56, 57, 58, 59, 60, 61, 62, 63, 64] (by decide +kernel) (by decide +kernel)
set_option maxRecDepth 20000 in
theorem gX10_divisor_X10_swapped : GoodIn wsX10_divisor (wsV RX10 93 RX10 yX10_swapped wsX10_swapped) := goodIn_app (goodIn_of _ (by decide +kernel)) ggX10_divisor_X10_swapped
set_option maxRecDepth 20000 in
theorem ggX10_divisor_X10_times : GoodIn wsX10_divisor wsX10_times := goodIn_r _ [44, 8, 2, 40, 1, 10, 11, 12, 6, 13, 45, 46, 47, 48, 49, 50, 51, 52, 53, 54, 55, 56, 57, 58, 59, 60, 61, 62, 63, 64] (by decide +kernel) (by decide +kernel)
set_option maxRecDepth 20000 in
theorem gX10_divisor_X10_times : GoodIn wsX10_divisor (wsV RX10 80 RX10 yX10_times wsX10_times) := goodIn_app (goodIn_of _ (by decide +kernel)) ggX10_divisor_X10_times
theorem dX10_divisor_0 : decode cX10_divisor 0 = .ok (.iconst 0, 1) := by decide +kernel
theorem dX10_divisor_1 : decode cX10_divisor 1 = .ok (.istore_n 3, 1) := by decide +kernel
theorem dX10_divisor_2 : decode cX10_divisor 2 = .ok (.aload_n 0, 1) := by decide +kernel
theorem dX10_divisor_3 : decode cX10_divisor 3 = .ok (.getfield 44, 3) := by decide +kernel
theorem dX10_divisor_6 : decode cX10_divisor 6 = .ok (.iload_n 1, 1) := by decide +kernel
theorem dX10_divisor_7 : decode cX10_divisor 7 = .ok (.iaload, 1) := by decide +kernel
theorem dX10_divisor_8 : decode cX10_divisor 8 = .ok (.ifCond .eq 61, 3) := by decide +kernel
theorem dX10_divisor_11 : decode cX10_divisor 11 = .ok (.aload_n 0, 1) := by decide +kernel
theorem dX10_divisor_12 : decode cX10_divisor 12 = .ok (.getfield 44, 3) := by decide +kernel
theorem dX10_divisor_15 : decode cX10_divisor 15 = .ok (.iload_n 2, 1) := by decide +kernel
theorem dX10_divisor_16 : decode cX10_divisor 16 = .ok (.iaload, 1) := by decide +kernel
theorem dX10_divisor_17 : decode cX10_divisor 17 = .ok (.ifCond .eq 52, 3) := by decide +kernel
theorem dX10_divisor_20 : decode cX10_divisor 20 = .ok (.aload_n 0, 1) := by decide +kernel
theorem dX10_divisor_21 : decode cX10_divisor 21 = .ok (.getfield 38, 3) := by decide +kernel
theorem dX10_divisor_24 : decode cX10_divisor 24 = .ok (.bipush 64, 2) := by decide +kernel
theorem dX10_divisor_26 : decode cX10_divisor 26 = .ok (.iload_n 1, 1) := by decide +kernel
theorem dX10_divisor_27 : decode cX10_divisor 27 = .ok (.imul, 1) := by decide +kernel
theorem dX10_divisor_28 : decode cX10_divisor 28 = .ok (.iaload, 1) := by decide +kernel
theorem dX10_divisor_29 : decode cX10_divisor 29 = .ok (.iconst 1, 1) := by decide +kernel
theorem dX10_divisor_30 : decode cX10_divisor 30 = .ok (.iand, 1) := by decide +kernel
theorem dX10_divisor_31 : decode cX10_divisor 31 = .ok (.ifCond .ne 38, 3) := by decide +kernel
theorem dX10_divisor_34 : decode cX10_divisor 34 = .ok (.aload_n 0, 1) := by decide +kernel
theorem dX10_divisor_35 : decode cX10_divisor 35 = .ok (.getfield 38, 3) := by decide +kernel
theorem dX10_divisor_38 : decode cX10_divisor 38 = .ok (.bipush 64, 2) := by decide +kernel
theorem dX10_divisor_40 : decode cX10_divisor 40 = .ok (.iload_n 2, 1) := by decide +kernel
theorem dX10_divisor_41 : decode cX10_divisor 41 = .ok (.imul, 1) := by decide +kernel
theorem dX10_divisor_42 : decode cX10_divisor 42 = .ok (.iaload, 1) := by decide +kernel
theorem dX10_divisor_43 : decode cX10_divisor 43 = .ok (.iconst 1, 1) := by decide +kernel
theorem dX10_divisor_44 : decode cX10_divisor 44 = .ok (.iand, 1) := by decide +kernel
theorem dX10_divisor_45 : decode cX10_divisor 45 = .ok (.ifCond .ne 24, 3) := by decide +kernel
theorem dX10_divisor_48 : decode cX10_divisor 48 = .ok (.aload_n 0, 1) := by decide +kernel
theorem dX10_divisor_49 : decode cX10_divisor 49 = .ok (.iload_n 1, 1) := by decide +kernel
theorem dX10_divisor_50 : decode cX10_divisor 50 = .ok (.iconst 2, 1) := by decide +kernel
theorem dX10_divisor_51 : decode cX10_divisor 51 = .ok (.invokevirtual 87, 3) := by decide +kernel
theorem dX10_divisor_54 : decode cX10_divisor 54 = .ok (.aload_n 0, 1) := by decide +kernel
theorem dX10_divisor_55 : decode cX10_divisor 55 = .ok (.iload_n 2, 1) := by decide +kernel
theorem dX10_divisor_56 : decode cX10_divisor 56 = .ok (.iconst 2, 1) := by decide +kernel
theorem dX10_divisor_57 : decode cX10_divisor 57 = .ok (.invokevirtual 87, 3) := by decide +kernel
theorem dX10_divisor_60 : decode cX10_divisor 60 = .ok (.iadd, 1) := by decide +kernel
theorem dX10_divisor_61 : decode cX10_divisor 61 = .ok (.istore 4, 2) := by decide +kernel
theorem dX10_divisor_63 : decode cX10_divisor 63 = .ok (.iinc 3 1, 3) := by decide +kernel
theorem dX10_divisor_66 : decode cX10_divisor 66 = .ok (.goto (-64), 3) := by decide +kernel
theorem dX10_divisor_69 : decode cX10_divisor 69 = .ok (.aload_n 0, 1) := by decide +kernel
theorem dX10_divisor_70 : decode cX10_divisor 70 = .ok (.getfield 44, 3) := by decide +kernel
theorem dX10_divisor_73 : decode cX10_divisor 73 = .ok (.iload_n 2, 1) := by decide +kernel
theorem dX10_divisor_74 : decode cX10_divisor 74 = .ok (.iaload, 1) := by decide +kernel
theorem dX10_divisor_75 : decode cX10_divisor 75 = .ok (.ifCond .eq 135, 3) := by decide +kernel
theorem dX10_divisor_78 : decode cX10_divisor 78 = .ok (.iconst 0, 1) := by decide +kernel
theorem dX10_divisor_79 : decode cX10_divisor 79 = .ok (.istore 4, 2) := by decide +kernel
theorem dX10_divisor_81 : decode cX10_divisor 81 = .ok (.aload_n 0, 1) := by decide +kernel
theorem dX10_divisor_82 : decode cX10_divisor 82 = .ok (.getfield 44, 3) := by decide +kernel
theorem dX10_divisor_85 : decode cX10_divisor 85 = .ok (.iload_n 1, 1) := by decide +kernel
theorem dX10_divisor_86 : decode cX10_divisor 86 = .ok (.iaload, 1) := by decide +kernel
theorem dX10_divisor_87 : decode cX10_divisor 87 = .ok (.ifCond .eq 28, 3) := by decide +kernel
theorem dX10_divisor_90 : decode cX10_divisor 90 = .ok (.aload_n 0, 1) := by decide +kernel
theorem dX10_divisor_91 : decode cX10_divisor 91 = .ok (.getfield 38, 3) := by decide +kernel
theorem dX10_divisor_94 : decode cX10_divisor 94 = .ok (.bipush 64, 2) := by decide +kernel
theorem dX10_divisor_96 : decode cX10_divisor 96 = .ok (.iload_n 1, 1) := by decide +kernel
theorem dX10_divisor_97 : decode cX10_divisor 97 = .ok (.imul, 1) := by decide +kernel
theorem dX10_divisor_98 : decode cX10_divisor 98 = .ok (.iaload, 1) := by decide +kernel
theorem dX10_divisor_99 : decode cX10_divisor 99 = .ok (.iconst 1, 1) := by decide +kernel
theorem dX10_divisor_100 : decode cX10_divisor 100 = .ok (.iand, 1) := by decide +kernel
theorem dX10_divisor_101 : decode cX10_divisor 101 = .ok (.ifCond .ne 14, 3) := by decide +kernel
theorem dX10_divisor_104 : decode cX10_divisor 104 = .ok (.aload_n 0, 1) := by decide +kernel
theorem dX10_divisor_105 : decode cX10_divisor 105 = .ok (.iload_n 1, 1) := by decide +kernel
theorem dX10_divisor_106 : decode cX10_divisor 106 = .ok (.iconst 2, 1) := by decide +kernel
theorem dX10_divisor_107 : decode cX10_divisor 107 = .ok (.invokevirtual 87, 3) := by decide +kernel
theorem dX10_divisor_110 : decode cX10_divisor 110 = .ok (.istore 4, 2) := by decide +kernel
theorem dX10_divisor_112 : decode cX10_divisor 112 = .ok (.goto (-31), 3) := by decide +kernel
theorem dX10_divisor_115 : decode cX10_divisor 115 = .ok (.aload_n 0, 1) := by decide +kernel
theorem dX10_divisor_116 : decode cX10_divisor 116 = .ok (.getfield 38, 3) := by decide +kernel
theorem dX10_divisor_119 : decode cX10_divisor 119 = .ok (.bipush 64, 2) := by decide +kernel
theorem dX10_divisor_121 : decode cX10_divisor 121 = .ok (.iload_n 2, 1) := by decide +kernel
theorem dX10_divisor_122 : decode cX10_divisor 122 = .ok (.imul, 1) := by decide +kernel
theorem dX10_divisor_123 : decode cX10_divisor 123 = .ok (.iaload, 1) := by decide +kernel
theorem dX10_divisor_124 : decode cX10_divisor 124 = .ok (.iconst 1, 1) := by decide +kernel
theorem dX10_divisor_125 : decode cX10_divisor 125 = .ok (.iand, 1) := by decide +kernel
theorem dX10_divisor_126 : decode cX10_divisor 126 = .ok (.ifCond .ne 14, 3) := by decide +kernel
theorem dX10_divisor_129 : decode cX10_divisor 129 = .ok (.aload_n 0, 1) := by decide +kernel
theorem dX10_divisor_130 : decode cX10_divisor 130 = .ok (.iload_n 2, 1) := by decide +kernel
theorem dX10_divisor_131 : decode cX10_divisor 131 = .ok (.iconst 2, 1) := by decide +kernel
theorem dX10_divisor_132 : decode cX10_divisor 132 = .ok (.invokevirtual 87, 3) := by decide +kernel
theorem dX10_divisor_135 : decode cX10_divisor 135 = .ok (.istore 4, 2) := by decide +kernel
theorem dX10_divisor_137 : decode cX10_divisor 137 = .ok (.goto (-22), 3) := by decide +kernel
theorem dX10_divisor_140 : decode cX10_divisor 140 = .ok (.aload_n 0, 1) := by decide +kernel
theorem dX10_divisor_141 : decode cX10_divisor 141 = .ok (.iload_n 1, 1) := by decide +kernel
theorem dX10_divisor_142 : decode cX10_divisor 142 = .ok (.iload_n 2, 1) := by decide +kernel
theorem dX10_divisor_143 : decode cX10_divisor 143 = .ok (.invokevirtual 61, 3) := by decide +kernel
theorem dX10_divisor_146 : decode cX10_divisor 146 = .ok (.ifCond .le 33, 3) := by decide +kernel
theorem dX10_divisor_149 : decode cX10_divisor 149 = .ok (.aload_n 0, 1) := by decide +kernel
theorem dX10_divisor_150 : decode cX10_divisor 150 = .ok (.iload_n 1, 1) := by decide +kernel
theorem dX10_divisor_151 : decode cX10_divisor 151 = .ok (.iload_n 2, 1) := by decide +kernel
theorem dX10_divisor_152 : decode cX10_divisor 152 = .ok (.iconst (-1), 1) := by decide +kernel
theorem dX10_divisor_153 : decode cX10_divisor 153 = .ok (.invokevirtual 83, 3) := by decide +kernel
theorem dX10_divisor_156 : decode cX10_divisor 156 = .ok (.aload_n 0, 1) := by decide +kernel
theorem dX10_divisor_157 : decode cX10_divisor 157 = .ok (.iload_n 1, 1) := by decide +kernel
theorem dX10_divisor_158 : decode cX10_divisor 158 = .ok (.bipush 52, 2) := by decide +kernel
theorem dX10_divisor_160 : decode cX10_divisor 160 = .ok (.invokevirtual 90, 3) := by decide +kernel
theorem dX10_divisor_163 : decode cX10_divisor 163 = .ok (.aload_n 0, 1) := by decide +kernel
theorem dX10_divisor_164 : decode cX10_divisor 164 = .ok (.iload_n 2, 1) := by decide +kernel
theorem dX10_divisor_165 : decode cX10_divisor 165 = .ok (.iload_n 1, 1) := by decide +kernel
theorem dX10_divisor_166 : decode cX10_divisor 166 = .ok (.invokevirtual 90, 3) := by decide +kernel
theorem dX10_divisor_169 : decode cX10_divisor 169 = .ok (.aload_n 0, 1) := by decide +kernel
theorem dX10_divisor_170 : decode cX10_divisor 170 = .ok (.bipush 52, 2) := by decide +kernel
theorem dX10_divisor_172 : decode cX10_divisor 172 = .ok (.iload_n 2, 1) := by decide +kernel
theorem dX10_divisor_173 : decode cX10_divisor 173 = .ok (.invokevirtual 90, 3) := by decide +kernel
theorem dX10_divisor_176 : decode cX10_divisor 176 = .ok (.goto 31, 3) := by decide +kernel
theorem dX10_divisor_179 : decode cX10_divisor 179 = .ok (.aload_n 0, 1) := by decide +kernel
theorem dX10_divisor_180 : decode cX10_divisor 180 = .ok (.iload_n 2, 1) := by decide +kernel
theorem dX10_divisor_181 : decode cX10_divisor 181 = .ok (.iload_n 1, 1) := by decide +kernel
theorem dX10_divisor_182 : decode cX10_divisor 182 = .ok (.iconst (-1), 1) := by decide +kernel
theorem dX10_divisor_183 : decode cX10_divisor 183 = .ok (.invokevirtual 83, 3) := by decide +kernel
theorem dX10_divisor_186 : decode cX10_divisor 186 = .ok (.aload_n 0, 1) := by decide +kernel
theorem dX10_divisor_187 : decode cX10_divisor 187 = .ok (.getfield 44, 3) := by decide +kernel
theorem dX10_divisor_190 : decode cX10_divisor 190 = .ok (.iload_n 1, 1) := by decide +kernel
theorem dX10_divisor_191 : decode cX10_divisor 191 = .ok (.iaload, 1) := by decide +kernel
theorem dX10_divisor_192 : decode cX10_divisor 192 = .ok (.ifCond .ne 12, 3) := by decide +kernel
theorem dX10_divisor_195 : decode cX10_divisor 195 = .ok (.aload_n 0, 1) := by decide +kernel
theorem dX10_divisor_196 : decode cX10_divisor 196 = .ok (.iload_n 1, 1) := by decide +kernel
theorem dX10_divisor_197 : decode cX10_divisor 197 = .ok (.iload_n 2, 1) := by decide +kernel
theorem dX10_divisor_198 : decode cX10_divisor 198 = .ok (.invokevirtual 93, 3) := by decide +kernel
theorem dX10_divisor_201 : decode cX10_divisor 201 = .ok (.goto 4, 3) := by decide +kernel
theorem dX10_divisor_204 : decode cX10_divisor 204 = .ok (.iconst 0, 1) := by decide +kernel
theorem dX10_divisor_205 : decode cX10_divisor 205 = .ok (.istore 4, 2) := by decide +kernel
theorem dX10_divisor_207 : decode cX10_divisor 207 = .ok (.goto (-138), 3) := by decide +kernel
theorem dX10_divisor_210 : decode cX10_divisor 210 = .ok (.iconst 0, 1) := by decide +kernel
theorem dX10_divisor_211 : decode cX10_divisor 211 = .ok (.istore 4, 2) := by decide +kernel
theorem dX10_divisor_213 : decode cX10_divisor 213 = .ok (.iload 4, 2) := by decide +kernel
theorem dX10_divisor_215 : decode cX10_divisor 215 = .ok (.iload_n 3, 1) := by decide +kernel
theorem dX10_divisor_216 : decode cX10_divisor 216 = .ok (.if_icmp .ge 15, 3) := by decide +kernel
theorem dX10_divisor_219 : decode cX10_divisor 219 = .ok (.aload_n 0, 1) := by decide +kernel
theorem dX10_divisor_220 : decode cX10_divisor 220 = .ok (.iload_n 1, 1) := by decide +kernel
theorem dX10_divisor_221 : decode cX10_divisor 221 = .ok (.iconst 2, 1) := by decide +kernel
theorem dX10_divisor_222 : decode cX10_divisor 222 = .ok (.invokevirtual 80, 3) := by decide +kernel
theorem dX10_divisor_225 : decode cX10_divisor 225 = .ok (.iinc 4 1, 3) := by decide +kernel
theorem dX10_divisor_228 : decode cX10_divisor 228 = .ok (.goto (-15), 3) := by decide +kernel
theorem dX10_divisor_231 : decode cX10_divisor 231 = .ok (.return_, 1) := by decide +kernel
set_option maxRecDepth 20000 in
theorem ggX10_swapped_X10_copy : GoodIn wsX10_swapped wsX10_copy := goodIn_r _ [5, 6, 7, 8, 14, 15, 16, 17, 18, 19, 20, 21, 22, 23, 24, 25, 26, 27, 28, 29, 30, 31, 32, 33] (by decide +kernel) (by decide +kernel)
set_option maxRecDepth 20000 in
theorem gX10_swapped_X10_copy : GoodIn wsX10_swapped (wsV RX10 90 RX10 yX10_copy wsX10_copy) := goodIn_app (goodIn_of _ (by decide +kernel)) ggX10_swapped_X10_copy
set_option maxRecDepth 20000 in
theorem ggX10_swapped_X10_setSmall : GoodIn wsX10_swapped wsX10_setSmall := goodIn_r _ [12, 6, 8, 13, 7, 14, 15, 16, 17, 18, 19, 20, 21, 22, 23, 24, 25, 26, 27, 28, 29, 30, 31, 32, 33] (by decide +kernel) (by decide +kernel)
set_option maxRecDepth 20000 in
theorem gX10_swapped_X10_setSmall : GoodIn wsX10_swapped (wsV RX10 76 RX10 yX10_setSmall wsX10_setSmall) := goodIn_app (goodIn_of _ (by decide +kernel)) ggX10_swapped_X10_setSmall
theorem dX10_swapped_0 : decode cX10_swapped 0 = .ok (.aload_n 0, 1) := by decide +kernel
theorem dX10_swapped_1 : decode cX10_swapped 1 = .ok (.iload_n 2, 1) := by decide +kernel
theorem dX10_swapped_2 : decode cX10_swapped 2 = .ok (.iload_n 1, 1) := by decide +kernel
theorem dX10_swapped_3 : decode cX10_swapped 3 = .ok (.invokevirtual 90, 3) := by decide +kernel
theorem dX10_swapped_6 : decode cX10_swapped 6 = .ok (.aload_n 0, 1) := by decide +kernel
theorem dX10_swapped_7 : decode cX10_swapped 7 = .ok (.iload_n 2, 1) := by decide +kernel
theorem dX10_swapped_8 : decode cX10_swapped 8 = .ok (.lconst 0, 1) := by decide +kernel
theorem dX10_swapped_9 : decode cX10_swapped 9 = .ok (.invokevirtual 76, 3) := by decide +kernel
theorem dX10_swapped_12 : decode cX10_swapped 12 = .ok (.iconst 0, 1) := by decide +kernel
theorem dX10_swapped_13 : decode cX10_swapped 13 = .ok (.ireturn, 1) := by decide +kernel
theorem dX10_change_0 : decode cX10_change 0 = .ok (.aload_n 0, 1) := by decide +kernel
theorem dX10_change_1 : decode cX10_change 1 = .ok (.iconst 0, 1) := by decide +kernel
theorem dX10_change_2 : decode cX10_change 2 = .ok (.putfield 96, 3) := by decide +kernel
theorem dX10_change_5 : decode cX10_change 5 = .ok (.aload_n 0, 1) := by decide +kernel
theorem dX10_change_6 : decode cX10_change 6 = .ok (.iconst 0, 1) := by decide +kernel
theorem dX10_change_7 : decode cX10_change 7 = .ok (.putfield 100, 3) := by decide +kernel
theorem dX10_change_10 : decode cX10_change 10 = .ok (.return_, 1) := by decide +kernel
set_option maxRecDepth 20000 in
theorem ggX10_state_X10_change : GoodIn wsX10_state wsX10_change := goodIn_r _ [8, 9, 10, 11, 12, 13, 14, 15, 16, 17, 18, 19, 20, 21, 22, 23, 24, 25, 26, 27, 28, 29, 30] (by decide +kernel) (by decide +kernel)
set_option maxRecDepth 20000 in
theorem gX10_state_X10_change : GoodIn wsX10_state (wsV RX10 106 RX10 yX10_change wsX10_change) := goodIn_app (goodIn_of _ (by decide +kernel)) ggX10_state_X10_change
theorem dX10_state_0 : decode cX10_state 0 = .ok (.aload_n 0, 1) := by decide +kernel
theorem dX10_state_1 : decode cX10_state 1 = .ok (.iconst 0, 1) := by decide +kernel
theorem dX10_state_2 : decode cX10_state 2 = .ok (.putfield 56, 3) := by decide +kernel
theorem dX10_state_5 : decode cX10_state 5 = .ok (.aload_n 0, 1) := by decide +kernel
theorem dX10_state_6 : decode cX10_state 6 = .ok (.getfield 103, 3) := by decide +kernel
theorem dX10_state_9 : decode cX10_state 9 = .ok (.bipush 6, 2) := by decide +kernel
theorem dX10_state_11 : decode cX10_state 11 = .ok (.if_icmp .ne 5, 3) := by decide +kernel
theorem dX10_state_14 : decode cX10_state 14 = .ok (.iconst (-1), 1) := by decide +kernel
theorem dX10_state_15 : decode cX10_state 15 = .ok (.ireturn, 1) := by decide +kernel
theorem dX10_state_16 : decode cX10_state 16 = .ok (.aload_n 0, 1) := by decide +kernel
theorem dX10_state_17 : decode cX10_state 17 = .ok (.getfield 7, 3) := by decide +kernel
theorem dX10_state_20 : decode cX10_state 20 = .ok (.aload_n 0, 1) := by decide +kernel
theorem dX10_state_21 : decode cX10_state 21 = .ok (.getfield 103, 3) := by decide +kernel
theorem dX10_state_24 : decode cX10_state 24 = .ok (.iconst 0, 1) := by decide +kernel
theorem dX10_state_25 : decode cX10_state 25 = .ok (.iastore, 1) := by decide +kernel
theorem dX10_state_26 : decode cX10_state 26 = .ok (.aload_n 0, 1) := by decide +kernel
theorem dX10_state_27 : decode cX10_state 27 = .ok (.dup, 1) := by decide +kernel
theorem dX10_state_28 : decode cX10_state 28 = .ok (.getfield 103, 3) := by decide +kernel
theorem dX10_state_31 : decode cX10_state 31 = .ok (.iconst 1, 1) := by decide +kernel
theorem dX10_state_32 : decode cX10_state 32 = .ok (.iadd, 1) := by decide +kernel
theorem dX10_state_33 : decode cX10_state 33 = .ok (.putfield 103, 3) := by decide +kernel
theorem dX10_state_36 : decode cX10_state 36 = .ok (.aload_n 0, 1) := by decide +kernel
theorem dX10_state_37 : decode cX10_state 37 = .ok (.invokevirtual 106, 3) := by decide +kernel
theorem dX10_state_40 : decode cX10_state 40 = .ok (.aload_n 0, 1) := by decide +kernel
theorem dX10_state_41 : decode cX10_state 41 = .ok (.getfield 103, 3) := by decide +kernel
theorem dX10_state_44 : decode cX10_state 44 = .ok (.iconst 1, 1) := by decide +kernel
theorem dX10_state_45 : decode cX10_state 45 = .ok (.isub, 1) := by decide +kernel
theorem dX10_state_46 : decode cX10_state 46 = .ok (.ireturn, 1) := by decide +kernel
theorem dX10_isState_0 : decode cX10_isState 0 = .ok (.iload_n 1, 1) := by decide +kernel
theorem dX10_isState_1 : decode cX10_isState 1 = .ok (.ifCond .lt 15, 3) := by decide +kernel
theorem dX10_isState_4 : decode cX10_isState 4 = .ok (.iload_n 1, 1) := by decide +kernel
theorem dX10_isState_5 : decode cX10_isState 5 = .ok (.aload_n 0, 1) := by decide +kernel
theorem dX10_isState_6 : decode cX10_isState 6 = .ok (.getfield 103, 3) := by decide +kernel
theorem dX10_isState_9 : decode cX10_isState 9 = .ok (.if_icmp .ge 7, 3) := by decide +kernel
theorem dX10_isState_12 : decode cX10_isState 12 = .ok (.iconst 1, 1) := by decide +kernel
theorem dX10_isState_13 : decode cX10_isState 13 = .ok (.goto 4, 3) := by decide +kernel
theorem dX10_isState_16 : decode cX10_isState 16 = .ok (.iconst 0, 1) := by decide +kernel
theorem dX10_isState_17 : decode cX10_isState 17 = .ok (.ireturn, 1) := by decide +kernel
set_option maxRecDepth 20000 in
theorem ggX10_isAction_X10_isState : GoodIn wsX10_isAction wsX10_isState := goodIn_r _ [6, 7, 8, 9, 10, 11, 12, 13, 14, 15, 16, 17, 18, 19, 20, 21, 22, 23, 24, 25, 26, 27] (by decide +kernel) (by decide +kernel)
set_option maxRecDepth 20000 in
theorem gX10_isAction_X10_isState : GoodIn wsX10_isAction (wsV RX10 109 RX10 yX10_isState wsX10_isState) := goodIn_app (goodIn_of _ (by decide +kernel)) ggX10_isAction_X10_isState
theorem dX10_isAction_0 : decode cX10_isAction 0 = .ok (.aload_n 0, 1) := by decide +kernel
theorem dX10_isAction_1 : decode cX10_isAction 1 = .ok (.iload_n 1, 1) := by decide +kernel
theorem dX10_isAction_2 : decode cX10_isAction 2 = .ok (.invokevirtual 109, 3) := by decide +kernel
theorem dX10_isAction_5 : decode cX10_isAction 5 = .ok (.ifCond .eq 21, 3) := by decide +kernel
theorem dX10_isAction_8 : decode cX10_isAction 8 = .ok (.iload_n 2, 1) := by decide +kernel
theorem dX10_isAction_9 : decode cX10_isAction 9 = .ok (.ifCond .lt 17, 3) := by decide +kernel
theorem dX10_isAction_12 : decode cX10_isAction 12 = .ok (.iload_n 2, 1) := by decide +kernel
theorem dX10_isAction_13 : decode cX10_isAction 13 = .ok (.aload_n 0, 1) := by decide +kernel
theorem dX10_isAction_14 : decode cX10_isAction 14 = .ok (.getfield 7, 3) := by decide +kernel
theorem dX10_isAction_17 : decode cX10_isAction 17 = .ok (.iload_n 1, 1) := by decide +kernel
theorem dX10_isAction_18 : decode cX10_isAction 18 = .ok (.iaload, 1) := by decide +kernel
theorem dX10_isAction_19 : decode cX10_isAction 19 = .ok (.if_icmp .ge 7, 3) := by decide +kernel
theorem dX10_isAction_22 : decode cX10_isAction 22 = .ok (.iconst 1, 1) := by decide +kernel
theorem dX10_isAction_23 : decode cX10_isAction 23 = .ok (.goto 4, 3) := by decide +kernel
theorem dX10_isAction_26 : decode cX10_isAction 26 = .ok (.iconst 0, 1) := by decide +kernel
theorem dX10_isAction_27 : decode cX10_isAction 27 = .ok (.ireturn, 1) := by decide +kernel
set_option maxRecDepth 20000 in
theorem ggX10_action_X10_isState : GoodIn wsX10_action wsX10_isState := goodIn_r _ [10, 11, 18, 19, 20, 21, 22, 23, 24, 25, 26, 27, 28, 29, 30, 31, 32, 33, 34, 35, 36, 37] (by decide +kernel) (by decide +kernel)
set_option maxRecDepth 20000 in
theorem gX10_action_X10_isState : GoodIn wsX10_action (wsV RX10 109 RX10 yX10_isState wsX10_isState) := goodIn_app (goodIn_of _ (by decide +kernel)) ggX10_action_X10_isState
set_option maxRecDepth 20000 in
theorem ggX10_action_X10_change : GoodIn wsX10_action wsX10_change := goodIn_r _ [15, 16, 17, 18, 19, 20, 21, 22, 23, 24, 25, 26, 27, 28, 29, 30, 31, 32, 33, 34, 35, 36, 37] (by decide +kernel) (by decide +kernel)
set_option maxRecDepth 20000 in
theorem gX10_action_X10_change : GoodIn wsX10_action (wsV RX10 106 RX10 yX10_change wsX10_change) := goodIn_app (goodIn_of _ (by decide +kernel)) ggX10_action_X10_change
theorem dX10_action_0 : decode cX10_action 0 = .ok (.aload_n 0, 1) := by decide +kernel
theorem dX10_action_1 : decode cX10_action 1 = .ok (.iconst 0, 1) := by decide +kernel
theorem dX10_action_2 : decode cX10_action 2 = .ok (.putfield 56, 3) := by decide +kernel
theorem dX10_action_5 : decode cX10_action 5 = .ok (.aload_n 0, 1) := by decide +kernel
theorem dX10_action_6 : decode cX10_action 6 = .ok (.iload_n 1, 1) := by decide +kernel
theorem dX10_action_7 : decode cX10_action 7 = .ok (.invokevirtual 109, 3) := by decide +kernel
theorem dX10_action_10 : decode cX10_action 10 = .ok (.ifCond .eq 13, 3) := by decide +kernel
theorem dX10_action_13 : decode cX10_action 13 = .ok (.aload_n 0, 1) := by decide +kernel
theorem dX10_action_14 : decode cX10_action 14 = .ok (.getfield 7, 3) := by decide +kernel
theorem dX10_action_17 : decode cX10_action 17 = .ok (.iload_n 1, 1) := by decide +kernel
theorem dX10_action_18 : decode cX10_action 18 = .ok (.iaload, 1) := by decide +kernel
theorem dX10_action_19 : decode cX10_action 19 = .ok (.iconst 4, 1) := by decide +kernel
theorem dX10_action_20 : decode cX10_action 20 = .ok (.if_icmp .ne 5, 3) := by decide +kernel
theorem dX10_action_23 : decode cX10_action 23 = .ok (.iconst (-1), 1) := by decide +kernel
theorem dX10_action_24 : decode cX10_action 24 = .ok (.ireturn, 1) := by decide +kernel
theorem dX10_action_25 : decode cX10_action 25 = .ok (.iconst 4, 1) := by decide +kernel
theorem dX10_action_26 : decode cX10_action 26 = .ok (.iload_n 1, 1) := by decide +kernel
theorem dX10_action_27 : decode cX10_action 27 = .ok (.imul, 1) := by decide +kernel
theorem dX10_action_28 : decode cX10_action 28 = .ok (.aload_n 0, 1) := by decide +kernel
theorem dX10_action_29 : decode cX10_action 29 = .ok (.getfield 7, 3) := by decide +kernel
theorem dX10_action_32 : decode cX10_action 32 = .ok (.iload_n 1, 1) := by decide +kernel
theorem dX10_action_33 : decode cX10_action 33 = .ok (.iaload, 1) := by decide +kernel
theorem dX10_action_34 : decode cX10_action 34 = .ok (.iadd, 1) := by decide +kernel
theorem dX10_action_35 : decode cX10_action 35 = .ok (.istore_n 2, 1) := by decide +kernel
theorem dX10_action_36 : decode cX10_action 36 = .ok (.aload_n 0, 1) := by decide +kernel
theorem dX10_action_37 : decode cX10_action 37 = .ok (.getfield 13, 3) := by decide +kernel
theorem dX10_action_40 : decode cX10_action 40 = .ok (.iload_n 2, 1) := by decide +kernel
theorem dX10_action_41 : decode cX10_action 41 = .ok (.iconst 0, 1) := by decide +kernel
theorem dX10_action_42 : decode cX10_action 42 = .ok (.iastore, 1) := by decide +kernel
theorem dX10_action_43 : decode cX10_action 43 = .ok (.aload_n 0, 1) := by decide +kernel
theorem dX10_action_44 : decode cX10_action 44 = .ok (.getfield 16, 3) := by decide +kernel
theorem dX10_action_47 : decode cX10_action 47 = .ok (.iload_n 2, 1) := by decide +kernel
theorem dX10_action_48 : decode cX10_action 48 = .ok (.iconst 1, 1) := by decide +kernel
theorem dX10_action_49 : decode cX10_action 49 = .ok (.iastore, 1) := by decide +kernel
theorem dX10_action_50 : decode cX10_action 50 = .ok (.iconst 0, 1) := by decide +kernel
theorem dX10_action_51 : decode cX10_action 51 = .ok (.istore_n 3, 1) := by decide +kernel
theorem dX10_action_52 : decode cX10_action 52 = .ok (.iload_n 3, 1) := by decide +kernel
theorem dX10_action_53 : decode cX10_action 53 = .ok (.bipush 6, 2) := by decide +kernel
theorem dX10_action_55 : decode cX10_action 55 = .ok (.if_icmp .ge 21, 3) := by decide +kernel
theorem dX10_action_58 : decode cX10_action 58 = .ok (.aload_n 0, 1) := by decide +kernel
theorem dX10_action_59 : decode cX10_action 59 = .ok (.getfield 19, 3) := by decide +kernel
theorem dX10_action_62 : decode cX10_action 62 = .ok (.bipush 6, 2) := by decide +kernel
theorem dX10_action_64 : decode cX10_action 64 = .ok (.iload_n 2, 1) := by decide +kernel
theorem dX10_action_65 : decode cX10_action 65 = .ok (.imul, 1) := by decide +kernel
theorem dX10_action_66 : decode cX10_action 66 = .ok (.iload_n 3, 1) := by decide +kernel
theorem dX10_action_67 : decode cX10_action 67 = .ok (.iadd, 1) := by decide +kernel
theorem dX10_action_68 : decode cX10_action 68 = .ok (.iconst 0, 1) := by decide +kernel
theorem dX10_action_69 : decode cX10_action 69 = .ok (.iastore, 1) := by decide +kernel
theorem dX10_action_70 : decode cX10_action 70 = .ok (.iinc 3 1, 3) := by decide +kernel
theorem dX10_action_73 : decode cX10_action 73 = .ok (.goto (-21), 3) := by decide +kernel
theorem dX10_action_76 : decode cX10_action 76 = .ok (.aload_n 0, 1) := by decide +kernel
theorem dX10_action_77 : decode cX10_action 77 = .ok (.getfield 7, 3) := by decide +kernel
theorem dX10_action_80 : decode cX10_action 80 = .ok (.iload_n 1, 1) := by decide +kernel
theorem dX10_action_81 : decode cX10_action 81 = .ok (.dup2, 1) := by decide +kernel
theorem dX10_action_82 : decode cX10_action 82 = .ok (.iaload, 1) := by decide +kernel
theorem dX10_action_83 : decode cX10_action 83 = .ok (.iconst 1, 1) := by decide +kernel
theorem dX10_action_84 : decode cX10_action 84 = .ok (.iadd, 1) := by decide +kernel
theorem dX10_action_85 : decode cX10_action 85 = .ok (.iastore, 1) := by decide +kernel
theorem dX10_action_86 : decode cX10_action 86 = .ok (.aload_n 0, 1) := by decide +kernel
theorem dX10_action_87 : decode cX10_action 87 = .ok (.invokevirtual 106, 3) := by decide +kernel
theorem dX10_action_90 : decode cX10_action 90 = .ok (.aload_n 0, 1) := by decide +kernel
theorem dX10_action_91 : decode cX10_action 91 = .ok (.getfield 7, 3) := by decide +kernel
theorem dX10_action_94 : decode cX10_action 94 = .ok (.iload_n 1, 1) := by decide +kernel
theorem dX10_action_95 : decode cX10_action 95 = .ok (.iaload, 1) := by decide +kernel
theorem dX10_action_96 : decode cX10_action 96 = .ok (.iconst 1, 1) := by decide +kernel
theorem dX10_action_97 : decode cX10_action 97 = .ok (.isub, 1) := by decide +kernel
theorem dX10_action_98 : decode cX10_action 98 = .ok (.ireturn, 1) := by decide +kernel
set_option maxRecDepth 20000 in
theorem ggX10_reward_X10_isAction : GoodIn wsX10_reward wsX10_isAction := goodIn_r _ [11, 12, 13, 14, 15, 10, 16, 17, 27, 28, 29, 30, 31, 32, 33, 34, 35, 36, 37, 38, 39, 40, 41, 42, 43, 44, 45, 46] (by decide +kernel) (by decide +kernel)
set_option maxRecDepth 20000 in
theorem gX10_reward_X10_isAction : GoodIn wsX10_reward (wsV RX10 113 RX10 yX10_isAction wsX10_isAction) := goodIn_app (goodIn_of _ (by decide +kernel)) ggX10_reward_X10_isAction
set_option maxRecDepth 20000 in
theorem ggX10_reward_X10_in : GoodIn wsX10_reward wsX10_in := goodIn_r _ [20] (by decide +kernel) (by decide +kernel)
set_option maxRecDepth 20000 in
theorem gX10_reward_X10_in : GoodIn wsX10_reward (va_wsS RX10 121 yX10_in wsX10_in) := goodIn_app (goodIn_of _ (by decide +kernel)) ggX10_reward_X10_in
set_option maxRecDepth 20000 in
theorem ggX10_reward_X10_change : GoodIn wsX10_reward wsX10_change := goodIn_r _ [24, 25, 26, 27, 28, 29, 30, 31, 32, 33, 34, 35, 36, 37, 38, 39, 40, 41, 42, 43, 44, 45, 46] (by decide +kernel) (by decide +kernel)
set_option maxRecDepth 20000 in
theorem gX10_reward_X10_change : GoodIn wsX10_reward (wsV RX10 106 RX10 yX10_change wsX10_change) := goodIn_app (goodIn_of _ (by decide +kernel)) ggX10_reward_X10_change
theorem dX10_reward_0 : decode cX10_reward 0 = .ok (.aload_n 0, 1) := by decide +kernel
theorem dX10_reward_1 : decode cX10_reward 1 = .ok (.iconst 0, 1) := by decide +kernel
theorem dX10_reward_2 : decode cX10_reward 2 = .ok (.putfield 56, 3) := by decide +kernel
theorem dX10_reward_5 : decode cX10_reward 5 = .ok (.aload_n 0, 1) := by decide +kernel
theorem dX10_reward_6 : decode cX10_reward 6 = .ok (.iload_n 1, 1) := by decide +kernel
theorem dX10_reward_7 : decode cX10_reward 7 = .ok (.iload_n 2, 1) := by decide +kernel
theorem dX10_reward_8 : decode cX10_reward 8 = .ok (.invokevirtual 113, 3) := by decide +kernel
theorem dX10_reward_11 : decode cX10_reward 11 = .ok (.ifCond .eq 30, 3) := by decide +kernel
theorem dX10_reward_14 : decode cX10_reward 14 = .ok (.iload_n 3, 1) := by decide +kernel
theorem dX10_reward_15 : decode cX10_reward 15 = .ok (.i2l, 1) := by decide +kernel
theorem dX10_reward_16 : decode cX10_reward 16 = .ok (.ldc2_w 117, 3) := by decide +kernel
theorem dX10_reward_19 : decode cX10_reward 19 = .ok (.ldc2_w 119, 3) := by decide +kernel
theorem dX10_reward_22 : decode cX10_reward 22 = .ok (.invokestatic 121, 3) := by decide +kernel
theorem dX10_reward_25 : decode cX10_reward 25 = .ok (.ifCond .eq 16, 3) := by decide +kernel
theorem dX10_reward_28 : decode cX10_reward 28 = .ok (.iload 4, 2) := by decide +kernel
theorem dX10_reward_30 : decode cX10_reward 30 = .ok (.i2l, 1) := by decide +kernel
theorem dX10_reward_31 : decode cX10_reward 31 = .ok (.lconst 1, 1) := by decide +kernel
theorem dX10_reward_32 : decode cX10_reward 32 = .ok (.ldc2_w 125, 3) := by decide +kernel
theorem dX10_reward_35 : decode cX10_reward 35 = .ok (.invokestatic 121, 3) := by decide +kernel
theorem dX10_reward_38 : decode cX10_reward 38 = .ok (.ifCond .ne 5, 3) := by decide +kernel
theorem dX10_reward_41 : decode cX10_reward 41 = .ok (.iconst 0, 1) := by decide +kernel
theorem dX10_reward_42 : decode cX10_reward 42 = .ok (.ireturn, 1) := by decide +kernel
theorem dX10_reward_43 : decode cX10_reward 43 = .ok (.aload_n 0, 1) := by decide +kernel
theorem dX10_reward_44 : decode cX10_reward 44 = .ok (.getfield 13, 3) := by decide +kernel
theorem dX10_reward_47 : decode cX10_reward 47 = .ok (.iconst 4, 1) := by decide +kernel
theorem dX10_reward_48 : decode cX10_reward 48 = .ok (.iload_n 1, 1) := by decide +kernel
theorem dX10_reward_49 : decode cX10_reward 49 = .ok (.imul, 1) := by decide +kernel
theorem dX10_reward_50 : decode cX10_reward 50 = .ok (.iload_n 2, 1) := by decide +kernel
theorem dX10_reward_51 : decode cX10_reward 51 = .ok (.iadd, 1) := by decide +kernel
theorem dX10_reward_52 : decode cX10_reward 52 = .ok (.iload_n 3, 1) := by decide +kernel
theorem dX10_reward_53 : decode cX10_reward 53 = .ok (.iastore, 1) := by decide +kernel
theorem dX10_reward_54 : decode cX10_reward 54 = .ok (.aload_n 0, 1) := by decide +kernel
theorem dX10_reward_55 : decode cX10_reward 55 = .ok (.getfield 16, 3) := by decide +kernel
theorem dX10_reward_58 : decode cX10_reward 58 = .ok (.iconst 4, 1) := by decide +kernel
theorem dX10_reward_59 : decode cX10_reward 59 = .ok (.iload_n 1, 1) := by decide +kernel
theorem dX10_reward_60 : decode cX10_reward 60 = .ok (.imul, 1) := by decide +kernel
theorem dX10_reward_61 : decode cX10_reward 61 = .ok (.iload_n 2, 1) := by decide +kernel
theorem dX10_reward_62 : decode cX10_reward 62 = .ok (.iadd, 1) := by decide +kernel
theorem dX10_reward_63 : decode cX10_reward 63 = .ok (.iload 4, 2) := by decide +kernel
theorem dX10_reward_65 : decode cX10_reward 65 = .ok (.iastore, 1) := by decide +kernel
theorem dX10_reward_66 : decode cX10_reward 66 = .ok (.aload_n 0, 1) := by decide +kernel
theorem dX10_reward_67 : decode cX10_reward 67 = .ok (.invokevirtual 106, 3) := by decide +kernel
theorem dX10_reward_70 : decode cX10_reward 70 = .ok (.iconst 1, 1) := by decide +kernel
theorem dX10_reward_71 : decode cX10_reward 71 = .ok (.ireturn, 1) := by decide +kernel
set_option maxRecDepth 20000 in
theorem ggX10_move_X10_isAction : GoodIn wsX10_move wsX10_isAction := goodIn_r _ [8, 9, 10, 11, 12, 7, 13, 14, 24, 25, 26, 27, 28, 29, 30, 31, 32, 33, 34, 35, 36, 37, 38, 39, 40, 41, 42, 43] (by decide +kernel) (by decide +kernel)
set_option maxRecDepth 20000 in
theorem gX10_move_X10_isAction : GoodIn wsX10_move (wsV RX10 113 RX10 yX10_isAction wsX10_isAction) := goodIn_app (goodIn_of _ (by decide +kernel)) ggX10_move_X10_isAction
set_option maxRecDepth 20000 in
theorem ggX10_move_X10_isState : GoodIn wsX10_move wsX10_isState := goodIn_r _ [13, 14, 24, 25, 26, 27, 28, 29, 30, 31, 32, 33, 34, 35, 36, 37, 38, 39, 40, 41, 42, 43] (by decide +kernel) (by decide +kernel)
set_option maxRecDepth 20000 in
theorem gX10_move_X10_isState : GoodIn wsX10_move (wsV RX10 109 RX10 yX10_isState wsX10_isState) := goodIn_app (goodIn_of _ (by decide +kernel)) ggX10_move_X10_isState
set_option maxRecDepth 20000 in
theorem ggX10_move_X10_in : GoodIn wsX10_move wsX10_in := goodIn_r _ [17] (by decide +kernel) (by decide +kernel)
set_option maxRecDepth 20000 in
theorem gX10_move_X10_in : GoodIn wsX10_move (va_wsS RX10 121 yX10_in wsX10_in) := goodIn_app (goodIn_of _ (by decide +kernel)) ggX10_move_X10_in
set_option maxRecDepth 20000 in
theorem ggX10_move_X10_change : GoodIn wsX10_move wsX10_change := goodIn_r _ [21, 22, 23, 24, 25, 26, 27, 28, 29, 30, 31, 32, 33, 34, 35, 36, 37, 38, 39, 40, 41, 42, 43] (by decide +kernel) (by decide +kernel)
set_option maxRecDepth 20000 in
theorem gX10_move_X10_change : GoodIn wsX10_move (wsV RX10 106 RX10 yX10_change wsX10_change) := goodIn_app (goodIn_of _ (by decide +kernel)) ggX10_move_X10_change
theorem dX10_move_0 : decode cX10_move 0 = .ok (.aload_n 0, 1) := by decide +kernel
theorem dX10_move_1 : decode cX10_move 1 = .ok (.iconst 0, 1) := by decide +kernel
theorem dX10_move_2 : decode cX10_move 2 = .ok (.putfield 56, 3) := by decide +kernel
theorem dX10_move_5 : decode cX10_move 5 = .ok (.aload_n 0, 1) := by decide +kernel
theorem dX10_move_6 : decode cX10_move 6 = .ok (.iload_n 1, 1) := by decide +kernel
theorem dX10_move_7 : decode cX10_move 7 = .ok (.iload_n 2, 1) := by decide +kernel
theorem dX10_move_8 : decode cX10_move 8 = .ok (.invokevirtual 113, 3) := by decide +kernel
theorem dX10_move_11 : decode cX10_move 11 = .ok (.ifCond .eq 24, 3) := by decide +kernel
theorem dX10_move_14 : decode cX10_move 14 = .ok (.aload_n 0, 1) := by decide +kernel
theorem dX10_move_15 : decode cX10_move 15 = .ok (.iload_n 3, 1) := by decide +kernel
theorem dX10_move_16 : decode cX10_move 16 = .ok (.invokevirtual 109, 3) := by decide +kernel
theorem dX10_move_19 : decode cX10_move 19 = .ok (.ifCond .eq 16, 3) := by decide +kernel
theorem dX10_move_22 : decode cX10_move 22 = .ok (.iload 4, 2) := by decide +kernel
theorem dX10_move_24 : decode cX10_move 24 = .ok (.i2l, 1) := by decide +kernel
theorem dX10_move_25 : decode cX10_move 25 = .ok (.lconst 0, 1) := by decide +kernel
theorem dX10_move_26 : decode cX10_move 26 = .ok (.ldc2_w 125, 3) := by decide +kernel
theorem dX10_move_29 : decode cX10_move 29 = .ok (.invokestatic 121, 3) := by decide +kernel
theorem dX10_move_32 : decode cX10_move 32 = .ok (.ifCond .ne 5, 3) := by decide +kernel
theorem dX10_move_35 : decode cX10_move 35 = .ok (.iconst 0, 1) := by decide +kernel
theorem dX10_move_36 : decode cX10_move 36 = .ok (.ireturn, 1) := by decide +kernel
theorem dX10_move_37 : decode cX10_move 37 = .ok (.aload_n 0, 1) := by decide +kernel
theorem dX10_move_38 : decode cX10_move 38 = .ok (.getfield 19, 3) := by decide +kernel
theorem dX10_move_41 : decode cX10_move 41 = .ok (.bipush 6, 2) := by decide +kernel
theorem dX10_move_43 : decode cX10_move 43 = .ok (.iconst 4, 1) := by decide +kernel
theorem dX10_move_44 : decode cX10_move 44 = .ok (.iload_n 1, 1) := by decide +kernel
theorem dX10_move_45 : decode cX10_move 45 = .ok (.imul, 1) := by decide +kernel
theorem dX10_move_46 : decode cX10_move 46 = .ok (.iload_n 2, 1) := by decide +kernel
theorem dX10_move_47 : decode cX10_move 47 = .ok (.iadd, 1) := by decide +kernel
theorem dX10_move_48 : decode cX10_move 48 = .ok (.imul, 1) := by decide +kernel
theorem dX10_move_49 : decode cX10_move 49 = .ok (.iload_n 3, 1) := by decide +kernel
theorem dX10_move_50 : decode cX10_move 50 = .ok (.iadd, 1) := by decide +kernel
theorem dX10_move_51 : decode cX10_move 51 = .ok (.iload 4, 2) := by decide +kernel
theorem dX10_move_53 : decode cX10_move 53 = .ok (.iastore, 1) := by decide +kernel
theorem dX10_move_54 : decode cX10_move 54 = .ok (.aload_n 0, 1) := by decide +kernel
theorem dX10_move_55 : decode cX10_move 55 = .ok (.invokevirtual 106, 3) := by decide +kernel
theorem dX10_move_58 : decode cX10_move 58 = .ok (.iconst 1, 1) := by decide +kernel
theorem dX10_move_59 : decode cX10_move 59 = .ok (.ireturn, 1) := by decide +kernel
set_option maxRecDepth 20000 in
theorem ggX10_discount_X10_change : GoodIn wsX10_discount wsX10_change := goodIn_r _ [8, 9, 10, 11, 12, 13, 14, 15, 16, 17, 18, 19, 20, 21, 22, 23, 24, 25, 26, 27, 28, 29, 30] (by decide +kernel) (by decide +kernel)
set_option maxRecDepth 20000 in
theorem gX10_discount_X10_change : GoodIn wsX10_discount (wsV RX10 106 RX10 yX10_change wsX10_change) := goodIn_app (goodIn_of _ (by decide +kernel)) ggX10_discount_X10_change
theorem dX10_discount_0 : decode cX10_discount 0 = .ok (.aload_n 0, 1) := by decide +kernel
theorem dX10_discount_1 : decode cX10_discount 1 = .ok (.iconst 0, 1) := by decide +kernel
theorem dX10_discount_2 : decode cX10_discount 2 = .ok (.putfield 56, 3) := by decide +kernel
theorem dX10_discount_5 : decode cX10_discount 5 = .ok (.iload_n 1, 1) := by decide +kernel
theorem dX10_discount_6 : decode cX10_discount 6 = .ok (.ifCond .lt 14, 3) := by decide +kernel
theorem dX10_discount_9 : decode cX10_discount 9 = .ok (.iload_n 1, 1) := by decide +kernel
theorem dX10_discount_10 : decode cX10_discount 10 = .ok (.iload_n 2, 1) := by decide +kernel
theorem dX10_discount_11 : decode cX10_discount 11 = .ok (.if_icmp .ge 9, 3) := by decide +kernel
theorem dX10_discount_14 : decode cX10_discount 14 = .ok (.iload_n 2, 1) := by decide +kernel
theorem dX10_discount_15 : decode cX10_discount 15 = .ok (.bipush 20, 2) := by decide +kernel
theorem dX10_discount_17 : decode cX10_discount 17 = .ok (.if_icmp .le 5, 3) := by decide +kernel
theorem dX10_discount_20 : decode cX10_discount 20 = .ok (.iconst 0, 1) := by decide +kernel
theorem dX10_discount_21 : decode cX10_discount 21 = .ok (.ireturn, 1) := by decide +kernel
theorem dX10_discount_22 : decode cX10_discount 22 = .ok (.aload_n 0, 1) := by decide +kernel
theorem dX10_discount_23 : decode cX10_discount 23 = .ok (.iload_n 1, 1) := by decide +kernel
theorem dX10_discount_24 : decode cX10_discount 24 = .ok (.putfield 22, 3) := by decide +kernel
theorem dX10_discount_27 : decode cX10_discount 27 = .ok (.aload_n 0, 1) := by decide +kernel
theorem dX10_discount_28 : decode cX10_discount 28 = .ok (.iload_n 2, 1) := by decide +kernel
theorem dX10_discount_29 : decode cX10_discount 29 = .ok (.putfield 26, 3) := by decide +kernel
theorem dX10_discount_32 : decode cX10_discount 32 = .ok (.aload_n 0, 1) := by decide +kernel
theorem dX10_discount_33 : decode cX10_discount 33 = .ok (.invokevirtual 106, 3) := by decide +kernel
theorem dX10_discount_36 : decode cX10_discount 36 = .ok (.iconst 1, 1) := by decide +kernel
theorem dX10_discount_37 : decode cX10_discount 37 = .ok (.ireturn, 1) := by decide +kernel
theorem dX10_sumOf_0 : decode cX10_sumOf 0 = .ok (.iconst 0, 1) := by decide +kernel
theorem dX10_sumOf_1 : decode cX10_sumOf 1 = .ok (.istore_n 2, 1) := by decide +kernel
theorem dX10_sumOf_2 : decode cX10_sumOf 2 = .ok (.iconst 0, 1) := by decide +kernel
theorem dX10_sumOf_3 : decode cX10_sumOf 3 = .ok (.istore_n 3, 1) := by decide +kernel
theorem dX10_sumOf_4 : decode cX10_sumOf 4 = .ok (.iload_n 3, 1) := by decide +kernel
theorem dX10_sumOf_5 : decode cX10_sumOf 5 = .ok (.bipush 6, 2) := by decide +kernel
theorem dX10_sumOf_7 : decode cX10_sumOf 7 = .ok (.if_icmp .ge 23, 3) := by decide +kernel
theorem dX10_sumOf_10 : decode cX10_sumOf 10 = .ok (.iload_n 2, 1) := by decide +kernel
theorem dX10_sumOf_11 : decode cX10_sumOf 11 = .ok (.aload_n 0, 1) := by decide +kernel
theorem dX10_sumOf_12 : decode cX10_sumOf 12 = .ok (.getfield 19, 3) := by decide +kernel
theorem dX10_sumOf_15 : decode cX10_sumOf 15 = .ok (.bipush 6, 2) := by decide +kernel
theorem dX10_sumOf_17 : decode cX10_sumOf 17 = .ok (.iload_n 1, 1) := by decide +kernel
theorem dX10_sumOf_18 : decode cX10_sumOf 18 = .ok (.imul, 1) := by decide +kernel
theorem dX10_sumOf_19 : decode cX10_sumOf 19 = .ok (.iload_n 3, 1) := by decide +kernel
theorem dX10_sumOf_20 : decode cX10_sumOf 20 = .ok (.iadd, 1) := by decide +kernel
theorem dX10_sumOf_21 : decode cX10_sumOf 21 = .ok (.iaload, 1) := by decide +kernel
theorem dX10_sumOf_22 : decode cX10_sumOf 22 = .ok (.iadd, 1) := by decide +kernel
theorem dX10_sumOf_23 : decode cX10_sumOf 23 = .ok (.istore_n 2, 1) := by decide +kernel
theorem dX10_sumOf_24 : decode cX10_sumOf 24 = .ok (.iinc 3 1, 3) := by decide +kernel
theorem dX10_sumOf_27 : decode cX10_sumOf 27 = .ok (.goto (-23), 3) := by decide +kernel
theorem dX10_sumOf_30 : decode cX10_sumOf 30 = .ok (.iload_n 2, 1) := by decide +kernel
theorem dX10_sumOf_31 : decode cX10_sumOf 31 = .ok (.ireturn, 1) := by decide +kernel
set_option maxRecDepth 20000 in
theorem ggX10_readyCount_X10_sumOf : GoodIn wsX10_readyCount wsX10_sumOf := goodIn_r _ [7, 8, 9, 10, 11, 12, 13, 14, 15, 16, 17, 18, 19, 20, 21, 22, 23, 24, 25, 26, 27, 28] (by decide +kernel) (by decide +kernel)
set_option maxRecDepth 20000 in
theorem gX10_readyCount_X10_sumOf : GoodIn wsX10_readyCount (wsV RX10 127 RX10 yX10_sumOf wsX10_sumOf) := goodIn_app (goodIn_of _ (by decide +kernel)) ggX10_readyCount_X10_sumOf
theorem dX10_readyCount_0 : decode cX10_readyCount 0 = .ok (.iconst 0, 1) := by decide +kernel
theorem dX10_readyCount_1 : decode cX10_readyCount 1 = .ok (.istore_n 1, 1) := by decide +kernel
theorem dX10_readyCount_2 : decode cX10_readyCount 2 = .ok (.iconst 0, 1) := by decide +kernel
theorem dX10_readyCount_3 : decode cX10_readyCount 3 = .ok (.istore_n 2, 1) := by decide +kernel
theorem dX10_readyCount_4 : decode cX10_readyCount 4 = .ok (.iload_n 2, 1) := by decide +kernel
theorem dX10_readyCount_5 : decode cX10_readyCount 5 = .ok (.aload_n 0, 1) := by decide +kernel
theorem dX10_readyCount_6 : decode cX10_readyCount 6 = .ok (.getfield 103, 3) := by decide +kernel
theorem dX10_readyCount_9 : decode cX10_readyCount 9 = .ok (.if_icmp .ge 47, 3) := by decide +kernel
theorem dX10_readyCount_12 : decode cX10_readyCount 12 = .ok (.iconst 0, 1) := by decide +kernel
theorem dX10_readyCount_13 : decode cX10_readyCount 13 = .ok (.istore_n 3, 1) := by decide +kernel
theorem dX10_readyCount_14 : decode cX10_readyCount 14 = .ok (.iload_n 3, 1) := by decide +kernel
theorem dX10_readyCount_15 : decode cX10_readyCount 15 = .ok (.aload_n 0, 1) := by decide +kernel
theorem dX10_readyCount_16 : decode cX10_readyCount 16 = .ok (.getfield 7, 3) := by decide +kernel
theorem dX10_readyCount_19 : decode cX10_readyCount 19 = .ok (.iload_n 2, 1) := by decide +kernel
theorem dX10_readyCount_20 : decode cX10_readyCount 20 = .ok (.iaload, 1) := by decide +kernel
theorem dX10_readyCount_21 : decode cX10_readyCount 21 = .ok (.if_icmp .ge 29, 3) := by decide +kernel
theorem dX10_readyCount_24 : decode cX10_readyCount 24 = .ok (.aload_n 0, 1) := by decide +kernel
theorem dX10_readyCount_25 : decode cX10_readyCount 25 = .ok (.iconst 4, 1) := by decide +kernel
theorem dX10_readyCount_26 : decode cX10_readyCount 26 = .ok (.iload_n 2, 1) := by decide +kernel
theorem dX10_readyCount_27 : decode cX10_readyCount 27 = .ok (.imul, 1) := by decide +kernel
theorem dX10_readyCount_28 : decode cX10_readyCount 28 = .ok (.iload_n 3, 1) := by decide +kernel
theorem dX10_readyCount_29 : decode cX10_readyCount 29 = .ok (.iadd, 1) := by decide +kernel
theorem dX10_readyCount_30 : decode cX10_readyCount 30 = .ok (.invokevirtual 127, 3) := by decide +kernel
theorem dX10_readyCount_33 : decode cX10_readyCount 33 = .ok (.ifCond .le 9, 3) := by decide +kernel
theorem dX10_readyCount_36 : decode cX10_readyCount 36 = .ok (.iload_n 1, 1) := by decide +kernel
theorem dX10_readyCount_37 : decode cX10_readyCount 37 = .ok (.iconst 1, 1) := by decide +kernel
theorem dX10_readyCount_38 : decode cX10_readyCount 38 = .ok (.iadd, 1) := by decide +kernel
theorem dX10_readyCount_39 : decode cX10_readyCount 39 = .ok (.goto 4, 3) := by decide +kernel
theorem dX10_readyCount_42 : decode cX10_readyCount 42 = .ok (.iload_n 1, 1) := by decide +kernel
theorem dX10_readyCount_43 : decode cX10_readyCount 43 = .ok (.istore_n 1, 1) := by decide +kernel
theorem dX10_readyCount_44 : decode cX10_readyCount 44 = .ok (.iinc 3 1, 3) := by decide +kernel
theorem dX10_readyCount_47 : decode cX10_readyCount 47 = .ok (.goto (-33), 3) := by decide +kernel
theorem dX10_readyCount_50 : decode cX10_readyCount 50 = .ok (.iinc 2 1, 3) := by decide +kernel
theorem dX10_readyCount_53 : decode cX10_readyCount 53 = .ok (.goto (-49), 3) := by decide +kernel
theorem dX10_readyCount_56 : decode cX10_readyCount 56 = .ok (.iload_n 1, 1) := by decide +kernel
theorem dX10_readyCount_57 : decode cX10_readyCount 57 = .ok (.ireturn, 1) := by decide +kernel
theorem dX10_allActions_0 : decode cX10_allActions 0 = .ok (.iconst 0, 1) := by decide +kernel
theorem dX10_allActions_1 : decode cX10_allActions 1 = .ok (.istore_n 1, 1) := by decide +kernel
theorem dX10_allActions_2 : decode cX10_allActions 2 = .ok (.iconst 0, 1) := by decide +kernel
theorem dX10_allActions_3 : decode cX10_allActions 3 = .ok (.istore_n 2, 1) := by decide +kernel
theorem dX10_allActions_4 : decode cX10_allActions 4 = .ok (.iload_n 2, 1) := by decide +kernel
theorem dX10_allActions_5 : decode cX10_allActions 5 = .ok (.aload_n 0, 1) := by decide +kernel
theorem dX10_allActions_6 : decode cX10_allActions 6 = .ok (.getfield 103, 3) := by decide +kernel
theorem dX10_allActions_9 : decode cX10_allActions 9 = .ok (.if_icmp .ge 18, 3) := by decide +kernel
theorem dX10_allActions_12 : decode cX10_allActions 12 = .ok (.iload_n 1, 1) := by decide +kernel
theorem dX10_allActions_13 : decode cX10_allActions 13 = .ok (.aload_n 0, 1) := by decide +kernel
theorem dX10_allActions_14 : decode cX10_allActions 14 = .ok (.getfield 7, 3) := by decide +kernel
theorem dX10_allActions_17 : decode cX10_allActions 17 = .ok (.iload_n 2, 1) := by decide +kernel
theorem dX10_allActions_18 : decode cX10_allActions 18 = .ok (.iaload, 1) := by decide +kernel
theorem dX10_allActions_19 : decode cX10_allActions 19 = .ok (.iadd, 1) := by decide +kernel
theorem dX10_allActions_20 : decode cX10_allActions 20 = .ok (.istore_n 1, 1) := by decide +kernel
theorem dX10_allActions_21 : decode cX10_allActions 21 = .ok (.iinc 2 1, 3) := by decide +kernel
theorem dX10_allActions_24 : decode cX10_allActions 24 = .ok (.goto (-20), 3) := by decide +kernel
theorem dX10_allActions_27 : decode cX10_allActions 27 = .ok (.iload_n 1, 1) := by decide +kernel
theorem dX10_allActions_28 : decode cX10_allActions 28 = .ok (.ireturn, 1) := by decide +kernel
set_option maxRecDepth 20000 in
theorem ggX10_isReady_X10_readyCount : GoodIn wsX10_isReady wsX10_readyCount := goodIn_r _ [7, 1, 2, 8, 9, 10, 6, 11, 12, 17, 18, 19, 20, 21, 22, 23, 24, 25, 26, 27, 28, 29, 30, 31, 32, 33, 34, 35, 36] (by decide +kernel) (by decide +kernel)
set_option maxRecDepth 20000 in
theorem gX10_isReady_X10_readyCount : GoodIn wsX10_isReady (wsV RX10 131 RX10 yX10_readyCount wsX10_readyCount) := goodIn_app (goodIn_of _ (by decide +kernel)) ggX10_isReady_X10_readyCount
set_option maxRecDepth 20000 in
theorem ggX10_isReady_X10_allActions : GoodIn wsX10_isReady wsX10_allActions := goodIn_r _ [16, 1, 2, 17, 18, 19, 20, 21, 22, 23, 24, 25, 26, 27, 28, 29, 30, 31, 32, 33, 34, 35, 36] (by decide +kernel) (by decide +kernel)
set_option maxRecDepth 20000 in
theorem gX10_isReady_X10_allActions : GoodIn wsX10_isReady (wsV RX10 135 RX10 yX10_allActions wsX10_allActions) := goodIn_app (goodIn_of _ (by decide +kernel)) ggX10_isReady_X10_allActions
theorem dX10_isReady_0 : decode cX10_isReady 0 = .ok (.aload_n 0, 1) := by decide +kernel
theorem dX10_isReady_1 : decode cX10_isReady 1 = .ok (.getfield 103, 3) := by decide +kernel
theorem dX10_isReady_4 : decode cX10_isReady 4 = .ok (.ifCond .le 18, 3) := by decide +kernel
theorem dX10_isReady_7 : decode cX10_isReady 7 = .ok (.aload_n 0, 1) := by decide +kernel
theorem dX10_isReady_8 : decode cX10_isReady 8 = .ok (.invokevirtual 131, 3) := by decide +kernel
theorem dX10_isReady_11 : decode cX10_isReady 11 = .ok (.aload_n 0, 1) := by decide +kernel
theorem dX10_isReady_12 : decode cX10_isReady 12 = .ok (.invokevirtual 135, 3) := by decide +kernel
theorem dX10_isReady_15 : decode cX10_isReady 15 = .ok (.if_icmp .ne 7, 3) := by decide +kernel
theorem dX10_isReady_18 : decode cX10_isReady 18 = .ok (.iconst 1, 1) := by decide +kernel
theorem dX10_isReady_19 : decode cX10_isReady 19 = .ok (.goto 4, 3) := by decide +kernel
theorem dX10_isReady_22 : decode cX10_isReady 22 = .ok (.iconst 0, 1) := by decide +kernel
theorem dX10_isReady_23 : decode cX10_isReady 23 = .ok (.istore_n 1, 1) := by decide +kernel
theorem dX10_isReady_24 : decode cX10_isReady 24 = .ok (.iconst 0, 1) := by decide +kernel
theorem dX10_isReady_25 : decode cX10_isReady 25 = .ok (.istore_n 2, 1) := by decide +kernel
theorem dX10_isReady_26 : decode cX10_isReady 26 = .ok (.iload_n 2, 1) := by decide +kernel
theorem dX10_isReady_27 : decode cX10_isReady 27 = .ok (.aload_n 0, 1) := by decide +kernel
theorem dX10_isReady_28 : decode cX10_isReady 28 = .ok (.getfield 103, 3) := by decide +kernel
theorem dX10_isReady_31 : decode cX10_isReady 31 = .ok (.if_icmp .ge 28, 3) := by decide +kernel
theorem dX10_isReady_34 : decode cX10_isReady 34 = .ok (.iload_n 1, 1) := by decide +kernel
theorem dX10_isReady_35 : decode cX10_isReady 35 = .ok (.ifCond .eq 16, 3) := by decide +kernel
theorem dX10_isReady_38 : decode cX10_isReady 38 = .ok (.aload_n 0, 1) := by decide +kernel
theorem dX10_isReady_39 : decode cX10_isReady 39 = .ok (.getfield 7, 3) := by decide +kernel
theorem dX10_isReady_42 : decode cX10_isReady 42 = .ok (.iload_n 2, 1) := by decide +kernel
theorem dX10_isReady_43 : decode cX10_isReady 43 = .ok (.iaload, 1) := by decide +kernel
theorem dX10_isReady_44 : decode cX10_isReady 44 = .ok (.ifCond .le 7, 3) := by decide +kernel
theorem dX10_isReady_47 : decode cX10_isReady 47 = .ok (.iconst 1, 1) := by decide +kernel
theorem dX10_isReady_48 : decode cX10_isReady 48 = .ok (.goto 4, 3) := by decide +kernel
theorem dX10_isReady_51 : decode cX10_isReady 51 = .ok (.iconst 0, 1) := by decide +kernel
theorem dX10_isReady_52 : decode cX10_isReady 52 = .ok (.istore_n 1, 1) := by decide +kernel
theorem dX10_isReady_53 : decode cX10_isReady 53 = .ok (.iinc 2 1, 3) := by decide +kernel
theorem dX10_isReady_56 : decode cX10_isReady 56 = .ok (.goto (-30), 3) := by decide +kernel
theorem dX10_isReady_59 : decode cX10_isReady 59 = .ok (.iload_n 1, 1) := by decide +kernel
theorem dX10_isReady_60 : decode cX10_isReady 60 = .ok (.ireturn, 1) := by decide +kernel
theorem dX10_dividing_0 : decode cX10_dividing 0 = .ok (.iload_n 0, 1) := by decide +kernel
theorem dX10_dividing_1 : decode cX10_dividing 1 = .ok (.istore_n 2, 1) := by decide +kernel
theorem dX10_dividing_2 : decode cX10_dividing 2 = .ok (.iload_n 1, 1) := by decide +kernel
theorem dX10_dividing_3 : decode cX10_dividing 3 = .ok (.istore_n 3, 1) := by decide +kernel
theorem dX10_dividing_4 : decode cX10_dividing 4 = .ok (.iload_n 3, 1) := by decide +kernel
theorem dX10_dividing_5 : decode cX10_dividing 5 = .ok (.ifCond .le 16, 3) := by decide +kernel
theorem dX10_dividing_8 : decode cX10_dividing 8 = .ok (.iload_n 2, 1) := by decide +kernel
theorem dX10_dividing_9 : decode cX10_dividing 9 = .ok (.iload_n 3, 1) := by decide +kernel
theorem dX10_dividing_10 : decode cX10_dividing 10 = .ok (.irem, 1) := by decide +kernel
theorem dX10_dividing_11 : decode cX10_dividing 11 = .ok (.istore 4, 2) := by decide +kernel
theorem dX10_dividing_13 : decode cX10_dividing 13 = .ok (.iload_n 3, 1) := by decide +kernel
theorem dX10_dividing_14 : decode cX10_dividing 14 = .ok (.istore_n 2, 1) := by decide +kernel
theorem dX10_dividing_15 : decode cX10_dividing 15 = .ok (.iload 4, 2) := by decide +kernel
theorem dX10_dividing_17 : decode cX10_dividing 17 = .ok (.istore_n 3, 1) := by decide +kernel
theorem dX10_dividing_18 : decode cX10_dividing 18 = .ok (.goto (-14), 3) := by decide +kernel
theorem dX10_dividing_21 : decode cX10_dividing 21 = .ok (.iload_n 2, 1) := by decide +kernel
theorem dX10_dividing_22 : decode cX10_dividing 22 = .ok (.ireturn, 1) := by decide +kernel
set_option maxRecDepth 20000 in
theorem ggX10_valuePolicy_X10_dividing : GoodIn wsX10_valuePolicy wsX10_dividing := goodIn_r _ [12] (by decide +kernel) (by decide +kernel)
set_option maxRecDepth 20000 in
theorem gX10_valuePolicy_X10_dividing : GoodIn wsX10_valuePolicy (va_wsS RX10 141 yX10_dividing wsX10_dividing) := goodIn_app (goodIn_of _ (by decide +kernel)) ggX10_valuePolicy_X10_dividing
set_option maxRecDepth 20000 in
theorem ggX10_valuePolicy_X10_sumOf : GoodIn wsX10_valuePolicy wsX10_sumOf := goodIn_r _ [16, 7, 63, 64, 65, 66, 67, 68, 69, 70, 71, 72, 73, 74, 75, 76, 77, 78, 79, 80, 81, 82] (by decide +kernel) (by decide +kernel)
set_option maxRecDepth 20000 in
theorem gX10_valuePolicy_X10_sumOf : GoodIn wsX10_valuePolicy (wsV RX10 127 RX10 yX10_sumOf wsX10_sumOf) := goodIn_app (goodIn_of _ (by decide +kernel)) ggX10_valuePolicy_X10_sumOf
set_option maxRecDepth 20000 in
theorem ggX10_valuePolicy_X10_setSmall : GoodIn wsX10_valuePolicy wsX10_setSmall := goodIn_r _ [20, 21, 22, 23, 24, 63, 64, 65, 66, 67, 68, 69, 70, 71, 72, 73, 74, 75, 76, 77, 78, 79, 80, 81, 82] (by decide +kernel) (by decide +kernel)
set_option maxRecDepth 20000 in
theorem gX10_valuePolicy_X10_setSmall : GoodIn wsX10_valuePolicy (wsV RX10 76 RX10 yX10_setSmall wsX10_setSmall) := goodIn_app (goodIn_of _ (by decide +kernel)) ggX10_valuePolicy_X10_setSmall
set_option maxRecDepth 20000 in
theorem ggX10_valuePolicy_X10_times : GoodIn wsX10_valuePolicy wsX10_times := goodIn_r _ [28, 24, 22, 23, 21, 29, 30, 31, 11, 32, 63, 64, 65, 66, 67, 68, 69, 70, 71, 72, 73, 74, 75, 76, 77, 78, 79, 80, 81, 82] (by decide +kernel) (by decide +kernel)
set_option maxRecDepth 20000 in
theorem gX10_valuePolicy_X10_times : GoodIn wsX10_valuePolicy (wsV RX10 80 RX10 yX10_times wsX10_times) := goodIn_app (goodIn_of _ (by decide +kernel)) ggX10_valuePolicy_X10_times
set_option maxRecDepth 20000 in
theorem ggX10_valuePolicy_X10_putRight : GoodIn wsX10_valuePolicy wsX10_putRight := goodIn_r _ [36, 37, 38, 39, 11, 40, 24, 22, 23, 21, 29, 30, 31, 32, 41, 42, 43, 44, 45, 46, 47, 48, 49, 50, 51, 52, 53, 54, 55, 56, 57, 58, 17, 18, 19, 20, 25, 26, 27, 28, 59, 60, 61, 62, 63, 64, 65, 66, 67, 68, 69, 70, 71, 72, 73, 74, 75, 76, 77, 78, 79, 80, 81, 82] (by decide +kernel) (by decide +kernel)
set_option maxRecDepth 20000 in
theorem gX10_valuePolicy_X10_putRight : GoodIn wsX10_valuePolicy (wsV RX10 144 RX10 yX10_putRight wsX10_putRight) := goodIn_app (goodIn_of _ (by decide +kernel)) ggX10_valuePolicy_X10_putRight
set_option maxRecDepth 20000 in
theorem ggX10_valuePolicy_X10_copy : GoodIn wsX10_valuePolicy wsX10_copy := goodIn_r _ [62, 21, 24, 22, 63, 64, 65, 66, 67, 68, 69, 70, 71, 72, 73, 74, 75, 76, 77, 78, 79, 80, 81, 82] (by decide +kernel) (by decide +kernel)
set_option maxRecDepth 20000 in
theorem gX10_valuePolicy_X10_copy : GoodIn wsX10_valuePolicy (wsV RX10 90 RX10 yX10_copy wsX10_copy) := goodIn_app (goodIn_of _ (by decide +kernel)) ggX10_valuePolicy_X10_copy
set_option maxRecDepth 20000 in
theorem ggX10_valuePolicy_X10_multiply : GoodIn wsX10_valuePolicy wsX10_multiply := goodIn_r _ [40, 24, 22, 23, 21, 29, 30, 31, 11, 32, 63, 64, 65, 66, 67, 68, 69, 70, 71, 72, 73, 74, 75, 76, 77, 78, 79, 80, 81, 82] (by decide +kernel) (by decide +kernel)
set_option maxRecDepth 20000 in
theorem gX10_valuePolicy_X10_multiply : GoodIn wsX10_valuePolicy (wsV RX10 147 RX10 yX10_multiply wsX10_multiply) := goodIn_app (goodIn_of _ (by decide +kernel)) ggX10_valuePolicy_X10_multiply
set_option maxRecDepth 20000 in
theorem ggX10_valuePolicy_X10_plus : GoodIn wsX10_valuePolicy wsX10_plus := goodIn_r _ [44, 21, 24, 22, 45, 46, 47, 48, 49, 11, 50, 29, 30, 31, 32, 51, 52, 53, 54, 63, 64, 65, 66, 67, 68, 69, 70, 71, 72, 73, 74, 75, 76, 77, 78, 79, 80, 81, 82] (by decide +kernel) (by decide +kernel)
set_option maxRecDepth 20000 in
theorem gX10_valuePolicy_X10_plus : GoodIn wsX10_valuePolicy (wsV RX10 83 RX10 yX10_plus wsX10_plus) := goodIn_app (goodIn_of _ (by decide +kernel)) ggX10_valuePolicy_X10_plus
set_option maxRecDepth 20000 in
theorem ggX10_valuePolicy_X10_over : GoodIn wsX10_valuePolicy wsX10_over := goodIn_r _ [58, 21, 24, 22, 17, 18, 19, 11, 20, 23, 25, 26, 27, 28, 29, 30, 31, 32, 51, 52, 53, 54, 41, 42, 43, 44, 45, 46, 47, 48, 49, 50, 63, 64, 65, 66, 67, 68, 69, 70, 71, 72, 73, 74, 75, 76, 77, 78, 79, 80, 81, 82] (by decide +kernel) (by decide +kernel)
set_option maxRecDepth 20000 in
theorem gX10_valuePolicy_X10_over : GoodIn wsX10_valuePolicy (wsV RX10 150 RX10 yX10_over wsX10_over) := goodIn_app (goodIn_of _ (by decide +kernel)) ggX10_valuePolicy_X10_over
theorem dX10_valuePolicy_0 : decode cX10_valuePolicy 0 = .ok (.aload_n 0, 1) := by decide +kernel
theorem dX10_valuePolicy_1 : decode cX10_valuePolicy 1 = .ok (.iconst 1, 1) := by decide +kernel
theorem dX10_valuePolicy_2 : decode cX10_valuePolicy 2 = .ok (.putfield 138, 3) := by decide +kernel
theorem dX10_valuePolicy_5 : decode cX10_valuePolicy 5 = .ok (.iconst 0, 1) := by decide +kernel
theorem dX10_valuePolicy_6 : decode cX10_valuePolicy 6 = .ok (.istore_n 1, 1) := by decide +kernel
theorem dX10_valuePolicy_7 : decode cX10_valuePolicy 7 = .ok (.iload_n 1, 1) := by decide +kernel
theorem dX10_valuePolicy_8 : decode cX10_valuePolicy 8 = .ok (.aload_n 0, 1) := by decide +kernel
theorem dX10_valuePolicy_9 : decode cX10_valuePolicy 9 = .ok (.getfield 103, 3) := by decide +kernel
theorem dX10_valuePolicy_12 : decode cX10_valuePolicy 12 = .ok (.if_icmp .ge 44, 3) := by decide +kernel
theorem dX10_valuePolicy_15 : decode cX10_valuePolicy 15 = .ok (.aload_n 0, 1) := by decide +kernel
theorem dX10_valuePolicy_16 : decode cX10_valuePolicy 16 = .ok (.getfield 16, 3) := by decide +kernel
theorem dX10_valuePolicy_19 : decode cX10_valuePolicy 19 = .ok (.iconst 4, 1) := by decide +kernel
theorem dX10_valuePolicy_20 : decode cX10_valuePolicy 20 = .ok (.iload_n 1, 1) := by decide +kernel
theorem dX10_valuePolicy_21 : decode cX10_valuePolicy 21 = .ok (.imul, 1) := by decide +kernel
theorem dX10_valuePolicy_22 : decode cX10_valuePolicy 22 = .ok (.aload_n 0, 1) := by decide +kernel
theorem dX10_valuePolicy_23 : decode cX10_valuePolicy 23 = .ok (.getfield 32, 3) := by decide +kernel
theorem dX10_valuePolicy_26 : decode cX10_valuePolicy 26 = .ok (.iload_n 1, 1) := by decide +kernel
theorem dX10_valuePolicy_27 : decode cX10_valuePolicy 27 = .ok (.iaload, 1) := by decide +kernel
theorem dX10_valuePolicy_28 : decode cX10_valuePolicy 28 = .ok (.iadd, 1) := by decide +kernel
theorem dX10_valuePolicy_29 : decode cX10_valuePolicy 29 = .ok (.iaload, 1) := by decide +kernel
theorem dX10_valuePolicy_30 : decode cX10_valuePolicy 30 = .ok (.istore_n 2, 1) := by decide +kernel
theorem dX10_valuePolicy_31 : decode cX10_valuePolicy 31 = .ok (.aload_n 0, 1) := by decide +kernel
theorem dX10_valuePolicy_32 : decode cX10_valuePolicy 32 = .ok (.aload_n 0, 1) := by decide +kernel
theorem dX10_valuePolicy_33 : decode cX10_valuePolicy 33 = .ok (.getfield 138, 3) := by decide +kernel
theorem dX10_valuePolicy_36 : decode cX10_valuePolicy 36 = .ok (.aload_n 0, 1) := by decide +kernel
theorem dX10_valuePolicy_37 : decode cX10_valuePolicy 37 = .ok (.getfield 138, 3) := by decide +kernel
theorem dX10_valuePolicy_40 : decode cX10_valuePolicy 40 = .ok (.iload_n 2, 1) := by decide +kernel
theorem dX10_valuePolicy_41 : decode cX10_valuePolicy 41 = .ok (.invokestatic 141, 3) := by decide +kernel
theorem dX10_valuePolicy_44 : decode cX10_valuePolicy 44 = .ok (.idiv, 1) := by decide +kernel
theorem dX10_valuePolicy_45 : decode cX10_valuePolicy 45 = .ok (.iload_n 2, 1) := by decide +kernel
theorem dX10_valuePolicy_46 : decode cX10_valuePolicy 46 = .ok (.imul, 1) := by decide +kernel
theorem dX10_valuePolicy_47 : decode cX10_valuePolicy 47 = .ok (.putfield 138, 3) := by decide +kernel
theorem dX10_valuePolicy_50 : decode cX10_valuePolicy 50 = .ok (.iinc 1 1, 3) := by decide +kernel
theorem dX10_valuePolicy_53 : decode cX10_valuePolicy 53 = .ok (.goto (-46), 3) := by decide +kernel
theorem dX10_valuePolicy_56 : decode cX10_valuePolicy 56 = .ok (.iconst 0, 1) := by decide +kernel
theorem dX10_valuePolicy_57 : decode cX10_valuePolicy 57 = .ok (.istore_n 1, 1) := by decide +kernel
theorem dX10_valuePolicy_58 : decode cX10_valuePolicy 58 = .ok (.iload_n 1, 1) := by decide +kernel
theorem dX10_valuePolicy_59 : decode cX10_valuePolicy 59 = .ok (.aload_n 0, 1) := by decide +kernel
theorem dX10_valuePolicy_60 : decode cX10_valuePolicy 60 = .ok (.getfield 103, 3) := by decide +kernel
theorem dX10_valuePolicy_63 : decode cX10_valuePolicy 63 = .ok (.if_icmp .ge 143, 3) := by decide +kernel
theorem dX10_valuePolicy_66 : decode cX10_valuePolicy 66 = .ok (.iconst 4, 1) := by decide +kernel
theorem dX10_valuePolicy_67 : decode cX10_valuePolicy 67 = .ok (.iload_n 1, 1) := by decide +kernel
theorem dX10_valuePolicy_68 : decode cX10_valuePolicy 68 = .ok (.imul, 1) := by decide +kernel
theorem dX10_valuePolicy_69 : decode cX10_valuePolicy 69 = .ok (.aload_n 0, 1) := by decide +kernel
theorem dX10_valuePolicy_70 : decode cX10_valuePolicy 70 = .ok (.getfield 32, 3) := by decide +kernel
theorem dX10_valuePolicy_73 : decode cX10_valuePolicy 73 = .ok (.iload_n 1, 1) := by decide +kernel
theorem dX10_valuePolicy_74 : decode cX10_valuePolicy 74 = .ok (.iaload, 1) := by decide +kernel
theorem dX10_valuePolicy_75 : decode cX10_valuePolicy 75 = .ok (.iadd, 1) := by decide +kernel
theorem dX10_valuePolicy_76 : decode cX10_valuePolicy 76 = .ok (.istore_n 2, 1) := by decide +kernel
theorem dX10_valuePolicy_77 : decode cX10_valuePolicy 77 = .ok (.aload_n 0, 1) := by decide +kernel
theorem dX10_valuePolicy_78 : decode cX10_valuePolicy 78 = .ok (.iload_n 2, 1) := by decide +kernel
theorem dX10_valuePolicy_79 : decode cX10_valuePolicy 79 = .ok (.invokevirtual 127, 3) := by decide +kernel
theorem dX10_valuePolicy_82 : decode cX10_valuePolicy 82 = .ok (.istore_n 3, 1) := by decide +kernel
theorem dX10_valuePolicy_83 : decode cX10_valuePolicy 83 = .ok (.iconst 0, 1) := by decide +kernel
theorem dX10_valuePolicy_84 : decode cX10_valuePolicy 84 = .ok (.istore 4, 2) := by decide +kernel
theorem dX10_valuePolicy_86 : decode cX10_valuePolicy 86 = .ok (.iload 4, 2) := by decide +kernel
theorem dX10_valuePolicy_88 : decode cX10_valuePolicy 88 = .ok (.aload_n 0, 1) := by decide +kernel
theorem dX10_valuePolicy_89 : decode cX10_valuePolicy 89 = .ok (.getfield 103, 3) := by decide +kernel
theorem dX10_valuePolicy_92 : decode cX10_valuePolicy 92 = .ok (.if_icmp .ge 59, 3) := by decide +kernel
theorem dX10_valuePolicy_95 : decode cX10_valuePolicy 95 = .ok (.iload_n 1, 1) := by decide +kernel
theorem dX10_valuePolicy_96 : decode cX10_valuePolicy 96 = .ok (.iload 4, 2) := by decide +kernel
theorem dX10_valuePolicy_98 : decode cX10_valuePolicy 98 = .ok (.if_icmp .ne 12, 3) := by decide +kernel
theorem dX10_valuePolicy_101 : decode cX10_valuePolicy 101 = .ok (.aload_n 0, 1) := by decide +kernel
theorem dX10_valuePolicy_102 : decode cX10_valuePolicy 102 = .ok (.getfield 26, 3) := by decide +kernel
theorem dX10_valuePolicy_105 : decode cX10_valuePolicy 105 = .ok (.iload_n 3, 1) := by decide +kernel
theorem dX10_valuePolicy_106 : decode cX10_valuePolicy 106 = .ok (.imul, 1) := by decide +kernel
theorem dX10_valuePolicy_107 : decode cX10_valuePolicy 107 = .ok (.goto 4, 3) := by decide +kernel
theorem dX10_valuePolicy_110 : decode cX10_valuePolicy 110 = .ok (.iconst 0, 1) := by decide +kernel
theorem dX10_valuePolicy_111 : decode cX10_valuePolicy 111 = .ok (.aload_n 0, 1) := by decide +kernel
theorem dX10_valuePolicy_112 : decode cX10_valuePolicy 112 = .ok (.getfield 22, 3) := by decide +kernel
theorem dX10_valuePolicy_115 : decode cX10_valuePolicy 115 = .ok (.aload_n 0, 1) := by decide +kernel
theorem dX10_valuePolicy_116 : decode cX10_valuePolicy 116 = .ok (.getfield 19, 3) := by decide +kernel
theorem dX10_valuePolicy_119 : decode cX10_valuePolicy 119 = .ok (.bipush 6, 2) := by decide +kernel
theorem dX10_valuePolicy_121 : decode cX10_valuePolicy 121 = .ok (.iload_n 2, 1) := by decide +kernel
theorem dX10_valuePolicy_122 : decode cX10_valuePolicy 122 = .ok (.imul, 1) := by decide +kernel
theorem dX10_valuePolicy_123 : decode cX10_valuePolicy 123 = .ok (.iload 4, 2) := by decide +kernel
theorem dX10_valuePolicy_125 : decode cX10_valuePolicy 125 = .ok (.iadd, 1) := by decide +kernel
theorem dX10_valuePolicy_126 : decode cX10_valuePolicy 126 = .ok (.iaload, 1) := by decide +kernel
theorem dX10_valuePolicy_127 : decode cX10_valuePolicy 127 = .ok (.imul, 1) := by decide +kernel
theorem dX10_valuePolicy_128 : decode cX10_valuePolicy 128 = .ok (.isub, 1) := by decide +kernel
theorem dX10_valuePolicy_129 : decode cX10_valuePolicy 129 = .ok (.istore 5, 2) := by decide +kernel
theorem dX10_valuePolicy_131 : decode cX10_valuePolicy 131 = .ok (.aload_n 0, 1) := by decide +kernel
theorem dX10_valuePolicy_132 : decode cX10_valuePolicy 132 = .ok (.bipush 7, 2) := by decide +kernel
theorem dX10_valuePolicy_134 : decode cX10_valuePolicy 134 = .ok (.iload_n 1, 1) := by decide +kernel
theorem dX10_valuePolicy_135 : decode cX10_valuePolicy 135 = .ok (.imul, 1) := by decide +kernel
theorem dX10_valuePolicy_136 : decode cX10_valuePolicy 136 = .ok (.iload 4, 2) := by decide +kernel
theorem dX10_valuePolicy_138 : decode cX10_valuePolicy 138 = .ok (.iadd, 1) := by decide +kernel
theorem dX10_valuePolicy_139 : decode cX10_valuePolicy 139 = .ok (.iload 5, 2) := by decide +kernel
theorem dX10_valuePolicy_141 : decode cX10_valuePolicy 141 = .ok (.i2l, 1) := by decide +kernel
theorem dX10_valuePolicy_142 : decode cX10_valuePolicy 142 = .ok (.invokevirtual 76, 3) := by decide +kernel
theorem dX10_valuePolicy_145 : decode cX10_valuePolicy 145 = .ok (.iinc 4 1, 3) := by decide +kernel
theorem dX10_valuePolicy_148 : decode cX10_valuePolicy 148 = .ok (.goto (-62), 3) := by decide +kernel
theorem dX10_valuePolicy_151 : decode cX10_valuePolicy 151 = .ok (.aload_n 0, 1) := by decide +kernel
theorem dX10_valuePolicy_152 : decode cX10_valuePolicy 152 = .ok (.bipush 7, 2) := by decide +kernel
theorem dX10_valuePolicy_154 : decode cX10_valuePolicy 154 = .ok (.iload_n 1, 1) := by decide +kernel
theorem dX10_valuePolicy_155 : decode cX10_valuePolicy 155 = .ok (.imul, 1) := by decide +kernel
theorem dX10_valuePolicy_156 : decode cX10_valuePolicy 156 = .ok (.bipush 6, 2) := by decide +kernel
theorem dX10_valuePolicy_158 : decode cX10_valuePolicy 158 = .ok (.iadd, 1) := by decide +kernel
theorem dX10_valuePolicy_159 : decode cX10_valuePolicy 159 = .ok (.aload_n 0, 1) := by decide +kernel
theorem dX10_valuePolicy_160 : decode cX10_valuePolicy 160 = .ok (.getfield 26, 3) := by decide +kernel
theorem dX10_valuePolicy_163 : decode cX10_valuePolicy 163 = .ok (.i2l, 1) := by decide +kernel
theorem dX10_valuePolicy_164 : decode cX10_valuePolicy 164 = .ok (.iload_n 3, 1) := by decide +kernel
theorem dX10_valuePolicy_165 : decode cX10_valuePolicy 165 = .ok (.i2l, 1) := by decide +kernel
theorem dX10_valuePolicy_166 : decode cX10_valuePolicy 166 = .ok (.lmul, 1) := by decide +kernel
theorem dX10_valuePolicy_167 : decode cX10_valuePolicy 167 = .ok (.aload_n 0, 1) := by decide +kernel
theorem dX10_valuePolicy_168 : decode cX10_valuePolicy 168 = .ok (.getfield 13, 3) := by decide +kernel
theorem dX10_valuePolicy_171 : decode cX10_valuePolicy 171 = .ok (.iload_n 2, 1) := by decide +kernel
theorem dX10_valuePolicy_172 : decode cX10_valuePolicy 172 = .ok (.iaload, 1) := by decide +kernel
theorem dX10_valuePolicy_173 : decode cX10_valuePolicy 173 = .ok (.i2l, 1) := by decide +kernel
theorem dX10_valuePolicy_174 : decode cX10_valuePolicy 174 = .ok (.lmul, 1) := by decide +kernel
theorem dX10_valuePolicy_175 : decode cX10_valuePolicy 175 = .ok (.invokevirtual 76, 3) := by decide +kernel
theorem dX10_valuePolicy_178 : decode cX10_valuePolicy 178 = .ok (.aload_n 0, 1) := by decide +kernel
theorem dX10_valuePolicy_179 : decode cX10_valuePolicy 179 = .ok (.bipush 7, 2) := by decide +kernel
theorem dX10_valuePolicy_181 : decode cX10_valuePolicy 181 = .ok (.iload_n 1, 1) := by decide +kernel
theorem dX10_valuePolicy_182 : decode cX10_valuePolicy 182 = .ok (.imul, 1) := by decide +kernel
theorem dX10_valuePolicy_183 : decode cX10_valuePolicy 183 = .ok (.bipush 6, 2) := by decide +kernel
theorem dX10_valuePolicy_185 : decode cX10_valuePolicy 185 = .ok (.iadd, 1) := by decide +kernel
theorem dX10_valuePolicy_186 : decode cX10_valuePolicy 186 = .ok (.aload_n 0, 1) := by decide +kernel
theorem dX10_valuePolicy_187 : decode cX10_valuePolicy 187 = .ok (.getfield 138, 3) := by decide +kernel
theorem dX10_valuePolicy_190 : decode cX10_valuePolicy 190 = .ok (.aload_n 0, 1) := by decide +kernel
theorem dX10_valuePolicy_191 : decode cX10_valuePolicy 191 = .ok (.getfield 16, 3) := by decide +kernel
theorem dX10_valuePolicy_194 : decode cX10_valuePolicy 194 = .ok (.iload_n 2, 1) := by decide +kernel
theorem dX10_valuePolicy_195 : decode cX10_valuePolicy 195 = .ok (.iaload, 1) := by decide +kernel
theorem dX10_valuePolicy_196 : decode cX10_valuePolicy 196 = .ok (.idiv, 1) := by decide +kernel
theorem dX10_valuePolicy_197 : decode cX10_valuePolicy 197 = .ok (.invokevirtual 80, 3) := by decide +kernel
theorem dX10_valuePolicy_200 : decode cX10_valuePolicy 200 = .ok (.iinc 1 1, 3) := by decide +kernel
theorem dX10_valuePolicy_203 : decode cX10_valuePolicy 203 = .ok (.goto (-145), 3) := by decide +kernel
theorem dX10_valuePolicy_206 : decode cX10_valuePolicy 206 = .ok (.aload_n 0, 1) := by decide +kernel
theorem dX10_valuePolicy_207 : decode cX10_valuePolicy 207 = .ok (.bipush 48, 2) := by decide +kernel
theorem dX10_valuePolicy_209 : decode cX10_valuePolicy 209 = .ok (.lconst 1, 1) := by decide +kernel
theorem dX10_valuePolicy_210 : decode cX10_valuePolicy 210 = .ok (.invokevirtual 76, 3) := by decide +kernel
theorem dX10_valuePolicy_213 : decode cX10_valuePolicy 213 = .ok (.iconst 0, 1) := by decide +kernel
theorem dX10_valuePolicy_214 : decode cX10_valuePolicy 214 = .ok (.istore_n 1, 1) := by decide +kernel
theorem dX10_valuePolicy_215 : decode cX10_valuePolicy 215 = .ok (.iload_n 1, 1) := by decide +kernel
theorem dX10_valuePolicy_216 : decode cX10_valuePolicy 216 = .ok (.iconst 1, 1) := by decide +kernel
theorem dX10_valuePolicy_217 : decode cX10_valuePolicy 217 = .ok (.iadd, 1) := by decide +kernel
theorem dX10_valuePolicy_218 : decode cX10_valuePolicy 218 = .ok (.aload_n 0, 1) := by decide +kernel
theorem dX10_valuePolicy_219 : decode cX10_valuePolicy 219 = .ok (.getfield 103, 3) := by decide +kernel
theorem dX10_valuePolicy_222 : decode cX10_valuePolicy 222 = .ok (.if_icmp .ge 75, 3) := by decide +kernel
theorem dX10_valuePolicy_225 : decode cX10_valuePolicy 225 = .ok (.iload_n 1, 1) := by decide +kernel
theorem dX10_valuePolicy_226 : decode cX10_valuePolicy 226 = .ok (.iconst 1, 1) := by decide +kernel
theorem dX10_valuePolicy_227 : decode cX10_valuePolicy 227 = .ok (.iadd, 1) := by decide +kernel
theorem dX10_valuePolicy_228 : decode cX10_valuePolicy 228 = .ok (.istore_n 2, 1) := by decide +kernel
theorem dX10_valuePolicy_229 : decode cX10_valuePolicy 229 = .ok (.iload_n 2, 1) := by decide +kernel
theorem dX10_valuePolicy_230 : decode cX10_valuePolicy 230 = .ok (.aload_n 0, 1) := by decide +kernel
theorem dX10_valuePolicy_231 : decode cX10_valuePolicy 231 = .ok (.getfield 103, 3) := by decide +kernel
theorem dX10_valuePolicy_234 : decode cX10_valuePolicy 234 = .ok (.if_icmp .ge 47, 3) := by decide +kernel
theorem dX10_valuePolicy_237 : decode cX10_valuePolicy 237 = .ok (.iload_n 1, 1) := by decide +kernel
theorem dX10_valuePolicy_238 : decode cX10_valuePolicy 238 = .ok (.iconst 1, 1) := by decide +kernel
theorem dX10_valuePolicy_239 : decode cX10_valuePolicy 239 = .ok (.iadd, 1) := by decide +kernel
theorem dX10_valuePolicy_240 : decode cX10_valuePolicy 240 = .ok (.istore_n 3, 1) := by decide +kernel
theorem dX10_valuePolicy_241 : decode cX10_valuePolicy 241 = .ok (.iload_n 3, 1) := by decide +kernel
theorem dX10_valuePolicy_242 : decode cX10_valuePolicy 242 = .ok (.aload_n 0, 1) := by decide +kernel
theorem dX10_valuePolicy_243 : decode cX10_valuePolicy 243 = .ok (.getfield 103, 3) := by decide +kernel
theorem dX10_valuePolicy_246 : decode cX10_valuePolicy 246 = .ok (.if_icmp .gt 29, 3) := by decide +kernel
theorem dX10_valuePolicy_249 : decode cX10_valuePolicy 249 = .ok (.aload_n 0, 1) := by decide +kernel
theorem dX10_valuePolicy_250 : decode cX10_valuePolicy 250 = .ok (.iload_n 1, 1) := by decide +kernel
theorem dX10_valuePolicy_251 : decode cX10_valuePolicy 251 = .ok (.iload_n 2, 1) := by decide +kernel
theorem dX10_valuePolicy_252 : decode cX10_valuePolicy 252 = .ok (.iload_n 3, 1) := by decide +kernel
theorem dX10_valuePolicy_253 : decode cX10_valuePolicy 253 = .ok (.aload_n 0, 1) := by decide +kernel
theorem dX10_valuePolicy_254 : decode cX10_valuePolicy 254 = .ok (.getfield 103, 3) := by decide +kernel
theorem dX10_valuePolicy_257 : decode cX10_valuePolicy 257 = .ok (.if_icmp .ne 8, 3) := by decide +kernel
theorem dX10_valuePolicy_260 : decode cX10_valuePolicy 260 = .ok (.bipush 6, 2) := by decide +kernel
theorem dX10_valuePolicy_262 : decode cX10_valuePolicy 262 = .ok (.goto 4, 3) := by decide +kernel
theorem dX10_valuePolicy_265 : decode cX10_valuePolicy 265 = .ok (.iload_n 3, 1) := by decide +kernel
theorem dX10_valuePolicy_266 : decode cX10_valuePolicy 266 = .ok (.invokevirtual 144, 3) := by decide +kernel
theorem dX10_valuePolicy_269 : decode cX10_valuePolicy 269 = .ok (.iinc 3 1, 3) := by decide +kernel
theorem dX10_valuePolicy_272 : decode cX10_valuePolicy 272 = .ok (.goto (-31), 3) := by decide +kernel
theorem dX10_valuePolicy_275 : decode cX10_valuePolicy 275 = .ok (.iinc 2 1, 3) := by decide +kernel
theorem dX10_valuePolicy_278 : decode cX10_valuePolicy 278 = .ok (.goto (-49), 3) := by decide +kernel
theorem dX10_valuePolicy_281 : decode cX10_valuePolicy 281 = .ok (.aload_n 0, 1) := by decide +kernel
theorem dX10_valuePolicy_282 : decode cX10_valuePolicy 282 = .ok (.bipush 8, 2) := by decide +kernel
theorem dX10_valuePolicy_284 : decode cX10_valuePolicy 284 = .ok (.iload_n 1, 1) := by decide +kernel
theorem dX10_valuePolicy_285 : decode cX10_valuePolicy 285 = .ok (.imul, 1) := by decide +kernel
theorem dX10_valuePolicy_286 : decode cX10_valuePolicy 286 = .ok (.bipush 48, 2) := by decide +kernel
theorem dX10_valuePolicy_288 : decode cX10_valuePolicy 288 = .ok (.invokevirtual 90, 3) := by decide +kernel
theorem dX10_valuePolicy_291 : decode cX10_valuePolicy 291 = .ok (.iinc 1 1, 3) := by decide +kernel
theorem dX10_valuePolicy_294 : decode cX10_valuePolicy 294 = .ok (.goto (-79), 3) := by decide +kernel
theorem dX10_valuePolicy_297 : decode cX10_valuePolicy 297 = .ok (.aload_n 0, 1) := by decide +kernel
theorem dX10_valuePolicy_298 : decode cX10_valuePolicy 298 = .ok (.bipush 8, 2) := by decide +kernel
theorem dX10_valuePolicy_300 : decode cX10_valuePolicy 300 = .ok (.aload_n 0, 1) := by decide +kernel
theorem dX10_valuePolicy_301 : decode cX10_valuePolicy 301 = .ok (.getfield 103, 3) := by decide +kernel
theorem dX10_valuePolicy_304 : decode cX10_valuePolicy 304 = .ok (.iconst 1, 1) := by decide +kernel
theorem dX10_valuePolicy_305 : decode cX10_valuePolicy 305 = .ok (.isub, 1) := by decide +kernel
theorem dX10_valuePolicy_306 : decode cX10_valuePolicy 306 = .ok (.imul, 1) := by decide +kernel
theorem dX10_valuePolicy_307 : decode cX10_valuePolicy 307 = .ok (.bipush 48, 2) := by decide +kernel
theorem dX10_valuePolicy_309 : decode cX10_valuePolicy 309 = .ok (.invokevirtual 90, 3) := by decide +kernel
theorem dX10_valuePolicy_312 : decode cX10_valuePolicy 312 = .ok (.aload_n 0, 1) := by decide +kernel
theorem dX10_valuePolicy_313 : decode cX10_valuePolicy 313 = .ok (.getfield 103, 3) := by decide +kernel
theorem dX10_valuePolicy_316 : decode cX10_valuePolicy 316 = .ok (.iconst 1, 1) := by decide +kernel
theorem dX10_valuePolicy_317 : decode cX10_valuePolicy 317 = .ok (.isub, 1) := by decide +kernel
theorem dX10_valuePolicy_318 : decode cX10_valuePolicy 318 = .ok (.istore_n 1, 1) := by decide +kernel
theorem dX10_valuePolicy_319 : decode cX10_valuePolicy 319 = .ok (.iload_n 1, 1) := by decide +kernel
theorem dX10_valuePolicy_320 : decode cX10_valuePolicy 320 = .ok (.ifCond .lt 83, 3) := by decide +kernel
theorem dX10_valuePolicy_323 : decode cX10_valuePolicy 323 = .ok (.aload_n 0, 1) := by decide +kernel
theorem dX10_valuePolicy_324 : decode cX10_valuePolicy 324 = .ok (.bipush 7, 2) := by decide +kernel
theorem dX10_valuePolicy_326 : decode cX10_valuePolicy 326 = .ok (.iload_n 1, 1) := by decide +kernel
theorem dX10_valuePolicy_327 : decode cX10_valuePolicy 327 = .ok (.imul, 1) := by decide +kernel
theorem dX10_valuePolicy_328 : decode cX10_valuePolicy 328 = .ok (.bipush 6, 2) := by decide +kernel
theorem dX10_valuePolicy_330 : decode cX10_valuePolicy 330 = .ok (.iadd, 1) := by decide +kernel
theorem dX10_valuePolicy_331 : decode cX10_valuePolicy 331 = .ok (.bipush 48, 2) := by decide +kernel
theorem dX10_valuePolicy_333 : decode cX10_valuePolicy 333 = .ok (.bipush 42, 2) := by decide +kernel
theorem dX10_valuePolicy_335 : decode cX10_valuePolicy 335 = .ok (.iload_n 1, 1) := by decide +kernel
theorem dX10_valuePolicy_336 : decode cX10_valuePolicy 336 = .ok (.iadd, 1) := by decide +kernel
theorem dX10_valuePolicy_337 : decode cX10_valuePolicy 337 = .ok (.invokevirtual 147, 3) := by decide +kernel
theorem dX10_valuePolicy_340 : decode cX10_valuePolicy 340 = .ok (.iload_n 1, 1) := by decide +kernel
theorem dX10_valuePolicy_341 : decode cX10_valuePolicy 341 = .ok (.iconst 1, 1) := by decide +kernel
theorem dX10_valuePolicy_342 : decode cX10_valuePolicy 342 = .ok (.iadd, 1) := by decide +kernel
theorem dX10_valuePolicy_343 : decode cX10_valuePolicy 343 = .ok (.istore_n 2, 1) := by decide +kernel
theorem dX10_valuePolicy_344 : decode cX10_valuePolicy 344 = .ok (.iload_n 2, 1) := by decide +kernel
theorem dX10_valuePolicy_345 : decode cX10_valuePolicy 345 = .ok (.aload_n 0, 1) := by decide +kernel
theorem dX10_valuePolicy_346 : decode cX10_valuePolicy 346 = .ok (.getfield 103, 3) := by decide +kernel
theorem dX10_valuePolicy_349 : decode cX10_valuePolicy 349 = .ok (.if_icmp .ge 36, 3) := by decide +kernel
theorem dX10_valuePolicy_352 : decode cX10_valuePolicy 352 = .ok (.aload_n 0, 1) := by decide +kernel
theorem dX10_valuePolicy_353 : decode cX10_valuePolicy 353 = .ok (.bipush 7, 2) := by decide +kernel
theorem dX10_valuePolicy_355 : decode cX10_valuePolicy 355 = .ok (.iload_n 1, 1) := by decide +kernel
theorem dX10_valuePolicy_356 : decode cX10_valuePolicy 356 = .ok (.imul, 1) := by decide +kernel
theorem dX10_valuePolicy_357 : decode cX10_valuePolicy 357 = .ok (.iload_n 2, 1) := by decide +kernel
theorem dX10_valuePolicy_358 : decode cX10_valuePolicy 358 = .ok (.iadd, 1) := by decide +kernel
theorem dX10_valuePolicy_359 : decode cX10_valuePolicy 359 = .ok (.bipush 42, 2) := by decide +kernel
theorem dX10_valuePolicy_361 : decode cX10_valuePolicy 361 = .ok (.iload_n 2, 1) := by decide +kernel
theorem dX10_valuePolicy_362 : decode cX10_valuePolicy 362 = .ok (.iadd, 1) := by decide +kernel
theorem dX10_valuePolicy_363 : decode cX10_valuePolicy 363 = .ok (.bipush 49, 2) := by decide +kernel
theorem dX10_valuePolicy_365 : decode cX10_valuePolicy 365 = .ok (.invokevirtual 147, 3) := by decide +kernel
theorem dX10_valuePolicy_368 : decode cX10_valuePolicy 368 = .ok (.aload_n 0, 1) := by decide +kernel
theorem dX10_valuePolicy_369 : decode cX10_valuePolicy 369 = .ok (.bipush 42, 2) := by decide +kernel
theorem dX10_valuePolicy_371 : decode cX10_valuePolicy 371 = .ok (.iload_n 1, 1) := by decide +kernel
theorem dX10_valuePolicy_372 : decode cX10_valuePolicy 372 = .ok (.iadd, 1) := by decide +kernel
theorem dX10_valuePolicy_373 : decode cX10_valuePolicy 373 = .ok (.bipush 49, 2) := by decide +kernel
theorem dX10_valuePolicy_375 : decode cX10_valuePolicy 375 = .ok (.iconst (-1), 1) := by decide +kernel
theorem dX10_valuePolicy_376 : decode cX10_valuePolicy 376 = .ok (.invokevirtual 83, 3) := by decide +kernel
theorem dX10_valuePolicy_379 : decode cX10_valuePolicy 379 = .ok (.iinc 2 1, 3) := by decide +kernel
theorem dX10_valuePolicy_382 : decode cX10_valuePolicy 382 = .ok (.goto (-38), 3) := by decide +kernel
theorem dX10_valuePolicy_385 : decode cX10_valuePolicy 385 = .ok (.aload_n 0, 1) := by decide +kernel
theorem dX10_valuePolicy_386 : decode cX10_valuePolicy 386 = .ok (.bipush 42, 2) := by decide +kernel
theorem dX10_valuePolicy_388 : decode cX10_valuePolicy 388 = .ok (.iload_n 1, 1) := by decide +kernel
theorem dX10_valuePolicy_389 : decode cX10_valuePolicy 389 = .ok (.iadd, 1) := by decide +kernel
theorem dX10_valuePolicy_390 : decode cX10_valuePolicy 390 = .ok (.bipush 8, 2) := by decide +kernel
theorem dX10_valuePolicy_392 : decode cX10_valuePolicy 392 = .ok (.iload_n 1, 1) := by decide +kernel
theorem dX10_valuePolicy_393 : decode cX10_valuePolicy 393 = .ok (.imul, 1) := by decide +kernel
theorem dX10_valuePolicy_394 : decode cX10_valuePolicy 394 = .ok (.invokevirtual 150, 3) := by decide +kernel
theorem dX10_valuePolicy_397 : decode cX10_valuePolicy 397 = .ok (.iinc 1 (-1), 3) := by decide +kernel
theorem dX10_valuePolicy_400 : decode cX10_valuePolicy 400 = .ok (.goto (-81), 3) := by decide +kernel
theorem dX10_valuePolicy_403 : decode cX10_valuePolicy 403 = .ok (.return_, 1) := by decide +kernel
set_option maxRecDepth 20000 in
theorem ggX10_putRight_X10_multiply : GoodIn wsX10_putRight wsX10_multiply := goodIn_r _ [5, 6, 7, 8, 9, 10, 11, 12, 4, 13, 44, 45, 46, 47, 48, 49, 50, 51, 52, 53, 54, 55, 56, 57, 58, 59, 60, 61, 62, 63] (by decide +kernel) (by decide +kernel)
set_option maxRecDepth 20000 in
theorem gX10_putRight_X10_multiply : GoodIn wsX10_putRight (wsV RX10 147 RX10 yX10_multiply wsX10_multiply) := goodIn_app (goodIn_of _ (by decide +kernel)) ggX10_putRight_X10_multiply
set_option maxRecDepth 20000 in
theorem ggX10_putRight_X10_plus : GoodIn wsX10_putRight wsX10_plus := goodIn_r _ [17, 9, 6, 7, 18, 19, 20, 21, 22, 4, 23, 10, 11, 12, 13, 24, 25, 26, 27, 44, 45, 46, 47, 48, 49, 50, 51, 52, 53, 54, 55, 56, 57, 58, 59, 60, 61, 62, 63] (by decide +kernel) (by decide +kernel)
set_option maxRecDepth 20000 in
theorem gX10_putRight_X10_plus : GoodIn wsX10_putRight (wsV RX10 83 RX10 yX10_plus wsX10_plus) := goodIn_app (goodIn_of _ (by decide +kernel)) ggX10_putRight_X10_plus
set_option maxRecDepth 20000 in
theorem ggX10_putRight_X10_over : GoodIn wsX10_putRight wsX10_over := goodIn_r _ [31, 9, 6, 7, 32, 33, 34, 4, 35, 8, 36, 37, 38, 39, 10, 11, 12, 13, 24, 25, 26, 27, 14, 15, 16, 17, 18, 19, 20, 21, 22, 23, 44, 45, 46, 47, 48, 49, 50, 51, 52, 53, 54, 55, 56, 57, 58, 59, 60, 61, 62, 63] (by decide +kernel) (by decide +kernel)
set_option maxRecDepth 20000 in
theorem gX10_putRight_X10_over : GoodIn wsX10_putRight (wsV RX10 150 RX10 yX10_over wsX10_over) := goodIn_app (goodIn_of _ (by decide +kernel)) ggX10_putRight_X10_over
set_option maxRecDepth 20000 in
theorem ggX10_putRight_X10_copy : GoodIn wsX10_putRight wsX10_copy := goodIn_r _ [43, 9, 6, 7, 44, 45, 46, 47, 48, 49, 50, 51, 52, 53, 54, 55, 56, 57, 58, 59, 60, 61, 62, 63] (by decide +kernel) (by decide +kernel)
set_option maxRecDepth 20000 in
theorem gX10_putRight_X10_copy : GoodIn wsX10_putRight (wsV RX10 90 RX10 yX10_copy wsX10_copy) := goodIn_app (goodIn_of _ (by decide +kernel)) ggX10_putRight_X10_copy
theorem dX10_putRight_0 : decode cX10_putRight 0 = .ok (.aload_n 0, 1) := by decide +kernel
theorem dX10_putRight_1 : decode cX10_putRight 1 = .ok (.bipush 8, 2) := by decide +kernel
theorem dX10_putRight_3 : decode cX10_putRight 3 = .ok (.iload_n 1, 1) := by decide +kernel
theorem dX10_putRight_4 : decode cX10_putRight 4 = .ok (.imul, 1) := by decide +kernel
theorem dX10_putRight_5 : decode cX10_putRight 5 = .ok (.bipush 7, 2) := by decide +kernel
theorem dX10_putRight_7 : decode cX10_putRight 7 = .ok (.iload_n 2, 1) := by decide +kernel
theorem dX10_putRight_8 : decode cX10_putRight 8 = .ok (.imul, 1) := by decide +kernel
theorem dX10_putRight_9 : decode cX10_putRight 9 = .ok (.iload_n 3, 1) := by decide +kernel
theorem dX10_putRight_10 : decode cX10_putRight 10 = .ok (.iadd, 1) := by decide +kernel
theorem dX10_putRight_11 : decode cX10_putRight 11 = .ok (.bipush 49, 2) := by decide +kernel
theorem dX10_putRight_13 : decode cX10_putRight 13 = .ok (.invokevirtual 147, 3) := by decide +kernel
theorem dX10_putRight_16 : decode cX10_putRight 16 = .ok (.aload_n 0, 1) := by decide +kernel
theorem dX10_putRight_17 : decode cX10_putRight 17 = .ok (.bipush 7, 2) := by decide +kernel
theorem dX10_putRight_19 : decode cX10_putRight 19 = .ok (.iload_n 2, 1) := by decide +kernel
theorem dX10_putRight_20 : decode cX10_putRight 20 = .ok (.imul, 1) := by decide +kernel
theorem dX10_putRight_21 : decode cX10_putRight 21 = .ok (.iload_n 1, 1) := by decide +kernel
theorem dX10_putRight_22 : decode cX10_putRight 22 = .ok (.iadd, 1) := by decide +kernel
theorem dX10_putRight_23 : decode cX10_putRight 23 = .ok (.bipush 7, 2) := by decide +kernel
theorem dX10_putRight_25 : decode cX10_putRight 25 = .ok (.iload_n 1, 1) := by decide +kernel
theorem dX10_putRight_26 : decode cX10_putRight 26 = .ok (.imul, 1) := by decide +kernel
theorem dX10_putRight_27 : decode cX10_putRight 27 = .ok (.iload_n 3, 1) := by decide +kernel
theorem dX10_putRight_28 : decode cX10_putRight 28 = .ok (.iadd, 1) := by decide +kernel
theorem dX10_putRight_29 : decode cX10_putRight 29 = .ok (.bipush 50, 2) := by decide +kernel
theorem dX10_putRight_31 : decode cX10_putRight 31 = .ok (.invokevirtual 147, 3) := by decide +kernel
theorem dX10_putRight_34 : decode cX10_putRight 34 = .ok (.aload_n 0, 1) := by decide +kernel
theorem dX10_putRight_35 : decode cX10_putRight 35 = .ok (.bipush 49, 2) := by decide +kernel
theorem dX10_putRight_37 : decode cX10_putRight 37 = .ok (.bipush 50, 2) := by decide +kernel
theorem dX10_putRight_39 : decode cX10_putRight 39 = .ok (.iconst (-1), 1) := by decide +kernel
theorem dX10_putRight_40 : decode cX10_putRight 40 = .ok (.invokevirtual 83, 3) := by decide +kernel
theorem dX10_putRight_43 : decode cX10_putRight 43 = .ok (.aload_n 0, 1) := by decide +kernel
theorem dX10_putRight_44 : decode cX10_putRight 44 = .ok (.bipush 49, 2) := by decide +kernel
theorem dX10_putRight_46 : decode cX10_putRight 46 = .ok (.bipush 48, 2) := by decide +kernel
theorem dX10_putRight_48 : decode cX10_putRight 48 = .ok (.invokevirtual 150, 3) := by decide +kernel
theorem dX10_putRight_51 : decode cX10_putRight 51 = .ok (.aload_n 0, 1) := by decide +kernel
theorem dX10_putRight_52 : decode cX10_putRight 52 = .ok (.bipush 49, 2) := by decide +kernel
theorem dX10_putRight_54 : decode cX10_putRight 54 = .ok (.bipush 7, 2) := by decide +kernel
theorem dX10_putRight_56 : decode cX10_putRight 56 = .ok (.iload_n 2, 1) := by decide +kernel
theorem dX10_putRight_57 : decode cX10_putRight 57 = .ok (.imul, 1) := by decide +kernel
theorem dX10_putRight_58 : decode cX10_putRight 58 = .ok (.iload_n 3, 1) := by decide +kernel
theorem dX10_putRight_59 : decode cX10_putRight 59 = .ok (.iadd, 1) := by decide +kernel
theorem dX10_putRight_60 : decode cX10_putRight 60 = .ok (.invokevirtual 90, 3) := by decide +kernel
theorem dX10_putRight_63 : decode cX10_putRight 63 = .ok (.return_, 1) := by decide +kernel
set_option maxRecDepth 20000 in
theorem ggX10_gainInto_X10_setSmall : GoodIn wsX10_gainInto wsX10_setSmall := goodIn_r _ [11, 12, 13, 14, 15, 46, 47, 48, 49, 50, 51, 52, 53, 54, 55, 56, 57, 58, 59, 60, 61, 62, 63, 64, 65] (by decide +kernel) (by decide +kernel)
set_option maxRecDepth 20000 in
theorem gX10_gainInto_X10_setSmall : GoodIn wsX10_gainInto (wsV RX10 76 RX10 yX10_setSmall wsX10_setSmall) := goodIn_app (goodIn_of _ (by decide +kernel)) ggX10_gainInto_X10_setSmall
set_option maxRecDepth 20000 in
theorem ggX10_gainInto_X10_copy : GoodIn wsX10_gainInto wsX10_copy := goodIn_r _ [19, 12, 15, 13, 46, 47, 48, 49, 50, 51, 52, 53, 54, 55, 56, 57, 58, 59, 60, 61, 62, 63, 64, 65] (by decide +kernel) (by decide +kernel)
set_option maxRecDepth 20000 in
theorem gX10_gainInto_X10_copy : GoodIn wsX10_gainInto (wsV RX10 90 RX10 yX10_copy wsX10_copy) := goodIn_app (goodIn_of _ (by decide +kernel)) ggX10_gainInto_X10_copy
set_option maxRecDepth 20000 in
theorem ggX10_gainInto_X10_times : GoodIn wsX10_gainInto wsX10_times := goodIn_r _ [23, 15, 13, 14, 12, 24, 25, 26, 10, 27, 46, 47, 48, 49, 50, 51, 52, 53, 54, 55, 56, 57, 58, 59, 60, 61, 62, 63, 64, 65] (by decide +kernel) (by decide +kernel)
set_option maxRecDepth 20000 in
theorem gX10_gainInto_X10_times : GoodIn wsX10_gainInto (wsV RX10 80 RX10 yX10_times wsX10_times) := goodIn_app (goodIn_of _ (by decide +kernel)) ggX10_gainInto_X10_times
set_option maxRecDepth 20000 in
theorem ggX10_gainInto_X10_plus : GoodIn wsX10_gainInto wsX10_plus := goodIn_r _ [31, 12, 15, 13, 32, 33, 34, 35, 36, 10, 37, 24, 25, 26, 27, 38, 39, 40, 41, 46, 47, 48, 49, 50, 51, 52, 53, 54, 55, 56, 57, 58, 59, 60, 61, 62, 63, 64, 65] (by decide +kernel) (by decide +kernel)
set_option maxRecDepth 20000 in
theorem gX10_gainInto_X10_plus : GoodIn wsX10_gainInto (wsV RX10 83 RX10 yX10_plus wsX10_plus) := goodIn_app (goodIn_of _ (by decide +kernel)) ggX10_gainInto_X10_plus
set_option maxRecDepth 20000 in
theorem ggX10_gainInto_X10_sumOf : GoodIn wsX10_gainInto wsX10_sumOf := goodIn_r _ [45, 2, 46, 47, 48, 49, 50, 51, 52, 53, 54, 55, 56, 57, 58, 59, 60, 61, 62, 63, 64, 65] (by decide +kernel) (by decide +kernel)
set_option maxRecDepth 20000 in
theorem gX10_gainInto_X10_sumOf : GoodIn wsX10_gainInto (wsV RX10 127 RX10 yX10_sumOf wsX10_sumOf) := goodIn_app (goodIn_of _ (by decide +kernel)) ggX10_gainInto_X10_sumOf
theorem dX10_gainInto_0 : decode cX10_gainInto 0 = .ok (.aload_n 0, 1) := by decide +kernel
theorem dX10_gainInto_1 : decode cX10_gainInto 1 = .ok (.iload 4, 2) := by decide +kernel
theorem dX10_gainInto_3 : decode cX10_gainInto 3 = .ok (.lconst 0, 1) := by decide +kernel
theorem dX10_gainInto_4 : decode cX10_gainInto 4 = .ok (.invokevirtual 76, 3) := by decide +kernel
theorem dX10_gainInto_7 : decode cX10_gainInto 7 = .ok (.iconst 0, 1) := by decide +kernel
theorem dX10_gainInto_8 : decode cX10_gainInto 8 = .ok (.istore 5, 2) := by decide +kernel
theorem dX10_gainInto_10 : decode cX10_gainInto 10 = .ok (.iload 5, 2) := by decide +kernel
theorem dX10_gainInto_12 : decode cX10_gainInto 12 = .ok (.aload_n 0, 1) := by decide +kernel
theorem dX10_gainInto_13 : decode cX10_gainInto 13 = .ok (.getfield 103, 3) := by decide +kernel
theorem dX10_gainInto_16 : decode cX10_gainInto 16 = .ok (.if_icmp .ge 46, 3) := by decide +kernel
theorem dX10_gainInto_19 : decode cX10_gainInto 19 = .ok (.aload_n 0, 1) := by decide +kernel
theorem dX10_gainInto_20 : decode cX10_gainInto 20 = .ok (.iload_n 2, 1) := by decide +kernel
theorem dX10_gainInto_21 : decode cX10_gainInto 21 = .ok (.iload 5, 2) := by decide +kernel
theorem dX10_gainInto_23 : decode cX10_gainInto 23 = .ok (.iadd, 1) := by decide +kernel
theorem dX10_gainInto_24 : decode cX10_gainInto 24 = .ok (.bipush 51, 2) := by decide +kernel
theorem dX10_gainInto_26 : decode cX10_gainInto 26 = .ok (.invokevirtual 90, 3) := by decide +kernel
theorem dX10_gainInto_29 : decode cX10_gainInto 29 = .ok (.aload_n 0, 1) := by decide +kernel
theorem dX10_gainInto_30 : decode cX10_gainInto 30 = .ok (.bipush 51, 2) := by decide +kernel
theorem dX10_gainInto_32 : decode cX10_gainInto 32 = .ok (.aload_n 0, 1) := by decide +kernel
theorem dX10_gainInto_33 : decode cX10_gainInto 33 = .ok (.getfield 19, 3) := by decide +kernel
theorem dX10_gainInto_36 : decode cX10_gainInto 36 = .ok (.bipush 6, 2) := by decide +kernel
theorem dX10_gainInto_38 : decode cX10_gainInto 38 = .ok (.iload_n 1, 1) := by decide +kernel
theorem dX10_gainInto_39 : decode cX10_gainInto 39 = .ok (.imul, 1) := by decide +kernel
theorem dX10_gainInto_40 : decode cX10_gainInto 40 = .ok (.iload 5, 2) := by decide +kernel
theorem dX10_gainInto_42 : decode cX10_gainInto 42 = .ok (.iadd, 1) := by decide +kernel
theorem dX10_gainInto_43 : decode cX10_gainInto 43 = .ok (.iaload, 1) := by decide +kernel
theorem dX10_gainInto_44 : decode cX10_gainInto 44 = .ok (.invokevirtual 80, 3) := by decide +kernel
theorem dX10_gainInto_47 : decode cX10_gainInto 47 = .ok (.aload_n 0, 1) := by decide +kernel
theorem dX10_gainInto_48 : decode cX10_gainInto 48 = .ok (.iload 4, 2) := by decide +kernel
theorem dX10_gainInto_50 : decode cX10_gainInto 50 = .ok (.bipush 51, 2) := by decide +kernel
theorem dX10_gainInto_52 : decode cX10_gainInto 52 = .ok (.iconst 1, 1) := by decide +kernel
theorem dX10_gainInto_53 : decode cX10_gainInto 53 = .ok (.invokevirtual 83, 3) := by decide +kernel
theorem dX10_gainInto_56 : decode cX10_gainInto 56 = .ok (.iinc 5 1, 3) := by decide +kernel
theorem dX10_gainInto_59 : decode cX10_gainInto 59 = .ok (.goto (-49), 3) := by decide +kernel
theorem dX10_gainInto_62 : decode cX10_gainInto 62 = .ok (.aload_n 0, 1) := by decide +kernel
theorem dX10_gainInto_63 : decode cX10_gainInto 63 = .ok (.iload 4, 2) := by decide +kernel
theorem dX10_gainInto_65 : decode cX10_gainInto 65 = .ok (.aload_n 0, 1) := by decide +kernel
theorem dX10_gainInto_66 : decode cX10_gainInto 66 = .ok (.getfield 22, 3) := by decide +kernel
theorem dX10_gainInto_69 : decode cX10_gainInto 69 = .ok (.invokevirtual 80, 3) := by decide +kernel
theorem dX10_gainInto_72 : decode cX10_gainInto 72 = .ok (.aload_n 0, 1) := by decide +kernel
theorem dX10_gainInto_73 : decode cX10_gainInto 73 = .ok (.iload 4, 2) := by decide +kernel
theorem dX10_gainInto_75 : decode cX10_gainInto 75 = .ok (.aload_n 0, 1) := by decide +kernel
theorem dX10_gainInto_76 : decode cX10_gainInto 76 = .ok (.getfield 16, 3) := by decide +kernel
theorem dX10_gainInto_79 : decode cX10_gainInto 79 = .ok (.iload_n 1, 1) := by decide +kernel
theorem dX10_gainInto_80 : decode cX10_gainInto 80 = .ok (.iaload, 1) := by decide +kernel
theorem dX10_gainInto_81 : decode cX10_gainInto 81 = .ok (.invokevirtual 80, 3) := by decide +kernel
theorem dX10_gainInto_84 : decode cX10_gainInto 84 = .ok (.aload_n 0, 1) := by decide +kernel
theorem dX10_gainInto_85 : decode cX10_gainInto 85 = .ok (.iload_n 3, 1) := by decide +kernel
theorem dX10_gainInto_86 : decode cX10_gainInto 86 = .ok (.bipush 51, 2) := by decide +kernel
theorem dX10_gainInto_88 : decode cX10_gainInto 88 = .ok (.invokevirtual 90, 3) := by decide +kernel
theorem dX10_gainInto_91 : decode cX10_gainInto 91 = .ok (.aload_n 0, 1) := by decide +kernel
theorem dX10_gainInto_92 : decode cX10_gainInto 92 = .ok (.bipush 51, 2) := by decide +kernel
theorem dX10_gainInto_94 : decode cX10_gainInto 94 = .ok (.aload_n 0, 1) := by decide +kernel
theorem dX10_gainInto_95 : decode cX10_gainInto 95 = .ok (.getfield 26, 3) := by decide +kernel
theorem dX10_gainInto_98 : decode cX10_gainInto 98 = .ok (.aload_n 0, 1) := by decide +kernel
theorem dX10_gainInto_99 : decode cX10_gainInto 99 = .ok (.iload_n 1, 1) := by decide +kernel
theorem dX10_gainInto_100 : decode cX10_gainInto 100 = .ok (.invokevirtual 127, 3) := by decide +kernel
theorem dX10_gainInto_103 : decode cX10_gainInto 103 = .ok (.imul, 1) := by decide +kernel
theorem dX10_gainInto_104 : decode cX10_gainInto 104 = .ok (.invokevirtual 80, 3) := by decide +kernel
theorem dX10_gainInto_107 : decode cX10_gainInto 107 = .ok (.aload_n 0, 1) := by decide +kernel
theorem dX10_gainInto_108 : decode cX10_gainInto 108 = .ok (.bipush 51, 2) := by decide +kernel
theorem dX10_gainInto_110 : decode cX10_gainInto 110 = .ok (.aload_n 0, 1) := by decide +kernel
theorem dX10_gainInto_111 : decode cX10_gainInto 111 = .ok (.getfield 13, 3) := by decide +kernel
theorem dX10_gainInto_114 : decode cX10_gainInto 114 = .ok (.iload_n 1, 1) := by decide +kernel
theorem dX10_gainInto_115 : decode cX10_gainInto 115 = .ok (.iaload, 1) := by decide +kernel
theorem dX10_gainInto_116 : decode cX10_gainInto 116 = .ok (.invokevirtual 80, 3) := by decide +kernel
theorem dX10_gainInto_119 : decode cX10_gainInto 119 = .ok (.aload_n 0, 1) := by decide +kernel
theorem dX10_gainInto_120 : decode cX10_gainInto 120 = .ok (.iload 4, 2) := by decide +kernel
theorem dX10_gainInto_122 : decode cX10_gainInto 122 = .ok (.bipush 51, 2) := by decide +kernel
theorem dX10_gainInto_124 : decode cX10_gainInto 124 = .ok (.iconst 1, 1) := by decide +kernel
theorem dX10_gainInto_125 : decode cX10_gainInto 125 = .ok (.invokevirtual 83, 3) := by decide +kernel
theorem dX10_gainInto_128 : decode cX10_gainInto 128 = .ok (.return_, 1) := by decide +kernel
set_option maxRecDepth 20000 in
theorem ggX10_compareGains_X10_gainInto : GoodIn wsX10_compareGains wsX10_gainInto := goodIn_r _ [6, 7, 8, 9, 1, 10, 11, 12, 13, 14, 5, 15, 16, 17, 18, 19, 20, 21, 22, 23, 24, 25, 26, 27, 28, 29, 30, 31, 32, 33, 34, 35, 36, 37, 38, 39, 40, 41, 42, 43, 44, 45, 46, 47, 48, 49, 54, 55, 56, 57, 58, 59, 60, 61, 62, 63, 64, 65, 66, 67, 68, 69, 70, 71, 72, 73] (by decide +kernel) (by decide +kernel)
set_option maxRecDepth 20000 in
theorem gX10_compareGains_X10_gainInto : GoodIn wsX10_compareGains (wsV RX10 153 RX10 yX10_gainInto wsX10_gainInto) := goodIn_app (goodIn_of _ (by decide +kernel)) ggX10_compareGains_X10_gainInto
set_option maxRecDepth 20000 in
theorem ggX10_compareGains_X10_sumOf : GoodIn wsX10_compareGains wsX10_sumOf := goodIn_r _ [49, 8, 54, 55, 56, 57, 58, 59, 60, 61, 62, 63, 64, 65, 66, 67, 68, 69, 70, 71, 72, 73] (by decide +kernel) (by decide +kernel)
set_option maxRecDepth 20000 in
theorem gX10_compareGains_X10_sumOf : GoodIn wsX10_compareGains (wsV RX10 127 RX10 yX10_sumOf wsX10_sumOf) := goodIn_app (goodIn_of _ (by decide +kernel)) ggX10_compareGains_X10_sumOf
set_option maxRecDepth 20000 in
theorem ggX10_compareGains_X10_times : GoodIn wsX10_compareGains wsX10_times := goodIn_r _ [27, 19, 17, 18, 16, 28, 29, 30, 5, 31, 54, 55, 56, 57, 58, 59, 60, 61, 62, 63, 64, 65, 66, 67, 68, 69, 70, 71, 72, 73] (by decide +kernel) (by decide +kernel)
set_option maxRecDepth 20000 in
theorem gX10_compareGains_X10_times : GoodIn wsX10_compareGains (wsV RX10 80 RX10 yX10_times wsX10_times) := goodIn_app (goodIn_of _ (by decide +kernel)) ggX10_compareGains_X10_times
set_option maxRecDepth 20000 in
theorem ggX10_compareGains_X10_compare : GoodIn wsX10_compareGains wsX10_compare := goodIn_r _ [53, 16, 42, 43, 44, 5, 45, 19, 17, 54, 55, 56, 57, 58, 59, 60, 61, 62, 63, 64, 65, 66, 67, 68, 69, 70, 71, 72, 73] (by decide +kernel) (by decide +kernel)
set_option maxRecDepth 20000 in
theorem gX10_compareGains_X10_compare : GoodIn wsX10_compareGains (wsV RX10 157 RX10 yX10_compare wsX10_compare) := goodIn_app (goodIn_of _ (by decide +kernel)) ggX10_compareGains_X10_compare
theorem dX10_compareGains_0 : decode cX10_compareGains 0 = .ok (.aload_n 0, 1) := by decide +kernel
theorem dX10_compareGains_1 : decode cX10_compareGains 1 = .ok (.iload_n 1, 1) := by decide +kernel
theorem dX10_compareGains_2 : decode cX10_compareGains 2 = .ok (.iload_n 3, 1) := by decide +kernel
theorem dX10_compareGains_3 : decode cX10_compareGains 3 = .ok (.iload 4, 2) := by decide +kernel
theorem dX10_compareGains_5 : decode cX10_compareGains 5 = .ok (.bipush 49, 2) := by decide +kernel
theorem dX10_compareGains_7 : decode cX10_compareGains 7 = .ok (.invokevirtual 153, 3) := by decide +kernel
theorem dX10_compareGains_10 : decode cX10_compareGains 10 = .ok (.aload_n 0, 1) := by decide +kernel
theorem dX10_compareGains_11 : decode cX10_compareGains 11 = .ok (.iload_n 2, 1) := by decide +kernel
theorem dX10_compareGains_12 : decode cX10_compareGains 12 = .ok (.iload_n 3, 1) := by decide +kernel
theorem dX10_compareGains_13 : decode cX10_compareGains 13 = .ok (.iload 4, 2) := by decide +kernel
theorem dX10_compareGains_15 : decode cX10_compareGains 15 = .ok (.bipush 50, 2) := by decide +kernel
theorem dX10_compareGains_17 : decode cX10_compareGains 17 = .ok (.invokevirtual 153, 3) := by decide +kernel
theorem dX10_compareGains_20 : decode cX10_compareGains 20 = .ok (.aload_n 0, 1) := by decide +kernel
theorem dX10_compareGains_21 : decode cX10_compareGains 21 = .ok (.bipush 49, 2) := by decide +kernel
theorem dX10_compareGains_23 : decode cX10_compareGains 23 = .ok (.aload_n 0, 1) := by decide +kernel
theorem dX10_compareGains_24 : decode cX10_compareGains 24 = .ok (.getfield 16, 3) := by decide +kernel
theorem dX10_compareGains_27 : decode cX10_compareGains 27 = .ok (.iload_n 2, 1) := by decide +kernel
theorem dX10_compareGains_28 : decode cX10_compareGains 28 = .ok (.iaload, 1) := by decide +kernel
theorem dX10_compareGains_29 : decode cX10_compareGains 29 = .ok (.aload_n 0, 1) := by decide +kernel
theorem dX10_compareGains_30 : decode cX10_compareGains 30 = .ok (.iload_n 2, 1) := by decide +kernel
theorem dX10_compareGains_31 : decode cX10_compareGains 31 = .ok (.invokevirtual 127, 3) := by decide +kernel
theorem dX10_compareGains_34 : decode cX10_compareGains 34 = .ok (.imul, 1) := by decide +kernel
theorem dX10_compareGains_35 : decode cX10_compareGains 35 = .ok (.invokevirtual 80, 3) := by decide +kernel
theorem dX10_compareGains_38 : decode cX10_compareGains 38 = .ok (.aload_n 0, 1) := by decide +kernel
theorem dX10_compareGains_39 : decode cX10_compareGains 39 = .ok (.bipush 50, 2) := by decide +kernel
theorem dX10_compareGains_41 : decode cX10_compareGains 41 = .ok (.aload_n 0, 1) := by decide +kernel
theorem dX10_compareGains_42 : decode cX10_compareGains 42 = .ok (.getfield 16, 3) := by decide +kernel
theorem dX10_compareGains_45 : decode cX10_compareGains 45 = .ok (.iload_n 1, 1) := by decide +kernel
theorem dX10_compareGains_46 : decode cX10_compareGains 46 = .ok (.iaload, 1) := by decide +kernel
theorem dX10_compareGains_47 : decode cX10_compareGains 47 = .ok (.aload_n 0, 1) := by decide +kernel
theorem dX10_compareGains_48 : decode cX10_compareGains 48 = .ok (.iload_n 1, 1) := by decide +kernel
theorem dX10_compareGains_49 : decode cX10_compareGains 49 = .ok (.invokevirtual 127, 3) := by decide +kernel
theorem dX10_compareGains_52 : decode cX10_compareGains 52 = .ok (.imul, 1) := by decide +kernel
theorem dX10_compareGains_53 : decode cX10_compareGains 53 = .ok (.invokevirtual 80, 3) := by decide +kernel
theorem dX10_compareGains_56 : decode cX10_compareGains 56 = .ok (.aload_n 0, 1) := by decide +kernel
theorem dX10_compareGains_57 : decode cX10_compareGains 57 = .ok (.bipush 49, 2) := by decide +kernel
theorem dX10_compareGains_59 : decode cX10_compareGains 59 = .ok (.bipush 50, 2) := by decide +kernel
theorem dX10_compareGains_61 : decode cX10_compareGains 61 = .ok (.invokevirtual 157, 3) := by decide +kernel
theorem dX10_compareGains_64 : decode cX10_compareGains 64 = .ok (.ireturn, 1) := by decide +kernel
set_option maxRecDepth 20000 in
theorem ggX10_greatest_X10_compareGains : GoodIn wsX10_greatest wsX10_compareGains := goodIn_r _ [6, 7, 8, 9, 10, 5, 11, 12, 13, 14, 15, 16, 17, 18, 19, 20, 21, 22, 23, 24, 25, 26, 27, 28, 29, 30, 31, 32, 33, 34, 35, 36, 37, 38, 39, 40, 41, 42, 43, 44, 45, 46, 47, 48, 49, 50, 51, 52, 53, 54, 55, 56, 57, 58, 59, 60, 61, 62, 63, 64, 65, 66, 67, 68, 69, 70, 71, 72, 73, 74, 75, 76, 77, 78] (by decide +kernel) (by decide +kernel)
set_option maxRecDepth 20000 in
theorem gX10_greatest_X10_compareGains : GoodIn wsX10_greatest (wsV RX10 160 RX10 yX10_compareGains wsX10_compareGains) := goodIn_app (goodIn_of _ (by decide +kernel)) ggX10_greatest_X10_compareGains
theorem dX10_greatest_0 : decode cX10_greatest 0 = .ok (.iconst 0, 1) := by decide +kernel
theorem dX10_greatest_1 : decode cX10_greatest 1 = .ok (.istore 4, 2) := by decide +kernel
theorem dX10_greatest_3 : decode cX10_greatest 3 = .ok (.iconst 1, 1) := by decide +kernel
theorem dX10_greatest_4 : decode cX10_greatest 4 = .ok (.istore 5, 2) := by decide +kernel
theorem dX10_greatest_6 : decode cX10_greatest 6 = .ok (.iload 5, 2) := by decide +kernel
theorem dX10_greatest_8 : decode cX10_greatest 8 = .ok (.aload_n 0, 1) := by decide +kernel
theorem dX10_greatest_9 : decode cX10_greatest 9 = .ok (.getfield 7, 3) := by decide +kernel
theorem dX10_greatest_12 : decode cX10_greatest 12 = .ok (.iload_n 1, 1) := by decide +kernel
theorem dX10_greatest_13 : decode cX10_greatest 13 = .ok (.iaload, 1) := by decide +kernel
theorem dX10_greatest_14 : decode cX10_greatest 14 = .ok (.if_icmp .ge 39, 3) := by decide +kernel
theorem dX10_greatest_17 : decode cX10_greatest 17 = .ok (.aload_n 0, 1) := by decide +kernel
theorem dX10_greatest_18 : decode cX10_greatest 18 = .ok (.iconst 4, 1) := by decide +kernel
theorem dX10_greatest_19 : decode cX10_greatest 19 = .ok (.iload_n 1, 1) := by decide +kernel
theorem dX10_greatest_20 : decode cX10_greatest 20 = .ok (.imul, 1) := by decide +kernel
theorem dX10_greatest_21 : decode cX10_greatest 21 = .ok (.iload 5, 2) := by decide +kernel
theorem dX10_greatest_23 : decode cX10_greatest 23 = .ok (.iadd, 1) := by decide +kernel
theorem dX10_greatest_24 : decode cX10_greatest 24 = .ok (.iconst 4, 1) := by decide +kernel
theorem dX10_greatest_25 : decode cX10_greatest 25 = .ok (.iload_n 1, 1) := by decide +kernel
theorem dX10_greatest_26 : decode cX10_greatest 26 = .ok (.imul, 1) := by decide +kernel
theorem dX10_greatest_27 : decode cX10_greatest 27 = .ok (.iload 4, 2) := by decide +kernel
theorem dX10_greatest_29 : decode cX10_greatest 29 = .ok (.iadd, 1) := by decide +kernel
theorem dX10_greatest_30 : decode cX10_greatest 30 = .ok (.iload_n 2, 1) := by decide +kernel
theorem dX10_greatest_31 : decode cX10_greatest 31 = .ok (.iload_n 3, 1) := by decide +kernel
theorem dX10_greatest_32 : decode cX10_greatest 32 = .ok (.invokevirtual 160, 3) := by decide +kernel
theorem dX10_greatest_35 : decode cX10_greatest 35 = .ok (.ifCond .le 8, 3) := by decide +kernel
theorem dX10_greatest_38 : decode cX10_greatest 38 = .ok (.iload 5, 2) := by decide +kernel
theorem dX10_greatest_40 : decode cX10_greatest 40 = .ok (.goto 5, 3) := by decide +kernel
theorem dX10_greatest_43 : decode cX10_greatest 43 = .ok (.iload 4, 2) := by decide +kernel
theorem dX10_greatest_45 : decode cX10_greatest 45 = .ok (.istore 4, 2) := by decide +kernel
theorem dX10_greatest_47 : decode cX10_greatest 47 = .ok (.iinc 5 1, 3) := by decide +kernel
theorem dX10_greatest_50 : decode cX10_greatest 50 = .ok (.goto (-44), 3) := by decide +kernel
theorem dX10_greatest_53 : decode cX10_greatest 53 = .ok (.iload 4, 2) := by decide +kernel
theorem dX10_greatest_55 : decode cX10_greatest 55 = .ok (.ireturn, 1) := by decide +kernel
set_option maxRecDepth 20000 in
theorem ggX10_belowInto_X10_copy : GoodIn wsX10_belowInto wsX10_copy := goodIn_r _ [6, 7, 8, 9, 19, 20, 21, 22, 23, 24, 25, 26, 27, 28, 29, 30, 31, 32, 33, 34, 35, 36, 37, 38] (by decide +kernel) (by decide +kernel)
set_option maxRecDepth 20000 in
theorem gX10_belowInto_X10_copy : GoodIn wsX10_belowInto (wsV RX10 90 RX10 yX10_copy wsX10_copy) := goodIn_app (goodIn_of _ (by decide +kernel)) ggX10_belowInto_X10_copy
set_option maxRecDepth 20000 in
theorem ggX10_belowInto_X10_times : GoodIn wsX10_belowInto wsX10_times := goodIn_r _ [13, 8, 9, 14, 7, 15, 16, 17, 5, 18, 19, 20, 21, 22, 23, 24, 25, 26, 27, 28, 29, 30, 31, 32, 33, 34, 35, 36, 37, 38] (by decide +kernel) (by decide +kernel)
set_option maxRecDepth 20000 in
theorem gX10_belowInto_X10_times : GoodIn wsX10_belowInto (wsV RX10 80 RX10 yX10_times wsX10_times) := goodIn_app (goodIn_of _ (by decide +kernel)) ggX10_belowInto_X10_times
theorem dX10_belowInto_0 : decode cX10_belowInto 0 = .ok (.aload_n 0, 1) := by decide +kernel
theorem dX10_belowInto_1 : decode cX10_belowInto 1 = .ok (.bipush 48, 2) := by decide +kernel
theorem dX10_belowInto_3 : decode cX10_belowInto 3 = .ok (.iload_n 1, 1) := by decide +kernel
theorem dX10_belowInto_4 : decode cX10_belowInto 4 = .ok (.invokevirtual 90, 3) := by decide +kernel
theorem dX10_belowInto_7 : decode cX10_belowInto 7 = .ok (.aload_n 0, 1) := by decide +kernel
theorem dX10_belowInto_8 : decode cX10_belowInto 8 = .ok (.iload_n 1, 1) := by decide +kernel
theorem dX10_belowInto_9 : decode cX10_belowInto 9 = .ok (.aload_n 0, 1) := by decide +kernel
theorem dX10_belowInto_10 : decode cX10_belowInto 10 = .ok (.getfield 138, 3) := by decide +kernel
theorem dX10_belowInto_13 : decode cX10_belowInto 13 = .ok (.invokevirtual 80, 3) := by decide +kernel
theorem dX10_belowInto_16 : decode cX10_belowInto 16 = .ok (.return_, 1) := by decide +kernel
set_option maxRecDepth 20000 in
theorem ggX10_solve_X10_isReady : GoodIn wsX10_solve wsX10_isReady := goodIn_r _ [12, 2, 13, 14, 15, 16, 11, 17, 18, 19, 20, 21, 22, 23, 24, 25, 26, 105, 106, 107, 108, 109, 110, 111, 112, 113, 114, 115, 116, 117, 118, 119, 120, 121, 122, 123, 124] (by decide +kernel) (by decide +kernel)
set_option maxRecDepth 20000 in
theorem gX10_solve_X10_isReady : GoodIn wsX10_solve (wsV RX10 164 RX10 yX10_isReady wsX10_isReady) := goodIn_app (goodIn_of _ (by decide +kernel)) ggX10_solve_X10_isReady
set_option maxRecDepth 20000 in
theorem ggX10_solve_X10_valuePolicy : GoodIn wsX10_solve wsX10_valuePolicy := goodIn_r _ [30, 31, 2, 32, 3, 33, 34, 22, 35, 36, 37, 11, 38, 18, 19, 20, 21, 39, 40, 41, 42, 43, 44, 45, 46, 47, 48, 49, 50, 51, 52, 53, 54, 55, 56, 57, 58, 59, 60, 61, 62, 63, 64, 65, 66, 67, 68, 69, 70, 71, 72, 73, 74, 75, 76, 77, 78, 79, 80, 81, 82, 83, 84, 105, 106, 107, 108, 109, 110, 111, 112, 113, 114, 115, 116, 117, 118, 119, 120, 121, 122, 123, 124] (by decide +kernel) (by decide +kernel)
set_option maxRecDepth 20000 in
theorem gX10_solve_X10_valuePolicy : GoodIn wsX10_solve (wsV RX10 168 RX10 yX10_valuePolicy wsX10_valuePolicy) := goodIn_app (goodIn_of _ (by decide +kernel)) ggX10_solve_X10_valuePolicy
set_option maxRecDepth 20000 in
theorem ggX10_solve_X10_belowInto : GoodIn wsX10_solve wsX10_belowInto := goodIn_r _ [88, 31, 81, 82, 83, 11, 84, 43, 46, 44, 47, 48, 49, 50, 45, 51, 52, 53, 54, 105, 106, 107, 108, 109, 110, 111, 112, 113, 114, 115, 116, 117, 118, 119, 120, 121, 122, 123, 124] (by decide +kernel) (by decide +kernel)
set_option maxRecDepth 20000 in
theorem gX10_solve_X10_belowInto : GoodIn wsX10_solve (wsV RX10 171 RX10 yX10_belowInto wsX10_belowInto) := goodIn_app (goodIn_of _ (by decide +kernel)) ggX10_solve_X10_belowInto
set_option maxRecDepth 20000 in
theorem ggX10_solve_X10_greatest : GoodIn wsX10_solve wsX10_greatest := goodIn_r _ [92, 13, 93, 94, 95, 11, 96, 32, 97, 98, 99, 100, 2, 22, 34, 33, 35, 39, 40, 41, 42, 43, 44, 45, 46, 81, 82, 83, 84, 47, 48, 49, 50, 51, 52, 53, 54, 63, 64, 65, 66, 67, 68, 69, 70, 71, 72, 73, 74, 75, 76, 18, 19, 20, 21, 101, 102, 103, 104, 105, 106, 107, 108, 109, 110, 111, 112, 113, 114, 115, 116, 117, 118, 119, 120, 121, 122, 123, 124] (by decide +kernel) (by decide +kernel)
set_option maxRecDepth 20000 in
theorem gX10_solve_X10_greatest : GoodIn wsX10_solve (wsV RX10 175 RX10 yX10_greatest wsX10_greatest) := goodIn_app (goodIn_of _ (by decide +kernel)) ggX10_solve_X10_greatest
set_option maxRecDepth 20000 in
theorem ggX10_solve_X10_compareGains : GoodIn wsX10_solve wsX10_compareGains := goodIn_r _ [96, 32, 97, 98, 99, 11, 100, 2, 22, 34, 33, 35, 39, 40, 41, 42, 43, 44, 45, 46, 81, 82, 83, 84, 47, 48, 49, 50, 51, 52, 53, 54, 63, 64, 65, 66, 67, 68, 69, 70, 71, 72, 73, 74, 75, 76, 18, 19, 20, 21, 101, 102, 103, 104, 105, 106, 107, 108, 109, 110, 111, 112, 113, 114, 115, 116, 117, 118, 119, 120, 121, 122, 123, 124] (by decide +kernel) (by decide +kernel)
set_option maxRecDepth 20000 in
theorem gX10_solve_X10_compareGains : GoodIn wsX10_solve (wsV RX10 160 RX10 yX10_compareGains wsX10_compareGains) := goodIn_app (goodIn_of _ (by decide +kernel)) ggX10_solve_X10_compareGains
set_option maxRecDepth 20000 in
theorem ggX10_solve_X10_copy : GoodIn wsX10_solve wsX10_copy := goodIn_r _ [84, 43, 46, 44, 105, 106, 107, 108, 109, 110, 111, 112, 113, 114, 115, 116, 117, 118, 119, 120, 121, 122, 123, 124] (by decide +kernel) (by decide +kernel)
set_option maxRecDepth 20000 in
theorem gX10_solve_X10_copy : GoodIn wsX10_solve (wsV RX10 90 RX10 yX10_copy wsX10_copy) := goodIn_app (goodIn_of _ (by decide +kernel)) ggX10_solve_X10_copy
theorem dX10_solve_0 : decode cX10_solve 0 = .ok (.aload_n 0, 1) := by decide +kernel
theorem dX10_solve_1 : decode cX10_solve 1 = .ok (.iconst 0, 1) := by decide +kernel
theorem dX10_solve_2 : decode cX10_solve 2 = .ok (.putfield 56, 3) := by decide +kernel
theorem dX10_solve_5 : decode cX10_solve 5 = .ok (.aload_n 0, 1) := by decide +kernel
theorem dX10_solve_6 : decode cX10_solve 6 = .ok (.invokevirtual 164, 3) := by decide +kernel
theorem dX10_solve_9 : decode cX10_solve 9 = .ok (.ifCond .ne 5, 3) := by decide +kernel
theorem dX10_solve_12 : decode cX10_solve 12 = .ok (.iconst (-1), 1) := by decide +kernel
theorem dX10_solve_13 : decode cX10_solve 13 = .ok (.ireturn, 1) := by decide +kernel
theorem dX10_solve_14 : decode cX10_solve 14 = .ok (.iconst 0, 1) := by decide +kernel
theorem dX10_solve_15 : decode cX10_solve 15 = .ok (.istore_n 1, 1) := by decide +kernel
theorem dX10_solve_16 : decode cX10_solve 16 = .ok (.iload_n 1, 1) := by decide +kernel
theorem dX10_solve_17 : decode cX10_solve 17 = .ok (.aload_n 0, 1) := by decide +kernel
theorem dX10_solve_18 : decode cX10_solve 18 = .ok (.getfield 103, 3) := by decide +kernel
theorem dX10_solve_21 : decode cX10_solve 21 = .ok (.if_icmp .ge 16, 3) := by decide +kernel
theorem dX10_solve_24 : decode cX10_solve 24 = .ok (.aload_n 0, 1) := by decide +kernel
theorem dX10_solve_25 : decode cX10_solve 25 = .ok (.getfield 32, 3) := by decide +kernel
theorem dX10_solve_28 : decode cX10_solve 28 = .ok (.iload_n 1, 1) := by decide +kernel
theorem dX10_solve_29 : decode cX10_solve 29 = .ok (.iconst 0, 1) := by decide +kernel
theorem dX10_solve_30 : decode cX10_solve 30 = .ok (.iastore, 1) := by decide +kernel
theorem dX10_solve_31 : decode cX10_solve 31 = .ok (.iinc 1 1, 3) := by decide +kernel
theorem dX10_solve_34 : decode cX10_solve 34 = .ok (.goto (-18), 3) := by decide +kernel
theorem dX10_solve_37 : decode cX10_solve 37 = .ok (.aload_n 0, 1) := by decide +kernel
theorem dX10_solve_38 : decode cX10_solve 38 = .ok (.iconst 0, 1) := by decide +kernel
theorem dX10_solve_39 : decode cX10_solve 39 = .ok (.putfield 100, 3) := by decide +kernel
theorem dX10_solve_42 : decode cX10_solve 42 = .ok (.iconst 1, 1) := by decide +kernel
theorem dX10_solve_43 : decode cX10_solve 43 = .ok (.istore_n 1, 1) := by decide +kernel
theorem dX10_solve_44 : decode cX10_solve 44 = .ok (.iload_n 1, 1) := by decide +kernel
theorem dX10_solve_45 : decode cX10_solve 45 = .ok (.ifCond .eq 173, 3) := by decide +kernel
theorem dX10_solve_48 : decode cX10_solve 48 = .ok (.aload_n 0, 1) := by decide +kernel
theorem dX10_solve_49 : decode cX10_solve 49 = .ok (.dup, 1) := by decide +kernel
theorem dX10_solve_50 : decode cX10_solve 50 = .ok (.getfield 100, 3) := by decide +kernel
theorem dX10_solve_53 : decode cX10_solve 53 = .ok (.iconst 1, 1) := by decide +kernel
theorem dX10_solve_54 : decode cX10_solve 54 = .ok (.iadd, 1) := by decide +kernel
theorem dX10_solve_55 : decode cX10_solve 55 = .ok (.putfield 100, 3) := by decide +kernel
theorem dX10_solve_58 : decode cX10_solve 58 = .ok (.aload_n 0, 1) := by decide +kernel
theorem dX10_solve_59 : decode cX10_solve 59 = .ok (.invokevirtual 168, 3) := by decide +kernel
theorem dX10_solve_62 : decode cX10_solve 62 = .ok (.aload_n 0, 1) := by decide +kernel
theorem dX10_solve_63 : decode cX10_solve 63 = .ok (.bipush 54, 2) := by decide +kernel
theorem dX10_solve_65 : decode cX10_solve 65 = .ok (.invokevirtual 171, 3) := by decide +kernel
theorem dX10_solve_68 : decode cX10_solve 68 = .ok (.iconst 0, 1) := by decide +kernel
theorem dX10_solve_69 : decode cX10_solve 69 = .ok (.istore_n 1, 1) := by decide +kernel
theorem dX10_solve_70 : decode cX10_solve 70 = .ok (.iconst 0, 1) := by decide +kernel
theorem dX10_solve_71 : decode cX10_solve 71 = .ok (.istore_n 2, 1) := by decide +kernel
theorem dX10_solve_72 : decode cX10_solve 72 = .ok (.iload_n 2, 1) := by decide +kernel
theorem dX10_solve_73 : decode cX10_solve 73 = .ok (.aload_n 0, 1) := by decide +kernel
theorem dX10_solve_74 : decode cX10_solve 74 = .ok (.getfield 103, 3) := by decide +kernel
theorem dX10_solve_77 : decode cX10_solve 77 = .ok (.if_icmp .ge 98, 3) := by decide +kernel
theorem dX10_solve_80 : decode cX10_solve 80 = .ok (.aload_n 0, 1) := by decide +kernel
theorem dX10_solve_81 : decode cX10_solve 81 = .ok (.iload_n 2, 1) := by decide +kernel
theorem dX10_solve_82 : decode cX10_solve 82 = .ok (.bipush 42, 2) := by decide +kernel
theorem dX10_solve_84 : decode cX10_solve 84 = .ok (.bipush 54, 2) := by decide +kernel
theorem dX10_solve_86 : decode cX10_solve 86 = .ok (.invokevirtual 175, 3) := by decide +kernel
theorem dX10_solve_89 : decode cX10_solve 89 = .ok (.istore_n 3, 1) := by decide +kernel
theorem dX10_solve_90 : decode cX10_solve 90 = .ok (.iload_n 3, 1) := by decide +kernel
theorem dX10_solve_91 : decode cX10_solve 91 = .ok (.aload_n 0, 1) := by decide +kernel
theorem dX10_solve_92 : decode cX10_solve 92 = .ok (.getfield 32, 3) := by decide +kernel
theorem dX10_solve_95 : decode cX10_solve 95 = .ok (.iload_n 2, 1) := by decide +kernel
theorem dX10_solve_96 : decode cX10_solve 96 = .ok (.iaload, 1) := by decide +kernel
theorem dX10_solve_97 : decode cX10_solve 97 = .ok (.if_icmp .eq 29, 3) := by decide +kernel
theorem dX10_solve_100 : decode cX10_solve 100 = .ok (.aload_n 0, 1) := by decide +kernel
theorem dX10_solve_101 : decode cX10_solve 101 = .ok (.iconst 4, 1) := by decide +kernel
theorem dX10_solve_102 : decode cX10_solve 102 = .ok (.iload_n 2, 1) := by decide +kernel
theorem dX10_solve_103 : decode cX10_solve 103 = .ok (.imul, 1) := by decide +kernel
theorem dX10_solve_104 : decode cX10_solve 104 = .ok (.aload_n 0, 1) := by decide +kernel
theorem dX10_solve_105 : decode cX10_solve 105 = .ok (.getfield 32, 3) := by decide +kernel
theorem dX10_solve_108 : decode cX10_solve 108 = .ok (.iload_n 2, 1) := by decide +kernel
theorem dX10_solve_109 : decode cX10_solve 109 = .ok (.iaload, 1) := by decide +kernel
theorem dX10_solve_110 : decode cX10_solve 110 = .ok (.iadd, 1) := by decide +kernel
theorem dX10_solve_111 : decode cX10_solve 111 = .ok (.iconst 4, 1) := by decide +kernel
theorem dX10_solve_112 : decode cX10_solve 112 = .ok (.iload_n 2, 1) := by decide +kernel
theorem dX10_solve_113 : decode cX10_solve 113 = .ok (.imul, 1) := by decide +kernel
theorem dX10_solve_114 : decode cX10_solve 114 = .ok (.iload_n 3, 1) := by decide +kernel
theorem dX10_solve_115 : decode cX10_solve 115 = .ok (.iadd, 1) := by decide +kernel
theorem dX10_solve_116 : decode cX10_solve 116 = .ok (.bipush 42, 2) := by decide +kernel
theorem dX10_solve_118 : decode cX10_solve 118 = .ok (.bipush 54, 2) := by decide +kernel
theorem dX10_solve_120 : decode cX10_solve 120 = .ok (.invokevirtual 160, 3) := by decide +kernel
theorem dX10_solve_123 : decode cX10_solve 123 = .ok (.ifCond .ne 7, 3) := by decide +kernel
theorem dX10_solve_126 : decode cX10_solve 126 = .ok (.iconst 1, 1) := by decide +kernel
theorem dX10_solve_127 : decode cX10_solve 127 = .ok (.goto 4, 3) := by decide +kernel
theorem dX10_solve_130 : decode cX10_solve 130 = .ok (.iconst 0, 1) := by decide +kernel
theorem dX10_solve_131 : decode cX10_solve 131 = .ok (.istore 4, 2) := by decide +kernel
theorem dX10_solve_133 : decode cX10_solve 133 = .ok (.aload_n 0, 1) := by decide +kernel
theorem dX10_solve_134 : decode cX10_solve 134 = .ok (.getfield 35, 3) := by decide +kernel
theorem dX10_solve_137 : decode cX10_solve 137 = .ok (.iload_n 2, 1) := by decide +kernel
theorem dX10_solve_138 : decode cX10_solve 138 = .ok (.iload 4, 2) := by decide +kernel
theorem dX10_solve_140 : decode cX10_solve 140 = .ok (.ifCond .eq 12, 3) := by decide +kernel
theorem dX10_solve_143 : decode cX10_solve 143 = .ok (.aload_n 0, 1) := by decide +kernel
theorem dX10_solve_144 : decode cX10_solve 144 = .ok (.getfield 32, 3) := by decide +kernel
theorem dX10_solve_147 : decode cX10_solve 147 = .ok (.iload_n 2, 1) := by decide +kernel
theorem dX10_solve_148 : decode cX10_solve 148 = .ok (.iaload, 1) := by decide +kernel
theorem dX10_solve_149 : decode cX10_solve 149 = .ok (.goto 4, 3) := by decide +kernel
theorem dX10_solve_152 : decode cX10_solve 152 = .ok (.iload_n 3, 1) := by decide +kernel
theorem dX10_solve_153 : decode cX10_solve 153 = .ok (.iastore, 1) := by decide +kernel
theorem dX10_solve_154 : decode cX10_solve 154 = .ok (.iload_n 1, 1) := by decide +kernel
theorem dX10_solve_155 : decode cX10_solve 155 = .ok (.ifCond .ne 8, 3) := by decide +kernel
theorem dX10_solve_158 : decode cX10_solve 158 = .ok (.iload 4, 2) := by decide +kernel
theorem dX10_solve_160 : decode cX10_solve 160 = .ok (.ifCond .ne 7, 3) := by decide +kernel
theorem dX10_solve_163 : decode cX10_solve 163 = .ok (.iconst 1, 1) := by decide +kernel
theorem dX10_solve_164 : decode cX10_solve 164 = .ok (.goto 4, 3) := by decide +kernel
theorem dX10_solve_167 : decode cX10_solve 167 = .ok (.iconst 0, 1) := by decide +kernel
theorem dX10_solve_168 : decode cX10_solve 168 = .ok (.istore_n 1, 1) := by decide +kernel
theorem dX10_solve_169 : decode cX10_solve 169 = .ok (.iinc 2 1, 3) := by decide +kernel
theorem dX10_solve_172 : decode cX10_solve 172 = .ok (.goto (-100), 3) := by decide +kernel
theorem dX10_solve_175 : decode cX10_solve 175 = .ok (.iconst 0, 1) := by decide +kernel
theorem dX10_solve_176 : decode cX10_solve 176 = .ok (.istore_n 2, 1) := by decide +kernel
theorem dX10_solve_177 : decode cX10_solve 177 = .ok (.iload_n 2, 1) := by decide +kernel
theorem dX10_solve_178 : decode cX10_solve 178 = .ok (.aload_n 0, 1) := by decide +kernel
theorem dX10_solve_179 : decode cX10_solve 179 = .ok (.getfield 103, 3) := by decide +kernel
theorem dX10_solve_182 : decode cX10_solve 182 = .ok (.if_icmp .ge 33, 3) := by decide +kernel
theorem dX10_solve_185 : decode cX10_solve 185 = .ok (.aload_n 0, 1) := by decide +kernel
theorem dX10_solve_186 : decode cX10_solve 186 = .ok (.getfield 29, 3) := by decide +kernel
theorem dX10_solve_189 : decode cX10_solve 189 = .ok (.iload_n 2, 1) := by decide +kernel
theorem dX10_solve_190 : decode cX10_solve 190 = .ok (.aload_n 0, 1) := by decide +kernel
theorem dX10_solve_191 : decode cX10_solve 191 = .ok (.getfield 32, 3) := by decide +kernel
theorem dX10_solve_194 : decode cX10_solve 194 = .ok (.iload_n 2, 1) := by decide +kernel
theorem dX10_solve_195 : decode cX10_solve 195 = .ok (.iaload, 1) := by decide +kernel
theorem dX10_solve_196 : decode cX10_solve 196 = .ok (.iastore, 1) := by decide +kernel
theorem dX10_solve_197 : decode cX10_solve 197 = .ok (.aload_n 0, 1) := by decide +kernel
theorem dX10_solve_198 : decode cX10_solve 198 = .ok (.getfield 32, 3) := by decide +kernel
theorem dX10_solve_201 : decode cX10_solve 201 = .ok (.iload_n 2, 1) := by decide +kernel
theorem dX10_solve_202 : decode cX10_solve 202 = .ok (.aload_n 0, 1) := by decide +kernel
theorem dX10_solve_203 : decode cX10_solve 203 = .ok (.getfield 35, 3) := by decide +kernel
theorem dX10_solve_206 : decode cX10_solve 206 = .ok (.iload_n 2, 1) := by decide +kernel
theorem dX10_solve_207 : decode cX10_solve 207 = .ok (.iaload, 1) := by decide +kernel
theorem dX10_solve_208 : decode cX10_solve 208 = .ok (.iastore, 1) := by decide +kernel
theorem dX10_solve_209 : decode cX10_solve 209 = .ok (.iinc 2 1, 3) := by decide +kernel
theorem dX10_solve_212 : decode cX10_solve 212 = .ok (.goto (-35), 3) := by decide +kernel
theorem dX10_solve_215 : decode cX10_solve 215 = .ok (.goto (-171), 3) := by decide +kernel
theorem dX10_solve_218 : decode cX10_solve 218 = .ok (.aload_n 0, 1) := by decide +kernel
theorem dX10_solve_219 : decode cX10_solve 219 = .ok (.iconst 1, 1) := by decide +kernel
theorem dX10_solve_220 : decode cX10_solve 220 = .ok (.putfield 96, 3) := by decide +kernel
theorem dX10_solve_223 : decode cX10_solve 223 = .ok (.iconst 0, 1) := by decide +kernel
theorem dX10_solve_224 : decode cX10_solve 224 = .ok (.istore_n 2, 1) := by decide +kernel
theorem dX10_solve_225 : decode cX10_solve 225 = .ok (.iload_n 2, 1) := by decide +kernel
theorem dX10_solve_226 : decode cX10_solve 226 = .ok (.aload_n 0, 1) := by decide +kernel
theorem dX10_solve_227 : decode cX10_solve 227 = .ok (.getfield 103, 3) := by decide +kernel
theorem dX10_solve_230 : decode cX10_solve 230 = .ok (.if_icmp .ge 21, 3) := by decide +kernel
theorem dX10_solve_233 : decode cX10_solve 233 = .ok (.aload_n 0, 1) := by decide +kernel
theorem dX10_solve_234 : decode cX10_solve 234 = .ok (.bipush 42, 2) := by decide +kernel
theorem dX10_solve_236 : decode cX10_solve 236 = .ok (.iload_n 2, 1) := by decide +kernel
theorem dX10_solve_237 : decode cX10_solve 237 = .ok (.iadd, 1) := by decide +kernel
theorem dX10_solve_238 : decode cX10_solve 238 = .ok (.bipush 68, 2) := by decide +kernel
theorem dX10_solve_240 : decode cX10_solve 240 = .ok (.iload_n 2, 1) := by decide +kernel
theorem dX10_solve_241 : decode cX10_solve 241 = .ok (.iadd, 1) := by decide +kernel
theorem dX10_solve_242 : decode cX10_solve 242 = .ok (.invokevirtual 90, 3) := by decide +kernel
theorem dX10_solve_245 : decode cX10_solve 245 = .ok (.iinc 2 1, 3) := by decide +kernel
theorem dX10_solve_248 : decode cX10_solve 248 = .ok (.goto (-23), 3) := by decide +kernel
theorem dX10_solve_251 : decode cX10_solve 251 = .ok (.aload_n 0, 1) := by decide +kernel
theorem dX10_solve_252 : decode cX10_solve 252 = .ok (.bipush 54, 2) := by decide +kernel
theorem dX10_solve_254 : decode cX10_solve 254 = .ok (.bipush 74, 2) := by decide +kernel
theorem dX10_solve_256 : decode cX10_solve 256 = .ok (.invokevirtual 90, 3) := by decide +kernel
theorem dX10_solve_259 : decode cX10_solve 259 = .ok (.aload_n 0, 1) := by decide +kernel
theorem dX10_solve_260 : decode cX10_solve 260 = .ok (.getfield 100, 3) := by decide +kernel
theorem dX10_solve_263 : decode cX10_solve 263 = .ok (.ireturn, 1) := by decide +kernel
set_option maxRecDepth 20000 in
theorem ggX10_policy_X10_isState : GoodIn wsX10_policy wsX10_isState := goodIn_r _ [8, 9, 10, 11, 12, 13, 14, 15, 16, 17, 18, 19, 20, 21, 22, 23, 24, 25, 26, 27, 28, 29] (by decide +kernel) (by decide +kernel)
set_option maxRecDepth 20000 in
theorem gX10_policy_X10_isState : GoodIn wsX10_policy (wsV RX10 109 RX10 yX10_isState wsX10_isState) := goodIn_app (goodIn_of _ (by decide +kernel)) ggX10_policy_X10_isState
theorem dX10_policy_0 : decode cX10_policy 0 = .ok (.aload_n 0, 1) := by decide +kernel
theorem dX10_policy_1 : decode cX10_policy 1 = .ok (.iconst 0, 1) := by decide +kernel
theorem dX10_policy_2 : decode cX10_policy 2 = .ok (.putfield 56, 3) := by decide +kernel
theorem dX10_policy_5 : decode cX10_policy 5 = .ok (.aload_n 0, 1) := by decide +kernel
theorem dX10_policy_6 : decode cX10_policy 6 = .ok (.getfield 96, 3) := by decide +kernel
theorem dX10_policy_9 : decode cX10_policy 9 = .ok (.ifCond .eq 20, 3) := by decide +kernel
theorem dX10_policy_12 : decode cX10_policy 12 = .ok (.aload_n 0, 1) := by decide +kernel
theorem dX10_policy_13 : decode cX10_policy 13 = .ok (.iload_n 1, 1) := by decide +kernel
theorem dX10_policy_14 : decode cX10_policy 14 = .ok (.invokevirtual 109, 3) := by decide +kernel
theorem dX10_policy_17 : decode cX10_policy 17 = .ok (.ifCond .eq 12, 3) := by decide +kernel
theorem dX10_policy_20 : decode cX10_policy 20 = .ok (.aload_n 0, 1) := by decide +kernel
theorem dX10_policy_21 : decode cX10_policy 21 = .ok (.getfield 29, 3) := by decide +kernel
theorem dX10_policy_24 : decode cX10_policy 24 = .ok (.iload_n 1, 1) := by decide +kernel
theorem dX10_policy_25 : decode cX10_policy 25 = .ok (.iaload, 1) := by decide +kernel
theorem dX10_policy_26 : decode cX10_policy 26 = .ok (.goto 4, 3) := by decide +kernel
theorem dX10_policy_29 : decode cX10_policy 29 = .ok (.iconst (-1), 1) := by decide +kernel
theorem dX10_policy_30 : decode cX10_policy 30 = .ok (.ireturn, 1) := by decide +kernel
theorem dX10_none_0 : decode cX10_none 0 = .ok (.iload_n 0, 1) := by decide +kernel
theorem dX10_none_1 : decode cX10_none 1 = .ok (.iconst (-1), 1) := by decide +kernel
theorem dX10_none_2 : decode cX10_none 2 = .ok (.if_icmp .ne 8, 3) := by decide +kernel
theorem dX10_none_5 : decode cX10_none 5 = .ok (.bipush (-2), 2) := by decide +kernel
theorem dX10_none_7 : decode cX10_none 7 = .ok (.goto 4, 3) := by decide +kernel
theorem dX10_none_10 : decode cX10_none 10 = .ok (.iconst (-1), 1) := by decide +kernel
theorem dX10_none_11 : decode cX10_none 11 = .ok (.ireturn, 1) := by decide +kernel
set_option maxRecDepth 20000 in
theorem ggX10_tell_X10_copy : GoodIn wsX10_tell wsX10_copy := goodIn_r _ [10, 2, 3, 11, 56, 57, 58, 59, 60, 61, 62, 63, 64, 65, 66, 67, 68, 69, 70, 71, 72, 73, 74, 75] (by decide +kernel) (by decide +kernel)
set_option maxRecDepth 20000 in
theorem gX10_tell_X10_copy : GoodIn wsX10_tell (wsV RX10 90 RX10 yX10_copy wsX10_copy) := goodIn_app (goodIn_of _ (by decide +kernel)) ggX10_tell_X10_copy
set_option maxRecDepth 20000 in
theorem ggX10_tell_X10_divisor : GoodIn wsX10_tell wsX10_divisor := goodIn_r _ [15, 2, 11, 16, 17, 18, 9, 19, 3, 20, 21, 22, 23, 24, 25, 26, 27, 28, 29, 30, 31, 32, 33, 34, 35, 36, 37, 38, 6, 7, 8, 10, 39, 40, 41, 42, 43, 44, 45, 46, 47, 48, 49, 50, 51, 56, 57, 58, 59, 60, 61, 62, 63, 64, 65, 66, 67, 68, 69, 70, 71, 72, 73, 74, 75] (by decide +kernel) (by decide +kernel)
set_option maxRecDepth 20000 in
theorem gX10_tell_X10_divisor : GoodIn wsX10_tell (wsV RX10 181 RX10 yX10_divisor wsX10_divisor) := goodIn_app (goodIn_of _ (by decide +kernel)) ggX10_tell_X10_divisor
set_option maxRecDepth 20000 in
theorem ggX10_tell_X10_over : GoodIn wsX10_tell wsX10_over := goodIn_r _ [55, 2, 3, 11, 43, 44, 45, 9, 46, 47, 48, 49, 50, 51, 21, 22, 23, 24, 25, 26, 27, 28, 29, 30, 31, 32, 33, 34, 35, 36, 37, 38, 56, 57, 58, 59, 60, 61, 62, 63, 64, 65, 66, 67, 68, 69, 70, 71, 72, 73, 74, 75] (by decide +kernel) (by decide +kernel)
set_option maxRecDepth 20000 in
theorem gX10_tell_X10_over : GoodIn wsX10_tell (wsV RX10 150 RX10 yX10_over wsX10_over) := goodIn_app (goodIn_of _ (by decide +kernel)) ggX10_tell_X10_over
set_option maxRecDepth 20000 in
theorem ggX10_tell_X10_overSmall : GoodIn wsX10_tell wsX10_overSmall := goodIn_r _ [19, 3, 20, 11, 21, 22, 23, 9, 24, 2, 56, 57, 58, 59, 60, 61, 62, 63, 64, 65, 66, 67, 68, 69, 70, 71, 72, 73, 74, 75] (by decide +kernel) (by decide +kernel)
set_option maxRecDepth 20000 in
theorem gX10_tell_X10_overSmall : GoodIn wsX10_tell (wsV RX10 87 RX10 yX10_overSmall wsX10_overSmall) := goodIn_app (goodIn_of _ (by decide +kernel)) ggX10_tell_X10_overSmall
theorem dX10_tell_0 : decode cX10_tell 0 = .ok (.iload_n 1, 1) := by decide +kernel
theorem dX10_tell_1 : decode cX10_tell 1 = .ok (.iconst (-1), 1) := by decide +kernel
theorem dX10_tell_2 : decode cX10_tell 2 = .ok (.if_icmp .ge 7, 3) := by decide +kernel
theorem dX10_tell_5 : decode cX10_tell 5 = .ok (.ldc2_w 179, 3) := by decide +kernel
theorem dX10_tell_8 : decode cX10_tell 8 = .ok (.lreturn, 1) := by decide +kernel
theorem dX10_tell_9 : decode cX10_tell 9 = .ok (.iload_n 1, 1) := by decide +kernel
theorem dX10_tell_10 : decode cX10_tell 10 = .ok (.iconst (-1), 1) := by decide +kernel
theorem dX10_tell_11 : decode cX10_tell 11 = .ok (.if_icmp .ne 12, 3) := by decide +kernel
theorem dX10_tell_14 : decode cX10_tell 14 = .ok (.aload_n 0, 1) := by decide +kernel
theorem dX10_tell_15 : decode cX10_tell 15 = .ok (.getfield 44, 3) := by decide +kernel
theorem dX10_tell_18 : decode cX10_tell 18 = .ok (.bipush 53, 2) := by decide +kernel
theorem dX10_tell_20 : decode cX10_tell 20 = .ok (.iaload, 1) := by decide +kernel
theorem dX10_tell_21 : decode cX10_tell 21 = .ok (.i2l, 1) := by decide +kernel
theorem dX10_tell_22 : decode cX10_tell 22 = .ok (.lreturn, 1) := by decide +kernel
theorem dX10_tell_23 : decode cX10_tell 23 = .ok (.aload_n 0, 1) := by decide +kernel
theorem dX10_tell_24 : decode cX10_tell 24 = .ok (.getfield 44, 3) := by decide +kernel
theorem dX10_tell_27 : decode cX10_tell 27 = .ok (.bipush 53, 2) := by decide +kernel
theorem dX10_tell_29 : decode cX10_tell 29 = .ok (.iaload, 1) := by decide +kernel
theorem dX10_tell_30 : decode cX10_tell 30 = .ok (.istore_n 2, 1) := by decide +kernel
theorem dX10_tell_31 : decode cX10_tell 31 = .ok (.aload_n 0, 1) := by decide +kernel
theorem dX10_tell_32 : decode cX10_tell 32 = .ok (.bipush 53, 2) := by decide +kernel
theorem dX10_tell_34 : decode cX10_tell 34 = .ok (.bipush 49, 2) := by decide +kernel
theorem dX10_tell_36 : decode cX10_tell 36 = .ok (.invokevirtual 90, 3) := by decide +kernel
theorem dX10_tell_39 : decode cX10_tell 39 = .ok (.aload_n 0, 1) := by decide +kernel
theorem dX10_tell_40 : decode cX10_tell 40 = .ok (.getfield 44, 3) := by decide +kernel
theorem dX10_tell_43 : decode cX10_tell 43 = .ok (.bipush 49, 2) := by decide +kernel
theorem dX10_tell_45 : decode cX10_tell 45 = .ok (.iload_n 2, 1) := by decide +kernel
theorem dX10_tell_46 : decode cX10_tell 46 = .ok (.ifCond .ne 7, 3) := by decide +kernel
theorem dX10_tell_49 : decode cX10_tell 49 = .ok (.iconst 0, 1) := by decide +kernel
theorem dX10_tell_50 : decode cX10_tell 50 = .ok (.goto 4, 3) := by decide +kernel
theorem dX10_tell_53 : decode cX10_tell 53 = .ok (.iconst 1, 1) := by decide +kernel
theorem dX10_tell_54 : decode cX10_tell 54 = .ok (.iastore, 1) := by decide +kernel
theorem dX10_tell_55 : decode cX10_tell 55 = .ok (.aload_n 0, 1) := by decide +kernel
theorem dX10_tell_56 : decode cX10_tell 56 = .ok (.bipush 54, 2) := by decide +kernel
theorem dX10_tell_58 : decode cX10_tell 58 = .ok (.bipush 50, 2) := by decide +kernel
theorem dX10_tell_60 : decode cX10_tell 60 = .ok (.invokevirtual 90, 3) := by decide +kernel
theorem dX10_tell_63 : decode cX10_tell 63 = .ok (.aload_n 0, 1) := by decide +kernel
theorem dX10_tell_64 : decode cX10_tell 64 = .ok (.bipush 50, 2) := by decide +kernel
theorem dX10_tell_66 : decode cX10_tell 66 = .ok (.bipush 49, 2) := by decide +kernel
theorem dX10_tell_68 : decode cX10_tell 68 = .ok (.invokevirtual 181, 3) := by decide +kernel
theorem dX10_tell_71 : decode cX10_tell 71 = .ok (.aload_n 0, 1) := by decide +kernel
theorem dX10_tell_72 : decode cX10_tell 72 = .ok (.iload_n 1, 1) := by decide +kernel
theorem dX10_tell_73 : decode cX10_tell 73 = .ok (.iconst 2, 1) := by decide +kernel
theorem dX10_tell_74 : decode cX10_tell 74 = .ok (.irem, 1) := by decide +kernel
theorem dX10_tell_75 : decode cX10_tell 75 = .ok (.ifCond .ne 8, 3) := by decide +kernel
theorem dX10_tell_78 : decode cX10_tell 78 = .ok (.bipush 53, 2) := by decide +kernel
theorem dX10_tell_80 : decode cX10_tell 80 = .ok (.goto 5, 3) := by decide +kernel
theorem dX10_tell_83 : decode cX10_tell 83 = .ok (.bipush 54, 2) := by decide +kernel
theorem dX10_tell_85 : decode cX10_tell 85 = .ok (.bipush 49, 2) := by decide +kernel
theorem dX10_tell_87 : decode cX10_tell 87 = .ok (.invokevirtual 90, 3) := by decide +kernel
theorem dX10_tell_90 : decode cX10_tell 90 = .ok (.aload_n 0, 1) := by decide +kernel
theorem dX10_tell_91 : decode cX10_tell 91 = .ok (.getfield 44, 3) := by decide +kernel
theorem dX10_tell_94 : decode cX10_tell 94 = .ok (.bipush 49, 2) := by decide +kernel
theorem dX10_tell_96 : decode cX10_tell 96 = .ok (.aload_n 0, 1) := by decide +kernel
theorem dX10_tell_97 : decode cX10_tell 97 = .ok (.getfield 41, 3) := by decide +kernel
theorem dX10_tell_100 : decode cX10_tell 100 = .ok (.bipush 49, 2) := by decide +kernel
theorem dX10_tell_102 : decode cX10_tell 102 = .ok (.iaload, 1) := by decide +kernel
theorem dX10_tell_103 : decode cX10_tell 103 = .ok (.ifCond .ne 7, 3) := by decide +kernel
theorem dX10_tell_106 : decode cX10_tell 106 = .ok (.iconst 0, 1) := by decide +kernel
theorem dX10_tell_107 : decode cX10_tell 107 = .ok (.goto 4, 3) := by decide +kernel
theorem dX10_tell_110 : decode cX10_tell 110 = .ok (.iconst 1, 1) := by decide +kernel
theorem dX10_tell_111 : decode cX10_tell 111 = .ok (.iastore, 1) := by decide +kernel
theorem dX10_tell_112 : decode cX10_tell 112 = .ok (.aload_n 0, 1) := by decide +kernel
theorem dX10_tell_113 : decode cX10_tell 113 = .ok (.bipush 49, 2) := by decide +kernel
theorem dX10_tell_115 : decode cX10_tell 115 = .ok (.bipush 50, 2) := by decide +kernel
theorem dX10_tell_117 : decode cX10_tell 117 = .ok (.invokevirtual 150, 3) := by decide +kernel
theorem dX10_tell_120 : decode cX10_tell 120 = .ok (.iconst 0, 1) := by decide +kernel
theorem dX10_tell_121 : decode cX10_tell 121 = .ok (.istore_n 3, 1) := by decide +kernel
theorem dX10_tell_122 : decode cX10_tell 122 = .ok (.iload_n 3, 1) := by decide +kernel
theorem dX10_tell_123 : decode cX10_tell 123 = .ok (.iload_n 1, 1) := by decide +kernel
theorem dX10_tell_124 : decode cX10_tell 124 = .ok (.iconst 2, 1) := by decide +kernel
theorem dX10_tell_125 : decode cX10_tell 125 = .ok (.idiv, 1) := by decide +kernel
theorem dX10_tell_126 : decode cX10_tell 126 = .ok (.if_icmp .ge 39, 3) := by decide +kernel
theorem dX10_tell_129 : decode cX10_tell 129 = .ok (.aload_n 0, 1) := by decide +kernel
theorem dX10_tell_130 : decode cX10_tell 130 = .ok (.getfield 41, 3) := by decide +kernel
theorem dX10_tell_133 : decode cX10_tell 133 = .ok (.bipush 49, 2) := by decide +kernel
theorem dX10_tell_135 : decode cX10_tell 135 = .ok (.iaload, 1) := by decide +kernel
theorem dX10_tell_136 : decode cX10_tell 136 = .ok (.ifCond .le 29, 3) := by decide +kernel
theorem dX10_tell_139 : decode cX10_tell 139 = .ok (.aload_n 0, 1) := by decide +kernel
theorem dX10_tell_140 : decode cX10_tell 140 = .ok (.bipush 49, 2) := by decide +kernel
theorem dX10_tell_142 : decode cX10_tell 142 = .ok (.ldc 184, 2) := by decide +kernel
theorem dX10_tell_144 : decode cX10_tell 144 = .ok (.invokevirtual 87, 3) := by decide +kernel
theorem dX10_tell_147 : decode cX10_tell 147 = .ok (.istore 4, 2) := by decide +kernel
theorem dX10_tell_149 : decode cX10_tell 149 = .ok (.aload_n 0, 1) := by decide +kernel
theorem dX10_tell_150 : decode cX10_tell 150 = .ok (.bipush 49, 2) := by decide +kernel
theorem dX10_tell_152 : decode cX10_tell 152 = .ok (.ldc 184, 2) := by decide +kernel
theorem dX10_tell_154 : decode cX10_tell 154 = .ok (.invokevirtual 87, 3) := by decide +kernel
theorem dX10_tell_157 : decode cX10_tell 157 = .ok (.istore 4, 2) := by decide +kernel
theorem dX10_tell_159 : decode cX10_tell 159 = .ok (.iinc 3 1, 3) := by decide +kernel
theorem dX10_tell_162 : decode cX10_tell 162 = .ok (.goto (-40), 3) := by decide +kernel
theorem dX10_tell_165 : decode cX10_tell 165 = .ok (.aload_n 0, 1) := by decide +kernel
theorem dX10_tell_166 : decode cX10_tell 166 = .ok (.bipush 49, 2) := by decide +kernel
theorem dX10_tell_168 : decode cX10_tell 168 = .ok (.ldc 184, 2) := by decide +kernel
theorem dX10_tell_170 : decode cX10_tell 170 = .ok (.invokevirtual 87, 3) := by decide +kernel
theorem dX10_tell_173 : decode cX10_tell 173 = .ok (.i2l, 1) := by decide +kernel
theorem dX10_tell_174 : decode cX10_tell 174 = .ok (.lstore_n 3, 1) := by decide +kernel
theorem dX10_tell_175 : decode cX10_tell 175 = .ok (.aload_n 0, 1) := by decide +kernel
theorem dX10_tell_176 : decode cX10_tell 176 = .ok (.bipush 49, 2) := by decide +kernel
theorem dX10_tell_178 : decode cX10_tell 178 = .ok (.ldc 184, 2) := by decide +kernel
theorem dX10_tell_180 : decode cX10_tell 180 = .ok (.invokevirtual 87, 3) := by decide +kernel
theorem dX10_tell_183 : decode cX10_tell 183 = .ok (.i2l, 1) := by decide +kernel
theorem dX10_tell_184 : decode cX10_tell 184 = .ok (.lstore 5, 2) := by decide +kernel
theorem dX10_tell_186 : decode cX10_tell 186 = .ok (.lload 5, 2) := by decide +kernel
theorem dX10_tell_188 : decode cX10_tell 188 = .ok (.ldc2_w 185, 3) := by decide +kernel
theorem dX10_tell_191 : decode cX10_tell 191 = .ok (.lmul, 1) := by decide +kernel
theorem dX10_tell_192 : decode cX10_tell 192 = .ok (.lload_n 3, 1) := by decide +kernel
theorem dX10_tell_193 : decode cX10_tell 193 = .ok (.ladd, 1) := by decide +kernel
theorem dX10_tell_194 : decode cX10_tell 194 = .ok (.lreturn, 1) := by decide +kernel
set_option maxRecDepth 20000 in
theorem ggX10_value_X10_isState : GoodIn wsX10_value wsX10_isState := goodIn_r _ [7, 8, 70, 71, 72, 73, 74, 75, 76, 77, 78, 79, 80, 81, 82, 83, 84, 85, 86, 87, 88, 89] (by decide +kernel) (by decide +kernel)
set_option maxRecDepth 20000 in
theorem gX10_value_X10_isState : GoodIn wsX10_value (wsV RX10 109 RX10 yX10_isState wsX10_isState) := goodIn_app (goodIn_of _ (by decide +kernel)) ggX10_value_X10_isState
set_option maxRecDepth 20000 in
theorem ggX10_value_X10_none : GoodIn wsX10_value wsX10_none := goodIn_r _ [11] (by decide +kernel) (by decide +kernel)
set_option maxRecDepth 20000 in
theorem gX10_value_X10_none : GoodIn wsX10_value (va_wsS RX10 187 yX10_none wsX10_none) := goodIn_app (goodIn_of _ (by decide +kernel)) ggX10_value_X10_none
set_option maxRecDepth 20000 in
theorem ggX10_value_X10_copy : GoodIn wsX10_value wsX10_copy := goodIn_r _ [15, 16, 17, 18, 70, 71, 72, 73, 74, 75, 76, 77, 78, 79, 80, 81, 82, 83, 84, 85, 86, 87, 88, 89] (by decide +kernel) (by decide +kernel)
set_option maxRecDepth 20000 in
theorem gX10_value_X10_copy : GoodIn wsX10_value (wsV RX10 90 RX10 yX10_copy wsX10_copy) := goodIn_app (goodIn_of _ (by decide +kernel)) ggX10_value_X10_copy
set_option maxRecDepth 20000 in
theorem ggX10_value_X10_tell : GoodIn wsX10_value wsX10_tell := goodIn_r _ [22, 23, 16, 17, 24, 25, 12, 13, 14, 6, 15, 18, 26, 27, 28, 29, 30, 31, 32, 33, 34, 35, 36, 37, 38, 39, 40, 41, 42, 43, 44, 45, 46, 47, 48, 49, 50, 51, 52, 53, 54, 55, 56, 57, 58, 59, 60, 61, 62, 63, 64, 65, 66, 67, 68, 69, 70, 71, 72, 73, 74, 75, 76, 77, 78, 79, 80, 81, 82, 83, 84, 85, 86, 87, 88, 89] (by decide +kernel) (by decide +kernel)
set_option maxRecDepth 20000 in
theorem gX10_value_X10_tell : GoodIn wsX10_value (wsV RX10 190 RX10 yX10_tell wsX10_tell) := goodIn_app (goodIn_of _ (by decide +kernel)) ggX10_value_X10_tell
theorem dX10_value_0 : decode cX10_value 0 = .ok (.aload_n 0, 1) := by decide +kernel
theorem dX10_value_1 : decode cX10_value 1 = .ok (.iconst 0, 1) := by decide +kernel
theorem dX10_value_2 : decode cX10_value 2 = .ok (.putfield 56, 3) := by decide +kernel
theorem dX10_value_5 : decode cX10_value 5 = .ok (.aload_n 0, 1) := by decide +kernel
theorem dX10_value_6 : decode cX10_value 6 = .ok (.getfield 96, 3) := by decide +kernel
theorem dX10_value_9 : decode cX10_value 9 = .ok (.ifCond .eq 11, 3) := by decide +kernel
theorem dX10_value_12 : decode cX10_value 12 = .ok (.aload_n 0, 1) := by decide +kernel
theorem dX10_value_13 : decode cX10_value 13 = .ok (.iload_n 1, 1) := by decide +kernel
theorem dX10_value_14 : decode cX10_value 14 = .ok (.invokevirtual 109, 3) := by decide +kernel
theorem dX10_value_17 : decode cX10_value 17 = .ok (.ifCond .ne 9, 3) := by decide +kernel
theorem dX10_value_20 : decode cX10_value 20 = .ok (.iload_n 2, 1) := by decide +kernel
theorem dX10_value_21 : decode cX10_value 21 = .ok (.invokestatic 187, 3) := by decide +kernel
theorem dX10_value_24 : decode cX10_value 24 = .ok (.i2l, 1) := by decide +kernel
theorem dX10_value_25 : decode cX10_value 25 = .ok (.lreturn, 1) := by decide +kernel
theorem dX10_value_26 : decode cX10_value 26 = .ok (.aload_n 0, 1) := by decide +kernel
theorem dX10_value_27 : decode cX10_value 27 = .ok (.bipush 68, 2) := by decide +kernel
theorem dX10_value_29 : decode cX10_value 29 = .ok (.iload_n 1, 1) := by decide +kernel
theorem dX10_value_30 : decode cX10_value 30 = .ok (.iadd, 1) := by decide +kernel
theorem dX10_value_31 : decode cX10_value 31 = .ok (.bipush 53, 2) := by decide +kernel
theorem dX10_value_33 : decode cX10_value 33 = .ok (.invokevirtual 90, 3) := by decide +kernel
theorem dX10_value_36 : decode cX10_value 36 = .ok (.aload_n 0, 1) := by decide +kernel
theorem dX10_value_37 : decode cX10_value 37 = .ok (.bipush 74, 2) := by decide +kernel
theorem dX10_value_39 : decode cX10_value 39 = .ok (.bipush 54, 2) := by decide +kernel
theorem dX10_value_41 : decode cX10_value 41 = .ok (.invokevirtual 90, 3) := by decide +kernel
theorem dX10_value_44 : decode cX10_value 44 = .ok (.aload_n 0, 1) := by decide +kernel
theorem dX10_value_45 : decode cX10_value 45 = .ok (.iload_n 2, 1) := by decide +kernel
theorem dX10_value_46 : decode cX10_value 46 = .ok (.invokevirtual 190, 3) := by decide +kernel
theorem dX10_value_49 : decode cX10_value 49 = .ok (.lreturn, 1) := by decide +kernel
set_option maxRecDepth 20000 in
theorem ggX10_gain_X10_isAction : GoodIn wsX10_gain wsX10_isAction := goodIn_r _ [9, 10, 11, 12, 13, 8, 14, 15, 88, 89, 90, 91, 92, 93, 94, 95, 96, 97, 98, 99, 100, 101, 102, 103, 104, 105, 106, 107] (by decide +kernel) (by decide +kernel)
set_option maxRecDepth 20000 in
theorem gX10_gain_X10_isAction : GoodIn wsX10_gain (wsV RX10 113 RX10 yX10_isAction wsX10_isAction) := goodIn_app (goodIn_of _ (by decide +kernel)) ggX10_gain_X10_isAction
set_option maxRecDepth 20000 in
theorem ggX10_gain_X10_none : GoodIn wsX10_gain wsX10_none := goodIn_r _ [18] (by decide +kernel) (by decide +kernel)
set_option maxRecDepth 20000 in
theorem gX10_gain_X10_none : GoodIn wsX10_gain (va_wsS RX10 187 yX10_none wsX10_none) := goodIn_app (goodIn_of _ (by decide +kernel)) ggX10_gain_X10_none
set_option maxRecDepth 20000 in
theorem ggX10_gain_X10_gainInto : GoodIn wsX10_gain wsX10_gainInto := goodIn_r _ [22, 15, 23, 24, 4, 3, 25, 26, 27, 28, 8, 29, 30, 31, 32, 33, 34, 35, 36, 37, 38, 39, 40, 41, 42, 43, 44, 45, 46, 47, 48, 49, 50, 51, 52, 53, 54, 55, 56, 57, 58, 59, 60, 61, 62, 63, 88, 89, 90, 91, 92, 93, 94, 95, 96, 97, 98, 99, 100, 101, 102, 103, 104, 105, 106, 107] (by decide +kernel) (by decide +kernel)
set_option maxRecDepth 20000 in
theorem gX10_gain_X10_gainInto : GoodIn wsX10_gain (wsV RX10 153 RX10 yX10_gainInto wsX10_gainInto) := goodIn_app (goodIn_of _ (by decide +kernel)) ggX10_gain_X10_gainInto
set_option maxRecDepth 20000 in
theorem ggX10_gain_X10_copy : GoodIn wsX10_gain wsX10_copy := goodIn_r _ [37, 30, 33, 31, 88, 89, 90, 91, 92, 93, 94, 95, 96, 97, 98, 99, 100, 101, 102, 103, 104, 105, 106, 107] (by decide +kernel) (by decide +kernel)
set_option maxRecDepth 20000 in
theorem gX10_gain_X10_copy : GoodIn wsX10_gain (wsV RX10 90 RX10 yX10_copy wsX10_copy) := goodIn_app (goodIn_of _ (by decide +kernel)) ggX10_gain_X10_copy
set_option maxRecDepth 20000 in
theorem ggX10_gain_X10_sumOf : GoodIn wsX10_gain wsX10_sumOf := goodIn_r _ [63, 23, 88, 89, 90, 91, 92, 93, 94, 95, 96, 97, 98, 99, 100, 101, 102, 103, 104, 105, 106, 107] (by decide +kernel) (by decide +kernel)
set_option maxRecDepth 20000 in
theorem gX10_gain_X10_sumOf : GoodIn wsX10_gain (wsV RX10 127 RX10 yX10_sumOf wsX10_sumOf) := goodIn_app (goodIn_of _ (by decide +kernel)) ggX10_gain_X10_sumOf
set_option maxRecDepth 20000 in
theorem ggX10_gain_X10_times : GoodIn wsX10_gain wsX10_times := goodIn_r _ [41, 33, 31, 32, 30, 42, 43, 44, 8, 45, 88, 89, 90, 91, 92, 93, 94, 95, 96, 97, 98, 99, 100, 101, 102, 103, 104, 105, 106, 107] (by decide +kernel) (by decide +kernel)
set_option maxRecDepth 20000 in
theorem gX10_gain_X10_times : GoodIn wsX10_gain (wsV RX10 80 RX10 yX10_times wsX10_times) := goodIn_app (goodIn_of _ (by decide +kernel)) ggX10_gain_X10_times
set_option maxRecDepth 20000 in
theorem ggX10_gain_X10_tell : GoodIn wsX10_gain wsX10_tell := goodIn_r _ [67, 68, 30, 33, 69, 70, 34, 35, 36, 8, 37, 31, 71, 72, 73, 74, 75, 76, 77, 78, 79, 42, 43, 44, 45, 56, 57, 58, 59, 46, 47, 48, 49, 50, 51, 52, 53, 54, 55, 80, 81, 82, 83, 26, 27, 28, 29, 32, 38, 39, 40, 41, 84, 85, 86, 87, 88, 89, 90, 91, 92, 93, 94, 95, 96, 97, 98, 99, 100, 101, 102, 103, 104, 105, 106, 107] (by decide +kernel) (by decide +kernel)
set_option maxRecDepth 20000 in
theorem gX10_gain_X10_tell : GoodIn wsX10_gain (wsV RX10 190 RX10 yX10_tell wsX10_tell) := goodIn_app (goodIn_of _ (by decide +kernel)) ggX10_gain_X10_tell
theorem dX10_gain_0 : decode cX10_gain 0 = .ok (.aload_n 0, 1) := by decide +kernel
theorem dX10_gain_1 : decode cX10_gain 1 = .ok (.iconst 0, 1) := by decide +kernel
theorem dX10_gain_2 : decode cX10_gain 2 = .ok (.putfield 56, 3) := by decide +kernel
theorem dX10_gain_5 : decode cX10_gain 5 = .ok (.aload_n 0, 1) := by decide +kernel
theorem dX10_gain_6 : decode cX10_gain 6 = .ok (.getfield 96, 3) := by decide +kernel
theorem dX10_gain_9 : decode cX10_gain 9 = .ok (.ifCond .eq 12, 3) := by decide +kernel
theorem dX10_gain_12 : decode cX10_gain 12 = .ok (.aload_n 0, 1) := by decide +kernel
theorem dX10_gain_13 : decode cX10_gain 13 = .ok (.iload_n 1, 1) := by decide +kernel
theorem dX10_gain_14 : decode cX10_gain 14 = .ok (.iload_n 2, 1) := by decide +kernel
theorem dX10_gain_15 : decode cX10_gain 15 = .ok (.invokevirtual 113, 3) := by decide +kernel
theorem dX10_gain_18 : decode cX10_gain 18 = .ok (.ifCond .ne 9, 3) := by decide +kernel
theorem dX10_gain_21 : decode cX10_gain 21 = .ok (.iload_n 3, 1) := by decide +kernel
theorem dX10_gain_22 : decode cX10_gain 22 = .ok (.invokestatic 187, 3) := by decide +kernel
theorem dX10_gain_25 : decode cX10_gain 25 = .ok (.i2l, 1) := by decide +kernel
theorem dX10_gain_26 : decode cX10_gain 26 = .ok (.lreturn, 1) := by decide +kernel
theorem dX10_gain_27 : decode cX10_gain 27 = .ok (.aload_n 0, 1) := by decide +kernel
theorem dX10_gain_28 : decode cX10_gain 28 = .ok (.iconst 4, 1) := by decide +kernel
theorem dX10_gain_29 : decode cX10_gain 29 = .ok (.iload_n 1, 1) := by decide +kernel
theorem dX10_gain_30 : decode cX10_gain 30 = .ok (.imul, 1) := by decide +kernel
theorem dX10_gain_31 : decode cX10_gain 31 = .ok (.iload_n 2, 1) := by decide +kernel
theorem dX10_gain_32 : decode cX10_gain 32 = .ok (.iadd, 1) := by decide +kernel
theorem dX10_gain_33 : decode cX10_gain 33 = .ok (.bipush 68, 2) := by decide +kernel
theorem dX10_gain_35 : decode cX10_gain 35 = .ok (.bipush 74, 2) := by decide +kernel
theorem dX10_gain_37 : decode cX10_gain 37 = .ok (.bipush 53, 2) := by decide +kernel
theorem dX10_gain_39 : decode cX10_gain 39 = .ok (.invokevirtual 153, 3) := by decide +kernel
theorem dX10_gain_42 : decode cX10_gain 42 = .ok (.aload_n 0, 1) := by decide +kernel
theorem dX10_gain_43 : decode cX10_gain 43 = .ok (.bipush 74, 2) := by decide +kernel
theorem dX10_gain_45 : decode cX10_gain 45 = .ok (.bipush 54, 2) := by decide +kernel
theorem dX10_gain_47 : decode cX10_gain 47 = .ok (.invokevirtual 90, 3) := by decide +kernel
theorem dX10_gain_50 : decode cX10_gain 50 = .ok (.aload_n 0, 1) := by decide +kernel
theorem dX10_gain_51 : decode cX10_gain 51 = .ok (.bipush 54, 2) := by decide +kernel
theorem dX10_gain_53 : decode cX10_gain 53 = .ok (.aload_n 0, 1) := by decide +kernel
theorem dX10_gain_54 : decode cX10_gain 54 = .ok (.getfield 26, 3) := by decide +kernel
theorem dX10_gain_57 : decode cX10_gain 57 = .ok (.aload_n 0, 1) := by decide +kernel
theorem dX10_gain_58 : decode cX10_gain 58 = .ok (.iconst 4, 1) := by decide +kernel
theorem dX10_gain_59 : decode cX10_gain 59 = .ok (.iload_n 1, 1) := by decide +kernel
theorem dX10_gain_60 : decode cX10_gain 60 = .ok (.imul, 1) := by decide +kernel
theorem dX10_gain_61 : decode cX10_gain 61 = .ok (.iload_n 2, 1) := by decide +kernel
theorem dX10_gain_62 : decode cX10_gain 62 = .ok (.iadd, 1) := by decide +kernel
theorem dX10_gain_63 : decode cX10_gain 63 = .ok (.invokevirtual 127, 3) := by decide +kernel
theorem dX10_gain_66 : decode cX10_gain 66 = .ok (.imul, 1) := by decide +kernel
theorem dX10_gain_67 : decode cX10_gain 67 = .ok (.invokevirtual 80, 3) := by decide +kernel
theorem dX10_gain_70 : decode cX10_gain 70 = .ok (.aload_n 0, 1) := by decide +kernel
theorem dX10_gain_71 : decode cX10_gain 71 = .ok (.bipush 54, 2) := by decide +kernel
theorem dX10_gain_73 : decode cX10_gain 73 = .ok (.aload_n 0, 1) := by decide +kernel
theorem dX10_gain_74 : decode cX10_gain 74 = .ok (.getfield 16, 3) := by decide +kernel
theorem dX10_gain_77 : decode cX10_gain 77 = .ok (.iconst 4, 1) := by decide +kernel
theorem dX10_gain_78 : decode cX10_gain 78 = .ok (.iload_n 1, 1) := by decide +kernel
theorem dX10_gain_79 : decode cX10_gain 79 = .ok (.imul, 1) := by decide +kernel
theorem dX10_gain_80 : decode cX10_gain 80 = .ok (.iload_n 2, 1) := by decide +kernel
theorem dX10_gain_81 : decode cX10_gain 81 = .ok (.iadd, 1) := by decide +kernel
theorem dX10_gain_82 : decode cX10_gain 82 = .ok (.iaload, 1) := by decide +kernel
theorem dX10_gain_83 : decode cX10_gain 83 = .ok (.invokevirtual 80, 3) := by decide +kernel
theorem dX10_gain_86 : decode cX10_gain 86 = .ok (.aload_n 0, 1) := by decide +kernel
theorem dX10_gain_87 : decode cX10_gain 87 = .ok (.iload_n 3, 1) := by decide +kernel
theorem dX10_gain_88 : decode cX10_gain 88 = .ok (.invokevirtual 190, 3) := by decide +kernel
theorem dX10_gain_91 : decode cX10_gain 91 = .ok (.lreturn, 1) := by decide +kernel
set_option maxRecDepth 20000 in
theorem ggX10_worth_X10_isReady : GoodIn wsX10_worth wsX10_isReady := goodIn_r _ [10, 3, 5, 11, 12, 13, 9, 14, 15, 16, 17, 18, 19, 20, 21, 22, 23, 116, 117, 118, 119, 120, 121, 122, 123, 124, 125, 126, 127, 128, 129, 130, 131, 132, 133, 134, 135] (by decide +kernel) (by decide +kernel)
set_option maxRecDepth 20000 in
theorem gX10_worth_X10_isReady : GoodIn wsX10_worth (wsV RX10 164 RX10 yX10_isReady wsX10_isReady) := goodIn_app (goodIn_of _ (by decide +kernel)) ggX10_worth_X10_isReady
set_option maxRecDepth 20000 in
theorem ggX10_worth_X10_in : GoodIn wsX10_worth wsX10_in := goodIn_r _ [26] (by decide +kernel) (by decide +kernel)
set_option maxRecDepth 20000 in
theorem gX10_worth_X10_in : GoodIn wsX10_worth (va_wsS RX10 121 yX10_in wsX10_in) := goodIn_app (goodIn_of _ (by decide +kernel)) ggX10_worth_X10_in
set_option maxRecDepth 20000 in
theorem ggX10_worth_X10_isState : GoodIn wsX10_worth wsX10_isState := goodIn_r _ [30, 3, 116, 117, 118, 119, 120, 121, 122, 123, 124, 125, 126, 127, 128, 129, 130, 131, 132, 133, 134, 135] (by decide +kernel) (by decide +kernel)
set_option maxRecDepth 20000 in
theorem gX10_worth_X10_isState : GoodIn wsX10_worth (wsV RX10 109 RX10 yX10_isState wsX10_isState) := goodIn_app (goodIn_of _ (by decide +kernel)) ggX10_worth_X10_isState
set_option maxRecDepth 20000 in
theorem ggX10_worth_X10_none : GoodIn wsX10_worth wsX10_none := goodIn_r _ [33] (by decide +kernel) (by decide +kernel)
set_option maxRecDepth 20000 in
theorem gX10_worth_X10_none : GoodIn wsX10_worth (va_wsS RX10 187 yX10_none wsX10_none) := goodIn_app (goodIn_of _ (by decide +kernel)) ggX10_worth_X10_none
set_option maxRecDepth 20000 in
theorem ggX10_worth_X10_valuePolicy : GoodIn wsX10_worth wsX10_valuePolicy := goodIn_r _ [37, 38, 3, 39, 4, 40, 41, 19, 42, 43, 44, 9, 45, 15, 16, 17, 18, 46, 47, 48, 49, 50, 51, 52, 53, 54, 55, 56, 57, 58, 59, 60, 61, 62, 63, 64, 65, 66, 67, 68, 69, 70, 71, 72, 73, 74, 75, 76, 77, 78, 79, 80, 81, 82, 83, 84, 85, 86, 87, 88, 89, 90, 91, 116, 117, 118, 119, 120, 121, 122, 123, 124, 125, 126, 127, 128, 129, 130, 131, 132, 133, 134, 135] (by decide +kernel) (by decide +kernel)
set_option maxRecDepth 20000 in
theorem gX10_worth_X10_valuePolicy : GoodIn wsX10_worth (wsV RX10 168 RX10 yX10_valuePolicy wsX10_valuePolicy) := goodIn_app (goodIn_of _ (by decide +kernel)) ggX10_worth_X10_valuePolicy
set_option maxRecDepth 20000 in
theorem ggX10_worth_X10_copy : GoodIn wsX10_worth wsX10_copy := goodIn_r _ [91, 50, 53, 51, 116, 117, 118, 119, 120, 121, 122, 123, 124, 125, 126, 127, 128, 129, 130, 131, 132, 133, 134, 135] (by decide +kernel) (by decide +kernel)
set_option maxRecDepth 20000 in
theorem gX10_worth_X10_copy : GoodIn wsX10_worth (wsV RX10 90 RX10 yX10_copy wsX10_copy) := goodIn_app (goodIn_of _ (by decide +kernel)) ggX10_worth_X10_copy
set_option maxRecDepth 20000 in
theorem ggX10_worth_X10_belowInto : GoodIn wsX10_worth wsX10_belowInto := goodIn_r _ [95, 38, 88, 89, 90, 9, 91, 50, 53, 51, 54, 55, 56, 57, 52, 58, 59, 60, 61, 116, 117, 118, 119, 120, 121, 122, 123, 124, 125, 126, 127, 128, 129, 130, 131, 132, 133, 134, 135] (by decide +kernel) (by decide +kernel)
set_option maxRecDepth 20000 in
theorem gX10_worth_X10_belowInto : GoodIn wsX10_worth (wsV RX10 171 RX10 yX10_belowInto wsX10_belowInto) := goodIn_app (goodIn_of _ (by decide +kernel)) ggX10_worth_X10_belowInto
set_option maxRecDepth 20000 in
theorem ggX10_worth_X10_tell : GoodIn wsX10_worth wsX10_tell := goodIn_r _ [99, 100, 50, 53, 101, 102, 88, 89, 90, 9, 91, 51, 103, 104, 105, 106, 107, 108, 109, 110, 111, 58, 59, 60, 61, 80, 81, 82, 83, 70, 71, 72, 73, 74, 75, 76, 77, 78, 79, 112, 113, 114, 115, 46, 47, 48, 49, 52, 54, 55, 56, 57, 84, 85, 86, 87, 116, 117, 118, 119, 120, 121, 122, 123, 124, 125, 126, 127, 128, 129, 130, 131, 132, 133, 134, 135] (by decide +kernel) (by decide +kernel)
set_option maxRecDepth 20000 in
theorem gX10_worth_X10_tell : GoodIn wsX10_worth (wsV RX10 190 RX10 yX10_tell wsX10_tell) := goodIn_app (goodIn_of _ (by decide +kernel)) ggX10_worth_X10_tell
theorem dX10_worth_0 : decode cX10_worth 0 = .ok (.aload_n 0, 1) := by decide +kernel
theorem dX10_worth_1 : decode cX10_worth 1 = .ok (.iconst 0, 1) := by decide +kernel
theorem dX10_worth_2 : decode cX10_worth 2 = .ok (.putfield 56, 3) := by decide +kernel
theorem dX10_worth_5 : decode cX10_worth 5 = .ok (.aload_n 0, 1) := by decide +kernel
theorem dX10_worth_6 : decode cX10_worth 6 = .ok (.invokevirtual 164, 3) := by decide +kernel
theorem dX10_worth_9 : decode cX10_worth 9 = .ok (.ifCond .eq 23, 3) := by decide +kernel
theorem dX10_worth_12 : decode cX10_worth 12 = .ok (.iload_n 1, 1) := by decide +kernel
theorem dX10_worth_13 : decode cX10_worth 13 = .ok (.i2l, 1) := by decide +kernel
theorem dX10_worth_14 : decode cX10_worth 14 = .ok (.lconst 0, 1) := by decide +kernel
theorem dX10_worth_15 : decode cX10_worth 15 = .ok (.ldc2_w 194, 3) := by decide +kernel
theorem dX10_worth_18 : decode cX10_worth 18 = .ok (.invokestatic 121, 3) := by decide +kernel
theorem dX10_worth_21 : decode cX10_worth 21 = .ok (.ifCond .eq 11, 3) := by decide +kernel
theorem dX10_worth_24 : decode cX10_worth 24 = .ok (.aload_n 0, 1) := by decide +kernel
theorem dX10_worth_25 : decode cX10_worth 25 = .ok (.iload_n 2, 1) := by decide +kernel
theorem dX10_worth_26 : decode cX10_worth 26 = .ok (.invokevirtual 109, 3) := by decide +kernel
theorem dX10_worth_29 : decode cX10_worth 29 = .ok (.ifCond .ne 9, 3) := by decide +kernel
theorem dX10_worth_32 : decode cX10_worth 32 = .ok (.iload_n 3, 1) := by decide +kernel
theorem dX10_worth_33 : decode cX10_worth 33 = .ok (.invokestatic 187, 3) := by decide +kernel
theorem dX10_worth_36 : decode cX10_worth 36 = .ok (.i2l, 1) := by decide +kernel
theorem dX10_worth_37 : decode cX10_worth 37 = .ok (.lreturn, 1) := by decide +kernel
theorem dX10_worth_38 : decode cX10_worth 38 = .ok (.iconst 0, 1) := by decide +kernel
theorem dX10_worth_39 : decode cX10_worth 39 = .ok (.istore 4, 2) := by decide +kernel
theorem dX10_worth_41 : decode cX10_worth 41 = .ok (.iload 4, 2) := by decide +kernel
theorem dX10_worth_43 : decode cX10_worth 43 = .ok (.aload_n 0, 1) := by decide +kernel
theorem dX10_worth_44 : decode cX10_worth 44 = .ok (.getfield 103, 3) := by decide +kernel
theorem dX10_worth_47 : decode cX10_worth 47 = .ok (.if_icmp .ge 40, 3) := by decide +kernel
theorem dX10_worth_50 : decode cX10_worth 50 = .ok (.aload_n 0, 1) := by decide +kernel
theorem dX10_worth_51 : decode cX10_worth 51 = .ok (.getfield 32, 3) := by decide +kernel
theorem dX10_worth_54 : decode cX10_worth 54 = .ok (.iload 4, 2) := by decide +kernel
theorem dX10_worth_56 : decode cX10_worth 56 = .ok (.iload_n 1, 1) := by decide +kernel
theorem dX10_worth_57 : decode cX10_worth 57 = .ok (.aload_n 0, 1) := by decide +kernel
theorem dX10_worth_58 : decode cX10_worth 58 = .ok (.getfield 7, 3) := by decide +kernel
theorem dX10_worth_61 : decode cX10_worth 61 = .ok (.iload 4, 2) := by decide +kernel
theorem dX10_worth_63 : decode cX10_worth 63 = .ok (.iaload, 1) := by decide +kernel
theorem dX10_worth_64 : decode cX10_worth 64 = .ok (.if_icmp .ge 7, 3) := by decide +kernel
theorem dX10_worth_67 : decode cX10_worth 67 = .ok (.iload_n 1, 1) := by decide +kernel
theorem dX10_worth_68 : decode cX10_worth 68 = .ok (.goto 12, 3) := by decide +kernel
theorem dX10_worth_71 : decode cX10_worth 71 = .ok (.aload_n 0, 1) := by decide +kernel
theorem dX10_worth_72 : decode cX10_worth 72 = .ok (.getfield 7, 3) := by decide +kernel
theorem dX10_worth_75 : decode cX10_worth 75 = .ok (.iload 4, 2) := by decide +kernel
theorem dX10_worth_77 : decode cX10_worth 77 = .ok (.iaload, 1) := by decide +kernel
theorem dX10_worth_78 : decode cX10_worth 78 = .ok (.iconst 1, 1) := by decide +kernel
theorem dX10_worth_79 : decode cX10_worth 79 = .ok (.isub, 1) := by decide +kernel
theorem dX10_worth_80 : decode cX10_worth 80 = .ok (.iastore, 1) := by decide +kernel
theorem dX10_worth_81 : decode cX10_worth 81 = .ok (.iinc 4 1, 3) := by decide +kernel
theorem dX10_worth_84 : decode cX10_worth 84 = .ok (.goto (-43), 3) := by decide +kernel
theorem dX10_worth_87 : decode cX10_worth 87 = .ok (.aload_n 0, 1) := by decide +kernel
theorem dX10_worth_88 : decode cX10_worth 88 = .ok (.invokevirtual 168, 3) := by decide +kernel
theorem dX10_worth_91 : decode cX10_worth 91 = .ok (.aload_n 0, 1) := by decide +kernel
theorem dX10_worth_92 : decode cX10_worth 92 = .ok (.bipush 42, 2) := by decide +kernel
theorem dX10_worth_94 : decode cX10_worth 94 = .ok (.iload_n 2, 1) := by decide +kernel
theorem dX10_worth_95 : decode cX10_worth 95 = .ok (.iadd, 1) := by decide +kernel
theorem dX10_worth_96 : decode cX10_worth 96 = .ok (.bipush 53, 2) := by decide +kernel
theorem dX10_worth_98 : decode cX10_worth 98 = .ok (.invokevirtual 90, 3) := by decide +kernel
theorem dX10_worth_101 : decode cX10_worth 101 = .ok (.aload_n 0, 1) := by decide +kernel
theorem dX10_worth_102 : decode cX10_worth 102 = .ok (.bipush 54, 2) := by decide +kernel
theorem dX10_worth_104 : decode cX10_worth 104 = .ok (.invokevirtual 171, 3) := by decide +kernel
theorem dX10_worth_107 : decode cX10_worth 107 = .ok (.aload_n 0, 1) := by decide +kernel
theorem dX10_worth_108 : decode cX10_worth 108 = .ok (.iload_n 3, 1) := by decide +kernel
theorem dX10_worth_109 : decode cX10_worth 109 = .ok (.invokevirtual 190, 3) := by decide +kernel
theorem dX10_worth_112 : decode cX10_worth 112 = .ok (.lreturn, 1) := by decide +kernel
theorem dX10_factor_0 : decode cX10_factor 0 = .ok (.iload_n 1, 1) := by decide +kernel
theorem dX10_factor_1 : decode cX10_factor 1 = .ok (.istore_n 2, 1) := by decide +kernel
theorem dX10_factor_2 : decode cX10_factor 2 = .ok (.iconst 0, 1) := by decide +kernel
theorem dX10_factor_3 : decode cX10_factor 3 = .ok (.istore_n 3, 1) := by decide +kernel
theorem dX10_factor_4 : decode cX10_factor 4 = .ok (.iload_n 3, 1) := by decide +kernel
theorem dX10_factor_5 : decode cX10_factor 5 = .ok (.bipush 30, 2) := by decide +kernel
theorem dX10_factor_7 : decode cX10_factor 7 = .ok (.if_icmp .ge 49, 3) := by decide +kernel
theorem dX10_factor_10 : decode cX10_factor 10 = .ok (.aload_n 0, 1) := by decide +kernel
theorem dX10_factor_11 : decode cX10_factor 11 = .ok (.getfield 50, 3) := by decide +kernel
theorem dX10_factor_14 : decode cX10_factor 14 = .ok (.iload_n 3, 1) := by decide +kernel
theorem dX10_factor_15 : decode cX10_factor 15 = .ok (.iconst 0, 1) := by decide +kernel
theorem dX10_factor_16 : decode cX10_factor 16 = .ok (.iastore, 1) := by decide +kernel
theorem dX10_factor_17 : decode cX10_factor 17 = .ok (.iload_n 2, 1) := by decide +kernel
theorem dX10_factor_18 : decode cX10_factor 18 = .ok (.aload_n 0, 1) := by decide +kernel
theorem dX10_factor_19 : decode cX10_factor 19 = .ok (.getfield 47, 3) := by decide +kernel
theorem dX10_factor_22 : decode cX10_factor 22 = .ok (.iload_n 3, 1) := by decide +kernel
theorem dX10_factor_23 : decode cX10_factor 23 = .ok (.iaload, 1) := by decide +kernel
theorem dX10_factor_24 : decode cX10_factor 24 = .ok (.irem, 1) := by decide +kernel
theorem dX10_factor_25 : decode cX10_factor 25 = .ok (.ifCond .ne 25, 3) := by decide +kernel
theorem dX10_factor_28 : decode cX10_factor 28 = .ok (.iload_n 2, 1) := by decide +kernel
theorem dX10_factor_29 : decode cX10_factor 29 = .ok (.aload_n 0, 1) := by decide +kernel
theorem dX10_factor_30 : decode cX10_factor 30 = .ok (.getfield 47, 3) := by decide +kernel
theorem dX10_factor_33 : decode cX10_factor 33 = .ok (.iload_n 3, 1) := by decide +kernel
theorem dX10_factor_34 : decode cX10_factor 34 = .ok (.iaload, 1) := by decide +kernel
theorem dX10_factor_35 : decode cX10_factor 35 = .ok (.idiv, 1) := by decide +kernel
theorem dX10_factor_36 : decode cX10_factor 36 = .ok (.istore_n 2, 1) := by decide +kernel
theorem dX10_factor_37 : decode cX10_factor 37 = .ok (.aload_n 0, 1) := by decide +kernel
theorem dX10_factor_38 : decode cX10_factor 38 = .ok (.getfield 50, 3) := by decide +kernel
theorem dX10_factor_41 : decode cX10_factor 41 = .ok (.iload_n 3, 1) := by decide +kernel
theorem dX10_factor_42 : decode cX10_factor 42 = .ok (.dup2, 1) := by decide +kernel
theorem dX10_factor_43 : decode cX10_factor 43 = .ok (.iaload, 1) := by decide +kernel
theorem dX10_factor_44 : decode cX10_factor 44 = .ok (.iconst 1, 1) := by decide +kernel
theorem dX10_factor_45 : decode cX10_factor 45 = .ok (.iadd, 1) := by decide +kernel
theorem dX10_factor_46 : decode cX10_factor 46 = .ok (.iastore, 1) := by decide +kernel
theorem dX10_factor_47 : decode cX10_factor 47 = .ok (.goto (-30), 3) := by decide +kernel
theorem dX10_factor_50 : decode cX10_factor 50 = .ok (.iinc 3 1, 3) := by decide +kernel
theorem dX10_factor_53 : decode cX10_factor 53 = .ok (.goto (-49), 3) := by decide +kernel
theorem dX10_factor_56 : decode cX10_factor 56 = .ok (.return_, 1) := by decide +kernel
set_option maxRecDepth 20000 in
theorem ggX10_go_X10_setSmall : GoodIn wsX10_go wsX10_setSmall := goodIn_r _ [12, 13, 14, 15, 16, 75, 76, 77, 78, 79, 80, 81, 82, 83, 84, 85, 86, 87, 88, 89, 90, 91, 92, 93, 94] (by decide +kernel) (by decide +kernel)
set_option maxRecDepth 20000 in
theorem gX10_go_X10_setSmall : GoodIn wsX10_go (wsV RX10 76 RX10 yX10_setSmall wsX10_setSmall) := goodIn_app (goodIn_of _ (by decide +kernel)) ggX10_go_X10_setSmall
set_option maxRecDepth 20000 in
theorem ggX10_go_X10_greatest : GoodIn wsX10_go wsX10_greatest := goodIn_r _ [20, 21, 22, 23, 24, 11, 25, 4, 26, 27, 28, 29, 1, 30, 31, 7, 32, 8, 9, 10, 12, 13, 14, 15, 16, 33, 34, 35, 36, 37, 38, 39, 40, 41, 42, 43, 44, 45, 46, 47, 48, 49, 50, 51, 52, 53, 54, 55, 56, 57, 58, 59, 60, 61, 62, 63, 64, 65, 66, 75, 76, 77, 78, 79, 80, 81, 82, 83, 84, 85, 86, 87, 88, 89, 90, 91, 92, 93, 94] (by decide +kernel) (by decide +kernel)
set_option maxRecDepth 20000 in
theorem gX10_go_X10_greatest : GoodIn wsX10_go (wsV RX10 175 RX10 yX10_greatest wsX10_greatest) := goodIn_app (goodIn_of _ (by decide +kernel)) ggX10_go_X10_greatest
set_option maxRecDepth 20000 in
theorem ggX10_go_X10_gainInto : GoodIn wsX10_go wsX10_gainInto := goodIn_r _ [29, 1, 30, 31, 4, 7, 32, 8, 9, 10, 11, 12, 13, 14, 15, 16, 33, 34, 35, 36, 37, 38, 39, 40, 41, 42, 43, 44, 45, 46, 47, 48, 49, 50, 51, 52, 53, 54, 55, 56, 57, 58, 59, 60, 61, 62, 75, 76, 77, 78, 79, 80, 81, 82, 83, 84, 85, 86, 87, 88, 89, 90, 91, 92, 93, 94] (by decide +kernel) (by decide +kernel)
set_option maxRecDepth 20000 in
theorem gX10_go_X10_gainInto : GoodIn wsX10_go (wsV RX10 153 RX10 yX10_gainInto wsX10_gainInto) := goodIn_app (goodIn_of _ (by decide +kernel)) ggX10_go_X10_gainInto
set_option maxRecDepth 20000 in
theorem ggX10_go_X10_sumOf : GoodIn wsX10_go wsX10_sumOf := goodIn_r _ [62, 30, 75, 76, 77, 78, 79, 80, 81, 82, 83, 84, 85, 86, 87, 88, 89, 90, 91, 92, 93, 94] (by decide +kernel) (by decide +kernel)
set_option maxRecDepth 20000 in
theorem gX10_go_X10_sumOf : GoodIn wsX10_go (wsV RX10 127 RX10 yX10_sumOf wsX10_sumOf) := goodIn_app (goodIn_of _ (by decide +kernel)) ggX10_go_X10_sumOf
set_option maxRecDepth 20000 in
theorem ggX10_go_X10_factor : GoodIn wsX10_go wsX10_factor := goodIn_r _ [70, 5, 6, 75, 76, 77, 78, 79, 80, 81, 82, 83, 84, 85, 86, 87, 88, 89, 90, 91, 92, 93, 94] (by decide +kernel) (by decide +kernel)
set_option maxRecDepth 20000 in
theorem gX10_go_X10_factor : GoodIn wsX10_go (wsV RX10 196 RX10 yX10_factor wsX10_factor) := goodIn_app (goodIn_of _ (by decide +kernel)) ggX10_go_X10_factor
set_option maxRecDepth 20000 in
theorem ggX10_go_X10_copy : GoodIn wsX10_go wsX10_copy := goodIn_r _ [36, 13, 16, 14, 75, 76, 77, 78, 79, 80, 81, 82, 83, 84, 85, 86, 87, 88, 89, 90, 91, 92, 93, 94] (by decide +kernel) (by decide +kernel)
set_option maxRecDepth 20000 in
theorem gX10_go_X10_copy : GoodIn wsX10_go (wsV RX10 90 RX10 yX10_copy wsX10_copy) := goodIn_app (goodIn_of _ (by decide +kernel)) ggX10_go_X10_copy
set_option maxRecDepth 20000 in
theorem ggX10_go_X10_raise : GoodIn wsX10_go wsX10_raise := goodIn_r _ [74, 37, 38, 39, 11, 40, 16, 14, 15, 13, 41, 42, 43, 44, 75, 76, 77, 78, 79, 80, 81, 82, 83, 84, 85, 86, 87, 88, 89, 90, 91, 92, 93, 94] (by decide +kernel) (by decide +kernel)
set_option maxRecDepth 20000 in
theorem gX10_go_X10_raise : GoodIn wsX10_go (wsV RX10 199 RX10 yX10_raise wsX10_raise) := goodIn_app (goodIn_of _ (by decide +kernel)) ggX10_go_X10_raise
set_option maxRecDepth 20000 in
theorem ggX10_go_X10_times : GoodIn wsX10_go wsX10_times := goodIn_r _ [40, 16, 14, 15, 13, 41, 42, 43, 11, 44, 75, 76, 77, 78, 79, 80, 81, 82, 83, 84, 85, 86, 87, 88, 89, 90, 91, 92, 93, 94] (by decide +kernel) (by decide +kernel)
set_option maxRecDepth 20000 in
theorem gX10_go_X10_times : GoodIn wsX10_go (wsV RX10 80 RX10 yX10_times wsX10_times) := goodIn_app (goodIn_of _ (by decide +kernel)) ggX10_go_X10_times
theorem dX10_go_0 : decode cX10_go 0 = .ok (.aload_n 0, 1) := by decide +kernel
theorem dX10_go_1 : decode cX10_go 1 = .ok (.bipush 67, 2) := by decide +kernel
theorem dX10_go_3 : decode cX10_go 3 = .ok (.lconst 1, 1) := by decide +kernel
theorem dX10_go_4 : decode cX10_go 4 = .ok (.invokevirtual 76, 3) := by decide +kernel
theorem dX10_go_7 : decode cX10_go 7 = .ok (.iconst 0, 1) := by decide +kernel
theorem dX10_go_8 : decode cX10_go 8 = .ok (.istore_n 2, 1) := by decide +kernel
theorem dX10_go_9 : decode cX10_go 9 = .ok (.iload_n 2, 1) := by decide +kernel
theorem dX10_go_10 : decode cX10_go 10 = .ok (.aload_n 0, 1) := by decide +kernel
theorem dX10_go_11 : decode cX10_go 11 = .ok (.getfield 103, 3) := by decide +kernel
theorem dX10_go_14 : decode cX10_go 14 = .ok (.if_icmp .ge 18, 3) := by decide +kernel
theorem dX10_go_17 : decode cX10_go 17 = .ok (.aload_n 0, 1) := by decide +kernel
theorem dX10_go_18 : decode cX10_go 18 = .ok (.bipush 55, 2) := by decide +kernel
theorem dX10_go_20 : decode cX10_go 20 = .ok (.iload_n 2, 1) := by decide +kernel
theorem dX10_go_21 : decode cX10_go 21 = .ok (.iadd, 1) := by decide +kernel
theorem dX10_go_22 : decode cX10_go 22 = .ok (.lconst 0, 1) := by decide +kernel
theorem dX10_go_23 : decode cX10_go 23 = .ok (.invokevirtual 76, 3) := by decide +kernel
theorem dX10_go_26 : decode cX10_go 26 = .ok (.iinc 2 1, 3) := by decide +kernel
theorem dX10_go_29 : decode cX10_go 29 = .ok (.goto (-20), 3) := by decide +kernel
theorem dX10_go_32 : decode cX10_go 32 = .ok (.iconst 0, 1) := by decide +kernel
theorem dX10_go_33 : decode cX10_go 33 = .ok (.istore_n 2, 1) := by decide +kernel
theorem dX10_go_34 : decode cX10_go 34 = .ok (.iload_n 2, 1) := by decide +kernel
theorem dX10_go_35 : decode cX10_go 35 = .ok (.iload_n 1, 1) := by decide +kernel
theorem dX10_go_36 : decode cX10_go 36 = .ok (.if_icmp .ge 308, 3) := by decide +kernel
theorem dX10_go_39 : decode cX10_go 39 = .ok (.iconst 0, 1) := by decide +kernel
theorem dX10_go_40 : decode cX10_go 40 = .ok (.istore_n 3, 1) := by decide +kernel
theorem dX10_go_41 : decode cX10_go 41 = .ok (.iload_n 3, 1) := by decide +kernel
theorem dX10_go_42 : decode cX10_go 42 = .ok (.bipush 30, 2) := by decide +kernel
theorem dX10_go_44 : decode cX10_go 44 = .ok (.if_icmp .ge 16, 3) := by decide +kernel
theorem dX10_go_47 : decode cX10_go 47 = .ok (.aload_n 0, 1) := by decide +kernel
theorem dX10_go_48 : decode cX10_go 48 = .ok (.getfield 53, 3) := by decide +kernel
theorem dX10_go_51 : decode cX10_go 51 = .ok (.iload_n 3, 1) := by decide +kernel
theorem dX10_go_52 : decode cX10_go 52 = .ok (.iconst 0, 1) := by decide +kernel
theorem dX10_go_53 : decode cX10_go 53 = .ok (.iastore, 1) := by decide +kernel
theorem dX10_go_54 : decode cX10_go 54 = .ok (.iinc 3 1, 3) := by decide +kernel
theorem dX10_go_57 : decode cX10_go 57 = .ok (.goto (-16), 3) := by decide +kernel
theorem dX10_go_60 : decode cX10_go 60 = .ok (.iconst 0, 1) := by decide +kernel
theorem dX10_go_61 : decode cX10_go 61 = .ok (.istore_n 3, 1) := by decide +kernel
theorem dX10_go_62 : decode cX10_go 62 = .ok (.iload_n 3, 1) := by decide +kernel
theorem dX10_go_63 : decode cX10_go 63 = .ok (.aload_n 0, 1) := by decide +kernel
theorem dX10_go_64 : decode cX10_go 64 = .ok (.getfield 103, 3) := by decide +kernel
theorem dX10_go_67 : decode cX10_go 67 = .ok (.if_icmp .ge 125, 3) := by decide +kernel
theorem dX10_go_70 : decode cX10_go 70 = .ok (.aload_n 0, 1) := by decide +kernel
theorem dX10_go_71 : decode cX10_go 71 = .ok (.getfield 32, 3) := by decide +kernel
theorem dX10_go_74 : decode cX10_go 74 = .ok (.iload_n 3, 1) := by decide +kernel
theorem dX10_go_75 : decode cX10_go 75 = .ok (.aload_n 0, 1) := by decide +kernel
theorem dX10_go_76 : decode cX10_go 76 = .ok (.iload_n 3, 1) := by decide +kernel
theorem dX10_go_77 : decode cX10_go 77 = .ok (.bipush 55, 2) := by decide +kernel
theorem dX10_go_79 : decode cX10_go 79 = .ok (.bipush 67, 2) := by decide +kernel
theorem dX10_go_81 : decode cX10_go 81 = .ok (.invokevirtual 175, 3) := by decide +kernel
theorem dX10_go_84 : decode cX10_go 84 = .ok (.iastore, 1) := by decide +kernel
theorem dX10_go_85 : decode cX10_go 85 = .ok (.iconst 4, 1) := by decide +kernel
theorem dX10_go_86 : decode cX10_go 86 = .ok (.iload_n 3, 1) := by decide +kernel
theorem dX10_go_87 : decode cX10_go 87 = .ok (.imul, 1) := by decide +kernel
theorem dX10_go_88 : decode cX10_go 88 = .ok (.aload_n 0, 1) := by decide +kernel
theorem dX10_go_89 : decode cX10_go 89 = .ok (.getfield 32, 3) := by decide +kernel
theorem dX10_go_92 : decode cX10_go 92 = .ok (.iload_n 3, 1) := by decide +kernel
theorem dX10_go_93 : decode cX10_go 93 = .ok (.iaload, 1) := by decide +kernel
theorem dX10_go_94 : decode cX10_go 94 = .ok (.iadd, 1) := by decide +kernel
theorem dX10_go_95 : decode cX10_go 95 = .ok (.istore 4, 2) := by decide +kernel
theorem dX10_go_97 : decode cX10_go 97 = .ok (.aload_n 0, 1) := by decide +kernel
theorem dX10_go_98 : decode cX10_go 98 = .ok (.iload 4, 2) := by decide +kernel
theorem dX10_go_100 : decode cX10_go 100 = .ok (.bipush 55, 2) := by decide +kernel
theorem dX10_go_102 : decode cX10_go 102 = .ok (.bipush 67, 2) := by decide +kernel
theorem dX10_go_104 : decode cX10_go 104 = .ok (.bipush 61, 2) := by decide +kernel
theorem dX10_go_106 : decode cX10_go 106 = .ok (.iload_n 3, 1) := by decide +kernel
theorem dX10_go_107 : decode cX10_go 107 = .ok (.iadd, 1) := by decide +kernel
theorem dX10_go_108 : decode cX10_go 108 = .ok (.invokevirtual 153, 3) := by decide +kernel
theorem dX10_go_111 : decode cX10_go 111 = .ok (.aload_n 0, 1) := by decide +kernel
theorem dX10_go_112 : decode cX10_go 112 = .ok (.aload_n 0, 1) := by decide +kernel
theorem dX10_go_113 : decode cX10_go 113 = .ok (.getfield 16, 3) := by decide +kernel
theorem dX10_go_116 : decode cX10_go 116 = .ok (.iload 4, 2) := by decide +kernel
theorem dX10_go_118 : decode cX10_go 118 = .ok (.iaload, 1) := by decide +kernel
theorem dX10_go_119 : decode cX10_go 119 = .ok (.aload_n 0, 1) := by decide +kernel
theorem dX10_go_120 : decode cX10_go 120 = .ok (.iload 4, 2) := by decide +kernel
theorem dX10_go_122 : decode cX10_go 122 = .ok (.invokevirtual 127, 3) := by decide +kernel
theorem dX10_go_125 : decode cX10_go 125 = .ok (.imul, 1) := by decide +kernel
theorem dX10_go_126 : decode cX10_go 126 = .ok (.invokevirtual 196, 3) := by decide +kernel
theorem dX10_go_129 : decode cX10_go 129 = .ok (.iconst 0, 1) := by decide +kernel
theorem dX10_go_130 : decode cX10_go 130 = .ok (.istore 5, 2) := by decide +kernel
theorem dX10_go_132 : decode cX10_go 132 = .ok (.iload 5, 2) := by decide +kernel
theorem dX10_go_134 : decode cX10_go 134 = .ok (.bipush 30, 2) := by decide +kernel
theorem dX10_go_136 : decode cX10_go 136 = .ok (.if_icmp .ge 50, 3) := by decide +kernel
theorem dX10_go_139 : decode cX10_go 139 = .ok (.aload_n 0, 1) := by decide +kernel
theorem dX10_go_140 : decode cX10_go 140 = .ok (.getfield 53, 3) := by decide +kernel
theorem dX10_go_143 : decode cX10_go 143 = .ok (.iload 5, 2) := by decide +kernel
theorem dX10_go_145 : decode cX10_go 145 = .ok (.aload_n 0, 1) := by decide +kernel
theorem dX10_go_146 : decode cX10_go 146 = .ok (.getfield 50, 3) := by decide +kernel
theorem dX10_go_149 : decode cX10_go 149 = .ok (.iload 5, 2) := by decide +kernel
theorem dX10_go_151 : decode cX10_go 151 = .ok (.iaload, 1) := by decide +kernel
theorem dX10_go_152 : decode cX10_go 152 = .ok (.aload_n 0, 1) := by decide +kernel
theorem dX10_go_153 : decode cX10_go 153 = .ok (.getfield 53, 3) := by decide +kernel
theorem dX10_go_156 : decode cX10_go 156 = .ok (.iload 5, 2) := by decide +kernel
theorem dX10_go_158 : decode cX10_go 158 = .ok (.iaload, 1) := by decide +kernel
theorem dX10_go_159 : decode cX10_go 159 = .ok (.if_icmp .le 13, 3) := by decide +kernel
theorem dX10_go_162 : decode cX10_go 162 = .ok (.aload_n 0, 1) := by decide +kernel
theorem dX10_go_163 : decode cX10_go 163 = .ok (.getfield 50, 3) := by decide +kernel
theorem dX10_go_166 : decode cX10_go 166 = .ok (.iload 5, 2) := by decide +kernel
theorem dX10_go_168 : decode cX10_go 168 = .ok (.iaload, 1) := by decide +kernel
theorem dX10_go_169 : decode cX10_go 169 = .ok (.goto 10, 3) := by decide +kernel
theorem dX10_go_172 : decode cX10_go 172 = .ok (.aload_n 0, 1) := by decide +kernel
theorem dX10_go_173 : decode cX10_go 173 = .ok (.getfield 53, 3) := by decide +kernel
theorem dX10_go_176 : decode cX10_go 176 = .ok (.iload 5, 2) := by decide +kernel
theorem dX10_go_178 : decode cX10_go 178 = .ok (.iaload, 1) := by decide +kernel
theorem dX10_go_179 : decode cX10_go 179 = .ok (.iastore, 1) := by decide +kernel
theorem dX10_go_180 : decode cX10_go 180 = .ok (.iinc 5 1, 3) := by decide +kernel
theorem dX10_go_183 : decode cX10_go 183 = .ok (.goto (-51), 3) := by decide +kernel
theorem dX10_go_186 : decode cX10_go 186 = .ok (.iinc 3 1, 3) := by decide +kernel
theorem dX10_go_189 : decode cX10_go 189 = .ok (.goto (-127), 3) := by decide +kernel
theorem dX10_go_192 : decode cX10_go 192 = .ok (.iconst 0, 1) := by decide +kernel
theorem dX10_go_193 : decode cX10_go 193 = .ok (.istore_n 3, 1) := by decide +kernel
theorem dX10_go_194 : decode cX10_go 194 = .ok (.iload_n 3, 1) := by decide +kernel
theorem dX10_go_195 : decode cX10_go 195 = .ok (.aload_n 0, 1) := by decide +kernel
theorem dX10_go_196 : decode cX10_go 196 = .ok (.getfield 103, 3) := by decide +kernel
theorem dX10_go_199 : decode cX10_go 199 = .ok (.if_icmp .ge 97, 3) := by decide +kernel
theorem dX10_go_202 : decode cX10_go 202 = .ok (.iconst 4, 1) := by decide +kernel
theorem dX10_go_203 : decode cX10_go 203 = .ok (.iload_n 3, 1) := by decide +kernel
theorem dX10_go_204 : decode cX10_go 204 = .ok (.imul, 1) := by decide +kernel
theorem dX10_go_205 : decode cX10_go 205 = .ok (.aload_n 0, 1) := by decide +kernel
theorem dX10_go_206 : decode cX10_go 206 = .ok (.getfield 32, 3) := by decide +kernel
theorem dX10_go_209 : decode cX10_go 209 = .ok (.iload_n 3, 1) := by decide +kernel
theorem dX10_go_210 : decode cX10_go 210 = .ok (.iaload, 1) := by decide +kernel
theorem dX10_go_211 : decode cX10_go 211 = .ok (.iadd, 1) := by decide +kernel
theorem dX10_go_212 : decode cX10_go 212 = .ok (.istore 4, 2) := by decide +kernel
theorem dX10_go_214 : decode cX10_go 214 = .ok (.aload_n 0, 1) := by decide +kernel
theorem dX10_go_215 : decode cX10_go 215 = .ok (.aload_n 0, 1) := by decide +kernel
theorem dX10_go_216 : decode cX10_go 216 = .ok (.getfield 16, 3) := by decide +kernel
theorem dX10_go_219 : decode cX10_go 219 = .ok (.iload 4, 2) := by decide +kernel
theorem dX10_go_221 : decode cX10_go 221 = .ok (.iaload, 1) := by decide +kernel
theorem dX10_go_222 : decode cX10_go 222 = .ok (.aload_n 0, 1) := by decide +kernel
theorem dX10_go_223 : decode cX10_go 223 = .ok (.iload 4, 2) := by decide +kernel
theorem dX10_go_225 : decode cX10_go 225 = .ok (.invokevirtual 127, 3) := by decide +kernel
theorem dX10_go_228 : decode cX10_go 228 = .ok (.imul, 1) := by decide +kernel
theorem dX10_go_229 : decode cX10_go 229 = .ok (.invokevirtual 196, 3) := by decide +kernel
theorem dX10_go_232 : decode cX10_go 232 = .ok (.aload_n 0, 1) := by decide +kernel
theorem dX10_go_233 : decode cX10_go 233 = .ok (.bipush 61, 2) := by decide +kernel
theorem dX10_go_235 : decode cX10_go 235 = .ok (.iload_n 3, 1) := by decide +kernel
theorem dX10_go_236 : decode cX10_go 236 = .ok (.iadd, 1) := by decide +kernel
theorem dX10_go_237 : decode cX10_go 237 = .ok (.bipush 55, 2) := by decide +kernel
theorem dX10_go_239 : decode cX10_go 239 = .ok (.iload_n 3, 1) := by decide +kernel
theorem dX10_go_240 : decode cX10_go 240 = .ok (.iadd, 1) := by decide +kernel
theorem dX10_go_241 : decode cX10_go 241 = .ok (.invokevirtual 90, 3) := by decide +kernel
theorem dX10_go_244 : decode cX10_go 244 = .ok (.iconst 0, 1) := by decide +kernel
theorem dX10_go_245 : decode cX10_go 245 = .ok (.istore 5, 2) := by decide +kernel
theorem dX10_go_247 : decode cX10_go 247 = .ok (.iload 5, 2) := by decide +kernel
theorem dX10_go_249 : decode cX10_go 249 = .ok (.bipush 30, 2) := by decide +kernel
theorem dX10_go_251 : decode cX10_go 251 = .ok (.if_icmp .ge 39, 3) := by decide +kernel
theorem dX10_go_254 : decode cX10_go 254 = .ok (.aload_n 0, 1) := by decide +kernel
theorem dX10_go_255 : decode cX10_go 255 = .ok (.bipush 55, 2) := by decide +kernel
theorem dX10_go_257 : decode cX10_go 257 = .ok (.iload_n 3, 1) := by decide +kernel
theorem dX10_go_258 : decode cX10_go 258 = .ok (.iadd, 1) := by decide +kernel
theorem dX10_go_259 : decode cX10_go 259 = .ok (.aload_n 0, 1) := by decide +kernel
theorem dX10_go_260 : decode cX10_go 260 = .ok (.getfield 47, 3) := by decide +kernel
theorem dX10_go_263 : decode cX10_go 263 = .ok (.iload 5, 2) := by decide +kernel
theorem dX10_go_265 : decode cX10_go 265 = .ok (.iaload, 1) := by decide +kernel
theorem dX10_go_266 : decode cX10_go 266 = .ok (.aload_n 0, 1) := by decide +kernel
theorem dX10_go_267 : decode cX10_go 267 = .ok (.getfield 53, 3) := by decide +kernel
theorem dX10_go_270 : decode cX10_go 270 = .ok (.iload 5, 2) := by decide +kernel
theorem dX10_go_272 : decode cX10_go 272 = .ok (.iaload, 1) := by decide +kernel
theorem dX10_go_273 : decode cX10_go 273 = .ok (.aload_n 0, 1) := by decide +kernel
theorem dX10_go_274 : decode cX10_go 274 = .ok (.getfield 50, 3) := by decide +kernel
theorem dX10_go_277 : decode cX10_go 277 = .ok (.iload 5, 2) := by decide +kernel
theorem dX10_go_279 : decode cX10_go 279 = .ok (.iaload, 1) := by decide +kernel
theorem dX10_go_280 : decode cX10_go 280 = .ok (.isub, 1) := by decide +kernel
theorem dX10_go_281 : decode cX10_go 281 = .ok (.invokevirtual 199, 3) := by decide +kernel
theorem dX10_go_284 : decode cX10_go 284 = .ok (.iinc 5 1, 3) := by decide +kernel
theorem dX10_go_287 : decode cX10_go 287 = .ok (.goto (-40), 3) := by decide +kernel
theorem dX10_go_290 : decode cX10_go 290 = .ok (.iinc 3 1, 3) := by decide +kernel
theorem dX10_go_293 : decode cX10_go 293 = .ok (.goto (-99), 3) := by decide +kernel
theorem dX10_go_296 : decode cX10_go 296 = .ok (.aload_n 0, 1) := by decide +kernel
theorem dX10_go_297 : decode cX10_go 297 = .ok (.bipush 67, 2) := by decide +kernel
theorem dX10_go_299 : decode cX10_go 299 = .ok (.aload_n 0, 1) := by decide +kernel
theorem dX10_go_300 : decode cX10_go 300 = .ok (.getfield 26, 3) := by decide +kernel
theorem dX10_go_303 : decode cX10_go 303 = .ok (.invokevirtual 80, 3) := by decide +kernel
theorem dX10_go_306 : decode cX10_go 306 = .ok (.iconst 0, 1) := by decide +kernel
theorem dX10_go_307 : decode cX10_go 307 = .ok (.istore_n 3, 1) := by decide +kernel
theorem dX10_go_308 : decode cX10_go 308 = .ok (.iload_n 3, 1) := by decide +kernel
theorem dX10_go_309 : decode cX10_go 309 = .ok (.bipush 30, 2) := by decide +kernel
theorem dX10_go_311 : decode cX10_go 311 = .ok (.if_icmp .ge 27, 3) := by decide +kernel
theorem dX10_go_314 : decode cX10_go 314 = .ok (.aload_n 0, 1) := by decide +kernel
theorem dX10_go_315 : decode cX10_go 315 = .ok (.bipush 67, 2) := by decide +kernel
theorem dX10_go_317 : decode cX10_go 317 = .ok (.aload_n 0, 1) := by decide +kernel
theorem dX10_go_318 : decode cX10_go 318 = .ok (.getfield 47, 3) := by decide +kernel
theorem dX10_go_321 : decode cX10_go 321 = .ok (.iload_n 3, 1) := by decide +kernel
theorem dX10_go_322 : decode cX10_go 322 = .ok (.iaload, 1) := by decide +kernel
theorem dX10_go_323 : decode cX10_go 323 = .ok (.aload_n 0, 1) := by decide +kernel
theorem dX10_go_324 : decode cX10_go 324 = .ok (.getfield 53, 3) := by decide +kernel
theorem dX10_go_327 : decode cX10_go 327 = .ok (.iload_n 3, 1) := by decide +kernel
theorem dX10_go_328 : decode cX10_go 328 = .ok (.iaload, 1) := by decide +kernel
theorem dX10_go_329 : decode cX10_go 329 = .ok (.invokevirtual 199, 3) := by decide +kernel
theorem dX10_go_332 : decode cX10_go 332 = .ok (.iinc 3 1, 3) := by decide +kernel
theorem dX10_go_335 : decode cX10_go 335 = .ok (.goto (-27), 3) := by decide +kernel
theorem dX10_go_338 : decode cX10_go 338 = .ok (.iinc 2 1, 3) := by decide +kernel
theorem dX10_go_341 : decode cX10_go 341 = .ok (.goto (-307), 3) := by decide +kernel
theorem dX10_go_344 : decode cX10_go 344 = .ok (.return_, 1) := by decide +kernel
set_option maxRecDepth 20000 in
theorem ggX10_raise_X10_times : GoodIn wsX10_raise wsX10_times := goodIn_r _ [5, 6, 7, 8, 9, 10, 11, 12, 4, 13, 14, 15, 16, 17, 18, 19, 20, 21, 22, 23, 24, 25, 26, 27, 28, 29, 30, 31, 32, 33] (by decide +kernel) (by decide +kernel)
set_option maxRecDepth 20000 in
theorem gX10_raise_X10_times : GoodIn wsX10_raise (wsV RX10 80 RX10 yX10_times wsX10_times) := goodIn_app (goodIn_of _ (by decide +kernel)) ggX10_raise_X10_times
theorem dX10_raise_0 : decode cX10_raise 0 = .ok (.iconst 0, 1) := by decide +kernel
theorem dX10_raise_1 : decode cX10_raise 1 = .ok (.istore 4, 2) := by decide +kernel
theorem dX10_raise_3 : decode cX10_raise 3 = .ok (.iload 4, 2) := by decide +kernel
theorem dX10_raise_5 : decode cX10_raise 5 = .ok (.iload_n 3, 1) := by decide +kernel
theorem dX10_raise_6 : decode cX10_raise 6 = .ok (.if_icmp .ge 15, 3) := by decide +kernel
theorem dX10_raise_9 : decode cX10_raise 9 = .ok (.aload_n 0, 1) := by decide +kernel
theorem dX10_raise_10 : decode cX10_raise 10 = .ok (.iload_n 1, 1) := by decide +kernel
theorem dX10_raise_11 : decode cX10_raise 11 = .ok (.iload_n 2, 1) := by decide +kernel
theorem dX10_raise_12 : decode cX10_raise 12 = .ok (.invokevirtual 80, 3) := by decide +kernel
theorem dX10_raise_15 : decode cX10_raise 15 = .ok (.iinc 4 1, 3) := by decide +kernel
theorem dX10_raise_18 : decode cX10_raise 18 = .ok (.goto (-15), 3) := by decide +kernel
theorem dX10_raise_21 : decode cX10_raise 21 = .ok (.return_, 1) := by decide +kernel
set_option maxRecDepth 20000 in
theorem ggX10_steps_X10_isReady : GoodIn wsX10_steps wsX10_isReady := goodIn_r _ [7, 8, 9, 10, 11, 12, 6, 13, 14, 15, 16, 17, 18, 19, 20, 21, 22, 127, 128, 129, 130, 131, 132, 133, 134, 135, 136, 137, 138, 139, 140, 141, 142, 143, 144, 145, 146] (by decide +kernel) (by decide +kernel)
set_option maxRecDepth 20000 in
theorem gX10_steps_X10_isReady : GoodIn wsX10_steps (wsV RX10 164 RX10 yX10_isReady wsX10_isReady) := goodIn_app (goodIn_of _ (by decide +kernel)) ggX10_steps_X10_isReady
set_option maxRecDepth 20000 in
theorem ggX10_steps_X10_in : GoodIn wsX10_steps wsX10_in := goodIn_r _ [25] (by decide +kernel) (by decide +kernel)
set_option maxRecDepth 20000 in
theorem gX10_steps_X10_in : GoodIn wsX10_steps (va_wsS RX10 121 yX10_in wsX10_in) := goodIn_app (goodIn_of _ (by decide +kernel)) ggX10_steps_X10_in
set_option maxRecDepth 20000 in
theorem ggX10_steps_X10_isState : GoodIn wsX10_steps wsX10_isState := goodIn_r _ [29, 8, 127, 128, 129, 130, 131, 132, 133, 134, 135, 136, 137, 138, 139, 140, 141, 142, 143, 144, 145, 146] (by decide +kernel) (by decide +kernel)
set_option maxRecDepth 20000 in
theorem gX10_steps_X10_isState : GoodIn wsX10_steps (wsV RX10 109 RX10 yX10_isState wsX10_isState) := goodIn_app (goodIn_of _ (by decide +kernel)) ggX10_steps_X10_isState
set_option maxRecDepth 20000 in
theorem ggX10_steps_X10_none : GoodIn wsX10_steps wsX10_none := goodIn_r _ [32] (by decide +kernel) (by decide +kernel)
set_option maxRecDepth 20000 in
theorem gX10_steps_X10_none : GoodIn wsX10_steps (va_wsS RX10 187 yX10_none wsX10_none) := goodIn_app (goodIn_of _ (by decide +kernel)) ggX10_steps_X10_none
set_option maxRecDepth 20000 in
theorem ggX10_steps_X10_go : GoodIn wsX10_steps wsX10_go := goodIn_r _ [36, 8, 37, 38, 39, 40, 41, 42, 43, 44, 45, 6, 46, 47, 48, 49, 50, 51, 52, 53, 54, 9, 55, 56, 57, 58, 59, 60, 61, 62, 18, 63, 64, 65, 66, 67, 68, 69, 70, 71, 72, 73, 74, 75, 76, 77, 78, 79, 80, 81, 82, 83, 84, 85, 86, 87, 88, 89, 90, 14, 15, 16, 17, 91, 92, 93, 94, 95, 96, 97, 98, 99, 100, 101, 102, 127, 128, 129, 130, 131, 132, 133, 134, 135, 136, 137, 138, 139, 140, 141, 142, 143, 144, 145, 146] (by decide +kernel) (by decide +kernel)
set_option maxRecDepth 20000 in
theorem gX10_steps_X10_go : GoodIn wsX10_steps (wsV RX10 204 RX10 yX10_go wsX10_go) := goodIn_app (goodIn_of _ (by decide +kernel)) ggX10_steps_X10_go
set_option maxRecDepth 20000 in
theorem ggX10_steps_X10_copy : GoodIn wsX10_steps wsX10_copy := goodIn_r _ [68, 47, 50, 48, 127, 128, 129, 130, 131, 132, 133, 134, 135, 136, 137, 138, 139, 140, 141, 142, 143, 144, 145, 146] (by decide +kernel) (by decide +kernel)
set_option maxRecDepth 20000 in
theorem gX10_steps_X10_copy : GoodIn wsX10_steps (wsV RX10 90 RX10 yX10_copy wsX10_copy) := goodIn_app (goodIn_of _ (by decide +kernel)) ggX10_steps_X10_copy
set_option maxRecDepth 20000 in
theorem ggX10_steps_X10_tell : GoodIn wsX10_steps wsX10_tell := goodIn_r _ [106, 107, 47, 50, 108, 109, 65, 66, 67, 6, 68, 48, 110, 111, 112, 113, 114, 115, 116, 117, 118, 73, 74, 75, 76, 87, 88, 89, 90, 77, 78, 79, 80, 81, 82, 83, 84, 85, 86, 119, 120, 121, 122, 43, 44, 45, 46, 49, 69, 70, 71, 72, 123, 124, 125, 126, 127, 128, 129, 130, 131, 132, 133, 134, 135, 136, 137, 138, 139, 140, 141, 142, 143, 144, 145, 146] (by decide +kernel) (by decide +kernel)
set_option maxRecDepth 20000 in
theorem gX10_steps_X10_tell : GoodIn wsX10_steps (wsV RX10 190 RX10 yX10_tell wsX10_tell) := goodIn_app (goodIn_of _ (by decide +kernel)) ggX10_steps_X10_tell
theorem dX10_steps_0 : decode cX10_steps 0 = .ok (.aload_n 0, 1) := by decide +kernel
theorem dX10_steps_1 : decode cX10_steps 1 = .ok (.iconst 0, 1) := by decide +kernel
theorem dX10_steps_2 : decode cX10_steps 2 = .ok (.putfield 56, 3) := by decide +kernel
theorem dX10_steps_5 : decode cX10_steps 5 = .ok (.aload_n 0, 1) := by decide +kernel
theorem dX10_steps_6 : decode cX10_steps 6 = .ok (.invokevirtual 164, 3) := by decide +kernel
theorem dX10_steps_9 : decode cX10_steps 9 = .ok (.ifCond .eq 23, 3) := by decide +kernel
theorem dX10_steps_12 : decode cX10_steps 12 = .ok (.iload_n 1, 1) := by decide +kernel
theorem dX10_steps_13 : decode cX10_steps 13 = .ok (.i2l, 1) := by decide +kernel
theorem dX10_steps_14 : decode cX10_steps 14 = .ok (.lconst 0, 1) := by decide +kernel
theorem dX10_steps_15 : decode cX10_steps 15 = .ok (.ldc2_w 202, 3) := by decide +kernel
theorem dX10_steps_18 : decode cX10_steps 18 = .ok (.invokestatic 121, 3) := by decide +kernel
theorem dX10_steps_21 : decode cX10_steps 21 = .ok (.ifCond .eq 11, 3) := by decide +kernel
theorem dX10_steps_24 : decode cX10_steps 24 = .ok (.aload_n 0, 1) := by decide +kernel
theorem dX10_steps_25 : decode cX10_steps 25 = .ok (.iload_n 2, 1) := by decide +kernel
theorem dX10_steps_26 : decode cX10_steps 26 = .ok (.invokevirtual 109, 3) := by decide +kernel
theorem dX10_steps_29 : decode cX10_steps 29 = .ok (.ifCond .ne 9, 3) := by decide +kernel
theorem dX10_steps_32 : decode cX10_steps 32 = .ok (.iload_n 3, 1) := by decide +kernel
theorem dX10_steps_33 : decode cX10_steps 33 = .ok (.invokestatic 187, 3) := by decide +kernel
theorem dX10_steps_36 : decode cX10_steps 36 = .ok (.i2l, 1) := by decide +kernel
theorem dX10_steps_37 : decode cX10_steps 37 = .ok (.lreturn, 1) := by decide +kernel
theorem dX10_steps_38 : decode cX10_steps 38 = .ok (.aload_n 0, 1) := by decide +kernel
theorem dX10_steps_39 : decode cX10_steps 39 = .ok (.iload_n 1, 1) := by decide +kernel
theorem dX10_steps_40 : decode cX10_steps 40 = .ok (.invokevirtual 204, 3) := by decide +kernel
theorem dX10_steps_43 : decode cX10_steps 43 = .ok (.aload_n 0, 1) := by decide +kernel
theorem dX10_steps_44 : decode cX10_steps 44 = .ok (.bipush 55, 2) := by decide +kernel
theorem dX10_steps_46 : decode cX10_steps 46 = .ok (.iload_n 2, 1) := by decide +kernel
theorem dX10_steps_47 : decode cX10_steps 47 = .ok (.iadd, 1) := by decide +kernel
theorem dX10_steps_48 : decode cX10_steps 48 = .ok (.bipush 53, 2) := by decide +kernel
theorem dX10_steps_50 : decode cX10_steps 50 = .ok (.invokevirtual 90, 3) := by decide +kernel
theorem dX10_steps_53 : decode cX10_steps 53 = .ok (.aload_n 0, 1) := by decide +kernel
theorem dX10_steps_54 : decode cX10_steps 54 = .ok (.bipush 67, 2) := by decide +kernel
theorem dX10_steps_56 : decode cX10_steps 56 = .ok (.bipush 54, 2) := by decide +kernel
theorem dX10_steps_58 : decode cX10_steps 58 = .ok (.invokevirtual 90, 3) := by decide +kernel
theorem dX10_steps_61 : decode cX10_steps 61 = .ok (.aload_n 0, 1) := by decide +kernel
theorem dX10_steps_62 : decode cX10_steps 62 = .ok (.iload_n 3, 1) := by decide +kernel
theorem dX10_steps_63 : decode cX10_steps 63 = .ok (.invokevirtual 190, 3) := by decide +kernel
theorem dX10_steps_66 : decode cX10_steps 66 = .ok (.lreturn, 1) := by decide +kernel
set_option maxRecDepth 20000 in
theorem ggX10_plan_X10_isReady : GoodIn wsX10_plan wsX10_isReady := goodIn_r _ [7, 8, 9, 10, 11, 12, 6, 13, 14, 15, 16, 17, 18, 19, 20, 21, 22, 100, 101, 102, 103, 104, 105, 106, 107, 108, 109, 110, 111, 112, 113, 114, 115, 116, 117, 118, 119] (by decide +kernel) (by decide +kernel)
set_option maxRecDepth 20000 in
theorem gX10_plan_X10_isReady : GoodIn wsX10_plan (wsV RX10 164 RX10 yX10_isReady wsX10_isReady) := goodIn_app (goodIn_of _ (by decide +kernel)) ggX10_plan_X10_isReady
set_option maxRecDepth 20000 in
theorem ggX10_plan_X10_in : GoodIn wsX10_plan wsX10_in := goodIn_r _ [25] (by decide +kernel) (by decide +kernel)
set_option maxRecDepth 20000 in
theorem gX10_plan_X10_in : GoodIn wsX10_plan (va_wsS RX10 121 yX10_in wsX10_in) := goodIn_app (goodIn_of _ (by decide +kernel)) ggX10_plan_X10_in
set_option maxRecDepth 20000 in
theorem ggX10_plan_X10_isState : GoodIn wsX10_plan wsX10_isState := goodIn_r _ [29, 8, 100, 101, 102, 103, 104, 105, 106, 107, 108, 109, 110, 111, 112, 113, 114, 115, 116, 117, 118, 119] (by decide +kernel) (by decide +kernel)
set_option maxRecDepth 20000 in
theorem gX10_plan_X10_isState : GoodIn wsX10_plan (wsV RX10 109 RX10 yX10_isState wsX10_isState) := goodIn_app (goodIn_of _ (by decide +kernel)) ggX10_plan_X10_isState
set_option maxRecDepth 20000 in
theorem ggX10_plan_X10_go : GoodIn wsX10_plan wsX10_go := goodIn_r _ [33, 8, 34, 35, 36, 37, 38, 39, 40, 41, 42, 6, 43, 44, 45, 46, 47, 48, 49, 50, 51, 9, 52, 53, 54, 55, 56, 57, 58, 59, 18, 60, 61, 62, 63, 64, 65, 66, 67, 68, 69, 70, 71, 72, 73, 74, 75, 76, 77, 78, 79, 80, 81, 82, 83, 84, 85, 86, 87, 14, 15, 16, 17, 88, 89, 90, 91, 92, 93, 94, 95, 96, 97, 98, 99, 100, 101, 102, 103, 104, 105, 106, 107, 108, 109, 110, 111, 112, 113, 114, 115, 116, 117, 118, 119] (by decide +kernel) (by decide +kernel)
set_option maxRecDepth 20000 in
theorem gX10_plan_X10_go : GoodIn wsX10_plan (wsV RX10 204 RX10 yX10_go wsX10_go) := goodIn_app (goodIn_of _ (by decide +kernel)) ggX10_plan_X10_go
set_option maxRecDepth 20000 in
theorem ggX10_plan_X10_greatest : GoodIn wsX10_plan wsX10_greatest := goodIn_r _ [51, 9, 52, 53, 54, 6, 55, 36, 56, 57, 58, 59, 8, 18, 60, 39, 61, 40, 41, 42, 43, 44, 45, 46, 47, 62, 63, 64, 65, 66, 67, 68, 69, 70, 71, 72, 73, 74, 75, 76, 77, 78, 79, 80, 81, 82, 83, 84, 85, 86, 87, 14, 15, 16, 17, 88, 89, 90, 91, 100, 101, 102, 103, 104, 105, 106, 107, 108, 109, 110, 111, 112, 113, 114, 115, 116, 117, 118, 119] (by decide +kernel) (by decide +kernel)
set_option maxRecDepth 20000 in
theorem gX10_plan_X10_greatest : GoodIn wsX10_plan (wsV RX10 175 RX10 yX10_greatest wsX10_greatest) := goodIn_app (goodIn_of _ (by decide +kernel)) ggX10_plan_X10_greatest
theorem dX10_plan_0 : decode cX10_plan 0 = .ok (.aload_n 0, 1) := by decide +kernel
theorem dX10_plan_1 : decode cX10_plan 1 = .ok (.iconst 0, 1) := by decide +kernel
theorem dX10_plan_2 : decode cX10_plan 2 = .ok (.putfield 56, 3) := by decide +kernel
theorem dX10_plan_5 : decode cX10_plan 5 = .ok (.aload_n 0, 1) := by decide +kernel
theorem dX10_plan_6 : decode cX10_plan 6 = .ok (.invokevirtual 164, 3) := by decide +kernel
theorem dX10_plan_9 : decode cX10_plan 9 = .ok (.ifCond .eq 23, 3) := by decide +kernel
theorem dX10_plan_12 : decode cX10_plan 12 = .ok (.iload_n 1, 1) := by decide +kernel
theorem dX10_plan_13 : decode cX10_plan 13 = .ok (.i2l, 1) := by decide +kernel
theorem dX10_plan_14 : decode cX10_plan 14 = .ok (.lconst 1, 1) := by decide +kernel
theorem dX10_plan_15 : decode cX10_plan 15 = .ok (.ldc2_w 202, 3) := by decide +kernel
theorem dX10_plan_18 : decode cX10_plan 18 = .ok (.invokestatic 121, 3) := by decide +kernel
theorem dX10_plan_21 : decode cX10_plan 21 = .ok (.ifCond .eq 11, 3) := by decide +kernel
theorem dX10_plan_24 : decode cX10_plan 24 = .ok (.aload_n 0, 1) := by decide +kernel
theorem dX10_plan_25 : decode cX10_plan 25 = .ok (.iload_n 2, 1) := by decide +kernel
theorem dX10_plan_26 : decode cX10_plan 26 = .ok (.invokevirtual 109, 3) := by decide +kernel
theorem dX10_plan_29 : decode cX10_plan 29 = .ok (.ifCond .ne 5, 3) := by decide +kernel
theorem dX10_plan_32 : decode cX10_plan 32 = .ok (.iconst (-1), 1) := by decide +kernel
theorem dX10_plan_33 : decode cX10_plan 33 = .ok (.ireturn, 1) := by decide +kernel
theorem dX10_plan_34 : decode cX10_plan 34 = .ok (.aload_n 0, 1) := by decide +kernel
theorem dX10_plan_35 : decode cX10_plan 35 = .ok (.iload_n 1, 1) := by decide +kernel
theorem dX10_plan_36 : decode cX10_plan 36 = .ok (.iconst 1, 1) := by decide +kernel
theorem dX10_plan_37 : decode cX10_plan 37 = .ok (.isub, 1) := by decide +kernel
theorem dX10_plan_38 : decode cX10_plan 38 = .ok (.invokevirtual 204, 3) := by decide +kernel
theorem dX10_plan_41 : decode cX10_plan 41 = .ok (.aload_n 0, 1) := by decide +kernel
theorem dX10_plan_42 : decode cX10_plan 42 = .ok (.iload_n 2, 1) := by decide +kernel
theorem dX10_plan_43 : decode cX10_plan 43 = .ok (.bipush 55, 2) := by decide +kernel
theorem dX10_plan_45 : decode cX10_plan 45 = .ok (.bipush 67, 2) := by decide +kernel
theorem dX10_plan_47 : decode cX10_plan 47 = .ok (.invokevirtual 175, 3) := by decide +kernel
theorem dX10_plan_50 : decode cX10_plan 50 = .ok (.ireturn, 1) := by decide +kernel
set_option maxRecDepth 20000 in
theorem ggX10_bound_X10_isReady : GoodIn wsX10_bound wsX10_isReady := goodIn_r _ [13, 3, 6, 14, 15, 16, 12, 17, 18, 19, 20, 21, 22, 23, 24, 25, 26, 91, 92, 93, 94, 95, 96, 97, 98, 99, 100, 101, 102, 103, 104, 105, 106, 107, 108, 109, 110] (by decide +kernel) (by decide +kernel)
set_option maxRecDepth 20000 in
theorem gX10_bound_X10_isReady : GoodIn wsX10_bound (wsV RX10 164 RX10 yX10_isReady wsX10_isReady) := goodIn_app (goodIn_of _ (by decide +kernel)) ggX10_bound_X10_isReady
set_option maxRecDepth 20000 in
theorem ggX10_bound_X10_in : GoodIn wsX10_bound wsX10_in := goodIn_r _ [29] (by decide +kernel) (by decide +kernel)
set_option maxRecDepth 20000 in
theorem gX10_bound_X10_in : GoodIn wsX10_bound (va_wsS RX10 121 yX10_in wsX10_in) := goodIn_app (goodIn_of _ (by decide +kernel)) ggX10_bound_X10_in
set_option maxRecDepth 20000 in
theorem ggX10_bound_X10_none : GoodIn wsX10_bound wsX10_none := goodIn_r _ [32] (by decide +kernel) (by decide +kernel)
set_option maxRecDepth 20000 in
theorem gX10_bound_X10_none : GoodIn wsX10_bound (va_wsS RX10 187 yX10_none wsX10_none) := goodIn_app (goodIn_of _ (by decide +kernel)) ggX10_bound_X10_none
set_option maxRecDepth 20000 in
theorem ggX10_bound_X10_setSmall : GoodIn wsX10_bound wsX10_setSmall := goodIn_r _ [36, 37, 38, 39, 40, 91, 92, 93, 94, 95, 96, 97, 98, 99, 100, 101, 102, 103, 104, 105, 106, 107, 108, 109, 110] (by decide +kernel) (by decide +kernel)
set_option maxRecDepth 20000 in
theorem gX10_bound_X10_setSmall : GoodIn wsX10_bound (wsV RX10 76 RX10 yX10_setSmall wsX10_setSmall) := goodIn_app (goodIn_of _ (by decide +kernel)) ggX10_bound_X10_setSmall
set_option maxRecDepth 20000 in
theorem ggX10_bound_X10_times : GoodIn wsX10_bound wsX10_times := goodIn_r _ [44, 40, 38, 39, 37, 45, 46, 47, 12, 48, 91, 92, 93, 94, 95, 96, 97, 98, 99, 100, 101, 102, 103, 104, 105, 106, 107, 108, 109, 110] (by decide +kernel) (by decide +kernel)
set_option maxRecDepth 20000 in
theorem gX10_bound_X10_times : GoodIn wsX10_bound (wsV RX10 80 RX10 yX10_times wsX10_times) := goodIn_app (goodIn_of _ (by decide +kernel)) ggX10_bound_X10_times
set_option maxRecDepth 20000 in
theorem ggX10_bound_X10_tell : GoodIn wsX10_bound wsX10_tell := goodIn_r _ [52, 53, 37, 40, 54, 55, 56, 57, 58, 12, 59, 38, 60, 61, 62, 63, 64, 65, 66, 67, 68, 45, 46, 47, 48, 69, 70, 71, 72, 73, 74, 75, 76, 77, 78, 79, 80, 81, 82, 83, 84, 85, 86, 33, 34, 35, 36, 39, 41, 42, 43, 44, 87, 88, 89, 90, 91, 92, 93, 94, 95, 96, 97, 98, 99, 100, 101, 102, 103, 104, 105, 106, 107, 108, 109, 110] (by decide +kernel) (by decide +kernel)
set_option maxRecDepth 20000 in
theorem gX10_bound_X10_tell : GoodIn wsX10_bound (wsV RX10 190 RX10 yX10_tell wsX10_tell) := goodIn_app (goodIn_of _ (by decide +kernel)) ggX10_bound_X10_tell
theorem dX10_bound_0 : decode cX10_bound 0 = .ok (.aload_n 0, 1) := by decide +kernel
theorem dX10_bound_1 : decode cX10_bound 1 = .ok (.iconst 0, 1) := by decide +kernel
theorem dX10_bound_2 : decode cX10_bound 2 = .ok (.putfield 56, 3) := by decide +kernel
theorem dX10_bound_5 : decode cX10_bound 5 = .ok (.aload_n 0, 1) := by decide +kernel
theorem dX10_bound_6 : decode cX10_bound 6 = .ok (.invokevirtual 164, 3) := by decide +kernel
theorem dX10_bound_9 : decode cX10_bound 9 = .ok (.ifCond .eq 15, 3) := by decide +kernel
theorem dX10_bound_12 : decode cX10_bound 12 = .ok (.iload_n 1, 1) := by decide +kernel
theorem dX10_bound_13 : decode cX10_bound 13 = .ok (.i2l, 1) := by decide +kernel
theorem dX10_bound_14 : decode cX10_bound 14 = .ok (.lconst 0, 1) := by decide +kernel
theorem dX10_bound_15 : decode cX10_bound 15 = .ok (.ldc2_w 202, 3) := by decide +kernel
theorem dX10_bound_18 : decode cX10_bound 18 = .ok (.invokestatic 121, 3) := by decide +kernel
theorem dX10_bound_21 : decode cX10_bound 21 = .ok (.ifCond .ne 9, 3) := by decide +kernel
theorem dX10_bound_24 : decode cX10_bound 24 = .ok (.iload_n 2, 1) := by decide +kernel
theorem dX10_bound_25 : decode cX10_bound 25 = .ok (.invokestatic 187, 3) := by decide +kernel
theorem dX10_bound_28 : decode cX10_bound 28 = .ok (.i2l, 1) := by decide +kernel
theorem dX10_bound_29 : decode cX10_bound 29 = .ok (.lreturn, 1) := by decide +kernel
theorem dX10_bound_30 : decode cX10_bound 30 = .ok (.iconst 0, 1) := by decide +kernel
theorem dX10_bound_31 : decode cX10_bound 31 = .ok (.istore_n 3, 1) := by decide +kernel
theorem dX10_bound_32 : decode cX10_bound 32 = .ok (.iconst 1, 1) := by decide +kernel
theorem dX10_bound_33 : decode cX10_bound 33 = .ok (.istore 4, 2) := by decide +kernel
theorem dX10_bound_35 : decode cX10_bound 35 = .ok (.iconst 0, 1) := by decide +kernel
theorem dX10_bound_36 : decode cX10_bound 36 = .ok (.istore 5, 2) := by decide +kernel
theorem dX10_bound_38 : decode cX10_bound 38 = .ok (.iload 5, 2) := by decide +kernel
theorem dX10_bound_40 : decode cX10_bound 40 = .ok (.aload_n 0, 1) := by decide +kernel
theorem dX10_bound_41 : decode cX10_bound 41 = .ok (.getfield 103, 3) := by decide +kernel
theorem dX10_bound_44 : decode cX10_bound 44 = .ok (.if_icmp .ge 200, 3) := by decide +kernel
theorem dX10_bound_47 : decode cX10_bound 47 = .ok (.aload_n 0, 1) := by decide +kernel
theorem dX10_bound_48 : decode cX10_bound 48 = .ok (.getfield 13, 3) := by decide +kernel
theorem dX10_bound_51 : decode cX10_bound 51 = .ok (.iconst 4, 1) := by decide +kernel
theorem dX10_bound_52 : decode cX10_bound 52 = .ok (.iload 5, 2) := by decide +kernel
theorem dX10_bound_54 : decode cX10_bound 54 = .ok (.imul, 1) := by decide +kernel
theorem dX10_bound_55 : decode cX10_bound 55 = .ok (.iaload, 1) := by decide +kernel
theorem dX10_bound_56 : decode cX10_bound 56 = .ok (.istore 6, 2) := by decide +kernel
theorem dX10_bound_58 : decode cX10_bound 58 = .ok (.aload_n 0, 1) := by decide +kernel
theorem dX10_bound_59 : decode cX10_bound 59 = .ok (.getfield 16, 3) := by decide +kernel
theorem dX10_bound_62 : decode cX10_bound 62 = .ok (.iconst 4, 1) := by decide +kernel
theorem dX10_bound_63 : decode cX10_bound 63 = .ok (.iload 5, 2) := by decide +kernel
theorem dX10_bound_65 : decode cX10_bound 65 = .ok (.imul, 1) := by decide +kernel
theorem dX10_bound_66 : decode cX10_bound 66 = .ok (.iaload, 1) := by decide +kernel
theorem dX10_bound_67 : decode cX10_bound 67 = .ok (.istore 7, 2) := by decide +kernel
theorem dX10_bound_69 : decode cX10_bound 69 = .ok (.iconst 1, 1) := by decide +kernel
theorem dX10_bound_70 : decode cX10_bound 70 = .ok (.istore 8, 2) := by decide +kernel
theorem dX10_bound_72 : decode cX10_bound 72 = .ok (.iload 8, 2) := by decide +kernel
theorem dX10_bound_74 : decode cX10_bound 74 = .ok (.aload_n 0, 1) := by decide +kernel
theorem dX10_bound_75 : decode cX10_bound 75 = .ok (.getfield 7, 3) := by decide +kernel
theorem dX10_bound_78 : decode cX10_bound 78 = .ok (.iload 5, 2) := by decide +kernel
theorem dX10_bound_80 : decode cX10_bound 80 = .ok (.iaload, 1) := by decide +kernel
theorem dX10_bound_81 : decode cX10_bound 81 = .ok (.if_icmp .ge 97, 3) := by decide +kernel
theorem dX10_bound_84 : decode cX10_bound 84 = .ok (.aload_n 0, 1) := by decide +kernel
theorem dX10_bound_85 : decode cX10_bound 85 = .ok (.getfield 13, 3) := by decide +kernel
theorem dX10_bound_88 : decode cX10_bound 88 = .ok (.iconst 4, 1) := by decide +kernel
theorem dX10_bound_89 : decode cX10_bound 89 = .ok (.iload 5, 2) := by decide +kernel
theorem dX10_bound_91 : decode cX10_bound 91 = .ok (.imul, 1) := by decide +kernel
theorem dX10_bound_92 : decode cX10_bound 92 = .ok (.iload 8, 2) := by decide +kernel
theorem dX10_bound_94 : decode cX10_bound 94 = .ok (.iadd, 1) := by decide +kernel
theorem dX10_bound_95 : decode cX10_bound 95 = .ok (.iaload, 1) := by decide +kernel
theorem dX10_bound_96 : decode cX10_bound 96 = .ok (.iload 7, 2) := by decide +kernel
theorem dX10_bound_98 : decode cX10_bound 98 = .ok (.imul, 1) := by decide +kernel
theorem dX10_bound_99 : decode cX10_bound 99 = .ok (.iload 6, 2) := by decide +kernel
theorem dX10_bound_101 : decode cX10_bound 101 = .ok (.aload_n 0, 1) := by decide +kernel
theorem dX10_bound_102 : decode cX10_bound 102 = .ok (.getfield 16, 3) := by decide +kernel
theorem dX10_bound_105 : decode cX10_bound 105 = .ok (.iconst 4, 1) := by decide +kernel
theorem dX10_bound_106 : decode cX10_bound 106 = .ok (.iload 5, 2) := by decide +kernel
theorem dX10_bound_108 : decode cX10_bound 108 = .ok (.imul, 1) := by decide +kernel
theorem dX10_bound_109 : decode cX10_bound 109 = .ok (.iload 8, 2) := by decide +kernel
theorem dX10_bound_111 : decode cX10_bound 111 = .ok (.iadd, 1) := by decide +kernel
theorem dX10_bound_112 : decode cX10_bound 112 = .ok (.iaload, 1) := by decide +kernel
theorem dX10_bound_113 : decode cX10_bound 113 = .ok (.imul, 1) := by decide +kernel
theorem dX10_bound_114 : decode cX10_bound 114 = .ok (.if_icmp .le 7, 3) := by decide +kernel
theorem dX10_bound_117 : decode cX10_bound 117 = .ok (.iconst 1, 1) := by decide +kernel
theorem dX10_bound_118 : decode cX10_bound 118 = .ok (.goto 4, 3) := by decide +kernel
theorem dX10_bound_121 : decode cX10_bound 121 = .ok (.iconst 0, 1) := by decide +kernel
theorem dX10_bound_122 : decode cX10_bound 122 = .ok (.istore 9, 2) := by decide +kernel
theorem dX10_bound_124 : decode cX10_bound 124 = .ok (.iload 9, 2) := by decide +kernel
theorem dX10_bound_126 : decode cX10_bound 126 = .ok (.ifCond .eq 18, 3) := by decide +kernel
theorem dX10_bound_129 : decode cX10_bound 129 = .ok (.aload_n 0, 1) := by decide +kernel
theorem dX10_bound_130 : decode cX10_bound 130 = .ok (.getfield 13, 3) := by decide +kernel
theorem dX10_bound_133 : decode cX10_bound 133 = .ok (.iconst 4, 1) := by decide +kernel
theorem dX10_bound_134 : decode cX10_bound 134 = .ok (.iload 5, 2) := by decide +kernel
theorem dX10_bound_136 : decode cX10_bound 136 = .ok (.imul, 1) := by decide +kernel
theorem dX10_bound_137 : decode cX10_bound 137 = .ok (.iload 8, 2) := by decide +kernel
theorem dX10_bound_139 : decode cX10_bound 139 = .ok (.iadd, 1) := by decide +kernel
theorem dX10_bound_140 : decode cX10_bound 140 = .ok (.iaload, 1) := by decide +kernel
theorem dX10_bound_141 : decode cX10_bound 141 = .ok (.goto 5, 3) := by decide +kernel
theorem dX10_bound_144 : decode cX10_bound 144 = .ok (.iload 6, 2) := by decide +kernel
theorem dX10_bound_146 : decode cX10_bound 146 = .ok (.istore 6, 2) := by decide +kernel
theorem dX10_bound_148 : decode cX10_bound 148 = .ok (.iload 9, 2) := by decide +kernel
theorem dX10_bound_150 : decode cX10_bound 150 = .ok (.ifCond .eq 18, 3) := by decide +kernel
theorem dX10_bound_153 : decode cX10_bound 153 = .ok (.aload_n 0, 1) := by decide +kernel
theorem dX10_bound_154 : decode cX10_bound 154 = .ok (.getfield 16, 3) := by decide +kernel
theorem dX10_bound_157 : decode cX10_bound 157 = .ok (.iconst 4, 1) := by decide +kernel
theorem dX10_bound_158 : decode cX10_bound 158 = .ok (.iload 5, 2) := by decide +kernel
theorem dX10_bound_160 : decode cX10_bound 160 = .ok (.imul, 1) := by decide +kernel
theorem dX10_bound_161 : decode cX10_bound 161 = .ok (.iload 8, 2) := by decide +kernel
theorem dX10_bound_163 : decode cX10_bound 163 = .ok (.iadd, 1) := by decide +kernel
theorem dX10_bound_164 : decode cX10_bound 164 = .ok (.iaload, 1) := by decide +kernel
theorem dX10_bound_165 : decode cX10_bound 165 = .ok (.goto 5, 3) := by decide +kernel
theorem dX10_bound_168 : decode cX10_bound 168 = .ok (.iload 7, 2) := by decide +kernel
theorem dX10_bound_170 : decode cX10_bound 170 = .ok (.istore 7, 2) := by decide +kernel
theorem dX10_bound_172 : decode cX10_bound 172 = .ok (.iinc 8 1, 3) := by decide +kernel
theorem dX10_bound_175 : decode cX10_bound 175 = .ok (.goto (-103), 3) := by decide +kernel
theorem dX10_bound_178 : decode cX10_bound 178 = .ok (.iload 6, 2) := by decide +kernel
theorem dX10_bound_180 : decode cX10_bound 180 = .ok (.ifCond .ge 9, 3) := by decide +kernel
theorem dX10_bound_183 : decode cX10_bound 183 = .ok (.iload 6, 2) := by decide +kernel
theorem dX10_bound_185 : decode cX10_bound 185 = .ok (.ineg, 1) := by decide +kernel
theorem dX10_bound_186 : decode cX10_bound 186 = .ok (.goto 5, 3) := by decide +kernel
theorem dX10_bound_189 : decode cX10_bound 189 = .ok (.iload 6, 2) := by decide +kernel
theorem dX10_bound_191 : decode cX10_bound 191 = .ok (.istore 6, 2) := by decide +kernel
theorem dX10_bound_193 : decode cX10_bound 193 = .ok (.iload 6, 2) := by decide +kernel
theorem dX10_bound_195 : decode cX10_bound 195 = .ok (.iload 4, 2) := by decide +kernel
theorem dX10_bound_197 : decode cX10_bound 197 = .ok (.imul, 1) := by decide +kernel
theorem dX10_bound_198 : decode cX10_bound 198 = .ok (.iload_n 3, 1) := by decide +kernel
theorem dX10_bound_199 : decode cX10_bound 199 = .ok (.iload 7, 2) := by decide +kernel
theorem dX10_bound_201 : decode cX10_bound 201 = .ok (.imul, 1) := by decide +kernel
theorem dX10_bound_202 : decode cX10_bound 202 = .ok (.if_icmp .le 7, 3) := by decide +kernel
theorem dX10_bound_205 : decode cX10_bound 205 = .ok (.iconst 1, 1) := by decide +kernel
theorem dX10_bound_206 : decode cX10_bound 206 = .ok (.goto 4, 3) := by decide +kernel
theorem dX10_bound_209 : decode cX10_bound 209 = .ok (.iconst 0, 1) := by decide +kernel
theorem dX10_bound_210 : decode cX10_bound 210 = .ok (.istore 8, 2) := by decide +kernel
theorem dX10_bound_212 : decode cX10_bound 212 = .ok (.iload 8, 2) := by decide +kernel
theorem dX10_bound_214 : decode cX10_bound 214 = .ok (.ifCond .eq 8, 3) := by decide +kernel
theorem dX10_bound_217 : decode cX10_bound 217 = .ok (.iload 6, 2) := by decide +kernel
theorem dX10_bound_219 : decode cX10_bound 219 = .ok (.goto 4, 3) := by decide +kernel
theorem dX10_bound_222 : decode cX10_bound 222 = .ok (.iload_n 3, 1) := by decide +kernel
theorem dX10_bound_223 : decode cX10_bound 223 = .ok (.istore_n 3, 1) := by decide +kernel
theorem dX10_bound_224 : decode cX10_bound 224 = .ok (.iload 8, 2) := by decide +kernel
theorem dX10_bound_226 : decode cX10_bound 226 = .ok (.ifCond .eq 8, 3) := by decide +kernel
theorem dX10_bound_229 : decode cX10_bound 229 = .ok (.iload 7, 2) := by decide +kernel
theorem dX10_bound_231 : decode cX10_bound 231 = .ok (.goto 5, 3) := by decide +kernel
theorem dX10_bound_234 : decode cX10_bound 234 = .ok (.iload 4, 2) := by decide +kernel
theorem dX10_bound_236 : decode cX10_bound 236 = .ok (.istore 4, 2) := by decide +kernel
theorem dX10_bound_238 : decode cX10_bound 238 = .ok (.iinc 5 1, 3) := by decide +kernel
theorem dX10_bound_241 : decode cX10_bound 241 = .ok (.goto (-203), 3) := by decide +kernel
theorem dX10_bound_244 : decode cX10_bound 244 = .ok (.aload_n 0, 1) := by decide +kernel
theorem dX10_bound_245 : decode cX10_bound 245 = .ok (.bipush 53, 2) := by decide +kernel
theorem dX10_bound_247 : decode cX10_bound 247 = .ok (.iload_n 3, 1) := by decide +kernel
theorem dX10_bound_248 : decode cX10_bound 248 = .ok (.i2l, 1) := by decide +kernel
theorem dX10_bound_249 : decode cX10_bound 249 = .ok (.invokevirtual 76, 3) := by decide +kernel
theorem dX10_bound_252 : decode cX10_bound 252 = .ok (.aload_n 0, 1) := by decide +kernel
theorem dX10_bound_253 : decode cX10_bound 253 = .ok (.bipush 54, 2) := by decide +kernel
theorem dX10_bound_255 : decode cX10_bound 255 = .ok (.iload 4, 2) := by decide +kernel
theorem dX10_bound_257 : decode cX10_bound 257 = .ok (.i2l, 1) := by decide +kernel
theorem dX10_bound_258 : decode cX10_bound 258 = .ok (.invokevirtual 76, 3) := by decide +kernel
theorem dX10_bound_261 : decode cX10_bound 261 = .ok (.iconst 0, 1) := by decide +kernel
theorem dX10_bound_262 : decode cX10_bound 262 = .ok (.istore 5, 2) := by decide +kernel
theorem dX10_bound_264 : decode cX10_bound 264 = .ok (.iload 5, 2) := by decide +kernel
theorem dX10_bound_266 : decode cX10_bound 266 = .ok (.iload_n 1, 1) := by decide +kernel
theorem dX10_bound_267 : decode cX10_bound 267 = .ok (.if_icmp .ge 29, 3) := by decide +kernel
theorem dX10_bound_270 : decode cX10_bound 270 = .ok (.aload_n 0, 1) := by decide +kernel
theorem dX10_bound_271 : decode cX10_bound 271 = .ok (.bipush 53, 2) := by decide +kernel
theorem dX10_bound_273 : decode cX10_bound 273 = .ok (.aload_n 0, 1) := by decide +kernel
theorem dX10_bound_274 : decode cX10_bound 274 = .ok (.getfield 22, 3) := by decide +kernel
theorem dX10_bound_277 : decode cX10_bound 277 = .ok (.invokevirtual 80, 3) := by decide +kernel
theorem dX10_bound_280 : decode cX10_bound 280 = .ok (.aload_n 0, 1) := by decide +kernel
theorem dX10_bound_281 : decode cX10_bound 281 = .ok (.bipush 54, 2) := by decide +kernel
theorem dX10_bound_283 : decode cX10_bound 283 = .ok (.aload_n 0, 1) := by decide +kernel
theorem dX10_bound_284 : decode cX10_bound 284 = .ok (.getfield 26, 3) := by decide +kernel
theorem dX10_bound_287 : decode cX10_bound 287 = .ok (.invokevirtual 80, 3) := by decide +kernel
theorem dX10_bound_290 : decode cX10_bound 290 = .ok (.iinc 5 1, 3) := by decide +kernel
theorem dX10_bound_293 : decode cX10_bound 293 = .ok (.goto (-29), 3) := by decide +kernel
theorem dX10_bound_296 : decode cX10_bound 296 = .ok (.aload_n 0, 1) := by decide +kernel
theorem dX10_bound_297 : decode cX10_bound 297 = .ok (.bipush 53, 2) := by decide +kernel
theorem dX10_bound_299 : decode cX10_bound 299 = .ok (.aload_n 0, 1) := by decide +kernel
theorem dX10_bound_300 : decode cX10_bound 300 = .ok (.getfield 26, 3) := by decide +kernel
theorem dX10_bound_303 : decode cX10_bound 303 = .ok (.invokevirtual 80, 3) := by decide +kernel
theorem dX10_bound_306 : decode cX10_bound 306 = .ok (.aload_n 0, 1) := by decide +kernel
theorem dX10_bound_307 : decode cX10_bound 307 = .ok (.bipush 54, 2) := by decide +kernel
theorem dX10_bound_309 : decode cX10_bound 309 = .ok (.aload_n 0, 1) := by decide +kernel
theorem dX10_bound_310 : decode cX10_bound 310 = .ok (.getfield 26, 3) := by decide +kernel
theorem dX10_bound_313 : decode cX10_bound 313 = .ok (.aload_n 0, 1) := by decide +kernel
theorem dX10_bound_314 : decode cX10_bound 314 = .ok (.getfield 22, 3) := by decide +kernel
theorem dX10_bound_317 : decode cX10_bound 317 = .ok (.isub, 1) := by decide +kernel
theorem dX10_bound_318 : decode cX10_bound 318 = .ok (.invokevirtual 80, 3) := by decide +kernel
theorem dX10_bound_321 : decode cX10_bound 321 = .ok (.aload_n 0, 1) := by decide +kernel
theorem dX10_bound_322 : decode cX10_bound 322 = .ok (.iload_n 2, 1) := by decide +kernel
theorem dX10_bound_323 : decode cX10_bound 323 = .ok (.invokevirtual 190, 3) := by decide +kernel
theorem dX10_bound_326 : decode cX10_bound 326 = .ok (.lreturn, 1) := by decide +kernel
theorem dX10_best_0 : decode cX10_best 0 = .ok (.aload_n 0, 1) := by decide +kernel
theorem dX10_best_1 : decode cX10_best 1 = .ok (.iconst 0, 1) := by decide +kernel
theorem dX10_best_2 : decode cX10_best 2 = .ok (.putfield 56, 3) := by decide +kernel
theorem dX10_best_5 : decode cX10_best 5 = .ok (.aload_n 0, 1) := by decide +kernel
theorem dX10_best_6 : decode cX10_best 6 = .ok (.getfield 96, 3) := by decide +kernel
theorem dX10_best_9 : decode cX10_best 9 = .ok (.ireturn, 1) := by decide +kernel
set_option maxRecDepth 20000 in
theorem ggX10_count_X10_allActions : GoodIn wsX10_count wsX10_allActions := goodIn_r _ [8, 2, 9, 19, 20, 21, 22, 23, 24, 25, 26, 27, 28, 29, 30, 31, 32, 33, 34, 35, 36, 37, 38] (by decide +kernel) (by decide +kernel)
set_option maxRecDepth 20000 in
theorem gX10_count_X10_allActions : GoodIn wsX10_count (wsV RX10 135 RX10 yX10_allActions wsX10_allActions) := goodIn_app (goodIn_of _ (by decide +kernel)) ggX10_count_X10_allActions
set_option maxRecDepth 20000 in
theorem ggX10_count_X10_readyCount : GoodIn wsX10_count wsX10_readyCount := goodIn_r _ [13, 2, 9, 14, 15, 16, 7, 17, 18, 19, 20, 21, 22, 23, 24, 25, 26, 27, 28, 29, 30, 31, 32, 33, 34, 35, 36, 37, 38] (by decide +kernel) (by decide +kernel)
set_option maxRecDepth 20000 in
theorem gX10_count_X10_readyCount : GoodIn wsX10_count (wsV RX10 131 RX10 yX10_readyCount wsX10_readyCount) := goodIn_app (goodIn_of _ (by decide +kernel)) ggX10_count_X10_readyCount
theorem dX10_count_0 : decode cX10_count 0 = .ok (.aload_n 0, 1) := by decide +kernel
theorem dX10_count_1 : decode cX10_count 1 = .ok (.iconst 0, 1) := by decide +kernel
theorem dX10_count_2 : decode cX10_count 2 = .ok (.putfield 56, 3) := by decide +kernel
theorem dX10_count_5 : decode cX10_count 5 = .ok (.iload_n 1, 1) := by decide +kernel
theorem dX10_count_6 : decode cX10_count 6 = .ok (.ifCond .ne 10, 3) := by decide +kernel
theorem dX10_count_9 : decode cX10_count 9 = .ok (.aload_n 0, 1) := by decide +kernel
theorem dX10_count_10 : decode cX10_count 10 = .ok (.getfield 103, 3) := by decide +kernel
theorem dX10_count_13 : decode cX10_count 13 = .ok (.goto 40, 3) := by decide +kernel
theorem dX10_count_16 : decode cX10_count 16 = .ok (.iload_n 1, 1) := by decide +kernel
theorem dX10_count_17 : decode cX10_count 17 = .ok (.iconst 1, 1) := by decide +kernel
theorem dX10_count_18 : decode cX10_count 18 = .ok (.if_icmp .ne 10, 3) := by decide +kernel
theorem dX10_count_21 : decode cX10_count 21 = .ok (.aload_n 0, 1) := by decide +kernel
theorem dX10_count_22 : decode cX10_count 22 = .ok (.invokevirtual 135, 3) := by decide +kernel
theorem dX10_count_25 : decode cX10_count 25 = .ok (.goto 28, 3) := by decide +kernel
theorem dX10_count_28 : decode cX10_count 28 = .ok (.iload_n 1, 1) := by decide +kernel
theorem dX10_count_29 : decode cX10_count 29 = .ok (.iconst 2, 1) := by decide +kernel
theorem dX10_count_30 : decode cX10_count 30 = .ok (.if_icmp .ne 10, 3) := by decide +kernel
theorem dX10_count_33 : decode cX10_count 33 = .ok (.aload_n 0, 1) := by decide +kernel
theorem dX10_count_34 : decode cX10_count 34 = .ok (.getfield 100, 3) := by decide +kernel
theorem dX10_count_37 : decode cX10_count 37 = .ok (.goto 16, 3) := by decide +kernel
theorem dX10_count_40 : decode cX10_count 40 = .ok (.iload_n 1, 1) := by decide +kernel
theorem dX10_count_41 : decode cX10_count 41 = .ok (.iconst 3, 1) := by decide +kernel
theorem dX10_count_42 : decode cX10_count 42 = .ok (.if_icmp .ne 10, 3) := by decide +kernel
theorem dX10_count_45 : decode cX10_count 45 = .ok (.aload_n 0, 1) := by decide +kernel
theorem dX10_count_46 : decode cX10_count 46 = .ok (.invokevirtual 131, 3) := by decide +kernel
theorem dX10_count_49 : decode cX10_count 49 = .ok (.goto 4, 3) := by decide +kernel
theorem dX10_count_52 : decode cX10_count 52 = .ok (.iconst (-1), 1) := by decide +kernel
theorem dX10_count_53 : decode cX10_count 53 = .ok (.ireturn, 1) := by decide +kernel
