theorem dL_best_0 : decode cL_best 0 = .ok (.aload_n 2, 1) := by decide +kernel
theorem dL_best_1 : decode cL_best 1 = .ok (.iconst 0, 1) := by decide +kernel
theorem dL_best_2 : decode cL_best 2 = .ok (.iaload, 1) := by decide +kernel
theorem dL_best_3 : decode cL_best 3 = .ok (.istore_n 3, 1) := by decide +kernel
theorem dL_best_4 : decode cL_best 4 = .ok (.iload_n 3, 1) := by decide +kernel
theorem dL_best_5 : decode cL_best 5 = .ok (.aload_n 0, 1) := by decide +kernel
theorem dL_best_6 : decode cL_best 6 = .ok (.iconst 0, 1) := by decide +kernel
theorem dL_best_7 : decode cL_best 7 = .ok (.iaload, 1) := by decide +kernel
theorem dL_best_8 : decode cL_best 8 = .ok (.invokestatic 17, 3) := by decide +kernel
theorem dL_best_11 : decode cL_best 11 = .ok (.iadd, 1) := by decide +kernel
theorem dL_best_12 : decode cL_best 12 = .ok (.aload_n 0, 1) := by decide +kernel
theorem dL_best_13 : decode cL_best 13 = .ok (.iconst 1, 1) := by decide +kernel
theorem dL_best_14 : decode cL_best 14 = .ok (.iaload, 1) := by decide +kernel
theorem dL_best_15 : decode cL_best 15 = .ok (.invokestatic 17, 3) := by decide +kernel
theorem dL_best_18 : decode cL_best 18 = .ok (.iadd, 1) := by decide +kernel
theorem dL_best_19 : decode cL_best 19 = .ok (.aload_n 0, 1) := by decide +kernel
theorem dL_best_20 : decode cL_best 20 = .ok (.iconst 2, 1) := by decide +kernel
theorem dL_best_21 : decode cL_best 21 = .ok (.iaload, 1) := by decide +kernel
theorem dL_best_22 : decode cL_best 22 = .ok (.invokestatic 17, 3) := by decide +kernel
theorem dL_best_25 : decode cL_best 25 = .ok (.iadd, 1) := by decide +kernel
theorem dL_best_26 : decode cL_best 26 = .ok (.aload_n 0, 1) := by decide +kernel
theorem dL_best_27 : decode cL_best 27 = .ok (.iconst 3, 1) := by decide +kernel
theorem dL_best_28 : decode cL_best 28 = .ok (.iaload, 1) := by decide +kernel
theorem dL_best_29 : decode cL_best 29 = .ok (.invokestatic 17, 3) := by decide +kernel
theorem dL_best_32 : decode cL_best 32 = .ok (.iadd, 1) := by decide +kernel
theorem dL_best_33 : decode cL_best 33 = .ok (.istore 4, 2) := by decide +kernel
theorem dL_best_35 : decode cL_best 35 = .ok (.bipush 17, 2) := by decide +kernel
theorem dL_best_37 : decode cL_best 37 = .ok (.newarray .int, 2) := by decide +kernel
theorem dL_best_39 : decode cL_best 39 = .ok (.astore 5, 2) := by decide +kernel
theorem dL_best_41 : decode cL_best 41 = .ok (.bipush 17, 2) := by decide +kernel
theorem dL_best_43 : decode cL_best 43 = .ok (.newarray .int, 2) := by decide +kernel
theorem dL_best_45 : decode cL_best 45 = .ok (.astore 6, 2) := by decide +kernel
theorem dL_best_47 : decode cL_best 47 = .ok (.iload_n 3, 1) := by decide +kernel
theorem dL_best_48 : decode cL_best 48 = .ok (.istore 7, 2) := by decide +kernel
theorem dL_best_50 : decode cL_best 50 = .ok (.aload 5, 2) := by decide +kernel
theorem dL_best_52 : decode cL_best 52 = .ok (.iload 7, 2) := by decide +kernel
theorem dL_best_54 : decode cL_best 54 = .ok (.iconst 0, 1) := by decide +kernel
theorem dL_best_55 : decode cL_best 55 = .ok (.iastore, 1) := by decide +kernel
theorem dL_best_56 : decode cL_best 56 = .ok (.aload 6, 2) := by decide +kernel
theorem dL_best_58 : decode cL_best 58 = .ok (.iload 7, 2) := by decide +kernel
theorem dL_best_60 : decode cL_best 60 = .ok (.iconst (-1), 1) := by decide +kernel
theorem dL_best_61 : decode cL_best 61 = .ok (.iastore, 1) := by decide +kernel
theorem dL_best_62 : decode cL_best 62 = .ok (.iload 7, 2) := by decide +kernel
theorem dL_best_64 : decode cL_best 64 = .ok (.iload 4, 2) := by decide +kernel
theorem dL_best_66 : decode cL_best 66 = .ok (.if_icmp .ne 8, 3) := by decide +kernel
theorem dL_best_69 : decode cL_best 69 = .ok (.bipush 24, 2) := by decide +kernel
theorem dL_best_71 : decode cL_best 71 = .ok (.goto 8, 3) := by decide +kernel
theorem dL_best_74 : decode cL_best 74 = .ok (.aload 5, 2) := by decide +kernel
theorem dL_best_76 : decode cL_best 76 = .ok (.iload 7, 2) := by decide +kernel
theorem dL_best_78 : decode cL_best 78 = .ok (.iaload, 1) := by decide +kernel
theorem dL_best_79 : decode cL_best 79 = .ok (.istore 8, 2) := by decide +kernel
theorem dL_best_81 : decode cL_best 81 = .ok (.iload 8, 2) := by decide +kernel
theorem dL_best_83 : decode cL_best 83 = .ok (.bipush 24, 2) := by decide +kernel
theorem dL_best_85 : decode cL_best 85 = .ok (.if_icmp .ge 22, 3) := by decide +kernel
theorem dL_best_88 : decode cL_best 88 = .ok (.aload_n 0, 1) := by decide +kernel
theorem dL_best_89 : decode cL_best 89 = .ok (.aload_n 1, 1) := by decide +kernel
theorem dL_best_90 : decode cL_best 90 = .ok (.aload_n 2, 1) := by decide +kernel
theorem dL_best_91 : decode cL_best 91 = .ok (.iload 7, 2) := by decide +kernel
theorem dL_best_93 : decode cL_best 93 = .ok (.iload 8, 2) := by decide +kernel
theorem dL_best_95 : decode cL_best 95 = .ok (.invokestatic 21, 3) := by decide +kernel
theorem dL_best_98 : decode cL_best 98 = .ok (.ifCond .ne 9, 3) := by decide +kernel
theorem dL_best_101 : decode cL_best 101 = .ok (.iinc 8 1, 3) := by decide +kernel
theorem dL_best_104 : decode cL_best 104 = .ok (.goto (-23), 3) := by decide +kernel
theorem dL_best_107 : decode cL_best 107 = .ok (.iload 8, 2) := by decide +kernel
theorem dL_best_109 : decode cL_best 109 = .ok (.bipush 24, 2) := by decide +kernel
theorem dL_best_111 : decode cL_best 111 = .ok (.if_icmp .ge 65, 3) := by decide +kernel
theorem dL_best_114 : decode cL_best 114 = .ok (.aload_n 1, 1) := by decide +kernel
theorem dL_best_115 : decode cL_best 115 = .ok (.aload_n 2, 1) := by decide +kernel
theorem dL_best_116 : decode cL_best 116 = .ok (.iload 7, 2) := by decide +kernel
theorem dL_best_118 : decode cL_best 118 = .ok (.invokestatic 7, 3) := by decide +kernel
theorem dL_best_121 : decode cL_best 121 = .ok (.iload 7, 2) := by decide +kernel
theorem dL_best_123 : decode cL_best 123 = .ok (.iconst 4, 1) := by decide +kernel
theorem dL_best_124 : decode cL_best 124 = .ok (.irem, 1) := by decide +kernel
theorem dL_best_125 : decode cL_best 125 = .ok (.iadd, 1) := by decide +kernel
theorem dL_best_126 : decode cL_best 126 = .ok (.iconst 4, 1) := by decide +kernel
theorem dL_best_127 : decode cL_best 127 = .ok (.irem, 1) := by decide +kernel
theorem dL_best_128 : decode cL_best 128 = .ok (.istore 9, 2) := by decide +kernel
theorem dL_best_130 : decode cL_best 130 = .ok (.aload_n 0, 1) := by decide +kernel
theorem dL_best_131 : decode cL_best 131 = .ok (.iload 9, 2) := by decide +kernel
theorem dL_best_133 : decode cL_best 133 = .ok (.dup2, 1) := by decide +kernel
theorem dL_best_134 : decode cL_best 134 = .ok (.iaload, 1) := by decide +kernel
theorem dL_best_135 : decode cL_best 135 = .ok (.iconst 1, 1) := by decide +kernel
theorem dL_best_136 : decode cL_best 136 = .ok (.iload 8, 2) := by decide +kernel
theorem dL_best_138 : decode cL_best 138 = .ok (.ishl, 1) := by decide +kernel
theorem dL_best_139 : decode cL_best 139 = .ok (.iconst (-1), 1) := by decide +kernel
theorem dL_best_140 : decode cL_best 140 = .ok (.ixor, 1) := by decide +kernel
theorem dL_best_141 : decode cL_best 141 = .ok (.iand, 1) := by decide +kernel
theorem dL_best_142 : decode cL_best 142 = .ok (.iastore, 1) := by decide +kernel
theorem dL_best_143 : decode cL_best 143 = .ok (.aload_n 1, 1) := by decide +kernel
theorem dL_best_144 : decode cL_best 144 = .ok (.iload 7, 2) := by decide +kernel
theorem dL_best_146 : decode cL_best 146 = .ok (.iload 8, 2) := by decide +kernel
theorem dL_best_148 : decode cL_best 148 = .ok (.iastore, 1) := by decide +kernel
theorem dL_best_149 : decode cL_best 149 = .ok (.aload 5, 2) := by decide +kernel
theorem dL_best_151 : decode cL_best 151 = .ok (.iload 7, 2) := by decide +kernel
theorem dL_best_153 : decode cL_best 153 = .ok (.iload 8, 2) := by decide +kernel
theorem dL_best_155 : decode cL_best 155 = .ok (.iconst 1, 1) := by decide +kernel
theorem dL_best_156 : decode cL_best 156 = .ok (.iadd, 1) := by decide +kernel
theorem dL_best_157 : decode cL_best 157 = .ok (.iastore, 1) := by decide +kernel
theorem dL_best_158 : decode cL_best 158 = .ok (.iinc 7 1, 3) := by decide +kernel
theorem dL_best_161 : decode cL_best 161 = .ok (.aload 5, 2) := by decide +kernel
theorem dL_best_163 : decode cL_best 163 = .ok (.iload 7, 2) := by decide +kernel
theorem dL_best_165 : decode cL_best 165 = .ok (.iconst 0, 1) := by decide +kernel
theorem dL_best_166 : decode cL_best 166 = .ok (.iastore, 1) := by decide +kernel
theorem dL_best_167 : decode cL_best 167 = .ok (.aload 6, 2) := by decide +kernel
theorem dL_best_169 : decode cL_best 169 = .ok (.iload 7, 2) := by decide +kernel
theorem dL_best_171 : decode cL_best 171 = .ok (.iconst (-1), 1) := by decide +kernel
theorem dL_best_172 : decode cL_best 172 = .ok (.iastore, 1) := by decide +kernel
theorem dL_best_173 : decode cL_best 173 = .ok (.goto 134, 3) := by decide +kernel
theorem dL_best_176 : decode cL_best 176 = .ok (.iload 7, 2) := by decide +kernel
theorem dL_best_178 : decode cL_best 178 = .ok (.iload 4, 2) := by decide +kernel
theorem dL_best_180 : decode cL_best 180 = .ok (.if_icmp .ne 14, 3) := by decide +kernel
theorem dL_best_183 : decode cL_best 183 = .ok (.aload_n 1, 1) := by decide +kernel
theorem dL_best_184 : decode cL_best 184 = .ok (.aload_n 2, 1) := by decide +kernel
theorem dL_best_185 : decode cL_best 185 = .ok (.iload 4, 2) := by decide +kernel
theorem dL_best_187 : decode cL_best 187 = .ok (.iconst 0, 1) := by decide +kernel
theorem dL_best_188 : decode cL_best 188 = .ok (.invokestatic 25, 3) := by decide +kernel
theorem dL_best_191 : decode cL_best 191 = .ok (.goto 8, 3) := by decide +kernel
theorem dL_best_194 : decode cL_best 194 = .ok (.aload 6, 2) := by decide +kernel
theorem dL_best_196 : decode cL_best 196 = .ok (.iload 7, 2) := by decide +kernel
theorem dL_best_198 : decode cL_best 198 = .ok (.iaload, 1) := by decide +kernel
theorem dL_best_199 : decode cL_best 199 = .ok (.istore 9, 2) := by decide +kernel
theorem dL_best_201 : decode cL_best 201 = .ok (.iload 7, 2) := by decide +kernel
theorem dL_best_203 : decode cL_best 203 = .ok (.iload_n 3, 1) := by decide +kernel
theorem dL_best_204 : decode cL_best 204 = .ok (.if_icmp .ne 6, 3) := by decide +kernel
theorem dL_best_207 : decode cL_best 207 = .ok (.iload 9, 2) := by decide +kernel
theorem dL_best_209 : decode cL_best 209 = .ok (.ireturn, 1) := by decide +kernel
theorem dL_best_210 : decode cL_best 210 = .ok (.iinc 7 (-1), 3) := by decide +kernel
theorem dL_best_213 : decode cL_best 213 = .ok (.aload_n 1, 1) := by decide +kernel
theorem dL_best_214 : decode cL_best 214 = .ok (.aload_n 2, 1) := by decide +kernel
theorem dL_best_215 : decode cL_best 215 = .ok (.iload 7, 2) := by decide +kernel
theorem dL_best_217 : decode cL_best 217 = .ok (.invokestatic 7, 3) := by decide +kernel
theorem dL_best_220 : decode cL_best 220 = .ok (.iload 7, 2) := by decide +kernel
theorem dL_best_222 : decode cL_best 222 = .ok (.iconst 4, 1) := by decide +kernel
theorem dL_best_223 : decode cL_best 223 = .ok (.irem, 1) := by decide +kernel
theorem dL_best_224 : decode cL_best 224 = .ok (.iadd, 1) := by decide +kernel
theorem dL_best_225 : decode cL_best 225 = .ok (.iconst 4, 1) := by decide +kernel
theorem dL_best_226 : decode cL_best 226 = .ok (.irem, 1) := by decide +kernel
theorem dL_best_227 : decode cL_best 227 = .ok (.istore 10, 2) := by decide +kernel
theorem dL_best_229 : decode cL_best 229 = .ok (.aload_n 0, 1) := by decide +kernel
theorem dL_best_230 : decode cL_best 230 = .ok (.iload 10, 2) := by decide +kernel
theorem dL_best_232 : decode cL_best 232 = .ok (.dup2, 1) := by decide +kernel
theorem dL_best_233 : decode cL_best 233 = .ok (.iaload, 1) := by decide +kernel
theorem dL_best_234 : decode cL_best 234 = .ok (.iconst 1, 1) := by decide +kernel
theorem dL_best_235 : decode cL_best 235 = .ok (.aload_n 1, 1) := by decide +kernel
theorem dL_best_236 : decode cL_best 236 = .ok (.iload 7, 2) := by decide +kernel
theorem dL_best_238 : decode cL_best 238 = .ok (.iaload, 1) := by decide +kernel
theorem dL_best_239 : decode cL_best 239 = .ok (.ishl, 1) := by decide +kernel
theorem dL_best_240 : decode cL_best 240 = .ok (.ior, 1) := by decide +kernel
theorem dL_best_241 : decode cL_best 241 = .ok (.iastore, 1) := by decide +kernel
theorem dL_best_242 : decode cL_best 242 = .ok (.aload 6, 2) := by decide +kernel
theorem dL_best_244 : decode cL_best 244 = .ok (.iload 7, 2) := by decide +kernel
theorem dL_best_246 : decode cL_best 246 = .ok (.iaload, 1) := by decide +kernel
theorem dL_best_247 : decode cL_best 247 = .ok (.ifCond .lt 33, 3) := by decide +kernel
theorem dL_best_250 : decode cL_best 250 = .ok (.iload 10, 2) := by decide +kernel
theorem dL_best_252 : decode cL_best 252 = .ok (.iconst 2, 1) := by decide +kernel
theorem dL_best_253 : decode cL_best 253 = .ok (.irem, 1) := by decide +kernel
theorem dL_best_254 : decode cL_best 254 = .ok (.ifCond .ne 16, 3) := by decide +kernel
theorem dL_best_257 : decode cL_best 257 = .ok (.iload 9, 2) := by decide +kernel
theorem dL_best_259 : decode cL_best 259 = .ok (.aload 6, 2) := by decide +kernel
theorem dL_best_261 : decode cL_best 261 = .ok (.iload 7, 2) := by decide +kernel
theorem dL_best_263 : decode cL_best 263 = .ok (.iaload, 1) := by decide +kernel
theorem dL_best_264 : decode cL_best 264 = .ok (.if_icmp .le 20, 3) := by decide +kernel
theorem dL_best_267 : decode cL_best 267 = .ok (.goto 13, 3) := by decide +kernel
theorem dL_best_270 : decode cL_best 270 = .ok (.iload 9, 2) := by decide +kernel
theorem dL_best_272 : decode cL_best 272 = .ok (.aload 6, 2) := by decide +kernel
theorem dL_best_274 : decode cL_best 274 = .ok (.iload 7, 2) := by decide +kernel
theorem dL_best_276 : decode cL_best 276 = .ok (.iaload, 1) := by decide +kernel
theorem dL_best_277 : decode cL_best 277 = .ok (.if_icmp .ge 7, 3) := by decide +kernel
theorem dL_best_280 : decode cL_best 280 = .ok (.iconst 1, 1) := by decide +kernel
theorem dL_best_281 : decode cL_best 281 = .ok (.goto 4, 3) := by decide +kernel
theorem dL_best_284 : decode cL_best 284 = .ok (.iconst 0, 1) := by decide +kernel
theorem dL_best_285 : decode cL_best 285 = .ok (.istore 11, 2) := by decide +kernel
theorem dL_best_287 : decode cL_best 287 = .ok (.aload 6, 2) := by decide +kernel
theorem dL_best_289 : decode cL_best 289 = .ok (.iload 7, 2) := by decide +kernel
theorem dL_best_291 : decode cL_best 291 = .ok (.iload 11, 2) := by decide +kernel
theorem dL_best_293 : decode cL_best 293 = .ok (.ifCond .eq 8, 3) := by decide +kernel
theorem dL_best_296 : decode cL_best 296 = .ok (.iload 9, 2) := by decide +kernel
theorem dL_best_298 : decode cL_best 298 = .ok (.goto 8, 3) := by decide +kernel
theorem dL_best_301 : decode cL_best 301 = .ok (.aload 6, 2) := by decide +kernel
theorem dL_best_303 : decode cL_best 303 = .ok (.iload 7, 2) := by decide +kernel
theorem dL_best_305 : decode cL_best 305 = .ok (.iaload, 1) := by decide +kernel
theorem dL_best_306 : decode cL_best 306 = .ok (.iastore, 1) := by decide +kernel
theorem dL_best_307 : decode cL_best 307 = .ok (.goto (-245), 3) := by decide +kernel
set_option maxRecDepth 20000 in
theorem ggL_holder_L_has : GoodIn wsL_holder wsL_has := goodIn_r _ [4] (by decide +kernel) (by decide +kernel)
set_option maxRecDepth 20000 in
theorem gL_holder_L_has : GoodIn wsL_holder (va_wsS RL 13 yL_has wsL_has) := goodIn_app (goodIn_of _ (by decide +kernel)) ggL_holder_L_has
theorem dL_holder_0 : decode cL_holder 0 = .ok (.aload_n 0, 1) := by decide +kernel
theorem dL_holder_1 : decode cL_holder 1 = .ok (.iconst 0, 1) := by decide +kernel
theorem dL_holder_2 : decode cL_holder 2 = .ok (.iaload, 1) := by decide +kernel
theorem dL_holder_3 : decode cL_holder 3 = .ok (.iload_n 1, 1) := by decide +kernel
theorem dL_holder_4 : decode cL_holder 4 = .ok (.invokestatic 13, 3) := by decide +kernel
theorem dL_holder_7 : decode cL_holder 7 = .ok (.ifCond .eq 7, 3) := by decide +kernel
theorem dL_holder_10 : decode cL_holder 10 = .ok (.iconst 0, 1) := by decide +kernel
theorem dL_holder_11 : decode cL_holder 11 = .ok (.goto 46, 3) := by decide +kernel
theorem dL_holder_14 : decode cL_holder 14 = .ok (.aload_n 0, 1) := by decide +kernel
theorem dL_holder_15 : decode cL_holder 15 = .ok (.iconst 1, 1) := by decide +kernel
theorem dL_holder_16 : decode cL_holder 16 = .ok (.iaload, 1) := by decide +kernel
theorem dL_holder_17 : decode cL_holder 17 = .ok (.iload_n 1, 1) := by decide +kernel
theorem dL_holder_18 : decode cL_holder 18 = .ok (.invokestatic 13, 3) := by decide +kernel
theorem dL_holder_21 : decode cL_holder 21 = .ok (.ifCond .eq 7, 3) := by decide +kernel
theorem dL_holder_24 : decode cL_holder 24 = .ok (.iconst 1, 1) := by decide +kernel
theorem dL_holder_25 : decode cL_holder 25 = .ok (.goto 32, 3) := by decide +kernel
theorem dL_holder_28 : decode cL_holder 28 = .ok (.aload_n 0, 1) := by decide +kernel
theorem dL_holder_29 : decode cL_holder 29 = .ok (.iconst 2, 1) := by decide +kernel
theorem dL_holder_30 : decode cL_holder 30 = .ok (.iaload, 1) := by decide +kernel
theorem dL_holder_31 : decode cL_holder 31 = .ok (.iload_n 1, 1) := by decide +kernel
theorem dL_holder_32 : decode cL_holder 32 = .ok (.invokestatic 13, 3) := by decide +kernel
theorem dL_holder_35 : decode cL_holder 35 = .ok (.ifCond .eq 7, 3) := by decide +kernel
theorem dL_holder_38 : decode cL_holder 38 = .ok (.iconst 2, 1) := by decide +kernel
theorem dL_holder_39 : decode cL_holder 39 = .ok (.goto 18, 3) := by decide +kernel
theorem dL_holder_42 : decode cL_holder 42 = .ok (.aload_n 0, 1) := by decide +kernel
theorem dL_holder_43 : decode cL_holder 43 = .ok (.iconst 3, 1) := by decide +kernel
theorem dL_holder_44 : decode cL_holder 44 = .ok (.iaload, 1) := by decide +kernel
theorem dL_holder_45 : decode cL_holder 45 = .ok (.iload_n 1, 1) := by decide +kernel
theorem dL_holder_46 : decode cL_holder 46 = .ok (.invokestatic 13, 3) := by decide +kernel
theorem dL_holder_49 : decode cL_holder 49 = .ok (.ifCond .eq 7, 3) := by decide +kernel
theorem dL_holder_52 : decode cL_holder 52 = .ok (.iconst 3, 1) := by decide +kernel
theorem dL_holder_53 : decode cL_holder 53 = .ok (.goto 4, 3) := by decide +kernel
theorem dL_holder_56 : decode cL_holder 56 = .ok (.iconst (-1), 1) := by decide +kernel
theorem dL_holder_57 : decode cL_holder 57 = .ok (.ireturn, 1) := by decide +kernel
theorem dL_isOnTable_0 : decode cL_isOnTable 0 = .ok (.iconst 0, 1) := by decide +kernel
theorem dL_isOnTable_1 : decode cL_isOnTable 1 = .ok (.istore_n 3, 1) := by decide +kernel
theorem dL_isOnTable_2 : decode cL_isOnTable 2 = .ok (.aload_n 1, 1) := by decide +kernel
theorem dL_isOnTable_3 : decode cL_isOnTable 3 = .ok (.iconst 0, 1) := by decide +kernel
theorem dL_isOnTable_4 : decode cL_isOnTable 4 = .ok (.iaload, 1) := by decide +kernel
theorem dL_isOnTable_5 : decode cL_isOnTable 5 = .ok (.aload_n 1, 1) := by decide +kernel
theorem dL_isOnTable_6 : decode cL_isOnTable 6 = .ok (.iconst 0, 1) := by decide +kernel
theorem dL_isOnTable_7 : decode cL_isOnTable 7 = .ok (.iaload, 1) := by decide +kernel
theorem dL_isOnTable_8 : decode cL_isOnTable 8 = .ok (.iconst 4, 1) := by decide +kernel
theorem dL_isOnTable_9 : decode cL_isOnTable 9 = .ok (.irem, 1) := by decide +kernel
theorem dL_isOnTable_10 : decode cL_isOnTable 10 = .ok (.isub, 1) := by decide +kernel
theorem dL_isOnTable_11 : decode cL_isOnTable 11 = .ok (.istore 4, 2) := by decide +kernel
theorem dL_isOnTable_13 : decode cL_isOnTable 13 = .ok (.iload 4, 2) := by decide +kernel
theorem dL_isOnTable_15 : decode cL_isOnTable 15 = .ok (.aload_n 1, 1) := by decide +kernel
theorem dL_isOnTable_16 : decode cL_isOnTable 16 = .ok (.iconst 0, 1) := by decide +kernel
theorem dL_isOnTable_17 : decode cL_isOnTable 17 = .ok (.iaload, 1) := by decide +kernel
theorem dL_isOnTable_18 : decode cL_isOnTable 18 = .ok (.if_icmp .ge 27, 3) := by decide +kernel
theorem dL_isOnTable_21 : decode cL_isOnTable 21 = .ok (.iload_n 3, 1) := by decide +kernel
theorem dL_isOnTable_22 : decode cL_isOnTable 22 = .ok (.ifCond .ne 11, 3) := by decide +kernel
theorem dL_isOnTable_25 : decode cL_isOnTable 25 = .ok (.aload_n 0, 1) := by decide +kernel
theorem dL_isOnTable_26 : decode cL_isOnTable 26 = .ok (.iload 4, 2) := by decide +kernel
theorem dL_isOnTable_28 : decode cL_isOnTable 28 = .ok (.iaload, 1) := by decide +kernel
theorem dL_isOnTable_29 : decode cL_isOnTable 29 = .ok (.iload_n 2, 1) := by decide +kernel
theorem dL_isOnTable_30 : decode cL_isOnTable 30 = .ok (.if_icmp .ne 7, 3) := by decide +kernel
theorem dL_isOnTable_33 : decode cL_isOnTable 33 = .ok (.iconst 1, 1) := by decide +kernel
theorem dL_isOnTable_34 : decode cL_isOnTable 34 = .ok (.goto 4, 3) := by decide +kernel
theorem dL_isOnTable_37 : decode cL_isOnTable 37 = .ok (.iconst 0, 1) := by decide +kernel
theorem dL_isOnTable_38 : decode cL_isOnTable 38 = .ok (.istore_n 3, 1) := by decide +kernel
theorem dL_isOnTable_39 : decode cL_isOnTable 39 = .ok (.iinc 4 1, 3) := by decide +kernel
theorem dL_isOnTable_42 : decode cL_isOnTable 42 = .ok (.goto (-29), 3) := by decide +kernel
theorem dL_isOnTable_45 : decode cL_isOnTable 45 = .ok (.iload_n 3, 1) := by decide +kernel
theorem dL_isOnTable_46 : decode cL_isOnTable 46 = .ok (.ireturn, 1) := by decide +kernel
set_option maxRecDepth 20000 in
theorem ggL_areEqual_L_holder : GoodIn wsL_areEqual wsL_holder := goodIn_r _ [4, 5, 6, 3, 7] (by decide +kernel) (by decide +kernel)
set_option maxRecDepth 20000 in
theorem gL_areEqual_L_holder : GoodIn wsL_areEqual (va_wsS RL 29 yL_holder wsL_holder) := goodIn_app (goodIn_of _ (by decide +kernel)) ggL_areEqual_L_holder
set_option maxRecDepth 20000 in
theorem ggL_areEqual_L_isOnTable : GoodIn wsL_areEqual wsL_isOnTable := goodIn_r _ [10] (by decide +kernel) (by decide +kernel)
set_option maxRecDepth 20000 in
theorem gL_areEqual_L_isOnTable : GoodIn wsL_areEqual (va_wsS RL 33 yL_isOnTable wsL_isOnTable) := goodIn_app (goodIn_of _ (by decide +kernel)) ggL_areEqual_L_isOnTable
theorem dL_areEqual_0 : decode cL_areEqual 0 = .ok (.iload_n 3, 1) := by decide +kernel
theorem dL_areEqual_1 : decode cL_areEqual 1 = .ok (.bipush 6, 2) := by decide +kernel
theorem dL_areEqual_3 : decode cL_areEqual 3 = .ok (.idiv, 1) := by decide +kernel
theorem dL_areEqual_4 : decode cL_areEqual 4 = .ok (.iload 4, 2) := by decide +kernel
theorem dL_areEqual_6 : decode cL_areEqual 6 = .ok (.bipush 6, 2) := by decide +kernel
theorem dL_areEqual_8 : decode cL_areEqual 8 = .ok (.idiv, 1) := by decide +kernel
theorem dL_areEqual_9 : decode cL_areEqual 9 = .ok (.if_icmp .ne 21, 3) := by decide +kernel
theorem dL_areEqual_12 : decode cL_areEqual 12 = .ok (.aload_n 0, 1) := by decide +kernel
theorem dL_areEqual_13 : decode cL_areEqual 13 = .ok (.iload_n 3, 1) := by decide +kernel
theorem dL_areEqual_14 : decode cL_areEqual 14 = .ok (.invokestatic 29, 3) := by decide +kernel
theorem dL_areEqual_17 : decode cL_areEqual 17 = .ok (.aload_n 0, 1) := by decide +kernel
theorem dL_areEqual_18 : decode cL_areEqual 18 = .ok (.iload 4, 2) := by decide +kernel
theorem dL_areEqual_20 : decode cL_areEqual 20 = .ok (.invokestatic 29, 3) := by decide +kernel
theorem dL_areEqual_23 : decode cL_areEqual 23 = .ok (.if_icmp .ne 7, 3) := by decide +kernel
theorem dL_areEqual_26 : decode cL_areEqual 26 = .ok (.iconst 1, 1) := by decide +kernel
theorem dL_areEqual_27 : decode cL_areEqual 27 = .ok (.goto 4, 3) := by decide +kernel
theorem dL_areEqual_30 : decode cL_areEqual 30 = .ok (.iconst 0, 1) := by decide +kernel
theorem dL_areEqual_31 : decode cL_areEqual 31 = .ok (.istore 5, 2) := by decide +kernel
theorem dL_areEqual_33 : decode cL_areEqual 33 = .ok (.iload_n 3, 1) := by decide +kernel
theorem dL_areEqual_34 : decode cL_areEqual 34 = .ok (.iconst 1, 1) := by decide +kernel
theorem dL_areEqual_35 : decode cL_areEqual 35 = .ok (.iadd, 1) := by decide +kernel
theorem dL_areEqual_36 : decode cL_areEqual 36 = .ok (.istore 6, 2) := by decide +kernel
theorem dL_areEqual_38 : decode cL_areEqual 38 = .ok (.iload 6, 2) := by decide +kernel
theorem dL_areEqual_40 : decode cL_areEqual 40 = .ok (.iload 4, 2) := by decide +kernel
theorem dL_areEqual_42 : decode cL_areEqual 42 = .ok (.if_icmp .ge 54, 3) := by decide +kernel
theorem dL_areEqual_45 : decode cL_areEqual 45 = .ok (.iload 5, 2) := by decide +kernel
theorem dL_areEqual_47 : decode cL_areEqual 47 = .ok (.ifCond .eq 40, 3) := by decide +kernel
theorem dL_areEqual_50 : decode cL_areEqual 50 = .ok (.aload_n 1, 1) := by decide +kernel
theorem dL_areEqual_51 : decode cL_areEqual 51 = .ok (.aload_n 2, 1) := by decide +kernel
theorem dL_areEqual_52 : decode cL_areEqual 52 = .ok (.iload 6, 2) := by decide +kernel
theorem dL_areEqual_54 : decode cL_areEqual 54 = .ok (.invokestatic 33, 3) := by decide +kernel
theorem dL_areEqual_57 : decode cL_areEqual 57 = .ok (.ifCond .ne 30, 3) := by decide +kernel
theorem dL_areEqual_60 : decode cL_areEqual 60 = .ok (.aload_n 0, 1) := by decide +kernel
theorem dL_areEqual_61 : decode cL_areEqual 61 = .ok (.iload 6, 2) := by decide +kernel
theorem dL_areEqual_63 : decode cL_areEqual 63 = .ok (.invokestatic 29, 3) := by decide +kernel
theorem dL_areEqual_66 : decode cL_areEqual 66 = .ok (.ifCond .lt 17, 3) := by decide +kernel
theorem dL_areEqual_69 : decode cL_areEqual 69 = .ok (.aload_n 0, 1) := by decide +kernel
theorem dL_areEqual_70 : decode cL_areEqual 70 = .ok (.iload 6, 2) := by decide +kernel
theorem dL_areEqual_72 : decode cL_areEqual 72 = .ok (.invokestatic 29, 3) := by decide +kernel
theorem dL_areEqual_75 : decode cL_areEqual 75 = .ok (.aload_n 0, 1) := by decide +kernel
theorem dL_areEqual_76 : decode cL_areEqual 76 = .ok (.iload_n 3, 1) := by decide +kernel
theorem dL_areEqual_77 : decode cL_areEqual 77 = .ok (.invokestatic 29, 3) := by decide +kernel
theorem dL_areEqual_80 : decode cL_areEqual 80 = .ok (.if_icmp .ne 7, 3) := by decide +kernel
theorem dL_areEqual_83 : decode cL_areEqual 83 = .ok (.iconst 1, 1) := by decide +kernel
theorem dL_areEqual_84 : decode cL_areEqual 84 = .ok (.goto 4, 3) := by decide +kernel
theorem dL_areEqual_87 : decode cL_areEqual 87 = .ok (.iconst 0, 1) := by decide +kernel
theorem dL_areEqual_88 : decode cL_areEqual 88 = .ok (.istore 5, 2) := by decide +kernel
theorem dL_areEqual_90 : decode cL_areEqual 90 = .ok (.iinc 6 1, 3) := by decide +kernel
theorem dL_areEqual_93 : decode cL_areEqual 93 = .ok (.goto (-55), 3) := by decide +kernel
theorem dL_areEqual_96 : decode cL_areEqual 96 = .ok (.iload 5, 2) := by decide +kernel
theorem dL_areEqual_98 : decode cL_areEqual 98 = .ok (.ireturn, 1) := by decide +kernel
set_option maxRecDepth 20000 in
theorem ggL_lowest_L_holder : GoodIn wsL_lowest wsL_holder := goodIn_r _ [4, 5, 6, 3, 7] (by decide +kernel) (by decide +kernel)
set_option maxRecDepth 20000 in
theorem gL_lowest_L_holder : GoodIn wsL_lowest (va_wsS RL 29 yL_holder wsL_holder) := goodIn_app (goodIn_of _ (by decide +kernel)) ggL_lowest_L_holder
set_option maxRecDepth 20000 in
theorem ggL_lowest_L_areEqual : GoodIn wsL_lowest wsL_areEqual := goodIn_r _ [10, 1, 2, 3, 4, 5, 6, 7, 11, 12, 13] (by decide +kernel) (by decide +kernel)
set_option maxRecDepth 20000 in
theorem gL_lowest_L_areEqual : GoodIn wsL_lowest (va_wsS RL 37 yL_areEqual wsL_areEqual) := goodIn_app (goodIn_of _ (by decide +kernel)) ggL_lowest_L_areEqual
theorem dL_lowest_0 : decode cL_lowest 0 = .ok (.iload_n 3, 1) := by decide +kernel
theorem dL_lowest_1 : decode cL_lowest 1 = .ok (.istore 4, 2) := by decide +kernel
theorem dL_lowest_3 : decode cL_lowest 3 = .ok (.iload_n 3, 1) := by decide +kernel
theorem dL_lowest_4 : decode cL_lowest 4 = .ok (.iconst 1, 1) := by decide +kernel
theorem dL_lowest_5 : decode cL_lowest 5 = .ok (.isub, 1) := by decide +kernel
theorem dL_lowest_6 : decode cL_lowest 6 = .ok (.istore 5, 2) := by decide +kernel
theorem dL_lowest_8 : decode cL_lowest 8 = .ok (.iload 5, 2) := by decide +kernel
theorem dL_lowest_10 : decode cL_lowest 10 = .ok (.ifCond .lt 44, 3) := by decide +kernel
theorem dL_lowest_13 : decode cL_lowest 13 = .ok (.aload_n 0, 1) := by decide +kernel
theorem dL_lowest_14 : decode cL_lowest 14 = .ok (.iload 5, 2) := by decide +kernel
theorem dL_lowest_16 : decode cL_lowest 16 = .ok (.invokestatic 29, 3) := by decide +kernel
theorem dL_lowest_19 : decode cL_lowest 19 = .ok (.aload_n 0, 1) := by decide +kernel
theorem dL_lowest_20 : decode cL_lowest 20 = .ok (.iload_n 3, 1) := by decide +kernel
theorem dL_lowest_21 : decode cL_lowest 21 = .ok (.invokestatic 29, 3) := by decide +kernel
theorem dL_lowest_24 : decode cL_lowest 24 = .ok (.if_icmp .ne 20, 3) := by decide +kernel
theorem dL_lowest_27 : decode cL_lowest 27 = .ok (.aload_n 0, 1) := by decide +kernel
theorem dL_lowest_28 : decode cL_lowest 28 = .ok (.aload_n 1, 1) := by decide +kernel
theorem dL_lowest_29 : decode cL_lowest 29 = .ok (.aload_n 2, 1) := by decide +kernel
theorem dL_lowest_30 : decode cL_lowest 30 = .ok (.iload 5, 2) := by decide +kernel
theorem dL_lowest_32 : decode cL_lowest 32 = .ok (.iload_n 3, 1) := by decide +kernel
theorem dL_lowest_33 : decode cL_lowest 33 = .ok (.invokestatic 37, 3) := by decide +kernel
theorem dL_lowest_36 : decode cL_lowest 36 = .ok (.ifCond .eq 8, 3) := by decide +kernel
theorem dL_lowest_39 : decode cL_lowest 39 = .ok (.iload 5, 2) := by decide +kernel
theorem dL_lowest_41 : decode cL_lowest 41 = .ok (.goto 5, 3) := by decide +kernel
theorem dL_lowest_44 : decode cL_lowest 44 = .ok (.iload 4, 2) := by decide +kernel
theorem dL_lowest_46 : decode cL_lowest 46 = .ok (.istore 4, 2) := by decide +kernel
theorem dL_lowest_48 : decode cL_lowest 48 = .ok (.iinc 5 (-1), 3) := by decide +kernel
theorem dL_lowest_51 : decode cL_lowest 51 = .ok (.goto (-43), 3) := by decide +kernel
theorem dL_lowest_54 : decode cL_lowest 54 = .ok (.iload 4, 2) := by decide +kernel
theorem dL_lowest_56 : decode cL_lowest 56 = .ok (.ireturn, 1) := by decide +kernel
set_option maxRecDepth 20000 in
theorem ggL_isTop_L_isOnTable : GoodIn wsL_isTop wsL_isOnTable := goodIn_r _ [4] (by decide +kernel) (by decide +kernel)
set_option maxRecDepth 20000 in
theorem gL_isTop_L_isOnTable : GoodIn wsL_isTop (va_wsS RL 33 yL_isOnTable wsL_isOnTable) := goodIn_app (goodIn_of _ (by decide +kernel)) ggL_isTop_L_isOnTable
set_option maxRecDepth 20000 in
theorem ggL_isTop_L_holder : GoodIn wsL_isTop wsL_holder := goodIn_r _ [7, 8, 9, 3, 10] (by decide +kernel) (by decide +kernel)
set_option maxRecDepth 20000 in
theorem gL_isTop_L_holder : GoodIn wsL_isTop (va_wsS RL 29 yL_holder wsL_holder) := goodIn_app (goodIn_of _ (by decide +kernel)) ggL_isTop_L_holder
theorem dL_isTop_0 : decode cL_isTop 0 = .ok (.iconst 1, 1) := by decide +kernel
theorem dL_isTop_1 : decode cL_isTop 1 = .ok (.istore 4, 2) := by decide +kernel
theorem dL_isTop_3 : decode cL_isTop 3 = .ok (.iload_n 3, 1) := by decide +kernel
theorem dL_isTop_4 : decode cL_isTop 4 = .ok (.iconst 1, 1) := by decide +kernel
theorem dL_isTop_5 : decode cL_isTop 5 = .ok (.iadd, 1) := by decide +kernel
theorem dL_isTop_6 : decode cL_isTop 6 = .ok (.istore 5, 2) := by decide +kernel
theorem dL_isTop_8 : decode cL_isTop 8 = .ok (.iload 5, 2) := by decide +kernel
theorem dL_isTop_10 : decode cL_isTop 10 = .ok (.bipush 24, 2) := by decide +kernel
theorem dL_isTop_12 : decode cL_isTop 12 = .ok (.if_icmp .ge 66, 3) := by decide +kernel
theorem dL_isTop_15 : decode cL_isTop 15 = .ok (.iload 5, 2) := by decide +kernel
theorem dL_isTop_17 : decode cL_isTop 17 = .ok (.bipush 6, 2) := by decide +kernel
theorem dL_isTop_19 : decode cL_isTop 19 = .ok (.idiv, 1) := by decide +kernel
theorem dL_isTop_20 : decode cL_isTop 20 = .ok (.iload_n 3, 1) := by decide +kernel
theorem dL_isTop_21 : decode cL_isTop 21 = .ok (.bipush 6, 2) := by decide +kernel
theorem dL_isTop_23 : decode cL_isTop 23 = .ok (.idiv, 1) := by decide +kernel
theorem dL_isTop_24 : decode cL_isTop 24 = .ok (.if_icmp .ne 54, 3) := by decide +kernel
theorem dL_isTop_27 : decode cL_isTop 27 = .ok (.iload 4, 2) := by decide +kernel
theorem dL_isTop_29 : decode cL_isTop 29 = .ok (.ifCond .eq 40, 3) := by decide +kernel
theorem dL_isTop_32 : decode cL_isTop 32 = .ok (.aload_n 1, 1) := by decide +kernel
theorem dL_isTop_33 : decode cL_isTop 33 = .ok (.aload_n 2, 1) := by decide +kernel
theorem dL_isTop_34 : decode cL_isTop 34 = .ok (.iload 5, 2) := by decide +kernel
theorem dL_isTop_36 : decode cL_isTop 36 = .ok (.invokestatic 33, 3) := by decide +kernel
theorem dL_isTop_39 : decode cL_isTop 39 = .ok (.ifCond .ne 30, 3) := by decide +kernel
theorem dL_isTop_42 : decode cL_isTop 42 = .ok (.aload_n 0, 1) := by decide +kernel
theorem dL_isTop_43 : decode cL_isTop 43 = .ok (.iload 5, 2) := by decide +kernel
theorem dL_isTop_45 : decode cL_isTop 45 = .ok (.invokestatic 29, 3) := by decide +kernel
theorem dL_isTop_48 : decode cL_isTop 48 = .ok (.ifCond .lt 17, 3) := by decide +kernel
theorem dL_isTop_51 : decode cL_isTop 51 = .ok (.aload_n 0, 1) := by decide +kernel
theorem dL_isTop_52 : decode cL_isTop 52 = .ok (.iload 5, 2) := by decide +kernel
theorem dL_isTop_54 : decode cL_isTop 54 = .ok (.invokestatic 29, 3) := by decide +kernel
theorem dL_isTop_57 : decode cL_isTop 57 = .ok (.aload_n 0, 1) := by decide +kernel
theorem dL_isTop_58 : decode cL_isTop 58 = .ok (.iload_n 3, 1) := by decide +kernel
theorem dL_isTop_59 : decode cL_isTop 59 = .ok (.invokestatic 29, 3) := by decide +kernel
theorem dL_isTop_62 : decode cL_isTop 62 = .ok (.if_icmp .ne 7, 3) := by decide +kernel
theorem dL_isTop_65 : decode cL_isTop 65 = .ok (.iconst 1, 1) := by decide +kernel
theorem dL_isTop_66 : decode cL_isTop 66 = .ok (.goto 4, 3) := by decide +kernel
theorem dL_isTop_69 : decode cL_isTop 69 = .ok (.iconst 0, 1) := by decide +kernel
theorem dL_isTop_70 : decode cL_isTop 70 = .ok (.istore 4, 2) := by decide +kernel
theorem dL_isTop_72 : decode cL_isTop 72 = .ok (.iinc 5 1, 3) := by decide +kernel
theorem dL_isTop_75 : decode cL_isTop 75 = .ok (.goto (-67), 3) := by decide +kernel
theorem dL_isTop_78 : decode cL_isTop 78 = .ok (.iload 4, 2) := by decide +kernel
theorem dL_isTop_80 : decode cL_isTop 80 = .ok (.ireturn, 1) := by decide +kernel
set_option maxRecDepth 20000 in
theorem ggL_fork_L_has : GoodIn wsL_fork wsL_has := goodIn_r _ [5] (by decide +kernel) (by decide +kernel)
set_option maxRecDepth 20000 in
theorem gL_fork_L_has : GoodIn wsL_fork (va_wsS RL 13 yL_has wsL_has) := goodIn_app (goodIn_of _ (by decide +kernel)) ggL_fork_L_has
set_option maxRecDepth 20000 in
theorem ggL_fork_L_holder : GoodIn wsL_fork wsL_holder := goodIn_r _ [8, 2, 3, 4, 5] (by decide +kernel) (by decide +kernel)
set_option maxRecDepth 20000 in
theorem gL_fork_L_holder : GoodIn wsL_fork (va_wsS RL 29 yL_holder wsL_holder) := goodIn_app (goodIn_of _ (by decide +kernel)) ggL_fork_L_holder
theorem dL_fork_0 : decode cL_fork 0 = .ok (.aload_n 0, 1) := by decide +kernel
theorem dL_fork_1 : decode cL_fork 1 = .ok (.iconst 0, 1) := by decide +kernel
theorem dL_fork_2 : decode cL_fork 2 = .ok (.iaload, 1) := by decide +kernel
theorem dL_fork_3 : decode cL_fork 3 = .ok (.aload_n 0, 1) := by decide +kernel
theorem dL_fork_4 : decode cL_fork 4 = .ok (.iconst 1, 1) := by decide +kernel
theorem dL_fork_5 : decode cL_fork 5 = .ok (.iaload, 1) := by decide +kernel
theorem dL_fork_6 : decode cL_fork 6 = .ok (.ior, 1) := by decide +kernel
theorem dL_fork_7 : decode cL_fork 7 = .ok (.aload_n 0, 1) := by decide +kernel
theorem dL_fork_8 : decode cL_fork 8 = .ok (.iconst 2, 1) := by decide +kernel
theorem dL_fork_9 : decode cL_fork 9 = .ok (.iaload, 1) := by decide +kernel
theorem dL_fork_10 : decode cL_fork 10 = .ok (.ior, 1) := by decide +kernel
theorem dL_fork_11 : decode cL_fork 11 = .ok (.aload_n 0, 1) := by decide +kernel
theorem dL_fork_12 : decode cL_fork 12 = .ok (.iconst 3, 1) := by decide +kernel
theorem dL_fork_13 : decode cL_fork 13 = .ok (.iaload, 1) := by decide +kernel
theorem dL_fork_14 : decode cL_fork 14 = .ok (.ior, 1) := by decide +kernel
theorem dL_fork_15 : decode cL_fork 15 = .ok (.bipush 6, 2) := by decide +kernel
theorem dL_fork_17 : decode cL_fork 17 = .ok (.iload_n 2, 1) := by decide +kernel
theorem dL_fork_18 : decode cL_fork 18 = .ok (.imul, 1) := by decide +kernel
theorem dL_fork_19 : decode cL_fork 19 = .ok (.ishr, 1) := by decide +kernel
theorem dL_fork_20 : decode cL_fork 20 = .ok (.bipush 63, 2) := by decide +kernel
theorem dL_fork_22 : decode cL_fork 22 = .ok (.iand, 1) := by decide +kernel
theorem dL_fork_23 : decode cL_fork 23 = .ok (.istore_n 3, 1) := by decide +kernel
theorem dL_fork_24 : decode cL_fork 24 = .ok (.iconst 3, 1) := by decide +kernel
theorem dL_fork_25 : decode cL_fork 25 = .ok (.newarray .int, 2) := by decide +kernel
theorem dL_fork_27 : decode cL_fork 27 = .ok (.astore 4, 2) := by decide +kernel
theorem dL_fork_29 : decode cL_fork 29 = .ok (.iconst 0, 1) := by decide +kernel
theorem dL_fork_30 : decode cL_fork 30 = .ok (.istore 5, 2) := by decide +kernel
theorem dL_fork_32 : decode cL_fork 32 = .ok (.iload 5, 2) := by decide +kernel
theorem dL_fork_34 : decode cL_fork 34 = .ok (.iconst 3, 1) := by decide +kernel
theorem dL_fork_35 : decode cL_fork 35 = .ok (.if_icmp .ge 64, 3) := by decide +kernel
theorem dL_fork_38 : decode cL_fork 38 = .ok (.iconst 5, 1) := by decide +kernel
theorem dL_fork_39 : decode cL_fork 39 = .ok (.istore 6, 2) := by decide +kernel
theorem dL_fork_41 : decode cL_fork 41 = .ok (.iload 6, 2) := by decide +kernel
theorem dL_fork_43 : decode cL_fork 43 = .ok (.ifCond .lt 18, 3) := by decide +kernel
theorem dL_fork_46 : decode cL_fork 46 = .ok (.iload_n 3, 1) := by decide +kernel
theorem dL_fork_47 : decode cL_fork 47 = .ok (.iload 6, 2) := by decide +kernel
theorem dL_fork_49 : decode cL_fork 49 = .ok (.invokestatic 13, 3) := by decide +kernel
theorem dL_fork_52 : decode cL_fork 52 = .ok (.ifCond .ne 9, 3) := by decide +kernel
theorem dL_fork_55 : decode cL_fork 55 = .ok (.iinc 6 (-1), 3) := by decide +kernel
theorem dL_fork_58 : decode cL_fork 58 = .ok (.goto (-17), 3) := by decide +kernel
theorem dL_fork_61 : decode cL_fork 61 = .ok (.iload 6, 2) := by decide +kernel
theorem dL_fork_63 : decode cL_fork 63 = .ok (.ifCond .ge 5, 3) := by decide +kernel
