theorem dX7_init_0 : decode cX7_init 0 = .ok (.aload_n 0, 1) := by decide +kernel
theorem dX7_init_1 : decode cX7_init 1 = .ok (.invokespecial 3, 3) := by decide +kernel
theorem dX7_init_4 : decode cX7_init 4 = .ok (.aload_n 0, 1) := by decide +kernel
theorem dX7_init_5 : decode cX7_init 5 = .ok (.bipush 9, 2) := by decide +kernel
theorem dX7_init_7 : decode cX7_init 7 = .ok (.newarray .int, 2) := by decide +kernel
theorem dX7_init_9 : decode cX7_init 9 = .ok (.putfield 9, 3) := by decide +kernel
theorem dX7_init_12 : decode cX7_init 12 = .ok (.aload_n 0, 1) := by decide +kernel
theorem dX7_init_13 : decode cX7_init 13 = .ok (.bipush 100, 2) := by decide +kernel
theorem dX7_init_15 : decode cX7_init 15 = .ok (.newarray .int, 2) := by decide +kernel
theorem dX7_init_17 : decode cX7_init 17 = .ok (.putfield 15, 3) := by decide +kernel
theorem dX7_init_20 : decode cX7_init 20 = .ok (.aload_n 0, 1) := by decide +kernel
theorem dX7_init_21 : decode cX7_init 21 = .ok (.bipush 64, 2) := by decide +kernel
theorem dX7_init_23 : decode cX7_init 23 = .ok (.newarray .int, 2) := by decide +kernel
theorem dX7_init_25 : decode cX7_init 25 = .ok (.putfield 18, 3) := by decide +kernel
theorem dX7_init_28 : decode cX7_init 28 = .ok (.aload_n 0, 1) := by decide +kernel
theorem dX7_init_29 : decode cX7_init 29 = .ok (.sipush 1024, 3) := by decide +kernel
theorem dX7_init_32 : decode cX7_init 32 = .ok (.newarray .long, 2) := by decide +kernel
theorem dX7_init_34 : decode cX7_init 34 = .ok (.putfield 21, 3) := by decide +kernel
theorem dX7_init_37 : decode cX7_init 37 = .ok (.aload_n 0, 1) := by decide +kernel
theorem dX7_init_38 : decode cX7_init 38 = .ok (.sipush 1024, 3) := by decide +kernel
theorem dX7_init_41 : decode cX7_init 41 = .ok (.newarray .int, 2) := by decide +kernel
theorem dX7_init_43 : decode cX7_init 43 = .ok (.putfield 25, 3) := by decide +kernel
theorem dX7_init_46 : decode cX7_init 46 = .ok (.aload_n 0, 1) := by decide +kernel
theorem dX7_init_47 : decode cX7_init 47 = .ok (.aconst_null, 1) := by decide +kernel
theorem dX7_init_48 : decode cX7_init 48 = .ok (.putfield 28, 3) := by decide +kernel
theorem dX7_init_51 : decode cX7_init 51 = .ok (.return_, 1) := by decide +kernel
theorem dX7_look_0 : decode cX7_look 0 = .ok (.aload_n 1, 1) := by decide +kernel
theorem dX7_look_1 : decode cX7_look 1 = .ok (.getfield 32, 3) := by decide +kernel
theorem dX7_look_4 : decode cX7_look 4 = .ok (.astore 4, 2) := by decide +kernel
theorem dX7_look_6 : decode cX7_look 6 = .ok (.getstatic 37, 3) := by decide +kernel
theorem dX7_look_9 : decode cX7_look 9 = .ok (.iload_n 3, 1) := by decide +kernel
theorem dX7_look_10 : decode cX7_look 10 = .ok (.iaload, 1) := by decide +kernel
theorem dX7_look_11 : decode cX7_look 11 = .ok (.istore 5, 2) := by decide +kernel
theorem dX7_look_13 : decode cX7_look 13 = .ok (.getstatic 40, 3) := by decide +kernel
theorem dX7_look_16 : decode cX7_look 16 = .ok (.iload_n 3, 1) := by decide +kernel
theorem dX7_look_17 : decode cX7_look 17 = .ok (.iaload, 1) := by decide +kernel
theorem dX7_look_18 : decode cX7_look 18 = .ok (.istore 6, 2) := by decide +kernel
theorem dX7_look_20 : decode cX7_look 20 = .ok (.iload_n 2, 1) := by decide +kernel
theorem dX7_look_21 : decode cX7_look 21 = .ok (.iload 5, 2) := by decide +kernel
theorem dX7_look_23 : decode cX7_look 23 = .ok (.iadd, 1) := by decide +kernel
theorem dX7_look_24 : decode cX7_look 24 = .ok (.istore 7, 2) := by decide +kernel
theorem dX7_look_26 : decode cX7_look 26 = .ok (.iload 7, 2) := by decide +kernel
theorem dX7_look_28 : decode cX7_look 28 = .ok (.iload 5, 2) := by decide +kernel
theorem dX7_look_30 : decode cX7_look 30 = .ok (.iadd, 1) := by decide +kernel
theorem dX7_look_31 : decode cX7_look 31 = .ok (.istore 8, 2) := by decide +kernel
theorem dX7_look_33 : decode cX7_look 33 = .ok (.iload 8, 2) := by decide +kernel
theorem dX7_look_35 : decode cX7_look 35 = .ok (.iload 5, 2) := by decide +kernel
theorem dX7_look_37 : decode cX7_look 37 = .ok (.iadd, 1) := by decide +kernel
theorem dX7_look_38 : decode cX7_look 38 = .ok (.istore 9, 2) := by decide +kernel
theorem dX7_look_40 : decode cX7_look 40 = .ok (.aload 4, 2) := by decide +kernel
theorem dX7_look_42 : decode cX7_look 42 = .ok (.iload 7, 2) := by decide +kernel
theorem dX7_look_44 : decode cX7_look 44 = .ok (.iaload, 1) := by decide +kernel
theorem dX7_look_45 : decode cX7_look 45 = .ok (.aload 4, 2) := by decide +kernel
theorem dX7_look_47 : decode cX7_look 47 = .ok (.iload 8, 2) := by decide +kernel
theorem dX7_look_49 : decode cX7_look 49 = .ok (.iaload, 1) := by decide +kernel
theorem dX7_look_50 : decode cX7_look 50 = .ok (.aload 4, 2) := by decide +kernel
theorem dX7_look_52 : decode cX7_look 52 = .ok (.iload 9, 2) := by decide +kernel
theorem dX7_look_54 : decode cX7_look 54 = .ok (.iaload, 1) := by decide +kernel
theorem dX7_look_55 : decode cX7_look 55 = .ok (.invokestatic 43, 3) := by decide +kernel
theorem dX7_look_58 : decode cX7_look 58 = .ok (.invokestatic 43, 3) := by decide +kernel
theorem dX7_look_61 : decode cX7_look 61 = .ok (.istore 10, 2) := by decide +kernel
theorem dX7_look_63 : decode cX7_look 63 = .ok (.aload 4, 2) := by decide +kernel
theorem dX7_look_65 : decode cX7_look 65 = .ok (.iload_n 2, 1) := by decide +kernel
theorem dX7_look_66 : decode cX7_look 66 = .ok (.iload 6, 2) := by decide +kernel
theorem dX7_look_68 : decode cX7_look 68 = .ok (.isub, 1) := by decide +kernel
theorem dX7_look_69 : decode cX7_look 69 = .ok (.iaload, 1) := by decide +kernel
theorem dX7_look_70 : decode cX7_look 70 = .ok (.istore 11, 2) := by decide +kernel
theorem dX7_look_72 : decode cX7_look 72 = .ok (.aload 4, 2) := by decide +kernel
theorem dX7_look_74 : decode cX7_look 74 = .ok (.iload_n 2, 1) := by decide +kernel
theorem dX7_look_75 : decode cX7_look 75 = .ok (.iload 6, 2) := by decide +kernel
theorem dX7_look_77 : decode cX7_look 77 = .ok (.iadd, 1) := by decide +kernel
theorem dX7_look_78 : decode cX7_look 78 = .ok (.iaload, 1) := by decide +kernel
theorem dX7_look_79 : decode cX7_look 79 = .ok (.istore 12, 2) := by decide +kernel
theorem dX7_look_81 : decode cX7_look 81 = .ok (.iconst 0, 1) := by decide +kernel
theorem dX7_look_82 : decode cX7_look 82 = .ok (.istore 13, 2) := by decide +kernel
theorem dX7_look_84 : decode cX7_look 84 = .ok (.iconst 0, 1) := by decide +kernel
theorem dX7_look_85 : decode cX7_look 85 = .ok (.istore 14, 2) := by decide +kernel
theorem dX7_look_87 : decode cX7_look 87 = .ok (.iconst 0, 1) := by decide +kernel
theorem dX7_look_88 : decode cX7_look 88 = .ok (.istore 15, 2) := by decide +kernel
theorem dX7_look_90 : decode cX7_look 90 = .ok (.iload 11, 2) := by decide +kernel
theorem dX7_look_92 : decode cX7_look 92 = .ok (.ifCond .le 23, 3) := by decide +kernel
theorem dX7_look_95 : decode cX7_look 95 = .ok (.iload 12, 2) := by decide +kernel
theorem dX7_look_97 : decode cX7_look 97 = .ok (.ifCond .le 18, 3) := by decide +kernel
theorem dX7_look_100 : decode cX7_look 100 = .ok (.iconst 1, 1) := by decide +kernel
theorem dX7_look_101 : decode cX7_look 101 = .ok (.istore 13, 2) := by decide +kernel
theorem dX7_look_103 : decode cX7_look 103 = .ok (.iload 11, 2) := by decide +kernel
theorem dX7_look_105 : decode cX7_look 105 = .ok (.iload 12, 2) := by decide +kernel
theorem dX7_look_107 : decode cX7_look 107 = .ok (.invokestatic 43, 3) := by decide +kernel
theorem dX7_look_110 : decode cX7_look 110 = .ok (.istore 14, 2) := by decide +kernel
theorem dX7_look_112 : decode cX7_look 112 = .ok (.goto 127, 3) := by decide +kernel
theorem dX7_look_115 : decode cX7_look 115 = .ok (.aload 4, 2) := by decide +kernel
theorem dX7_look_117 : decode cX7_look 117 = .ok (.iload_n 2, 1) := by decide +kernel
theorem dX7_look_118 : decode cX7_look 118 = .ok (.iload 5, 2) := by decide +kernel
theorem dX7_look_120 : decode cX7_look 120 = .ok (.isub, 1) := by decide +kernel
theorem dX7_look_121 : decode cX7_look 121 = .ok (.iaload, 1) := by decide +kernel
theorem dX7_look_122 : decode cX7_look 122 = .ok (.ifCond .le 18, 3) := by decide +kernel
theorem dX7_look_125 : decode cX7_look 125 = .ok (.iconst 2, 1) := by decide +kernel
theorem dX7_look_126 : decode cX7_look 126 = .ok (.istore 13, 2) := by decide +kernel
theorem dX7_look_128 : decode cX7_look 128 = .ok (.aload 4, 2) := by decide +kernel
theorem dX7_look_130 : decode cX7_look 130 = .ok (.iload_n 2, 1) := by decide +kernel
theorem dX7_look_131 : decode cX7_look 131 = .ok (.iload 5, 2) := by decide +kernel
theorem dX7_look_133 : decode cX7_look 133 = .ok (.isub, 1) := by decide +kernel
theorem dX7_look_134 : decode cX7_look 134 = .ok (.iaload, 1) := by decide +kernel
theorem dX7_look_135 : decode cX7_look 135 = .ok (.istore 14, 2) := by decide +kernel
theorem dX7_look_137 : decode cX7_look 137 = .ok (.goto 102, 3) := by decide +kernel
theorem dX7_look_140 : decode cX7_look 140 = .ok (.iload 11, 2) := by decide +kernel
theorem dX7_look_142 : decode cX7_look 142 = .ok (.ifCond .le 24, 3) := by decide +kernel
theorem dX7_look_145 : decode cX7_look 145 = .ok (.aload 4, 2) := by decide +kernel
theorem dX7_look_147 : decode cX7_look 147 = .ok (.iload 7, 2) := by decide +kernel
theorem dX7_look_149 : decode cX7_look 149 = .ok (.iload 6, 2) := by decide +kernel
theorem dX7_look_151 : decode cX7_look 151 = .ok (.isub, 1) := by decide +kernel
theorem dX7_look_152 : decode cX7_look 152 = .ok (.iaload, 1) := by decide +kernel
theorem dX7_look_153 : decode cX7_look 153 = .ok (.ifCond .ne 13, 3) := by decide +kernel
theorem dX7_look_156 : decode cX7_look 156 = .ok (.iconst 3, 1) := by decide +kernel
theorem dX7_look_157 : decode cX7_look 157 = .ok (.istore 13, 2) := by decide +kernel
theorem dX7_look_159 : decode cX7_look 159 = .ok (.iload 11, 2) := by decide +kernel
theorem dX7_look_161 : decode cX7_look 161 = .ok (.istore 14, 2) := by decide +kernel
theorem dX7_look_163 : decode cX7_look 163 = .ok (.goto 76, 3) := by decide +kernel
theorem dX7_look_166 : decode cX7_look 166 = .ok (.iload 12, 2) := by decide +kernel
theorem dX7_look_168 : decode cX7_look 168 = .ok (.ifCond .le 24, 3) := by decide +kernel
theorem dX7_look_171 : decode cX7_look 171 = .ok (.aload 4, 2) := by decide +kernel
theorem dX7_look_173 : decode cX7_look 173 = .ok (.iload 7, 2) := by decide +kernel
theorem dX7_look_175 : decode cX7_look 175 = .ok (.iload 6, 2) := by decide +kernel
theorem dX7_look_177 : decode cX7_look 177 = .ok (.iadd, 1) := by decide +kernel
theorem dX7_look_178 : decode cX7_look 178 = .ok (.iaload, 1) := by decide +kernel
theorem dX7_look_179 : decode cX7_look 179 = .ok (.ifCond .ne 13, 3) := by decide +kernel
theorem dX7_look_182 : decode cX7_look 182 = .ok (.iconst 3, 1) := by decide +kernel
theorem dX7_look_183 : decode cX7_look 183 = .ok (.istore 13, 2) := by decide +kernel
theorem dX7_look_185 : decode cX7_look 185 = .ok (.iload 12, 2) := by decide +kernel
theorem dX7_look_187 : decode cX7_look 187 = .ok (.istore 14, 2) := by decide +kernel
theorem dX7_look_189 : decode cX7_look 189 = .ok (.goto 50, 3) := by decide +kernel
theorem dX7_look_192 : decode cX7_look 192 = .ok (.iload 10, 2) := by decide +kernel
theorem dX7_look_194 : decode cX7_look 194 = .ok (.ifCond .le 45, 3) := by decide +kernel
theorem dX7_look_197 : decode cX7_look 197 = .ok (.iconst 4, 1) := by decide +kernel
theorem dX7_look_198 : decode cX7_look 198 = .ok (.istore 13, 2) := by decide +kernel
theorem dX7_look_200 : decode cX7_look 200 = .ok (.aload 4, 2) := by decide +kernel
theorem dX7_look_202 : decode cX7_look 202 = .ok (.iload 7, 2) := by decide +kernel
theorem dX7_look_204 : decode cX7_look 204 = .ok (.iaload, 1) := by decide +kernel
theorem dX7_look_205 : decode cX7_look 205 = .ok (.ifCond .le 7, 3) := by decide +kernel
theorem dX7_look_208 : decode cX7_look 208 = .ok (.iconst 1, 1) := by decide +kernel
theorem dX7_look_209 : decode cX7_look 209 = .ok (.goto 16, 3) := by decide +kernel
theorem dX7_look_212 : decode cX7_look 212 = .ok (.aload 4, 2) := by decide +kernel
theorem dX7_look_214 : decode cX7_look 214 = .ok (.iload 8, 2) := by decide +kernel
theorem dX7_look_216 : decode cX7_look 216 = .ok (.iaload, 1) := by decide +kernel
theorem dX7_look_217 : decode cX7_look 217 = .ok (.ifCond .le 7, 3) := by decide +kernel
theorem dX7_look_220 : decode cX7_look 220 = .ok (.iconst 2, 1) := by decide +kernel
theorem dX7_look_221 : decode cX7_look 221 = .ok (.goto 4, 3) := by decide +kernel
theorem dX7_look_224 : decode cX7_look 224 = .ok (.iconst 3, 1) := by decide +kernel
theorem dX7_look_225 : decode cX7_look 225 = .ok (.istore 15, 2) := by decide +kernel
theorem dX7_look_227 : decode cX7_look 227 = .ok (.aload 4, 2) := by decide +kernel
theorem dX7_look_229 : decode cX7_look 229 = .ok (.iload_n 2, 1) := by decide +kernel
theorem dX7_look_230 : decode cX7_look 230 = .ok (.iload 15, 2) := by decide +kernel
theorem dX7_look_232 : decode cX7_look 232 = .ok (.iload 5, 2) := by decide +kernel
theorem dX7_look_234 : decode cX7_look 234 = .ok (.imul, 1) := by decide +kernel
theorem dX7_look_235 : decode cX7_look 235 = .ok (.iadd, 1) := by decide +kernel
theorem dX7_look_236 : decode cX7_look 236 = .ok (.iaload, 1) := by decide +kernel
theorem dX7_look_237 : decode cX7_look 237 = .ok (.istore 14, 2) := by decide +kernel
theorem dX7_look_239 : decode cX7_look 239 = .ok (.aload_n 0, 1) := by decide +kernel
theorem dX7_look_240 : decode cX7_look 240 = .ok (.getfield 9, 3) := by decide +kernel
theorem dX7_look_243 : decode cX7_look 243 = .ok (.iconst 0, 1) := by decide +kernel
theorem dX7_look_244 : decode cX7_look 244 = .ok (.iload 13, 2) := by decide +kernel
theorem dX7_look_246 : decode cX7_look 246 = .ok (.iastore, 1) := by decide +kernel
theorem dX7_look_247 : decode cX7_look 247 = .ok (.aload_n 0, 1) := by decide +kernel
theorem dX7_look_248 : decode cX7_look 248 = .ok (.getfield 9, 3) := by decide +kernel
theorem dX7_look_251 : decode cX7_look 251 = .ok (.iconst 1, 1) := by decide +kernel
theorem dX7_look_252 : decode cX7_look 252 = .ok (.iconst 0, 1) := by decide +kernel
theorem dX7_look_253 : decode cX7_look 253 = .ok (.iload 14, 2) := by decide +kernel
theorem dX7_look_255 : decode cX7_look 255 = .ok (.iload 10, 2) := by decide +kernel
theorem dX7_look_257 : decode cX7_look 257 = .ok (.isub, 1) := by decide +kernel
theorem dX7_look_258 : decode cX7_look 258 = .ok (.invokestatic 43, 3) := by decide +kernel
theorem dX7_look_261 : decode cX7_look 261 = .ok (.iastore, 1) := by decide +kernel
theorem dX7_look_262 : decode cX7_look 262 = .ok (.aload_n 0, 1) := by decide +kernel
theorem dX7_look_263 : decode cX7_look 263 = .ok (.getfield 9, 3) := by decide +kernel
theorem dX7_look_266 : decode cX7_look 266 = .ok (.iconst 2, 1) := by decide +kernel
theorem dX7_look_267 : decode cX7_look 267 = .ok (.iload 14, 2) := by decide +kernel
theorem dX7_look_269 : decode cX7_look 269 = .ok (.iastore, 1) := by decide +kernel
theorem dX7_look_270 : decode cX7_look 270 = .ok (.aload_n 0, 1) := by decide +kernel
theorem dX7_look_271 : decode cX7_look 271 = .ok (.getfield 9, 3) := by decide +kernel
theorem dX7_look_274 : decode cX7_look 274 = .ok (.iconst 3, 1) := by decide +kernel
theorem dX7_look_275 : decode cX7_look 275 = .ok (.aload_n 1, 1) := by decide +kernel
theorem dX7_look_276 : decode cX7_look 276 = .ok (.getfield 49, 3) := by decide +kernel
theorem dX7_look_279 : decode cX7_look 279 = .ok (.iload_n 2, 1) := by decide +kernel
theorem dX7_look_280 : decode cX7_look 280 = .ok (.iaload, 1) := by decide +kernel
theorem dX7_look_281 : decode cX7_look 281 = .ok (.aload_n 1, 1) := by decide +kernel
theorem dX7_look_282 : decode cX7_look 282 = .ok (.getfield 49, 3) := by decide +kernel
theorem dX7_look_285 : decode cX7_look 285 = .ok (.iload 7, 2) := by decide +kernel
theorem dX7_look_287 : decode cX7_look 287 = .ok (.iaload, 1) := by decide +kernel
theorem dX7_look_288 : decode cX7_look 288 = .ok (.iadd, 1) := by decide +kernel
theorem dX7_look_289 : decode cX7_look 289 = .ok (.aload_n 1, 1) := by decide +kernel
theorem dX7_look_290 : decode cX7_look 290 = .ok (.getfield 49, 3) := by decide +kernel
theorem dX7_look_293 : decode cX7_look 293 = .ok (.iload 8, 2) := by decide +kernel
theorem dX7_look_295 : decode cX7_look 295 = .ok (.iaload, 1) := by decide +kernel
theorem dX7_look_296 : decode cX7_look 296 = .ok (.iadd, 1) := by decide +kernel
theorem dX7_look_297 : decode cX7_look 297 = .ok (.iastore, 1) := by decide +kernel
theorem dX7_look_298 : decode cX7_look 298 = .ok (.aload_n 0, 1) := by decide +kernel
theorem dX7_look_299 : decode cX7_look 299 = .ok (.getfield 9, 3) := by decide +kernel
theorem dX7_look_302 : decode cX7_look 302 = .ok (.iconst 4, 1) := by decide +kernel
theorem dX7_look_303 : decode cX7_look 303 = .ok (.aload_n 1, 1) := by decide +kernel
theorem dX7_look_304 : decode cX7_look 304 = .ok (.getfield 52, 3) := by decide +kernel
theorem dX7_look_307 : decode cX7_look 307 = .ok (.iload 7, 2) := by decide +kernel
theorem dX7_look_309 : decode cX7_look 309 = .ok (.iaload, 1) := by decide +kernel
theorem dX7_look_310 : decode cX7_look 310 = .ok (.aload_n 1, 1) := by decide +kernel
theorem dX7_look_311 : decode cX7_look 311 = .ok (.getfield 52, 3) := by decide +kernel
theorem dX7_look_314 : decode cX7_look 314 = .ok (.iload 8, 2) := by decide +kernel
theorem dX7_look_316 : decode cX7_look 316 = .ok (.iaload, 1) := by decide +kernel
theorem dX7_look_317 : decode cX7_look 317 = .ok (.aload_n 1, 1) := by decide +kernel
theorem dX7_look_318 : decode cX7_look 318 = .ok (.getfield 52, 3) := by decide +kernel
theorem dX7_look_321 : decode cX7_look 321 = .ok (.iload 9, 2) := by decide +kernel
theorem dX7_look_323 : decode cX7_look 323 = .ok (.iaload, 1) := by decide +kernel
theorem dX7_look_324 : decode cX7_look 324 = .ok (.invokestatic 43, 3) := by decide +kernel
theorem dX7_look_327 : decode cX7_look 327 = .ok (.invokestatic 43, 3) := by decide +kernel
theorem dX7_look_330 : decode cX7_look 330 = .ok (.iastore, 1) := by decide +kernel
theorem dX7_look_331 : decode cX7_look 331 = .ok (.aload_n 0, 1) := by decide +kernel
theorem dX7_look_332 : decode cX7_look 332 = .ok (.getfield 9, 3) := by decide +kernel
theorem dX7_look_335 : decode cX7_look 335 = .ok (.iconst 5, 1) := by decide +kernel
theorem dX7_look_336 : decode cX7_look 336 = .ok (.iload 15, 2) := by decide +kernel
theorem dX7_look_338 : decode cX7_look 338 = .ok (.iastore, 1) := by decide +kernel
theorem dX7_look_339 : decode cX7_look 339 = .ok (.aload_n 0, 1) := by decide +kernel
theorem dX7_look_340 : decode cX7_look 340 = .ok (.getfield 9, 3) := by decide +kernel
theorem dX7_look_343 : decode cX7_look 343 = .ok (.bipush 6, 2) := by decide +kernel
theorem dX7_look_345 : decode cX7_look 345 = .ok (.iload_n 2, 1) := by decide +kernel
theorem dX7_look_346 : decode cX7_look 346 = .ok (.bipush 16, 2) := by decide +kernel
theorem dX7_look_348 : decode cX7_look 348 = .ok (.irem, 1) := by decide +kernel
theorem dX7_look_349 : decode cX7_look 349 = .ok (.iconst 3, 1) := by decide +kernel
theorem dX7_look_350 : decode cX7_look 350 = .ok (.isub, 1) := by decide +kernel
theorem dX7_look_351 : decode cX7_look 351 = .ok (.iastore, 1) := by decide +kernel
theorem dX7_look_352 : decode cX7_look 352 = .ok (.aload_n 0, 1) := by decide +kernel
theorem dX7_look_353 : decode cX7_look 353 = .ok (.getfield 9, 3) := by decide +kernel
theorem dX7_look_356 : decode cX7_look 356 = .ok (.bipush 7, 2) := by decide +kernel
theorem dX7_look_358 : decode cX7_look 358 = .ok (.iload_n 2, 1) := by decide +kernel
theorem dX7_look_359 : decode cX7_look 359 = .ok (.bipush 16, 2) := by decide +kernel
theorem dX7_look_361 : decode cX7_look 361 = .ok (.idiv, 1) := by decide +kernel
theorem dX7_look_362 : decode cX7_look 362 = .ok (.iconst 3, 1) := by decide +kernel
theorem dX7_look_363 : decode cX7_look 363 = .ok (.isub, 1) := by decide +kernel
theorem dX7_look_364 : decode cX7_look 364 = .ok (.iastore, 1) := by decide +kernel
theorem dX7_look_365 : decode cX7_look 365 = .ok (.aload_n 0, 1) := by decide +kernel
theorem dX7_look_366 : decode cX7_look 366 = .ok (.getfield 9, 3) := by decide +kernel
theorem dX7_look_369 : decode cX7_look 369 = .ok (.bipush 8, 2) := by decide +kernel
theorem dX7_look_371 : decode cX7_look 371 = .ok (.iload_n 3, 1) := by decide +kernel
theorem dX7_look_372 : decode cX7_look 372 = .ok (.iastore, 1) := by decide +kernel
theorem dX7_look_373 : decode cX7_look 373 = .ok (.return_, 1) := by decide +kernel
theorem dX7_quick_0 : decode cX7_quick 0 = .ok (.aload_n 0, 1) := by decide +kernel
theorem dX7_quick_1 : decode cX7_quick 1 = .ok (.aload_n 2, 1) := by decide +kernel
theorem dX7_quick_2 : decode cX7_quick 2 = .ok (.iload_n 3, 1) := by decide +kernel
theorem dX7_quick_3 : decode cX7_quick 3 = .ok (.iload 4, 2) := by decide +kernel
theorem dX7_quick_5 : decode cX7_quick 5 = .ok (.invokevirtual 55, 3) := by decide +kernel
theorem dX7_quick_8 : decode cX7_quick 8 = .ok (.aload_n 1, 1) := by decide +kernel
theorem dX7_quick_9 : decode cX7_quick 9 = .ok (.invokevirtual 59, 3) := by decide +kernel
theorem dX7_quick_12 : decode cX7_quick 12 = .ok (.astore 5, 2) := by decide +kernel
theorem dX7_quick_14 : decode cX7_quick 14 = .ok (.aload 5, 2) := by decide +kernel
theorem dX7_quick_16 : decode cX7_quick 16 = .ok (.ifnonnull 8, 3) := by decide +kernel
theorem dX7_quick_19 : decode cX7_quick 19 = .ok (.aload_n 0, 1) := by decide +kernel
theorem dX7_quick_20 : decode cX7_quick 20 = .ok (.invokevirtual 65, 3) := by decide +kernel
theorem dX7_quick_23 : decode cX7_quick 23 = .ok (.ireturn, 1) := by decide +kernel
theorem dX7_quick_24 : decode cX7_quick 24 = .ok (.aload 5, 2) := by decide +kernel
theorem dX7_quick_26 : decode cX7_quick 26 = .ok (.aload_n 0, 1) := by decide +kernel
theorem dX7_quick_27 : decode cX7_quick 27 = .ok (.getfield 28, 3) := by decide +kernel
theorem dX7_quick_30 : decode cX7_quick 30 = .ok (.if_acmp .eq 17, 3) := by decide +kernel
theorem dX7_quick_33 : decode cX7_quick 33 = .ok (.aload_n 0, 1) := by decide +kernel
theorem dX7_quick_34 : decode cX7_quick 34 = .ok (.getfield 21, 3) := by decide +kernel
theorem dX7_quick_37 : decode cX7_quick 37 = .ok (.lconst 0, 1) := by decide +kernel
theorem dX7_quick_38 : decode cX7_quick 38 = .ok (.invokestatic 69, 3) := by decide +kernel
theorem dX7_quick_41 : decode cX7_quick 41 = .ok (.aload_n 0, 1) := by decide +kernel
theorem dX7_quick_42 : decode cX7_quick 42 = .ok (.aload 5, 2) := by decide +kernel
theorem dX7_quick_44 : decode cX7_quick 44 = .ok (.putfield 28, 3) := by decide +kernel
theorem dX7_quick_47 : decode cX7_quick 47 = .ok (.aload_n 0, 1) := by decide +kernel
theorem dX7_quick_48 : decode cX7_quick 48 = .ok (.invokevirtual 75, 3) := by decide +kernel
theorem dX7_quick_51 : decode cX7_quick 51 = .ok (.lstore 6, 2) := by decide +kernel
theorem dX7_quick_53 : decode cX7_quick 53 = .ok (.lload 6, 2) := by decide +kernel
theorem dX7_quick_55 : decode cX7_quick 55 = .ok (.ldc2_w 79, 3) := by decide +kernel
theorem dX7_quick_58 : decode cX7_quick 58 = .ok (.lmul, 1) := by decide +kernel
theorem dX7_quick_59 : decode cX7_quick 59 = .ok (.bipush 54, 2) := by decide +kernel
theorem dX7_quick_61 : decode cX7_quick 61 = .ok (.lushr, 1) := by decide +kernel
theorem dX7_quick_62 : decode cX7_quick 62 = .ok (.l2i, 1) := by decide +kernel
theorem dX7_quick_63 : decode cX7_quick 63 = .ok (.istore 8, 2) := by decide +kernel
theorem dX7_quick_65 : decode cX7_quick 65 = .ok (.aload_n 0, 1) := by decide +kernel
theorem dX7_quick_66 : decode cX7_quick 66 = .ok (.getfield 21, 3) := by decide +kernel
theorem dX7_quick_69 : decode cX7_quick 69 = .ok (.iload 8, 2) := by decide +kernel
theorem dX7_quick_71 : decode cX7_quick 71 = .ok (.laload, 1) := by decide +kernel
theorem dX7_quick_72 : decode cX7_quick 72 = .ok (.lload 6, 2) := by decide +kernel
theorem dX7_quick_74 : decode cX7_quick 74 = .ok (.lcmp, 1) := by decide +kernel
theorem dX7_quick_75 : decode cX7_quick 75 = .ok (.ifCond .eq 49, 3) := by decide +kernel
theorem dX7_quick_78 : decode cX7_quick 78 = .ok (.aload 5, 2) := by decide +kernel
theorem dX7_quick_80 : decode cX7_quick 80 = .ok (.aload_n 0, 1) := by decide +kernel
theorem dX7_quick_81 : decode cX7_quick 81 = .ok (.getfield 9, 3) := by decide +kernel
theorem dX7_quick_84 : decode cX7_quick 84 = .ok (.aload_n 0, 1) := by decide +kernel
theorem dX7_quick_85 : decode cX7_quick 85 = .ok (.getfield 18, 3) := by decide +kernel
theorem dX7_quick_88 : decode cX7_quick 88 = .ok (.invokevirtual 81, 3) := by decide +kernel
theorem dX7_quick_91 : decode cX7_quick 91 = .ok (.istore 9, 2) := by decide +kernel
theorem dX7_quick_93 : decode cX7_quick 93 = .ok (.aload_n 0, 1) := by decide +kernel
theorem dX7_quick_94 : decode cX7_quick 94 = .ok (.getfield 21, 3) := by decide +kernel
theorem dX7_quick_97 : decode cX7_quick 97 = .ok (.iload 8, 2) := by decide +kernel
theorem dX7_quick_99 : decode cX7_quick 99 = .ok (.lload 6, 2) := by decide +kernel
theorem dX7_quick_101 : decode cX7_quick 101 = .ok (.lastore, 1) := by decide +kernel
theorem dX7_quick_102 : decode cX7_quick 102 = .ok (.aload_n 0, 1) := by decide +kernel
theorem dX7_quick_103 : decode cX7_quick 103 = .ok (.getfield 25, 3) := by decide +kernel
theorem dX7_quick_106 : decode cX7_quick 106 = .ok (.iload 8, 2) := by decide +kernel
theorem dX7_quick_108 : decode cX7_quick 108 = .ok (.iload 9, 2) := by decide +kernel
theorem dX7_quick_110 : decode cX7_quick 110 = .ok (.iconst (-1), 1) := by decide +kernel
theorem dX7_quick_111 : decode cX7_quick 111 = .ok (.if_icmp .ne 10, 3) := by decide +kernel
theorem dX7_quick_114 : decode cX7_quick 114 = .ok (.aload_n 0, 1) := by decide +kernel
theorem dX7_quick_115 : decode cX7_quick 115 = .ok (.invokevirtual 65, 3) := by decide +kernel
theorem dX7_quick_118 : decode cX7_quick 118 = .ok (.goto 5, 3) := by decide +kernel
theorem dX7_quick_121 : decode cX7_quick 121 = .ok (.iload 9, 2) := by decide +kernel
theorem dX7_quick_123 : decode cX7_quick 123 = .ok (.iastore, 1) := by decide +kernel
theorem dX7_quick_124 : decode cX7_quick 124 = .ok (.aload_n 0, 1) := by decide +kernel
theorem dX7_quick_125 : decode cX7_quick 125 = .ok (.getfield 25, 3) := by decide +kernel
theorem dX7_quick_128 : decode cX7_quick 128 = .ok (.iload 8, 2) := by decide +kernel
theorem dX7_quick_130 : decode cX7_quick 130 = .ok (.iaload, 1) := by decide +kernel
theorem dX7_quick_131 : decode cX7_quick 131 = .ok (.ireturn, 1) := by decide +kernel
theorem dX7_lawlessQuick_0 : decode cX7_lawlessQuick 0 = .ok (.aload_n 0, 1) := by decide +kernel
theorem dX7_lawlessQuick_1 : decode cX7_lawlessQuick 1 = .ok (.getfield 9, 3) := by decide +kernel
theorem dX7_lawlessQuick_4 : decode cX7_lawlessQuick 4 = .ok (.iconst 0, 1) := by decide +kernel
theorem dX7_lawlessQuick_5 : decode cX7_lawlessQuick 5 = .ok (.iaload, 1) := by decide +kernel
theorem dX7_lawlessQuick_6 : decode cX7_lawlessQuick 6 = .ok (.tableswitch 60 1 4 #[30, 34, 46, 57], 30) := by decide +kernel
theorem dX7_lawlessQuick_36 : decode cX7_lawlessQuick 36 = .ok (.sipush 180, 3) := by decide +kernel
theorem dX7_lawlessQuick_39 : decode cX7_lawlessQuick 39 = .ok (.ireturn, 1) := by decide +kernel
theorem dX7_lawlessQuick_40 : decode cX7_lawlessQuick 40 = .ok (.bipush 100, 2) := by decide +kernel
theorem dX7_lawlessQuick_42 : decode cX7_lawlessQuick 42 = .ok (.iconst 2, 1) := by decide +kernel
theorem dX7_lawlessQuick_43 : decode cX7_lawlessQuick 43 = .ok (.aload_n 0, 1) := by decide +kernel
theorem dX7_lawlessQuick_44 : decode cX7_lawlessQuick 44 = .ok (.getfield 9, 3) := by decide +kernel
theorem dX7_lawlessQuick_47 : decode cX7_lawlessQuick 47 = .ok (.iconst 1, 1) := by decide +kernel
theorem dX7_lawlessQuick_48 : decode cX7_lawlessQuick 48 = .ok (.iaload, 1) := by decide +kernel
theorem dX7_lawlessQuick_49 : decode cX7_lawlessQuick 49 = .ok (.imul, 1) := by decide +kernel
theorem dX7_lawlessQuick_50 : decode cX7_lawlessQuick 50 = .ok (.iadd, 1) := by decide +kernel
theorem dX7_lawlessQuick_51 : decode cX7_lawlessQuick 51 = .ok (.ireturn, 1) := by decide +kernel
theorem dX7_lawlessQuick_52 : decode cX7_lawlessQuick 52 = .ok (.sipush 150, 3) := by decide +kernel
theorem dX7_lawlessQuick_55 : decode cX7_lawlessQuick 55 = .ok (.aload_n 0, 1) := by decide +kernel
theorem dX7_lawlessQuick_56 : decode cX7_lawlessQuick 56 = .ok (.getfield 9, 3) := by decide +kernel
theorem dX7_lawlessQuick_59 : decode cX7_lawlessQuick 59 = .ok (.iconst 1, 1) := by decide +kernel
theorem dX7_lawlessQuick_60 : decode cX7_lawlessQuick 60 = .ok (.iaload, 1) := by decide +kernel
theorem dX7_lawlessQuick_61 : decode cX7_lawlessQuick 61 = .ok (.iadd, 1) := by decide +kernel
theorem dX7_lawlessQuick_62 : decode cX7_lawlessQuick 62 = .ok (.ireturn, 1) := by decide +kernel
theorem dX7_lawlessQuick_63 : decode cX7_lawlessQuick 63 = .ok (.bipush 40, 2) := by decide +kernel
theorem dX7_lawlessQuick_65 : decode cX7_lawlessQuick 65 = .ok (.ireturn, 1) := by decide +kernel
theorem dX7_lawlessQuick_66 : decode cX7_lawlessQuick 66 = .ok (.bipush 100, 2) := by decide +kernel
theorem dX7_lawlessQuick_68 : decode cX7_lawlessQuick 68 = .ok (.ireturn, 1) := by decide +kernel
theorem dX7_sightSeen_0 : decode cX7_sightSeen 0 = .ok (.lconst 1, 1) := by decide +kernel
theorem dX7_sightSeen_1 : decode cX7_sightSeen 1 = .ok (.lstore_n 1, 1) := by decide +kernel
theorem dX7_sightSeen_2 : decode cX7_sightSeen 2 = .ok (.iconst 0, 1) := by decide +kernel
theorem dX7_sightSeen_3 : decode cX7_sightSeen 3 = .ok (.istore_n 3, 1) := by decide +kernel
theorem dX7_sightSeen_4 : decode cX7_sightSeen 4 = .ok (.iload_n 3, 1) := by decide +kernel
theorem dX7_sightSeen_5 : decode cX7_sightSeen 5 = .ok (.bipush 9, 2) := by decide +kernel
theorem dX7_sightSeen_7 : decode cX7_sightSeen 7 = .ok (.if_icmp .ge 22, 3) := by decide +kernel
theorem dX7_sightSeen_10 : decode cX7_sightSeen 10 = .ok (.lload_n 1, 1) := by decide +kernel
theorem dX7_sightSeen_11 : decode cX7_sightSeen 11 = .ok (.bipush 6, 2) := by decide +kernel
theorem dX7_sightSeen_13 : decode cX7_sightSeen 13 = .ok (.lshl, 1) := by decide +kernel
theorem dX7_sightSeen_14 : decode cX7_sightSeen 14 = .ok (.aload_n 0, 1) := by decide +kernel
theorem dX7_sightSeen_15 : decode cX7_sightSeen 15 = .ok (.getfield 9, 3) := by decide +kernel
theorem dX7_sightSeen_18 : decode cX7_sightSeen 18 = .ok (.iload_n 3, 1) := by decide +kernel
theorem dX7_sightSeen_19 : decode cX7_sightSeen 19 = .ok (.iaload, 1) := by decide +kernel
theorem dX7_sightSeen_20 : decode cX7_sightSeen 20 = .ok (.i2l, 1) := by decide +kernel
theorem dX7_sightSeen_21 : decode cX7_sightSeen 21 = .ok (.lor, 1) := by decide +kernel
theorem dX7_sightSeen_22 : decode cX7_sightSeen 22 = .ok (.lstore_n 1, 1) := by decide +kernel
theorem dX7_sightSeen_23 : decode cX7_sightSeen 23 = .ok (.iinc 3 1, 3) := by decide +kernel
theorem dX7_sightSeen_26 : decode cX7_sightSeen 26 = .ok (.goto (-22), 3) := by decide +kernel
theorem dX7_sightSeen_29 : decode cX7_sightSeen 29 = .ok (.lload_n 1, 1) := by decide +kernel
theorem dX7_sightSeen_30 : decode cX7_sightSeen 30 = .ok (.lreturn, 1) := by decide +kernel
theorem dX7_hoursAbove_0 : decode cX7_hoursAbove 0 = .ok (.iconst 0, 1) := by decide +kernel
theorem dX7_hoursAbove_1 : decode cX7_hoursAbove 1 = .ok (.istore 5, 2) := by decide +kernel
theorem dX7_hoursAbove_3 : decode cX7_hoursAbove 3 = .ok (.iconst 0, 1) := by decide +kernel
theorem dX7_hoursAbove_4 : decode cX7_hoursAbove 4 = .ok (.istore 6, 2) := by decide +kernel
theorem dX7_hoursAbove_6 : decode cX7_hoursAbove 6 = .ok (.iload 6, 2) := by decide +kernel
theorem dX7_hoursAbove_8 : decode cX7_hoursAbove 8 = .ok (.iconst 4, 1) := by decide +kernel
theorem dX7_hoursAbove_9 : decode cX7_hoursAbove 9 = .ok (.if_icmp .ge 70, 3) := by decide +kernel
theorem dX7_hoursAbove_12 : decode cX7_hoursAbove 12 = .ok (.aload_n 1, 1) := by decide +kernel
theorem dX7_hoursAbove_13 : decode cX7_hoursAbove 13 = .ok (.getfield 87, 3) := by decide +kernel
theorem dX7_hoursAbove_16 : decode cX7_hoursAbove 16 = .ok (.iload 6, 2) := by decide +kernel
theorem dX7_hoursAbove_18 : decode cX7_hoursAbove 18 = .ok (.iaload, 1) := by decide +kernel
theorem dX7_hoursAbove_19 : decode cX7_hoursAbove 19 = .ok (.ifCond .le 54, 3) := by decide +kernel
theorem dX7_hoursAbove_22 : decode cX7_hoursAbove 22 = .ok (.aload_n 0, 1) := by decide +kernel
theorem dX7_hoursAbove_23 : decode cX7_hoursAbove 23 = .ok (.aload_n 1, 1) := by decide +kernel
theorem dX7_hoursAbove_24 : decode cX7_hoursAbove 24 = .ok (.aload_n 2, 1) := by decide +kernel
theorem dX7_hoursAbove_25 : decode cX7_hoursAbove 25 = .ok (.iload_n 3, 1) := by decide +kernel
theorem dX7_hoursAbove_26 : decode cX7_hoursAbove 26 = .ok (.iload 6, 2) := by decide +kernel
theorem dX7_hoursAbove_28 : decode cX7_hoursAbove 28 = .ok (.invokevirtual 90, 3) := by decide +kernel
theorem dX7_hoursAbove_31 : decode cX7_hoursAbove 31 = .ok (.iload 4, 2) := by decide +kernel
theorem dX7_hoursAbove_33 : decode cX7_hoursAbove 33 = .ok (.invokestatic 94, 3) := by decide +kernel
theorem dX7_hoursAbove_36 : decode cX7_hoursAbove 36 = .ok (.istore 7, 2) := by decide +kernel
theorem dX7_hoursAbove_38 : decode cX7_hoursAbove 38 = .ok (.iload 7, 2) := by decide +kernel
theorem dX7_hoursAbove_40 : decode cX7_hoursAbove 40 = .ok (.istore 8, 2) := by decide +kernel
theorem dX7_hoursAbove_42 : decode cX7_hoursAbove 42 = .ok (.iload 8, 2) := by decide +kernel
theorem dX7_hoursAbove_44 : decode cX7_hoursAbove 44 = .ok (.bipush 10, 2) := by decide +kernel
theorem dX7_hoursAbove_46 : decode cX7_hoursAbove 46 = .ok (.if_icmp .ge 27, 3) := by decide +kernel
theorem dX7_hoursAbove_49 : decode cX7_hoursAbove 49 = .ok (.iload 5, 2) := by decide +kernel
theorem dX7_hoursAbove_51 : decode cX7_hoursAbove 51 = .ok (.aload_n 1, 1) := by decide +kernel
theorem dX7_hoursAbove_52 : decode cX7_hoursAbove 52 = .ok (.getfield 97, 3) := by decide +kernel
theorem dX7_hoursAbove_55 : decode cX7_hoursAbove 55 = .ok (.iload 6, 2) := by decide +kernel
theorem dX7_hoursAbove_57 : decode cX7_hoursAbove 57 = .ok (.bipush 10, 2) := by decide +kernel
theorem dX7_hoursAbove_59 : decode cX7_hoursAbove 59 = .ok (.imul, 1) := by decide +kernel
theorem dX7_hoursAbove_60 : decode cX7_hoursAbove 60 = .ok (.iload 8, 2) := by decide +kernel
theorem dX7_hoursAbove_62 : decode cX7_hoursAbove 62 = .ok (.iadd, 1) := by decide +kernel
theorem dX7_hoursAbove_63 : decode cX7_hoursAbove 63 = .ok (.iaload, 1) := by decide +kernel
theorem dX7_hoursAbove_64 : decode cX7_hoursAbove 64 = .ok (.iadd, 1) := by decide +kernel
theorem dX7_hoursAbove_65 : decode cX7_hoursAbove 65 = .ok (.istore 5, 2) := by decide +kernel
theorem dX7_hoursAbove_67 : decode cX7_hoursAbove 67 = .ok (.iinc 8 1, 3) := by decide +kernel
theorem dX7_hoursAbove_70 : decode cX7_hoursAbove 70 = .ok (.goto (-28), 3) := by decide +kernel
theorem dX7_hoursAbove_73 : decode cX7_hoursAbove 73 = .ok (.iinc 6 1, 3) := by decide +kernel
theorem dX7_hoursAbove_76 : decode cX7_hoursAbove 76 = .ok (.goto (-70), 3) := by decide +kernel
theorem dX7_hoursAbove_79 : decode cX7_hoursAbove 79 = .ok (.iload 5, 2) := by decide +kernel
theorem dX7_hoursAbove_81 : decode cX7_hoursAbove 81 = .ok (.ireturn, 1) := by decide +kernel
theorem dX7_allOver_0 : decode cX7_allOver 0 = .ok (.iconst 0, 1) := by decide +kernel
theorem dX7_allOver_1 : decode cX7_allOver 1 = .ok (.istore_n 3, 1) := by decide +kernel
theorem dX7_allOver_2 : decode cX7_allOver 2 = .ok (.iconst 0, 1) := by decide +kernel
theorem dX7_allOver_3 : decode cX7_allOver 3 = .ok (.istore 4, 2) := by decide +kernel
theorem dX7_allOver_5 : decode cX7_allOver 5 = .ok (.iload 4, 2) := by decide +kernel
theorem dX7_allOver_7 : decode cX7_allOver 7 = .ok (.bipush 100, 2) := by decide +kernel
theorem dX7_allOver_9 : decode cX7_allOver 9 = .ok (.if_icmp .ge 85, 3) := by decide +kernel
theorem dX7_allOver_12 : decode cX7_allOver 12 = .ok (.iload 4, 2) := by decide +kernel
theorem dX7_allOver_14 : decode cX7_allOver 14 = .ok (.invokestatic 100, 3) := by decide +kernel
theorem dX7_allOver_17 : decode cX7_allOver 17 = .ok (.istore 5, 2) := by decide +kernel
theorem dX7_allOver_19 : decode cX7_allOver 19 = .ok (.aload_n 2, 1) := by decide +kernel
theorem dX7_allOver_20 : decode cX7_allOver 20 = .ok (.getfield 104, 3) := by decide +kernel
theorem dX7_allOver_23 : decode cX7_allOver 23 = .ok (.iload 5, 2) := by decide +kernel
theorem dX7_allOver_25 : decode cX7_allOver 25 = .ok (.iaload, 1) := by decide +kernel
theorem dX7_allOver_26 : decode cX7_allOver 26 = .ok (.istore 6, 2) := by decide +kernel
theorem dX7_allOver_28 : decode cX7_allOver 28 = .ok (.iconst 0, 1) := by decide +kernel
theorem dX7_allOver_29 : decode cX7_allOver 29 = .ok (.istore 7, 2) := by decide +kernel
theorem dX7_allOver_31 : decode cX7_allOver 31 = .ok (.iload 6, 2) := by decide +kernel
theorem dX7_allOver_33 : decode cX7_allOver 33 = .ok (.iconst 1, 1) := by decide +kernel
theorem dX7_allOver_34 : decode cX7_allOver 34 = .ok (.iconst 3, 1) := by decide +kernel
theorem dX7_allOver_35 : decode cX7_allOver 35 = .ok (.invokestatic 107, 3) := by decide +kernel
theorem dX7_allOver_38 : decode cX7_allOver 38 = .ok (.ifCond .eq 36, 3) := by decide +kernel
theorem dX7_allOver_41 : decode cX7_allOver 41 = .ok (.aload_n 0, 1) := by decide +kernel
theorem dX7_allOver_42 : decode cX7_allOver 42 = .ok (.aload_n 1, 1) := by decide +kernel
theorem dX7_allOver_43 : decode cX7_allOver 43 = .ok (.aload_n 2, 1) := by decide +kernel
theorem dX7_allOver_44 : decode cX7_allOver 44 = .ok (.iload 5, 2) := by decide +kernel
theorem dX7_allOver_46 : decode cX7_allOver 46 = .ok (.aload_n 1, 1) := by decide +kernel
theorem dX7_allOver_47 : decode cX7_allOver 47 = .ok (.getfield 111, 3) := by decide +kernel
theorem dX7_allOver_50 : decode cX7_allOver 50 = .ok (.iload 6, 2) := by decide +kernel
theorem dX7_allOver_52 : decode cX7_allOver 52 = .ok (.iaload, 1) := by decide +kernel
theorem dX7_allOver_53 : decode cX7_allOver 53 = .ok (.invokevirtual 114, 3) := by decide +kernel
theorem dX7_allOver_56 : decode cX7_allOver 56 = .ok (.istore 8, 2) := by decide +kernel
theorem dX7_allOver_58 : decode cX7_allOver 58 = .ok (.iconst 0, 1) := by decide +kernel
theorem dX7_allOver_59 : decode cX7_allOver 59 = .ok (.iload 8, 2) := by decide +kernel
theorem dX7_allOver_61 : decode cX7_allOver 61 = .ok (.aload_n 1, 1) := by decide +kernel
theorem dX7_allOver_62 : decode cX7_allOver 62 = .ok (.getfield 117, 3) := by decide +kernel
theorem dX7_allOver_65 : decode cX7_allOver 65 = .ok (.iload 6, 2) := by decide +kernel
theorem dX7_allOver_67 : decode cX7_allOver 67 = .ok (.iaload, 1) := by decide +kernel
theorem dX7_allOver_68 : decode cX7_allOver 68 = .ok (.isub, 1) := by decide +kernel
theorem dX7_allOver_69 : decode cX7_allOver 69 = .ok (.invokestatic 43, 3) := by decide +kernel
theorem dX7_allOver_72 : decode cX7_allOver 72 = .ok (.istore 7, 2) := by decide +kernel
theorem dX7_allOver_74 : decode cX7_allOver 74 = .ok (.aload_n 0, 1) := by decide +kernel
theorem dX7_allOver_75 : decode cX7_allOver 75 = .ok (.getfield 15, 3) := by decide +kernel
theorem dX7_allOver_78 : decode cX7_allOver 78 = .ok (.iload 4, 2) := by decide +kernel
theorem dX7_allOver_80 : decode cX7_allOver 80 = .ok (.iload 7, 2) := by decide +kernel
theorem dX7_allOver_82 : decode cX7_allOver 82 = .ok (.iastore, 1) := by decide +kernel
theorem dX7_allOver_83 : decode cX7_allOver 83 = .ok (.iload_n 3, 1) := by decide +kernel
theorem dX7_allOver_84 : decode cX7_allOver 84 = .ok (.iload 7, 2) := by decide +kernel
theorem dX7_allOver_86 : decode cX7_allOver 86 = .ok (.iadd, 1) := by decide +kernel
theorem dX7_allOver_87 : decode cX7_allOver 87 = .ok (.istore_n 3, 1) := by decide +kernel
theorem dX7_allOver_88 : decode cX7_allOver 88 = .ok (.iinc 4 1, 3) := by decide +kernel
theorem dX7_allOver_91 : decode cX7_allOver 91 = .ok (.goto (-86), 3) := by decide +kernel
theorem dX7_allOver_94 : decode cX7_allOver 94 = .ok (.iload_n 3, 1) := by decide +kernel
theorem dX7_allOver_95 : decode cX7_allOver 95 = .ok (.ireturn, 1) := by decide +kernel
theorem dX7_leastPaceOverLines_0 : decode cX7_leastPaceOverLines 0 = .ok (.bipush 10, 2) := by decide +kernel
theorem dX7_leastPaceOverLines_2 : decode cX7_leastPaceOverLines 2 = .ok (.istore 4, 2) := by decide +kernel
theorem dX7_leastPaceOverLines_4 : decode cX7_leastPaceOverLines 4 = .ok (.iconst 0, 1) := by decide +kernel
theorem dX7_leastPaceOverLines_5 : decode cX7_leastPaceOverLines 5 = .ok (.istore 5, 2) := by decide +kernel
theorem dX7_leastPaceOverLines_7 : decode cX7_leastPaceOverLines 7 = .ok (.iload 5, 2) := by decide +kernel
theorem dX7_leastPaceOverLines_9 : decode cX7_leastPaceOverLines 9 = .ok (.bipush 100, 2) := by decide +kernel
theorem dX7_leastPaceOverLines_11 : decode cX7_leastPaceOverLines 11 = .ok (.if_icmp .ge 65, 3) := by decide +kernel
theorem dX7_leastPaceOverLines_14 : decode cX7_leastPaceOverLines 14 = .ok (.iload 5, 2) := by decide +kernel
theorem dX7_leastPaceOverLines_16 : decode cX7_leastPaceOverLines 16 = .ok (.invokestatic 100, 3) := by decide +kernel
theorem dX7_leastPaceOverLines_19 : decode cX7_leastPaceOverLines 19 = .ok (.istore 6, 2) := by decide +kernel
theorem dX7_leastPaceOverLines_21 : decode cX7_leastPaceOverLines 21 = .ok (.aload_n 2, 1) := by decide +kernel
theorem dX7_leastPaceOverLines_22 : decode cX7_leastPaceOverLines 22 = .ok (.getfield 104, 3) := by decide +kernel
theorem dX7_leastPaceOverLines_25 : decode cX7_leastPaceOverLines 25 = .ok (.iload 6, 2) := by decide +kernel
theorem dX7_leastPaceOverLines_27 : decode cX7_leastPaceOverLines 27 = .ok (.iaload, 1) := by decide +kernel
theorem dX7_leastPaceOverLines_28 : decode cX7_leastPaceOverLines 28 = .ok (.istore 7, 2) := by decide +kernel
theorem dX7_leastPaceOverLines_30 : decode cX7_leastPaceOverLines 30 = .ok (.iload 7, 2) := by decide +kernel
theorem dX7_leastPaceOverLines_32 : decode cX7_leastPaceOverLines 32 = .ok (.iconst 1, 1) := by decide +kernel
theorem dX7_leastPaceOverLines_33 : decode cX7_leastPaceOverLines 33 = .ok (.iconst 3, 1) := by decide +kernel
theorem dX7_leastPaceOverLines_34 : decode cX7_leastPaceOverLines 34 = .ok (.invokestatic 107, 3) := by decide +kernel
theorem dX7_leastPaceOverLines_37 : decode cX7_leastPaceOverLines 37 = .ok (.ifCond .eq 33, 3) := by decide +kernel
theorem dX7_leastPaceOverLines_40 : decode cX7_leastPaceOverLines 40 = .ok (.aload_n 0, 1) := by decide +kernel
theorem dX7_leastPaceOverLines_41 : decode cX7_leastPaceOverLines 41 = .ok (.aload_n 1, 1) := by decide +kernel
theorem dX7_leastPaceOverLines_42 : decode cX7_leastPaceOverLines 42 = .ok (.aload_n 2, 1) := by decide +kernel
theorem dX7_leastPaceOverLines_43 : decode cX7_leastPaceOverLines 43 = .ok (.iload 6, 2) := by decide +kernel
theorem dX7_leastPaceOverLines_45 : decode cX7_leastPaceOverLines 45 = .ok (.iload_n 3, 1) := by decide +kernel
theorem dX7_leastPaceOverLines_46 : decode cX7_leastPaceOverLines 46 = .ok (.invokevirtual 90, 3) := by decide +kernel
theorem dX7_leastPaceOverLines_49 : decode cX7_leastPaceOverLines 49 = .ok (.istore 8, 2) := by decide +kernel
theorem dX7_leastPaceOverLines_51 : decode cX7_leastPaceOverLines 51 = .ok (.iload 4, 2) := by decide +kernel
theorem dX7_leastPaceOverLines_53 : decode cX7_leastPaceOverLines 53 = .ok (.iload 8, 2) := by decide +kernel
theorem dX7_leastPaceOverLines_55 : decode cX7_leastPaceOverLines 55 = .ok (.aload_n 1, 1) := by decide +kernel
theorem dX7_leastPaceOverLines_56 : decode cX7_leastPaceOverLines 56 = .ok (.getfield 111, 3) := by decide +kernel
theorem dX7_leastPaceOverLines_59 : decode cX7_leastPaceOverLines 59 = .ok (.iload 7, 2) := by decide +kernel
theorem dX7_leastPaceOverLines_61 : decode cX7_leastPaceOverLines 61 = .ok (.iaload, 1) := by decide +kernel
theorem dX7_leastPaceOverLines_62 : decode cX7_leastPaceOverLines 62 = .ok (.invokestatic 94, 3) := by decide +kernel
theorem dX7_leastPaceOverLines_65 : decode cX7_leastPaceOverLines 65 = .ok (.invokestatic 120, 3) := by decide +kernel
theorem dX7_leastPaceOverLines_68 : decode cX7_leastPaceOverLines 68 = .ok (.istore 4, 2) := by decide +kernel
theorem dX7_leastPaceOverLines_70 : decode cX7_leastPaceOverLines 70 = .ok (.iinc 5 1, 3) := by decide +kernel
theorem dX7_leastPaceOverLines_73 : decode cX7_leastPaceOverLines 73 = .ok (.goto (-66), 3) := by decide +kernel
theorem dX7_leastPaceOverLines_76 : decode cX7_leastPaceOverLines 76 = .ok (.iload 4, 2) := by decide +kernel
theorem dX7_leastPaceOverLines_78 : decode cX7_leastPaceOverLines 78 = .ok (.ireturn, 1) := by decide +kernel
