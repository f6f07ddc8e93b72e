theorem dX10_init_0 : decode cX10_init 0 = .ok (.aload_n 0, 1) := by decide +kernel
theorem dX10_init_1 : decode cX10_init 1 = .ok (.invokespecial 1, 3) := by decide +kernel
theorem dX10_init_4 : decode cX10_init 4 = .ok (.aload_n 0, 1) := by decide +kernel
theorem dX10_init_5 : decode cX10_init 5 = .ok (.bipush 7, 2) := by decide +kernel
theorem dX10_init_7 : decode cX10_init 7 = .ok (.newarray .int, 2) := by decide +kernel
theorem dX10_init_9 : decode cX10_init 9 = .ok (.putfield 7, 3) := by decide +kernel
theorem dX10_init_12 : decode cX10_init 12 = .ok (.aload_n 0, 1) := by decide +kernel
theorem dX10_init_13 : decode cX10_init 13 = .ok (.sipush 5830, 3) := by decide +kernel
theorem dX10_init_16 : decode cX10_init 16 = .ok (.newarray .int, 2) := by decide +kernel
theorem dX10_init_18 : decode cX10_init 18 = .ok (.putfield 13, 3) := by decide +kernel
theorem dX10_init_21 : decode cX10_init 21 = .ok (.aload_n 0, 1) := by decide +kernel
theorem dX10_init_22 : decode cX10_init 22 = .ok (.sipush 11660, 3) := by decide +kernel
theorem dX10_init_25 : decode cX10_init 25 = .ok (.newarray .int, 2) := by decide +kernel
theorem dX10_init_27 : decode cX10_init 27 = .ok (.putfield 16, 3) := by decide +kernel
theorem dX10_init_30 : decode cX10_init 30 = .ok (.aload_n 0, 1) := by decide +kernel
theorem dX10_init_31 : decode cX10_init 31 = .ok (.iconst 2, 1) := by decide +kernel
theorem dX10_init_32 : decode cX10_init 32 = .ok (.newarray .boolean, 2) := by decide +kernel
theorem dX10_init_34 : decode cX10_init 34 = .ok (.putfield 19, 3) := by decide +kernel
theorem dX10_init_37 : decode cX10_init 37 = .ok (.aload_n 0, 1) := by decide +kernel
theorem dX10_init_38 : decode cX10_init 38 = .ok (.sipush 400, 3) := by decide +kernel
theorem dX10_init_41 : decode cX10_init 41 = .ok (.newarray .int, 2) := by decide +kernel
theorem dX10_init_43 : decode cX10_init 43 = .ok (.putfield 23, 3) := by decide +kernel
theorem dX10_init_46 : decode cX10_init 46 = .ok (.aload_n 0, 1) := by decide +kernel
theorem dX10_init_47 : decode cX10_init 47 = .ok (.iconst (-1), 1) := by decide +kernel
theorem dX10_init_48 : decode cX10_init 48 = .ok (.putfield 26, 3) := by decide +kernel
theorem dX10_init_51 : decode cX10_init 51 = .ok (.aload_n 0, 1) := by decide +kernel
theorem dX10_init_52 : decode cX10_init 52 = .ok (.bipush 96, 2) := by decide +kernel
theorem dX10_init_54 : decode cX10_init 54 = .ok (.newarray .int, 2) := by decide +kernel
theorem dX10_init_56 : decode cX10_init 56 = .ok (.putfield 30, 3) := by decide +kernel
theorem dX10_init_59 : decode cX10_init 59 = .ok (.aload_n 0, 1) := by decide +kernel
theorem dX10_init_60 : decode cX10_init 60 = .ok (.sipush 400, 3) := by decide +kernel
theorem dX10_init_63 : decode cX10_init 63 = .ok (.newarray .int, 2) := by decide +kernel
theorem dX10_init_65 : decode cX10_init 65 = .ok (.putfield 33, 3) := by decide +kernel
theorem dX10_init_68 : decode cX10_init 68 = .ok (.aload_n 0, 1) := by decide +kernel
theorem dX10_init_69 : decode cX10_init 69 = .ok (.sipush 400, 3) := by decide +kernel
theorem dX10_init_72 : decode cX10_init 72 = .ok (.newarray .int, 2) := by decide +kernel
theorem dX10_init_74 : decode cX10_init 74 = .ok (.putfield 36, 3) := by decide +kernel
theorem dX10_init_77 : decode cX10_init 77 = .ok (.aload_n 0, 1) := by decide +kernel
theorem dX10_init_78 : decode cX10_init 78 = .ok (.sipush 400, 3) := by decide +kernel
theorem dX10_init_81 : decode cX10_init 81 = .ok (.newarray .int, 2) := by decide +kernel
theorem dX10_init_83 : decode cX10_init 83 = .ok (.putfield 39, 3) := by decide +kernel
theorem dX10_init_86 : decode cX10_init 86 = .ok (.aload_n 0, 1) := by decide +kernel
theorem dX10_init_87 : decode cX10_init 87 = .ok (.sipush 400, 3) := by decide +kernel
theorem dX10_init_90 : decode cX10_init 90 = .ok (.newarray .int, 2) := by decide +kernel
theorem dX10_init_92 : decode cX10_init 92 = .ok (.putfield 42, 3) := by decide +kernel
theorem dX10_init_95 : decode cX10_init 95 = .ok (.aload_n 0, 1) := by decide +kernel
theorem dX10_init_96 : decode cX10_init 96 = .ok (.bipush 9, 2) := by decide +kernel
theorem dX10_init_98 : decode cX10_init 98 = .ok (.newarray .long, 2) := by decide +kernel
theorem dX10_init_100 : decode cX10_init 100 = .ok (.dup, 1) := by decide +kernel
theorem dX10_init_101 : decode cX10_init 101 = .ok (.iconst 0, 1) := by decide +kernel
theorem dX10_init_102 : decode cX10_init 102 = .ok (.ldc2_w 45, 3) := by decide +kernel
theorem dX10_init_105 : decode cX10_init 105 = .ok (.lastore, 1) := by decide +kernel
theorem dX10_init_106 : decode cX10_init 106 = .ok (.dup, 1) := by decide +kernel
theorem dX10_init_107 : decode cX10_init 107 = .ok (.iconst 1, 1) := by decide +kernel
theorem dX10_init_108 : decode cX10_init 108 = .ok (.ldc2_w 47, 3) := by decide +kernel
theorem dX10_init_111 : decode cX10_init 111 = .ok (.lastore, 1) := by decide +kernel
theorem dX10_init_112 : decode cX10_init 112 = .ok (.dup, 1) := by decide +kernel
theorem dX10_init_113 : decode cX10_init 113 = .ok (.iconst 2, 1) := by decide +kernel
theorem dX10_init_114 : decode cX10_init 114 = .ok (.ldc2_w 49, 3) := by decide +kernel
theorem dX10_init_117 : decode cX10_init 117 = .ok (.lastore, 1) := by decide +kernel
theorem dX10_init_118 : decode cX10_init 118 = .ok (.dup, 1) := by decide +kernel
theorem dX10_init_119 : decode cX10_init 119 = .ok (.iconst 3, 1) := by decide +kernel
theorem dX10_init_120 : decode cX10_init 120 = .ok (.ldc2_w 51, 3) := by decide +kernel
theorem dX10_init_123 : decode cX10_init 123 = .ok (.lastore, 1) := by decide +kernel
theorem dX10_init_124 : decode cX10_init 124 = .ok (.dup, 1) := by decide +kernel
theorem dX10_init_125 : decode cX10_init 125 = .ok (.iconst 4, 1) := by decide +kernel
theorem dX10_init_126 : decode cX10_init 126 = .ok (.ldc2_w 53, 3) := by decide +kernel
theorem dX10_init_129 : decode cX10_init 129 = .ok (.lastore, 1) := by decide +kernel
theorem dX10_init_130 : decode cX10_init 130 = .ok (.dup, 1) := by decide +kernel
theorem dX10_init_131 : decode cX10_init 131 = .ok (.iconst 5, 1) := by decide +kernel
theorem dX10_init_132 : decode cX10_init 132 = .ok (.ldc2_w 55, 3) := by decide +kernel
theorem dX10_init_135 : decode cX10_init 135 = .ok (.lastore, 1) := by decide +kernel
theorem dX10_init_136 : decode cX10_init 136 = .ok (.dup, 1) := by decide +kernel
theorem dX10_init_137 : decode cX10_init 137 = .ok (.bipush 6, 2) := by decide +kernel
theorem dX10_init_139 : decode cX10_init 139 = .ok (.ldc2_w 57, 3) := by decide +kernel
theorem dX10_init_142 : decode cX10_init 142 = .ok (.lastore, 1) := by decide +kernel
theorem dX10_init_143 : decode cX10_init 143 = .ok (.dup, 1) := by decide +kernel
theorem dX10_init_144 : decode cX10_init 144 = .ok (.bipush 7, 2) := by decide +kernel
theorem dX10_init_146 : decode cX10_init 146 = .ok (.ldc2_w 59, 3) := by decide +kernel
theorem dX10_init_149 : decode cX10_init 149 = .ok (.lastore, 1) := by decide +kernel
theorem dX10_init_150 : decode cX10_init 150 = .ok (.dup, 1) := by decide +kernel
theorem dX10_init_151 : decode cX10_init 151 = .ok (.bipush 8, 2) := by decide +kernel
theorem dX10_init_153 : decode cX10_init 153 = .ok (.ldc2_w 61, 3) := by decide +kernel
theorem dX10_init_156 : decode cX10_init 156 = .ok (.lastore, 1) := by decide +kernel
theorem dX10_init_157 : decode cX10_init 157 = .ok (.putfield 63, 3) := by decide +kernel
theorem dX10_init_160 : decode cX10_init 160 = .ok (.aload_n 0, 1) := by decide +kernel
theorem dX10_init_161 : decode cX10_init 161 = .ok (.bipush 13, 2) := by decide +kernel
theorem dX10_init_163 : decode cX10_init 163 = .ok (.newarray .long, 2) := by decide +kernel
theorem dX10_init_165 : decode cX10_init 165 = .ok (.putfield 67, 3) := by decide +kernel
theorem dX10_init_168 : decode cX10_init 168 = .ok (.aload_n 0, 1) := by decide +kernel
theorem dX10_init_169 : decode cX10_init 169 = .ok (.sipush 400, 3) := by decide +kernel
theorem dX10_init_172 : decode cX10_init 172 = .ok (.newarray .long, 2) := by decide +kernel
theorem dX10_init_174 : decode cX10_init 174 = .ok (.putfield 70, 3) := by decide +kernel
theorem dX10_init_177 : decode cX10_init 177 = .ok (.aload_n 0, 1) := by decide +kernel
theorem dX10_init_178 : decode cX10_init 178 = .ok (.bipush 100, 2) := by decide +kernel
theorem dX10_init_180 : decode cX10_init 180 = .ok (.newarray .int, 2) := by decide +kernel
theorem dX10_init_182 : decode cX10_init 182 = .ok (.putfield 73, 3) := by decide +kernel
theorem dX10_init_185 : decode cX10_init 185 = .ok (.aload_n 0, 1) := by decide +kernel
theorem dX10_init_186 : decode cX10_init 186 = .ok (.bipush 100, 2) := by decide +kernel
theorem dX10_init_188 : decode cX10_init 188 = .ok (.newarray .int, 2) := by decide +kernel
theorem dX10_init_190 : decode cX10_init 190 = .ok (.putfield 76, 3) := by decide +kernel
theorem dX10_init_193 : decode cX10_init 193 = .ok (.aload_n 0, 1) := by decide +kernel
theorem dX10_init_194 : decode cX10_init 194 = .ok (.bipush 100, 2) := by decide +kernel
theorem dX10_init_196 : decode cX10_init 196 = .ok (.newarray .int, 2) := by decide +kernel
theorem dX10_init_198 : decode cX10_init 198 = .ok (.putfield 79, 3) := by decide +kernel
theorem dX10_init_201 : decode cX10_init 201 = .ok (.aload_n 0, 1) := by decide +kernel
theorem dX10_init_202 : decode cX10_init 202 = .ok (.bipush 100, 2) := by decide +kernel
theorem dX10_init_204 : decode cX10_init 204 = .ok (.newarray .int, 2) := by decide +kernel
theorem dX10_init_206 : decode cX10_init 206 = .ok (.putfield 82, 3) := by decide +kernel
theorem dX10_init_209 : decode cX10_init 209 = .ok (.aload_n 0, 1) := by decide +kernel
theorem dX10_init_210 : decode cX10_init 210 = .ok (.bipush 7, 2) := by decide +kernel
theorem dX10_init_212 : decode cX10_init 212 = .ok (.newarray .int, 2) := by decide +kernel
theorem dX10_init_214 : decode cX10_init 214 = .ok (.putfield 85, 3) := by decide +kernel
theorem dX10_init_217 : decode cX10_init 217 = .ok (.aload_n 0, 1) := by decide +kernel
theorem dX10_init_218 : decode cX10_init 218 = .ok (.bipush 100, 2) := by decide +kernel
theorem dX10_init_220 : decode cX10_init 220 = .ok (.newarray .int, 2) := by decide +kernel
theorem dX10_init_222 : decode cX10_init 222 = .ok (.putfield 88, 3) := by decide +kernel
theorem dX10_init_225 : decode cX10_init 225 = .ok (.aload_n 0, 1) := by decide +kernel
theorem dX10_init_226 : decode cX10_init 226 = .ok (.bipush 100, 2) := by decide +kernel
theorem dX10_init_228 : decode cX10_init 228 = .ok (.newarray .boolean, 2) := by decide +kernel
theorem dX10_init_230 : decode cX10_init 230 = .ok (.putfield 91, 3) := by decide +kernel
theorem dX10_init_233 : decode cX10_init 233 = .ok (.aload_n 0, 1) := by decide +kernel
theorem dX10_init_234 : decode cX10_init 234 = .ok (.bipush 64, 2) := by decide +kernel
theorem dX10_init_236 : decode cX10_init 236 = .ok (.newarray .int, 2) := by decide +kernel
theorem dX10_init_238 : decode cX10_init 238 = .ok (.putfield 94, 3) := by decide +kernel
theorem dX10_init_241 : decode cX10_init 241 = .ok (.aload_n 0, 1) := by decide +kernel
theorem dX10_init_242 : decode cX10_init 242 = .ok (.sipush 300, 3) := by decide +kernel
theorem dX10_init_245 : decode cX10_init 245 = .ok (.newarray .int, 2) := by decide +kernel
theorem dX10_init_247 : decode cX10_init 247 = .ok (.putfield 97, 3) := by decide +kernel
theorem dX10_init_250 : decode cX10_init 250 = .ok (.aload_n 0, 1) := by decide +kernel
theorem dX10_init_251 : decode cX10_init 251 = .ok (.bipush 24, 2) := by decide +kernel
theorem dX10_init_253 : decode cX10_init 253 = .ok (.newarray .int, 2) := by decide +kernel
theorem dX10_init_255 : decode cX10_init 255 = .ok (.putfield 100, 3) := by decide +kernel
theorem dX10_init_258 : decode cX10_init 258 = .ok (.aload_n 0, 1) := by decide +kernel
theorem dX10_init_259 : decode cX10_init 259 = .ok (.getfield 13, 3) := by decide +kernel
theorem dX10_init_262 : decode cX10_init 262 = .ok (.iconst 2, 1) := by decide +kernel
theorem dX10_init_263 : decode cX10_init 263 = .ok (.iconst (-1), 1) := by decide +kernel
theorem dX10_init_264 : decode cX10_init 264 = .ok (.iastore, 1) := by decide +kernel
theorem dX10_init_265 : decode cX10_init 265 = .ok (.iconst 0, 1) := by decide +kernel
theorem dX10_init_266 : decode cX10_init 266 = .ok (.istore_n 1, 1) := by decide +kernel
theorem dX10_init_267 : decode cX10_init 267 = .ok (.iload_n 1, 1) := by decide +kernel
theorem dX10_init_268 : decode cX10_init 268 = .ok (.iconst 3, 1) := by decide +kernel
theorem dX10_init_269 : decode cX10_init 269 = .ok (.if_icmp .ge 21, 3) := by decide +kernel
theorem dX10_init_272 : decode cX10_init 272 = .ok (.aload_n 0, 1) := by decide +kernel
theorem dX10_init_273 : decode cX10_init 273 = .ok (.getfield 13, 3) := by decide +kernel
theorem dX10_init_276 : decode cX10_init 276 = .ok (.iconst 5, 1) := by decide +kernel
theorem dX10_init_277 : decode cX10_init 277 = .ok (.iconst 2, 1) := by decide +kernel
theorem dX10_init_278 : decode cX10_init 278 = .ok (.iload_n 1, 1) := by decide +kernel
theorem dX10_init_279 : decode cX10_init 279 = .ok (.imul, 1) := by decide +kernel
theorem dX10_init_280 : decode cX10_init 280 = .ok (.iadd, 1) := by decide +kernel
theorem dX10_init_281 : decode cX10_init 281 = .ok (.bipush 99, 2) := by decide +kernel
theorem dX10_init_283 : decode cX10_init 283 = .ok (.iastore, 1) := by decide +kernel
theorem dX10_init_284 : decode cX10_init 284 = .ok (.iinc 1 1, 3) := by decide +kernel
theorem dX10_init_287 : decode cX10_init 287 = .ok (.goto (-20), 3) := by decide +kernel
theorem dX10_init_290 : decode cX10_init 290 = .ok (.return_, 1) := by decide +kernel
theorem dX10_in_0 : decode cX10_in 0 = .ok (.lload_n 0, 1) := by decide +kernel
theorem dX10_in_1 : decode cX10_in 1 = .ok (.lload_n 2, 1) := by decide +kernel
theorem dX10_in_2 : decode cX10_in 2 = .ok (.lcmp, 1) := by decide +kernel
theorem dX10_in_3 : decode cX10_in 3 = .ok (.ifCond .lt 14, 3) := by decide +kernel
theorem dX10_in_6 : decode cX10_in 6 = .ok (.lload_n 0, 1) := by decide +kernel
theorem dX10_in_7 : decode cX10_in 7 = .ok (.lload 4, 2) := by decide +kernel
theorem dX10_in_9 : decode cX10_in 9 = .ok (.lcmp, 1) := by decide +kernel
theorem dX10_in_10 : decode cX10_in 10 = .ok (.ifCond .gt 7, 3) := by decide +kernel
theorem dX10_in_13 : decode cX10_in 13 = .ok (.iconst 1, 1) := by decide +kernel
theorem dX10_in_14 : decode cX10_in 14 = .ok (.goto 4, 3) := by decide +kernel
theorem dX10_in_17 : decode cX10_in 17 = .ok (.iconst 0, 1) := by decide +kernel
theorem dX10_in_18 : decode cX10_in 18 = .ok (.ireturn, 1) := by decide +kernel
theorem dX10_is_0 : decode cX10_is 0 = .ok (.iload_n 0, 1) := by decide +kernel
theorem dX10_is_1 : decode cX10_is 1 = .ok (.iload_n 1, 1) := by decide +kernel
theorem dX10_is_2 : decode cX10_is 2 = .ok (.ishr, 1) := by decide +kernel
theorem dX10_is_3 : decode cX10_is 3 = .ok (.iconst 1, 1) := by decide +kernel
theorem dX10_is_4 : decode cX10_is 4 = .ok (.iand, 1) := by decide +kernel
theorem dX10_is_5 : decode cX10_is 5 = .ok (.iconst 1, 1) := by decide +kernel
theorem dX10_is_6 : decode cX10_is 6 = .ok (.if_icmp .ne 7, 3) := by decide +kernel
theorem dX10_is_9 : decode cX10_is 9 = .ok (.iconst 1, 1) := by decide +kernel
theorem dX10_is_10 : decode cX10_is 10 = .ok (.goto 4, 3) := by decide +kernel
theorem dX10_is_13 : decode cX10_is 13 = .ok (.iconst 0, 1) := by decide +kernel
theorem dX10_is_14 : decode cX10_is 14 = .ok (.ireturn, 1) := by decide +kernel
theorem dX10_bits_0 : decode cX10_bits 0 = .ok (.iconst 0, 1) := by decide +kernel
theorem dX10_bits_1 : decode cX10_bits 1 = .ok (.istore_n 1, 1) := by decide +kernel
theorem dX10_bits_2 : decode cX10_bits 2 = .ok (.iconst 0, 1) := by decide +kernel
theorem dX10_bits_3 : decode cX10_bits 3 = .ok (.istore_n 2, 1) := by decide +kernel
theorem dX10_bits_4 : decode cX10_bits 4 = .ok (.iload_n 2, 1) := by decide +kernel
theorem dX10_bits_5 : decode cX10_bits 5 = .ok (.bipush 12, 2) := by decide +kernel
theorem dX10_bits_7 : decode cX10_bits 7 = .ok (.if_icmp .ge 17, 3) := by decide +kernel
theorem dX10_bits_10 : decode cX10_bits 10 = .ok (.iload_n 1, 1) := by decide +kernel
theorem dX10_bits_11 : decode cX10_bits 11 = .ok (.iload_n 0, 1) := by decide +kernel
theorem dX10_bits_12 : decode cX10_bits 12 = .ok (.iload_n 2, 1) := by decide +kernel
theorem dX10_bits_13 : decode cX10_bits 13 = .ok (.ishr, 1) := by decide +kernel
theorem dX10_bits_14 : decode cX10_bits 14 = .ok (.iconst 1, 1) := by decide +kernel
theorem dX10_bits_15 : decode cX10_bits 15 = .ok (.iand, 1) := by decide +kernel
theorem dX10_bits_16 : decode cX10_bits 16 = .ok (.iadd, 1) := by decide +kernel
theorem dX10_bits_17 : decode cX10_bits 17 = .ok (.istore_n 1, 1) := by decide +kernel
theorem dX10_bits_18 : decode cX10_bits 18 = .ok (.iinc 2 1, 3) := by decide +kernel
theorem dX10_bits_21 : decode cX10_bits 21 = .ok (.goto (-17), 3) := by decide +kernel
theorem dX10_bits_24 : decode cX10_bits 24 = .ok (.iload_n 1, 1) := by decide +kernel
theorem dX10_bits_25 : decode cX10_bits 25 = .ok (.ireturn, 1) := by decide +kernel
theorem dX10_tell_0 : decode cX10_tell 0 = .ok (.aload_n 0, 1) := by decide +kernel
theorem dX10_tell_1 : decode cX10_tell 1 = .ok (.iload_n 1, 1) := by decide +kernel
theorem dX10_tell_2 : decode cX10_tell 2 = .ok (.ifCond .ge 7, 3) := by decide +kernel
theorem dX10_tell_5 : decode cX10_tell 5 = .ok (.iload_n 1, 1) := by decide +kernel
theorem dX10_tell_6 : decode cX10_tell 6 = .ok (.goto 4, 3) := by decide +kernel
theorem dX10_tell_9 : decode cX10_tell 9 = .ok (.iconst 0, 1) := by decide +kernel
theorem dX10_tell_10 : decode cX10_tell 10 = .ok (.putfield 106, 3) := by decide +kernel
theorem dX10_tell_13 : decode cX10_tell 13 = .ok (.iload_n 1, 1) := by decide +kernel
theorem dX10_tell_14 : decode cX10_tell 14 = .ok (.ifCond .ge 14, 3) := by decide +kernel
theorem dX10_tell_17 : decode cX10_tell 17 = .ok (.aload_n 0, 1) := by decide +kernel
theorem dX10_tell_18 : decode cX10_tell 18 = .ok (.getfield 7, 3) := by decide +kernel
theorem dX10_tell_21 : decode cX10_tell 21 = .ok (.iload_n 1, 1) := by decide +kernel
theorem dX10_tell_22 : decode cX10_tell 22 = .ok (.ineg, 1) := by decide +kernel
theorem dX10_tell_23 : decode cX10_tell 23 = .ok (.dup2, 1) := by decide +kernel
theorem dX10_tell_24 : decode cX10_tell 24 = .ok (.iaload, 1) := by decide +kernel
theorem dX10_tell_25 : decode cX10_tell 25 = .ok (.iconst 1, 1) := by decide +kernel
theorem dX10_tell_26 : decode cX10_tell 26 = .ok (.iadd, 1) := by decide +kernel
theorem dX10_tell_27 : decode cX10_tell 27 = .ok (.iastore, 1) := by decide +kernel
theorem dX10_tell_28 : decode cX10_tell 28 = .ok (.iload_n 1, 1) := by decide +kernel
theorem dX10_tell_29 : decode cX10_tell 29 = .ok (.ireturn, 1) := by decide +kernel
theorem dX10_was_0 : decode cX10_was 0 = .ok (.aload_n 0, 1) := by decide +kernel
theorem dX10_was_1 : decode cX10_was 1 = .ok (.iconst 0, 1) := by decide +kernel
theorem dX10_was_2 : decode cX10_was 2 = .ok (.putfield 106, 3) := by decide +kernel
theorem dX10_was_5 : decode cX10_was 5 = .ok (.iload_n 1, 1) := by decide +kernel
theorem dX10_was_6 : decode cX10_was 6 = .ok (.ireturn, 1) := by decide +kernel
theorem dX10_change_0 : decode cX10_change 0 = .ok (.aload_n 0, 1) := by decide +kernel
theorem dX10_change_1 : decode cX10_change 1 = .ok (.getfield 13, 3) := by decide +kernel
theorem dX10_change_4 : decode cX10_change 4 = .ok (.iload_n 1, 1) := by decide +kernel
theorem dX10_change_5 : decode cX10_change 5 = .ok (.iaload, 1) := by decide +kernel
theorem dX10_change_6 : decode cX10_change 6 = .ok (.istore_n 3, 1) := by decide +kernel
theorem dX10_change_7 : decode cX10_change 7 = .ok (.aload_n 0, 1) := by decide +kernel
theorem dX10_change_8 : decode cX10_change 8 = .ok (.getfield 13, 3) := by decide +kernel
theorem dX10_change_11 : decode cX10_change 11 = .ok (.iload_n 1, 1) := by decide +kernel
theorem dX10_change_12 : decode cX10_change 12 = .ok (.iload_n 2, 1) := by decide +kernel
theorem dX10_change_13 : decode cX10_change 13 = .ok (.iastore, 1) := by decide +kernel
theorem dX10_change_14 : decode cX10_change 14 = .ok (.aload_n 0, 1) := by decide +kernel
theorem dX10_change_15 : decode cX10_change 15 = .ok (.iload_n 3, 1) := by decide +kernel
theorem dX10_change_16 : decode cX10_change 16 = .ok (.invokevirtual 109, 3) := by decide +kernel
theorem dX10_change_19 : decode cX10_change 19 = .ok (.ireturn, 1) := by decide +kernel
theorem dX10_image_0 : decode cX10_image 0 = .ok (.aload_n 0, 1) := by decide +kernel
theorem dX10_image_1 : decode cX10_image 1 = .ok (.iconst 0, 1) := by decide +kernel
theorem dX10_image_2 : decode cX10_image 2 = .ok (.putfield 103, 3) := by decide +kernel
theorem dX10_image_5 : decode cX10_image 5 = .ok (.iload_n 1, 1) := by decide +kernel
theorem dX10_image_6 : decode cX10_image 6 = .ok (.i2l, 1) := by decide +kernel
theorem dX10_image_7 : decode cX10_image 7 = .ok (.lconst 0, 1) := by decide +kernel
theorem dX10_image_8 : decode cX10_image 8 = .ok (.lconst 1, 1) := by decide +kernel
theorem dX10_image_9 : decode cX10_image 9 = .ok (.invokestatic 113, 3) := by decide +kernel
theorem dX10_image_12 : decode cX10_image 12 = .ok (.ifCond .ne 9, 3) := by decide +kernel
theorem dX10_image_15 : decode cX10_image 15 = .ok (.aload_n 0, 1) := by decide +kernel
theorem dX10_image_16 : decode cX10_image 16 = .ok (.iconst (-1), 1) := by decide +kernel
theorem dX10_image_17 : decode cX10_image 17 = .ok (.invokevirtual 117, 3) := by decide +kernel
theorem dX10_image_20 : decode cX10_image 20 = .ok (.ireturn, 1) := by decide +kernel
theorem dX10_image_21 : decode cX10_image 21 = .ok (.iconst 0, 1) := by decide +kernel
theorem dX10_image_22 : decode cX10_image 22 = .ok (.istore_n 2, 1) := by decide +kernel
theorem dX10_image_23 : decode cX10_image 23 = .ok (.iload_n 2, 1) := by decide +kernel
theorem dX10_image_24 : decode cX10_image 24 = .ok (.sipush 5830, 3) := by decide +kernel
theorem dX10_image_27 : decode cX10_image 27 = .ok (.if_icmp .ge 27, 3) := by decide +kernel
theorem dX10_image_30 : decode cX10_image 30 = .ok (.aload_n 0, 1) := by decide +kernel
theorem dX10_image_31 : decode cX10_image 31 = .ok (.getfield 16, 3) := by decide +kernel
theorem dX10_image_34 : decode cX10_image 34 = .ok (.sipush 5830, 3) := by decide +kernel
theorem dX10_image_37 : decode cX10_image 37 = .ok (.iload_n 1, 1) := by decide +kernel
theorem dX10_image_38 : decode cX10_image 38 = .ok (.imul, 1) := by decide +kernel
theorem dX10_image_39 : decode cX10_image 39 = .ok (.iload_n 2, 1) := by decide +kernel
theorem dX10_image_40 : decode cX10_image 40 = .ok (.iadd, 1) := by decide +kernel
theorem dX10_image_41 : decode cX10_image 41 = .ok (.aload_n 0, 1) := by decide +kernel
theorem dX10_image_42 : decode cX10_image 42 = .ok (.getfield 13, 3) := by decide +kernel
theorem dX10_image_45 : decode cX10_image 45 = .ok (.iload_n 2, 1) := by decide +kernel
theorem dX10_image_46 : decode cX10_image 46 = .ok (.iaload, 1) := by decide +kernel
theorem dX10_image_47 : decode cX10_image 47 = .ok (.iastore, 1) := by decide +kernel
theorem dX10_image_48 : decode cX10_image 48 = .ok (.iinc 2 1, 3) := by decide +kernel
theorem dX10_image_51 : decode cX10_image 51 = .ok (.goto (-28), 3) := by decide +kernel
theorem dX10_image_54 : decode cX10_image 54 = .ok (.aload_n 0, 1) := by decide +kernel
theorem dX10_image_55 : decode cX10_image 55 = .ok (.getfield 19, 3) := by decide +kernel
theorem dX10_image_58 : decode cX10_image 58 = .ok (.iload_n 1, 1) := by decide +kernel
theorem dX10_image_59 : decode cX10_image 59 = .ok (.iconst 1, 1) := by decide +kernel
theorem dX10_image_60 : decode cX10_image 60 = .ok (.bastore, 1) := by decide +kernel
theorem dX10_image_61 : decode cX10_image 61 = .ok (.aload_n 0, 1) := by decide +kernel
theorem dX10_image_62 : decode cX10_image 62 = .ok (.iconst 0, 1) := by decide +kernel
theorem dX10_image_63 : decode cX10_image 63 = .ok (.invokevirtual 117, 3) := by decide +kernel
theorem dX10_image_66 : decode cX10_image 66 = .ok (.ireturn, 1) := by decide +kernel
theorem dX10_back_0 : decode cX10_back 0 = .ok (.aload_n 0, 1) := by decide +kernel
theorem dX10_back_1 : decode cX10_back 1 = .ok (.iconst 0, 1) := by decide +kernel
theorem dX10_back_2 : decode cX10_back 2 = .ok (.putfield 103, 3) := by decide +kernel
theorem dX10_back_5 : decode cX10_back 5 = .ok (.iload_n 1, 1) := by decide +kernel
theorem dX10_back_6 : decode cX10_back 6 = .ok (.i2l, 1) := by decide +kernel
theorem dX10_back_7 : decode cX10_back 7 = .ok (.lconst 0, 1) := by decide +kernel
theorem dX10_back_8 : decode cX10_back 8 = .ok (.lconst 1, 1) := by decide +kernel
theorem dX10_back_9 : decode cX10_back 9 = .ok (.invokestatic 113, 3) := by decide +kernel
theorem dX10_back_12 : decode cX10_back 12 = .ok (.ifCond .ne 9, 3) := by decide +kernel
theorem dX10_back_15 : decode cX10_back 15 = .ok (.aload_n 0, 1) := by decide +kernel
theorem dX10_back_16 : decode cX10_back 16 = .ok (.iconst (-1), 1) := by decide +kernel
theorem dX10_back_17 : decode cX10_back 17 = .ok (.invokevirtual 117, 3) := by decide +kernel
theorem dX10_back_20 : decode cX10_back 20 = .ok (.ireturn, 1) := by decide +kernel
theorem dX10_back_21 : decode cX10_back 21 = .ok (.aload_n 0, 1) := by decide +kernel
theorem dX10_back_22 : decode cX10_back 22 = .ok (.getfield 19, 3) := by decide +kernel
theorem dX10_back_25 : decode cX10_back 25 = .ok (.iload_n 1, 1) := by decide +kernel
theorem dX10_back_26 : decode cX10_back 26 = .ok (.baload, 1) := by decide +kernel
theorem dX10_back_27 : decode cX10_back 27 = .ok (.ifCond .ne 10, 3) := by decide +kernel
theorem dX10_back_30 : decode cX10_back 30 = .ok (.aload_n 0, 1) := by decide +kernel
theorem dX10_back_31 : decode cX10_back 31 = .ok (.bipush (-2), 2) := by decide +kernel
theorem dX10_back_33 : decode cX10_back 33 = .ok (.invokevirtual 117, 3) := by decide +kernel
theorem dX10_back_36 : decode cX10_back 36 = .ok (.ireturn, 1) := by decide +kernel
theorem dX10_back_37 : decode cX10_back 37 = .ok (.iconst 0, 1) := by decide +kernel
theorem dX10_back_38 : decode cX10_back 38 = .ok (.istore_n 2, 1) := by decide +kernel
theorem dX10_back_39 : decode cX10_back 39 = .ok (.iload_n 2, 1) := by decide +kernel
theorem dX10_back_40 : decode cX10_back 40 = .ok (.sipush 5830, 3) := by decide +kernel
theorem dX10_back_43 : decode cX10_back 43 = .ok (.if_icmp .ge 27, 3) := by decide +kernel
theorem dX10_back_46 : decode cX10_back 46 = .ok (.aload_n 0, 1) := by decide +kernel
theorem dX10_back_47 : decode cX10_back 47 = .ok (.getfield 13, 3) := by decide +kernel
theorem dX10_back_50 : decode cX10_back 50 = .ok (.iload_n 2, 1) := by decide +kernel
theorem dX10_back_51 : decode cX10_back 51 = .ok (.aload_n 0, 1) := by decide +kernel
theorem dX10_back_52 : decode cX10_back 52 = .ok (.getfield 16, 3) := by decide +kernel
theorem dX10_back_55 : decode cX10_back 55 = .ok (.sipush 5830, 3) := by decide +kernel
theorem dX10_back_58 : decode cX10_back 58 = .ok (.iload_n 1, 1) := by decide +kernel
theorem dX10_back_59 : decode cX10_back 59 = .ok (.imul, 1) := by decide +kernel
theorem dX10_back_60 : decode cX10_back 60 = .ok (.iload_n 2, 1) := by decide +kernel
theorem dX10_back_61 : decode cX10_back 61 = .ok (.iadd, 1) := by decide +kernel
theorem dX10_back_62 : decode cX10_back 62 = .ok (.iaload, 1) := by decide +kernel
theorem dX10_back_63 : decode cX10_back 63 = .ok (.iastore, 1) := by decide +kernel
theorem dX10_back_64 : decode cX10_back 64 = .ok (.iinc 2 1, 3) := by decide +kernel
theorem dX10_back_67 : decode cX10_back 67 = .ok (.goto (-28), 3) := by decide +kernel
theorem dX10_back_70 : decode cX10_back 70 = .ok (.aload_n 0, 1) := by decide +kernel
theorem dX10_back_71 : decode cX10_back 71 = .ok (.iconst 0, 1) := by decide +kernel
theorem dX10_back_72 : decode cX10_back 72 = .ok (.invokevirtual 117, 3) := by decide +kernel
theorem dX10_back_75 : decode cX10_back 75 = .ok (.ireturn, 1) := by decide +kernel
theorem dX10_isCell_0 : decode cX10_isCell 0 = .ok (.iload_n 0, 1) := by decide +kernel
theorem dX10_isCell_1 : decode cX10_isCell 1 = .ok (.i2l, 1) := by decide +kernel
theorem dX10_isCell_2 : decode cX10_isCell 2 = .ok (.lconst 0, 1) := by decide +kernel
theorem dX10_isCell_3 : decode cX10_isCell 3 = .ok (.ldc2_w 120, 3) := by decide +kernel
theorem dX10_isCell_6 : decode cX10_isCell 6 = .ok (.invokestatic 113, 3) := by decide +kernel
theorem dX10_isCell_9 : decode cX10_isCell 9 = .ok (.ireturn, 1) := by decide +kernel
theorem dX10_isWay_0 : decode cX10_isWay 0 = .ok (.iload_n 0, 1) := by decide +kernel
theorem dX10_isWay_1 : decode cX10_isWay 1 = .ok (.i2l, 1) := by decide +kernel
theorem dX10_isWay_2 : decode cX10_isWay 2 = .ok (.lconst 0, 1) := by decide +kernel
theorem dX10_isWay_3 : decode cX10_isWay 3 = .ok (.ldc2_w 122, 3) := by decide +kernel
theorem dX10_isWay_6 : decode cX10_isWay 6 = .ok (.invokestatic 113, 3) := by decide +kernel
theorem dX10_isWay_9 : decode cX10_isWay 9 = .ok (.ireturn, 1) := by decide +kernel
theorem dX10_isTower_0 : decode cX10_isTower 0 = .ok (.iload_n 1, 1) := by decide +kernel
theorem dX10_isTower_1 : decode cX10_isTower 1 = .ok (.i2l, 1) := by decide +kernel
theorem dX10_isTower_2 : decode cX10_isTower 2 = .ok (.lconst 0, 1) := by decide +kernel
theorem dX10_isTower_3 : decode cX10_isTower 3 = .ok (.aload_n 0, 1) := by decide +kernel
theorem dX10_isTower_4 : decode cX10_isTower 4 = .ok (.getfield 13, 3) := by decide +kernel
theorem dX10_isTower_7 : decode cX10_isTower 7 = .ok (.iconst 0, 1) := by decide +kernel
theorem dX10_isTower_8 : decode cX10_isTower 8 = .ok (.iaload, 1) := by decide +kernel
theorem dX10_isTower_9 : decode cX10_isTower 9 = .ok (.i2l, 1) := by decide +kernel
theorem dX10_isTower_10 : decode cX10_isTower 10 = .ok (.lconst 1, 1) := by decide +kernel
theorem dX10_isTower_11 : decode cX10_isTower 11 = .ok (.lsub, 1) := by decide +kernel
theorem dX10_isTower_12 : decode cX10_isTower 12 = .ok (.invokestatic 113, 3) := by decide +kernel
theorem dX10_isTower_15 : decode cX10_isTower 15 = .ok (.ireturn, 1) := by decide +kernel
theorem dX10_ofTower_0 : decode cX10_ofTower 0 = .ok (.aload_n 0, 1) := by decide +kernel
theorem dX10_ofTower_1 : decode cX10_ofTower 1 = .ok (.getfield 13, 3) := by decide +kernel
theorem dX10_ofTower_4 : decode cX10_ofTower 4 = .ok (.bipush 11, 2) := by decide +kernel
theorem dX10_ofTower_6 : decode cX10_ofTower 6 = .ok (.iconst 5, 1) := by decide +kernel
theorem dX10_ofTower_7 : decode cX10_ofTower 7 = .ok (.iload_n 1, 1) := by decide +kernel
theorem dX10_ofTower_8 : decode cX10_ofTower 8 = .ok (.imul, 1) := by decide +kernel
theorem dX10_ofTower_9 : decode cX10_ofTower 9 = .ok (.iadd, 1) := by decide +kernel
theorem dX10_ofTower_10 : decode cX10_ofTower 10 = .ok (.iload_n 2, 1) := by decide +kernel
theorem dX10_ofTower_11 : decode cX10_ofTower 11 = .ok (.iadd, 1) := by decide +kernel
theorem dX10_ofTower_12 : decode cX10_ofTower 12 = .ok (.iaload, 1) := by decide +kernel
theorem dX10_ofTower_13 : decode cX10_ofTower 13 = .ok (.ireturn, 1) := by decide +kernel
theorem dX10_covers_0 : decode cX10_covers 0 = .ok (.iload_n 2, 1) := by decide +kernel
theorem dX10_covers_1 : decode cX10_covers 1 = .ok (.bipush 10, 2) := by decide +kernel
theorem dX10_covers_3 : decode cX10_covers 3 = .ok (.irem, 1) := by decide +kernel
theorem dX10_covers_4 : decode cX10_covers 4 = .ok (.aload_n 0, 1) := by decide +kernel
theorem dX10_covers_5 : decode cX10_covers 5 = .ok (.iload_n 1, 1) := by decide +kernel
theorem dX10_covers_6 : decode cX10_covers 6 = .ok (.iconst 0, 1) := by decide +kernel
theorem dX10_covers_7 : decode cX10_covers 7 = .ok (.invokevirtual 124, 3) := by decide +kernel
theorem dX10_covers_10 : decode cX10_covers 10 = .ok (.isub, 1) := by decide +kernel
theorem dX10_covers_11 : decode cX10_covers 11 = .ok (.istore_n 3, 1) := by decide +kernel
theorem dX10_covers_12 : decode cX10_covers 12 = .ok (.iload_n 2, 1) := by decide +kernel
theorem dX10_covers_13 : decode cX10_covers 13 = .ok (.bipush 10, 2) := by decide +kernel
theorem dX10_covers_15 : decode cX10_covers 15 = .ok (.idiv, 1) := by decide +kernel
theorem dX10_covers_16 : decode cX10_covers 16 = .ok (.aload_n 0, 1) := by decide +kernel
theorem dX10_covers_17 : decode cX10_covers 17 = .ok (.iload_n 1, 1) := by decide +kernel
theorem dX10_covers_18 : decode cX10_covers 18 = .ok (.iconst 1, 1) := by decide +kernel
theorem dX10_covers_19 : decode cX10_covers 19 = .ok (.invokevirtual 124, 3) := by decide +kernel
theorem dX10_covers_22 : decode cX10_covers 22 = .ok (.isub, 1) := by decide +kernel
theorem dX10_covers_23 : decode cX10_covers 23 = .ok (.istore 4, 2) := by decide +kernel
theorem dX10_covers_25 : decode cX10_covers 25 = .ok (.iload_n 3, 1) := by decide +kernel
theorem dX10_covers_26 : decode cX10_covers 26 = .ok (.i2l, 1) := by decide +kernel
theorem dX10_covers_27 : decode cX10_covers 27 = .ok (.lconst 0, 1) := by decide +kernel
theorem dX10_covers_28 : decode cX10_covers 28 = .ok (.aload_n 0, 1) := by decide +kernel
theorem dX10_covers_29 : decode cX10_covers 29 = .ok (.iload_n 1, 1) := by decide +kernel
theorem dX10_covers_30 : decode cX10_covers 30 = .ok (.iconst 2, 1) := by decide +kernel
theorem dX10_covers_31 : decode cX10_covers 31 = .ok (.invokevirtual 124, 3) := by decide +kernel
theorem dX10_covers_34 : decode cX10_covers 34 = .ok (.i2l, 1) := by decide +kernel
theorem dX10_covers_35 : decode cX10_covers 35 = .ok (.lconst 1, 1) := by decide +kernel
theorem dX10_covers_36 : decode cX10_covers 36 = .ok (.lsub, 1) := by decide +kernel
theorem dX10_covers_37 : decode cX10_covers 37 = .ok (.invokestatic 113, 3) := by decide +kernel
theorem dX10_covers_40 : decode cX10_covers 40 = .ok (.ifCond .eq 26, 3) := by decide +kernel
theorem dX10_covers_43 : decode cX10_covers 43 = .ok (.iload 4, 2) := by decide +kernel
theorem dX10_covers_45 : decode cX10_covers 45 = .ok (.i2l, 1) := by decide +kernel
theorem dX10_covers_46 : decode cX10_covers 46 = .ok (.lconst 0, 1) := by decide +kernel
theorem dX10_covers_47 : decode cX10_covers 47 = .ok (.aload_n 0, 1) := by decide +kernel
theorem dX10_covers_48 : decode cX10_covers 48 = .ok (.iload_n 1, 1) := by decide +kernel
theorem dX10_covers_49 : decode cX10_covers 49 = .ok (.iconst 3, 1) := by decide +kernel
theorem dX10_covers_50 : decode cX10_covers 50 = .ok (.invokevirtual 124, 3) := by decide +kernel
theorem dX10_covers_53 : decode cX10_covers 53 = .ok (.i2l, 1) := by decide +kernel
theorem dX10_covers_54 : decode cX10_covers 54 = .ok (.lconst 1, 1) := by decide +kernel
theorem dX10_covers_55 : decode cX10_covers 55 = .ok (.lsub, 1) := by decide +kernel
theorem dX10_covers_56 : decode cX10_covers 56 = .ok (.invokestatic 113, 3) := by decide +kernel
theorem dX10_covers_59 : decode cX10_covers 59 = .ok (.ifCond .eq 7, 3) := by decide +kernel
theorem dX10_covers_62 : decode cX10_covers 62 = .ok (.iconst 1, 1) := by decide +kernel
theorem dX10_covers_63 : decode cX10_covers 63 = .ok (.goto 4, 3) := by decide +kernel
theorem dX10_covers_66 : decode cX10_covers 66 = .ok (.iconst 0, 1) := by decide +kernel
theorem dX10_covers_67 : decode cX10_covers 67 = .ok (.ireturn, 1) := by decide +kernel
theorem dX10_towerOn_0 : decode cX10_towerOn 0 = .ok (.iconst (-1), 1) := by decide +kernel
theorem dX10_towerOn_1 : decode cX10_towerOn 1 = .ok (.istore_n 2, 1) := by decide +kernel
theorem dX10_towerOn_2 : decode cX10_towerOn 2 = .ok (.iconst 0, 1) := by decide +kernel
theorem dX10_towerOn_3 : decode cX10_towerOn 3 = .ok (.istore_n 3, 1) := by decide +kernel
theorem dX10_towerOn_4 : decode cX10_towerOn 4 = .ok (.iload_n 3, 1) := by decide +kernel
theorem dX10_towerOn_5 : decode cX10_towerOn 5 = .ok (.aload_n 0, 1) := by decide +kernel
theorem dX10_towerOn_6 : decode cX10_towerOn 6 = .ok (.getfield 13, 3) := by decide +kernel
theorem dX10_towerOn_9 : decode cX10_towerOn 9 = .ok (.iconst 0, 1) := by decide +kernel
theorem dX10_towerOn_10 : decode cX10_towerOn 10 = .ok (.iaload, 1) := by decide +kernel
theorem dX10_towerOn_11 : decode cX10_towerOn 11 = .ok (.if_icmp .ge 24, 3) := by decide +kernel
theorem dX10_towerOn_14 : decode cX10_towerOn 14 = .ok (.aload_n 0, 1) := by decide +kernel
theorem dX10_towerOn_15 : decode cX10_towerOn 15 = .ok (.iload_n 3, 1) := by decide +kernel
theorem dX10_towerOn_16 : decode cX10_towerOn 16 = .ok (.iload_n 1, 1) := by decide +kernel
theorem dX10_towerOn_17 : decode cX10_towerOn 17 = .ok (.invokevirtual 128, 3) := by decide +kernel
theorem dX10_towerOn_20 : decode cX10_towerOn 20 = .ok (.ifCond .eq 7, 3) := by decide +kernel
theorem dX10_towerOn_23 : decode cX10_towerOn 23 = .ok (.iload_n 3, 1) := by decide +kernel
theorem dX10_towerOn_24 : decode cX10_towerOn 24 = .ok (.goto 4, 3) := by decide +kernel
theorem dX10_towerOn_27 : decode cX10_towerOn 27 = .ok (.iload_n 2, 1) := by decide +kernel
theorem dX10_towerOn_28 : decode cX10_towerOn 28 = .ok (.istore_n 2, 1) := by decide +kernel
theorem dX10_towerOn_29 : decode cX10_towerOn 29 = .ok (.iinc 3 1, 3) := by decide +kernel
theorem dX10_towerOn_32 : decode cX10_towerOn 32 = .ok (.goto (-28), 3) := by decide +kernel
theorem dX10_towerOn_35 : decode cX10_towerOn 35 = .ok (.iload_n 2, 1) := by decide +kernel
theorem dX10_towerOn_36 : decode cX10_towerOn 36 = .ok (.ireturn, 1) := by decide +kernel
theorem dX10_isGround_0 : decode cX10_isGround 0 = .ok (.iload_n 1, 1) := by decide +kernel
theorem dX10_isGround_1 : decode cX10_isGround 1 = .ok (.invokestatic 132, 3) := by decide +kernel
theorem dX10_isGround_4 : decode cX10_isGround 4 = .ok (.ifCond .eq 16, 3) := by decide +kernel
theorem dX10_isGround_7 : decode cX10_isGround 7 = .ok (.aload_n 0, 1) := by decide +kernel
theorem dX10_isGround_8 : decode cX10_isGround 8 = .ok (.iload_n 1, 1) := by decide +kernel
theorem dX10_isGround_9 : decode cX10_isGround 9 = .ok (.invokevirtual 136, 3) := by decide +kernel
theorem dX10_isGround_12 : decode cX10_isGround 12 = .ok (.iconst (-1), 1) := by decide +kernel
theorem dX10_isGround_13 : decode cX10_isGround 13 = .ok (.if_icmp .ne 7, 3) := by decide +kernel
theorem dX10_isGround_16 : decode cX10_isGround 16 = .ok (.iconst 1, 1) := by decide +kernel
theorem dX10_isGround_17 : decode cX10_isGround 17 = .ok (.goto 4, 3) := by decide +kernel
theorem dX10_isGround_20 : decode cX10_isGround 20 = .ok (.iconst 0, 1) := by decide +kernel
theorem dX10_isGround_21 : decode cX10_isGround 21 = .ok (.ireturn, 1) := by decide +kernel
theorem dX10_ofWork_0 : decode cX10_ofWork 0 = .ok (.aload_n 0, 1) := by decide +kernel
theorem dX10_ofWork_1 : decode cX10_ofWork 1 = .ok (.getfield 13, 3) := by decide +kernel
theorem dX10_ofWork_4 : decode cX10_ofWork 4 = .ok (.sipush 381, 3) := by decide +kernel
theorem dX10_ofWork_7 : decode cX10_ofWork 7 = .ok (.iconst 4, 1) := by decide +kernel
theorem dX10_ofWork_8 : decode cX10_ofWork 8 = .ok (.iload_n 1, 1) := by decide +kernel
theorem dX10_ofWork_9 : decode cX10_ofWork 9 = .ok (.imul, 1) := by decide +kernel
theorem dX10_ofWork_10 : decode cX10_ofWork 10 = .ok (.iadd, 1) := by decide +kernel
theorem dX10_ofWork_11 : decode cX10_ofWork 11 = .ok (.iload_n 2, 1) := by decide +kernel
theorem dX10_ofWork_12 : decode cX10_ofWork 12 = .ok (.iadd, 1) := by decide +kernel
theorem dX10_ofWork_13 : decode cX10_ofWork 13 = .ok (.iaload, 1) := by decide +kernel
theorem dX10_ofWork_14 : decode cX10_ofWork 14 = .ok (.ireturn, 1) := by decide +kernel
theorem dX10_isOfWork_0 : decode cX10_isOfWork 0 = .ok (.iconst 0, 1) := by decide +kernel
theorem dX10_isOfWork_1 : decode cX10_isOfWork 1 = .ok (.istore_n 2, 1) := by decide +kernel
theorem dX10_isOfWork_2 : decode cX10_isOfWork 2 = .ok (.iconst 0, 1) := by decide +kernel
theorem dX10_isOfWork_3 : decode cX10_isOfWork 3 = .ok (.istore_n 3, 1) := by decide +kernel
theorem dX10_isOfWork_4 : decode cX10_isOfWork 4 = .ok (.iload_n 3, 1) := by decide +kernel
theorem dX10_isOfWork_5 : decode cX10_isOfWork 5 = .ok (.aload_n 0, 1) := by decide +kernel
theorem dX10_isOfWork_6 : decode cX10_isOfWork 6 = .ok (.getfield 13, 3) := by decide +kernel
theorem dX10_isOfWork_9 : decode cX10_isOfWork 9 = .ok (.iconst 3, 1) := by decide +kernel
theorem dX10_isOfWork_10 : decode cX10_isOfWork 10 = .ok (.iaload, 1) := by decide +kernel
theorem dX10_isOfWork_11 : decode cX10_isOfWork 11 = .ok (.if_icmp .ge 59, 3) := by decide +kernel
theorem dX10_isOfWork_14 : decode cX10_isOfWork 14 = .ok (.aload_n 0, 1) := by decide +kernel
theorem dX10_isOfWork_15 : decode cX10_isOfWork 15 = .ok (.iload_n 3, 1) := by decide +kernel
theorem dX10_isOfWork_16 : decode cX10_isOfWork 16 = .ok (.iconst 0, 1) := by decide +kernel
theorem dX10_isOfWork_17 : decode cX10_isOfWork 17 = .ok (.invokevirtual 139, 3) := by decide +kernel
theorem dX10_isOfWork_20 : decode cX10_isOfWork 20 = .ok (.istore 4, 2) := by decide +kernel
theorem dX10_isOfWork_22 : decode cX10_isOfWork 22 = .ok (.iload_n 2, 1) := by decide +kernel
theorem dX10_isOfWork_23 : decode cX10_isOfWork 23 = .ok (.ifCond .ne 35, 3) := by decide +kernel
theorem dX10_isOfWork_26 : decode cX10_isOfWork 26 = .ok (.iload 4, 2) := by decide +kernel
theorem dX10_isOfWork_28 : decode cX10_isOfWork 28 = .ok (.iconst 2, 1) := by decide +kernel
theorem dX10_isOfWork_29 : decode cX10_isOfWork 29 = .ok (.if_icmp .eq 13, 3) := by decide +kernel
theorem dX10_isOfWork_32 : decode cX10_isOfWork 32 = .ok (.aload_n 0, 1) := by decide +kernel
theorem dX10_isOfWork_33 : decode cX10_isOfWork 33 = .ok (.iload_n 3, 1) := by decide +kernel
theorem dX10_isOfWork_34 : decode cX10_isOfWork 34 = .ok (.iconst 1, 1) := by decide +kernel
theorem dX10_isOfWork_35 : decode cX10_isOfWork 35 = .ok (.invokevirtual 139, 3) := by decide +kernel
theorem dX10_isOfWork_38 : decode cX10_isOfWork 38 = .ok (.iload_n 1, 1) := by decide +kernel
theorem dX10_isOfWork_39 : decode cX10_isOfWork 39 = .ok (.if_icmp .eq 19, 3) := by decide +kernel
theorem dX10_isOfWork_42 : decode cX10_isOfWork 42 = .ok (.iload 4, 2) := by decide +kernel
theorem dX10_isOfWork_44 : decode cX10_isOfWork 44 = .ok (.iconst 3, 1) := by decide +kernel
theorem dX10_isOfWork_45 : decode cX10_isOfWork 45 = .ok (.if_icmp .ne 17, 3) := by decide +kernel
theorem dX10_isOfWork_48 : decode cX10_isOfWork 48 = .ok (.aload_n 0, 1) := by decide +kernel
theorem dX10_isOfWork_49 : decode cX10_isOfWork 49 = .ok (.iload_n 3, 1) := by decide +kernel
theorem dX10_isOfWork_50 : decode cX10_isOfWork 50 = .ok (.iconst 2, 1) := by decide +kernel
theorem dX10_isOfWork_51 : decode cX10_isOfWork 51 = .ok (.invokevirtual 139, 3) := by decide +kernel
theorem dX10_isOfWork_54 : decode cX10_isOfWork 54 = .ok (.iload_n 1, 1) := by decide +kernel
theorem dX10_isOfWork_55 : decode cX10_isOfWork 55 = .ok (.if_icmp .ne 7, 3) := by decide +kernel
theorem dX10_isOfWork_58 : decode cX10_isOfWork 58 = .ok (.iconst 1, 1) := by decide +kernel
theorem dX10_isOfWork_59 : decode cX10_isOfWork 59 = .ok (.goto 4, 3) := by decide +kernel
theorem dX10_isOfWork_62 : decode cX10_isOfWork 62 = .ok (.iconst 0, 1) := by decide +kernel
theorem dX10_isOfWork_63 : decode cX10_isOfWork 63 = .ok (.istore_n 2, 1) := by decide +kernel
theorem dX10_isOfWork_64 : decode cX10_isOfWork 64 = .ok (.iinc 3 1, 3) := by decide +kernel
theorem dX10_isOfWork_67 : decode cX10_isOfWork 67 = .ok (.goto (-63), 3) := by decide +kernel
theorem dX10_isOfWork_70 : decode cX10_isOfWork 70 = .ok (.iload_n 2, 1) := by decide +kernel
theorem dX10_isOfWork_71 : decode cX10_isOfWork 71 = .ok (.ireturn, 1) := by decide +kernel
theorem dX10_isOfPlace_0 : decode cX10_isOfPlace 0 = .ok (.iconst 0, 1) := by decide +kernel
theorem dX10_isOfPlace_1 : decode cX10_isOfPlace 1 = .ok (.istore_n 2, 1) := by decide +kernel
theorem dX10_isOfPlace_2 : decode cX10_isOfPlace 2 = .ok (.iconst 0, 1) := by decide +kernel
theorem dX10_isOfPlace_3 : decode cX10_isOfPlace 3 = .ok (.istore_n 3, 1) := by decide +kernel
theorem dX10_isOfPlace_4 : decode cX10_isOfPlace 4 = .ok (.iload_n 3, 1) := by decide +kernel
theorem dX10_isOfPlace_5 : decode cX10_isOfPlace 5 = .ok (.aload_n 0, 1) := by decide +kernel
theorem dX10_isOfPlace_6 : decode cX10_isOfPlace 6 = .ok (.getfield 13, 3) := by decide +kernel
theorem dX10_isOfPlace_9 : decode cX10_isOfPlace 9 = .ok (.iconst 4, 1) := by decide +kernel
theorem dX10_isOfPlace_10 : decode cX10_isOfPlace 10 = .ok (.iaload, 1) := by decide +kernel
theorem dX10_isOfPlace_11 : decode cX10_isOfPlace 11 = .ok (.if_icmp .ge 33, 3) := by decide +kernel
theorem dX10_isOfPlace_14 : decode cX10_isOfPlace 14 = .ok (.iload_n 2, 1) := by decide +kernel
theorem dX10_isOfPlace_15 : decode cX10_isOfPlace 15 = .ok (.ifCond .ne 17, 3) := by decide +kernel
theorem dX10_isOfPlace_18 : decode cX10_isOfPlace 18 = .ok (.aload_n 0, 1) := by decide +kernel
theorem dX10_isOfPlace_19 : decode cX10_isOfPlace 19 = .ok (.getfield 13, 3) := by decide +kernel
theorem dX10_isOfPlace_22 : decode cX10_isOfPlace 22 = .ok (.sipush 413, 3) := by decide +kernel
theorem dX10_isOfPlace_25 : decode cX10_isOfPlace 25 = .ok (.iload_n 3, 1) := by decide +kernel
theorem dX10_isOfPlace_26 : decode cX10_isOfPlace 26 = .ok (.iadd, 1) := by decide +kernel
theorem dX10_isOfPlace_27 : decode cX10_isOfPlace 27 = .ok (.iaload, 1) := by decide +kernel
theorem dX10_isOfPlace_28 : decode cX10_isOfPlace 28 = .ok (.iload_n 1, 1) := by decide +kernel
theorem dX10_isOfPlace_29 : decode cX10_isOfPlace 29 = .ok (.if_icmp .ne 7, 3) := by decide +kernel
theorem dX10_isOfPlace_32 : decode cX10_isOfPlace 32 = .ok (.iconst 1, 1) := by decide +kernel
theorem dX10_isOfPlace_33 : decode cX10_isOfPlace 33 = .ok (.goto 4, 3) := by decide +kernel
theorem dX10_isOfPlace_36 : decode cX10_isOfPlace 36 = .ok (.iconst 0, 1) := by decide +kernel
theorem dX10_isOfPlace_37 : decode cX10_isOfPlace 37 = .ok (.istore_n 2, 1) := by decide +kernel
theorem dX10_isOfPlace_38 : decode cX10_isOfPlace 38 = .ok (.iinc 3 1, 3) := by decide +kernel
theorem dX10_isOfPlace_41 : decode cX10_isOfPlace 41 = .ok (.goto (-37), 3) := by decide +kernel
theorem dX10_isOfPlace_44 : decode cX10_isOfPlace 44 = .ok (.iload_n 2, 1) := by decide +kernel
theorem dX10_isOfPlace_45 : decode cX10_isOfPlace 45 = .ok (.ireturn, 1) := by decide +kernel
theorem dX10_canBe_0 : decode cX10_canBe 0 = .ok (.iload_n 0, 1) := by decide +kernel
theorem dX10_canBe_1 : decode cX10_canBe 1 = .ok (.i2l, 1) := by decide +kernel
theorem dX10_canBe_2 : decode cX10_canBe 2 = .ok (.lconst 0, 1) := by decide +kernel
theorem dX10_canBe_3 : decode cX10_canBe 3 = .ok (.ldc2_w 142, 3) := by decide +kernel
theorem dX10_canBe_6 : decode cX10_canBe 6 = .ok (.invokestatic 113, 3) := by decide +kernel
theorem dX10_canBe_9 : decode cX10_canBe 9 = .ok (.ifCond .eq 72, 3) := by decide +kernel
theorem dX10_canBe_12 : decode cX10_canBe 12 = .ok (.iload_n 1, 1) := by decide +kernel
theorem dX10_canBe_13 : decode cX10_canBe 13 = .ok (.i2l, 1) := by decide +kernel
theorem dX10_canBe_14 : decode cX10_canBe 14 = .ok (.lconst 0, 1) := by decide +kernel
theorem dX10_canBe_15 : decode cX10_canBe 15 = .ok (.ldc2_w 142, 3) := by decide +kernel
theorem dX10_canBe_18 : decode cX10_canBe 18 = .ok (.invokestatic 113, 3) := by decide +kernel
theorem dX10_canBe_21 : decode cX10_canBe 21 = .ok (.ifCond .eq 60, 3) := by decide +kernel
theorem dX10_canBe_24 : decode cX10_canBe 24 = .ok (.iload_n 2, 1) := by decide +kernel
theorem dX10_canBe_25 : decode cX10_canBe 25 = .ok (.i2l, 1) := by decide +kernel
theorem dX10_canBe_26 : decode cX10_canBe 26 = .ok (.lconst 1, 1) := by decide +kernel
theorem dX10_canBe_27 : decode cX10_canBe 27 = .ok (.ldc2_w 144, 3) := by decide +kernel
theorem dX10_canBe_30 : decode cX10_canBe 30 = .ok (.invokestatic 113, 3) := by decide +kernel
theorem dX10_canBe_33 : decode cX10_canBe 33 = .ok (.ifCond .eq 48, 3) := by decide +kernel
theorem dX10_canBe_36 : decode cX10_canBe 36 = .ok (.iload_n 3, 1) := by decide +kernel
theorem dX10_canBe_37 : decode cX10_canBe 37 = .ok (.i2l, 1) := by decide +kernel
theorem dX10_canBe_38 : decode cX10_canBe 38 = .ok (.lconst 1, 1) := by decide +kernel
theorem dX10_canBe_39 : decode cX10_canBe 39 = .ok (.ldc2_w 144, 3) := by decide +kernel
theorem dX10_canBe_42 : decode cX10_canBe 42 = .ok (.invokestatic 113, 3) := by decide +kernel
theorem dX10_canBe_45 : decode cX10_canBe 45 = .ok (.ifCond .eq 36, 3) := by decide +kernel
theorem dX10_canBe_48 : decode cX10_canBe 48 = .ok (.iload 4, 2) := by decide +kernel
theorem dX10_canBe_50 : decode cX10_canBe 50 = .ok (.i2l, 1) := by decide +kernel
theorem dX10_canBe_51 : decode cX10_canBe 51 = .ok (.lconst 1, 1) := by decide +kernel
theorem dX10_canBe_52 : decode cX10_canBe 52 = .ok (.ldc2_w 146, 3) := by decide +kernel
theorem dX10_canBe_55 : decode cX10_canBe 55 = .ok (.invokestatic 113, 3) := by decide +kernel
theorem dX10_canBe_58 : decode cX10_canBe 58 = .ok (.ifCond .eq 23, 3) := by decide +kernel
theorem dX10_canBe_61 : decode cX10_canBe 61 = .ok (.iload_n 0, 1) := by decide +kernel
theorem dX10_canBe_62 : decode cX10_canBe 62 = .ok (.iload_n 2, 1) := by decide +kernel
theorem dX10_canBe_63 : decode cX10_canBe 63 = .ok (.iadd, 1) := by decide +kernel
theorem dX10_canBe_64 : decode cX10_canBe 64 = .ok (.bipush 10, 2) := by decide +kernel
theorem dX10_canBe_66 : decode cX10_canBe 66 = .ok (.if_icmp .gt 15, 3) := by decide +kernel
theorem dX10_canBe_69 : decode cX10_canBe 69 = .ok (.iload_n 1, 1) := by decide +kernel
theorem dX10_canBe_70 : decode cX10_canBe 70 = .ok (.iload_n 3, 1) := by decide +kernel
theorem dX10_canBe_71 : decode cX10_canBe 71 = .ok (.iadd, 1) := by decide +kernel
theorem dX10_canBe_72 : decode cX10_canBe 72 = .ok (.bipush 10, 2) := by decide +kernel
theorem dX10_canBe_74 : decode cX10_canBe 74 = .ok (.if_icmp .gt 7, 3) := by decide +kernel
theorem dX10_canBe_77 : decode cX10_canBe 77 = .ok (.iconst 1, 1) := by decide +kernel
theorem dX10_canBe_78 : decode cX10_canBe 78 = .ok (.goto 4, 3) := by decide +kernel
theorem dX10_canBe_81 : decode cX10_canBe 81 = .ok (.iconst 0, 1) := by decide +kernel
theorem dX10_canBe_82 : decode cX10_canBe 82 = .ok (.ireturn, 1) := by decide +kernel
theorem dX10_isFree_0 : decode cX10_isFree 0 = .ok (.iconst 1, 1) := by decide +kernel
theorem dX10_isFree_1 : decode cX10_isFree 1 = .ok (.istore 5, 2) := by decide +kernel
theorem dX10_isFree_3 : decode cX10_isFree 3 = .ok (.iload_n 2, 1) := by decide +kernel
theorem dX10_isFree_4 : decode cX10_isFree 4 = .ok (.istore 6, 2) := by decide +kernel
theorem dX10_isFree_6 : decode cX10_isFree 6 = .ok (.iload 6, 2) := by decide +kernel
theorem dX10_isFree_8 : decode cX10_isFree 8 = .ok (.iload_n 2, 1) := by decide +kernel
theorem dX10_isFree_9 : decode cX10_isFree 9 = .ok (.iload 4, 2) := by decide +kernel
theorem dX10_isFree_11 : decode cX10_isFree 11 = .ok (.iadd, 1) := by decide +kernel
theorem dX10_isFree_12 : decode cX10_isFree 12 = .ok (.if_icmp .ge 75, 3) := by decide +kernel
theorem dX10_isFree_15 : decode cX10_isFree 15 = .ok (.iload_n 1, 1) := by decide +kernel
theorem dX10_isFree_16 : decode cX10_isFree 16 = .ok (.istore 7, 2) := by decide +kernel
theorem dX10_isFree_18 : decode cX10_isFree 18 = .ok (.iload 7, 2) := by decide +kernel
theorem dX10_isFree_20 : decode cX10_isFree 20 = .ok (.iload_n 1, 1) := by decide +kernel
theorem dX10_isFree_21 : decode cX10_isFree 21 = .ok (.iload_n 3, 1) := by decide +kernel
theorem dX10_isFree_22 : decode cX10_isFree 22 = .ok (.iadd, 1) := by decide +kernel
theorem dX10_isFree_23 : decode cX10_isFree 23 = .ok (.if_icmp .ge 58, 3) := by decide +kernel
theorem dX10_isFree_26 : decode cX10_isFree 26 = .ok (.bipush 10, 2) := by decide +kernel
theorem dX10_isFree_28 : decode cX10_isFree 28 = .ok (.iload 6, 2) := by decide +kernel
theorem dX10_isFree_30 : decode cX10_isFree 30 = .ok (.imul, 1) := by decide +kernel
theorem dX10_isFree_31 : decode cX10_isFree 31 = .ok (.iload 7, 2) := by decide +kernel
theorem dX10_isFree_33 : decode cX10_isFree 33 = .ok (.iadd, 1) := by decide +kernel
theorem dX10_isFree_34 : decode cX10_isFree 34 = .ok (.istore 8, 2) := by decide +kernel
theorem dX10_isFree_36 : decode cX10_isFree 36 = .ok (.iload 5, 2) := by decide +kernel
theorem dX10_isFree_38 : decode cX10_isFree 38 = .ok (.ifCond .eq 34, 3) := by decide +kernel
theorem dX10_isFree_41 : decode cX10_isFree 41 = .ok (.aload_n 0, 1) := by decide +kernel
theorem dX10_isFree_42 : decode cX10_isFree 42 = .ok (.iload 8, 2) := by decide +kernel
theorem dX10_isFree_44 : decode cX10_isFree 44 = .ok (.invokevirtual 148, 3) := by decide +kernel
theorem dX10_isFree_47 : decode cX10_isFree 47 = .ok (.ifCond .eq 25, 3) := by decide +kernel
theorem dX10_isFree_50 : decode cX10_isFree 50 = .ok (.aload_n 0, 1) := by decide +kernel
theorem dX10_isFree_51 : decode cX10_isFree 51 = .ok (.iload 8, 2) := by decide +kernel
theorem dX10_isFree_53 : decode cX10_isFree 53 = .ok (.invokevirtual 151, 3) := by decide +kernel
theorem dX10_isFree_56 : decode cX10_isFree 56 = .ok (.ifCond .ne 16, 3) := by decide +kernel
theorem dX10_isFree_59 : decode cX10_isFree 59 = .ok (.aload_n 0, 1) := by decide +kernel
theorem dX10_isFree_60 : decode cX10_isFree 60 = .ok (.iload 8, 2) := by decide +kernel
theorem dX10_isFree_62 : decode cX10_isFree 62 = .ok (.invokevirtual 154, 3) := by decide +kernel
theorem dX10_isFree_65 : decode cX10_isFree 65 = .ok (.ifCond .ne 7, 3) := by decide +kernel
theorem dX10_isFree_68 : decode cX10_isFree 68 = .ok (.iconst 1, 1) := by decide +kernel
theorem dX10_isFree_69 : decode cX10_isFree 69 = .ok (.goto 4, 3) := by decide +kernel
theorem dX10_isFree_72 : decode cX10_isFree 72 = .ok (.iconst 0, 1) := by decide +kernel
theorem dX10_isFree_73 : decode cX10_isFree 73 = .ok (.istore 5, 2) := by decide +kernel
theorem dX10_isFree_75 : decode cX10_isFree 75 = .ok (.iinc 7 1, 3) := by decide +kernel
theorem dX10_isFree_78 : decode cX10_isFree 78 = .ok (.goto (-60), 3) := by decide +kernel
theorem dX10_isFree_81 : decode cX10_isFree 81 = .ok (.iinc 6 1, 3) := by decide +kernel
theorem dX10_isFree_84 : decode cX10_isFree 84 = .ok (.goto (-78), 3) := by decide +kernel
theorem dX10_isFree_87 : decode cX10_isFree 87 = .ok (.iload 5, 2) := by decide +kernel
theorem dX10_isFree_89 : decode cX10_isFree 89 = .ok (.ireturn, 1) := by decide +kernel
theorem dX10_tower_0 : decode cX10_tower 0 = .ok (.aload_n 0, 1) := by decide +kernel
theorem dX10_tower_1 : decode cX10_tower 1 = .ok (.iconst 0, 1) := by decide +kernel
theorem dX10_tower_2 : decode cX10_tower 2 = .ok (.putfield 103, 3) := by decide +kernel
theorem dX10_tower_5 : decode cX10_tower 5 = .ok (.iload_n 1, 1) := by decide +kernel
theorem dX10_tower_6 : decode cX10_tower 6 = .ok (.iload_n 2, 1) := by decide +kernel
theorem dX10_tower_7 : decode cX10_tower 7 = .ok (.iload_n 3, 1) := by decide +kernel
theorem dX10_tower_8 : decode cX10_tower 8 = .ok (.iload 4, 2) := by decide +kernel
theorem dX10_tower_10 : decode cX10_tower 10 = .ok (.iload 5, 2) := by decide +kernel
theorem dX10_tower_12 : decode cX10_tower 12 = .ok (.invokestatic 157, 3) := by decide +kernel
theorem dX10_tower_15 : decode cX10_tower 15 = .ok (.ifCond .ne 9, 3) := by decide +kernel
theorem dX10_tower_18 : decode cX10_tower 18 = .ok (.aload_n 0, 1) := by decide +kernel
theorem dX10_tower_19 : decode cX10_tower 19 = .ok (.iconst (-1), 1) := by decide +kernel
theorem dX10_tower_20 : decode cX10_tower 20 = .ok (.invokevirtual 117, 3) := by decide +kernel
theorem dX10_tower_23 : decode cX10_tower 23 = .ok (.ireturn, 1) := by decide +kernel
theorem dX10_tower_24 : decode cX10_tower 24 = .ok (.aload_n 0, 1) := by decide +kernel
theorem dX10_tower_25 : decode cX10_tower 25 = .ok (.iload_n 1, 1) := by decide +kernel
theorem dX10_tower_26 : decode cX10_tower 26 = .ok (.iload_n 2, 1) := by decide +kernel
theorem dX10_tower_27 : decode cX10_tower 27 = .ok (.iload_n 3, 1) := by decide +kernel
theorem dX10_tower_28 : decode cX10_tower 28 = .ok (.iload 4, 2) := by decide +kernel
theorem dX10_tower_30 : decode cX10_tower 30 = .ok (.invokevirtual 161, 3) := by decide +kernel
theorem dX10_tower_33 : decode cX10_tower 33 = .ok (.ifCond .ne 10, 3) := by decide +kernel
theorem dX10_tower_36 : decode cX10_tower 36 = .ok (.aload_n 0, 1) := by decide +kernel
theorem dX10_tower_37 : decode cX10_tower 37 = .ok (.bipush (-3), 2) := by decide +kernel
theorem dX10_tower_39 : decode cX10_tower 39 = .ok (.invokevirtual 117, 3) := by decide +kernel
theorem dX10_tower_42 : decode cX10_tower 42 = .ok (.ireturn, 1) := by decide +kernel
theorem dX10_tower_43 : decode cX10_tower 43 = .ok (.aload_n 0, 1) := by decide +kernel
theorem dX10_tower_44 : decode cX10_tower 44 = .ok (.getfield 13, 3) := by decide +kernel
theorem dX10_tower_47 : decode cX10_tower 47 = .ok (.iconst 0, 1) := by decide +kernel
theorem dX10_tower_48 : decode cX10_tower 48 = .ok (.iaload, 1) := by decide +kernel
theorem dX10_tower_49 : decode cX10_tower 49 = .ok (.istore 6, 2) := by decide +kernel
theorem dX10_tower_51 : decode cX10_tower 51 = .ok (.iload 6, 2) := by decide +kernel
theorem dX10_tower_53 : decode cX10_tower 53 = .ok (.bipush 6, 2) := by decide +kernel
theorem dX10_tower_55 : decode cX10_tower 55 = .ok (.if_icmp .ne 10, 3) := by decide +kernel
theorem dX10_tower_58 : decode cX10_tower 58 = .ok (.aload_n 0, 1) := by decide +kernel
theorem dX10_tower_59 : decode cX10_tower 59 = .ok (.bipush (-5), 2) := by decide +kernel
theorem dX10_tower_61 : decode cX10_tower 61 = .ok (.invokevirtual 117, 3) := by decide +kernel
theorem dX10_tower_64 : decode cX10_tower 64 = .ok (.ireturn, 1) := by decide +kernel
theorem dX10_tower_65 : decode cX10_tower 65 = .ok (.bipush 11, 2) := by decide +kernel
theorem dX10_tower_67 : decode cX10_tower 67 = .ok (.iconst 5, 1) := by decide +kernel
theorem dX10_tower_68 : decode cX10_tower 68 = .ok (.iload 6, 2) := by decide +kernel
theorem dX10_tower_70 : decode cX10_tower 70 = .ok (.imul, 1) := by decide +kernel
theorem dX10_tower_71 : decode cX10_tower 71 = .ok (.iadd, 1) := by decide +kernel
theorem dX10_tower_72 : decode cX10_tower 72 = .ok (.istore 7, 2) := by decide +kernel
theorem dX10_tower_74 : decode cX10_tower 74 = .ok (.aload_n 0, 1) := by decide +kernel
theorem dX10_tower_75 : decode cX10_tower 75 = .ok (.getfield 13, 3) := by decide +kernel
theorem dX10_tower_78 : decode cX10_tower 78 = .ok (.iload 7, 2) := by decide +kernel
theorem dX10_tower_80 : decode cX10_tower 80 = .ok (.iload_n 1, 1) := by decide +kernel
theorem dX10_tower_81 : decode cX10_tower 81 = .ok (.iastore, 1) := by decide +kernel
theorem dX10_tower_82 : decode cX10_tower 82 = .ok (.aload_n 0, 1) := by decide +kernel
theorem dX10_tower_83 : decode cX10_tower 83 = .ok (.getfield 13, 3) := by decide +kernel
theorem dX10_tower_86 : decode cX10_tower 86 = .ok (.iload 7, 2) := by decide +kernel
theorem dX10_tower_88 : decode cX10_tower 88 = .ok (.iconst 1, 1) := by decide +kernel
theorem dX10_tower_89 : decode cX10_tower 89 = .ok (.iadd, 1) := by decide +kernel
theorem dX10_tower_90 : decode cX10_tower 90 = .ok (.iload_n 2, 1) := by decide +kernel
theorem dX10_tower_91 : decode cX10_tower 91 = .ok (.iastore, 1) := by decide +kernel
theorem dX10_tower_92 : decode cX10_tower 92 = .ok (.aload_n 0, 1) := by decide +kernel
theorem dX10_tower_93 : decode cX10_tower 93 = .ok (.getfield 13, 3) := by decide +kernel
theorem dX10_tower_96 : decode cX10_tower 96 = .ok (.iload 7, 2) := by decide +kernel
theorem dX10_tower_98 : decode cX10_tower 98 = .ok (.iconst 2, 1) := by decide +kernel
theorem dX10_tower_99 : decode cX10_tower 99 = .ok (.iadd, 1) := by decide +kernel
theorem dX10_tower_100 : decode cX10_tower 100 = .ok (.iload_n 3, 1) := by decide +kernel
theorem dX10_tower_101 : decode cX10_tower 101 = .ok (.iastore, 1) := by decide +kernel
theorem dX10_tower_102 : decode cX10_tower 102 = .ok (.aload_n 0, 1) := by decide +kernel
theorem dX10_tower_103 : decode cX10_tower 103 = .ok (.getfield 13, 3) := by decide +kernel
theorem dX10_tower_106 : decode cX10_tower 106 = .ok (.iload 7, 2) := by decide +kernel
theorem dX10_tower_108 : decode cX10_tower 108 = .ok (.iconst 3, 1) := by decide +kernel
theorem dX10_tower_109 : decode cX10_tower 109 = .ok (.iadd, 1) := by decide +kernel
theorem dX10_tower_110 : decode cX10_tower 110 = .ok (.iload 4, 2) := by decide +kernel
theorem dX10_tower_112 : decode cX10_tower 112 = .ok (.iastore, 1) := by decide +kernel
theorem dX10_tower_113 : decode cX10_tower 113 = .ok (.aload_n 0, 1) := by decide +kernel
theorem dX10_tower_114 : decode cX10_tower 114 = .ok (.getfield 13, 3) := by decide +kernel
theorem dX10_tower_117 : decode cX10_tower 117 = .ok (.iload 7, 2) := by decide +kernel
theorem dX10_tower_119 : decode cX10_tower 119 = .ok (.iconst 4, 1) := by decide +kernel
theorem dX10_tower_120 : decode cX10_tower 120 = .ok (.iadd, 1) := by decide +kernel
theorem dX10_tower_121 : decode cX10_tower 121 = .ok (.iload 5, 2) := by decide +kernel
theorem dX10_tower_123 : decode cX10_tower 123 = .ok (.iastore, 1) := by decide +kernel
theorem dX10_tower_124 : decode cX10_tower 124 = .ok (.aload_n 0, 1) := by decide +kernel
theorem dX10_tower_125 : decode cX10_tower 125 = .ok (.getfield 13, 3) := by decide +kernel
theorem dX10_tower_128 : decode cX10_tower 128 = .ok (.iconst 0, 1) := by decide +kernel
theorem dX10_tower_129 : decode cX10_tower 129 = .ok (.dup2, 1) := by decide +kernel
theorem dX10_tower_130 : decode cX10_tower 130 = .ok (.iaload, 1) := by decide +kernel
theorem dX10_tower_131 : decode cX10_tower 131 = .ok (.iconst 1, 1) := by decide +kernel
theorem dX10_tower_132 : decode cX10_tower 132 = .ok (.iadd, 1) := by decide +kernel
theorem dX10_tower_133 : decode cX10_tower 133 = .ok (.iastore, 1) := by decide +kernel
theorem dX10_tower_134 : decode cX10_tower 134 = .ok (.iconst 0, 1) := by decide +kernel
theorem dX10_tower_135 : decode cX10_tower 135 = .ok (.istore 8, 2) := by decide +kernel
theorem dX10_tower_137 : decode cX10_tower 137 = .ok (.iload 8, 2) := by decide +kernel
theorem dX10_tower_139 : decode cX10_tower 139 = .ok (.bipush 100, 2) := by decide +kernel
theorem dX10_tower_141 : decode cX10_tower 141 = .ok (.if_icmp .ge 55, 3) := by decide +kernel
theorem dX10_tower_144 : decode cX10_tower 144 = .ok (.aload_n 0, 1) := by decide +kernel
theorem dX10_tower_145 : decode cX10_tower 145 = .ok (.iload 6, 2) := by decide +kernel
theorem dX10_tower_147 : decode cX10_tower 147 = .ok (.iload 8, 2) := by decide +kernel
theorem dX10_tower_149 : decode cX10_tower 149 = .ok (.invokevirtual 128, 3) := by decide +kernel
theorem dX10_tower_152 : decode cX10_tower 152 = .ok (.ifCond .eq 38, 3) := by decide +kernel
theorem dX10_tower_155 : decode cX10_tower 155 = .ok (.aload_n 0, 1) := by decide +kernel
theorem dX10_tower_156 : decode cX10_tower 156 = .ok (.getfield 13, 3) := by decide +kernel
theorem dX10_tower_159 : decode cX10_tower 159 = .ok (.bipush 41, 2) := by decide +kernel
theorem dX10_tower_161 : decode cX10_tower 161 = .ok (.iload 8, 2) := by decide +kernel
theorem dX10_tower_163 : decode cX10_tower 163 = .ok (.iadd, 1) := by decide +kernel
theorem dX10_tower_164 : decode cX10_tower 164 = .ok (.iconst 0, 1) := by decide +kernel
theorem dX10_tower_165 : decode cX10_tower 165 = .ok (.iastore, 1) := by decide +kernel
theorem dX10_tower_166 : decode cX10_tower 166 = .ok (.aload_n 0, 1) := by decide +kernel
theorem dX10_tower_167 : decode cX10_tower 167 = .ok (.getfield 13, 3) := by decide +kernel
theorem dX10_tower_170 : decode cX10_tower 170 = .ok (.sipush 141, 3) := by decide +kernel
theorem dX10_tower_173 : decode cX10_tower 173 = .ok (.iload 8, 2) := by decide +kernel
theorem dX10_tower_175 : decode cX10_tower 175 = .ok (.iadd, 1) := by decide +kernel
theorem dX10_tower_176 : decode cX10_tower 176 = .ok (.iconst 0, 1) := by decide +kernel
theorem dX10_tower_177 : decode cX10_tower 177 = .ok (.iastore, 1) := by decide +kernel
theorem dX10_tower_178 : decode cX10_tower 178 = .ok (.aload_n 0, 1) := by decide +kernel
theorem dX10_tower_179 : decode cX10_tower 179 = .ok (.getfield 13, 3) := by decide +kernel
theorem dX10_tower_182 : decode cX10_tower 182 = .ok (.sipush 241, 3) := by decide +kernel
theorem dX10_tower_185 : decode cX10_tower 185 = .ok (.iload 8, 2) := by decide +kernel
theorem dX10_tower_187 : decode cX10_tower 187 = .ok (.iadd, 1) := by decide +kernel
theorem dX10_tower_188 : decode cX10_tower 188 = .ok (.iconst 0, 1) := by decide +kernel
theorem dX10_tower_189 : decode cX10_tower 189 = .ok (.iastore, 1) := by decide +kernel
theorem dX10_tower_190 : decode cX10_tower 190 = .ok (.iinc 8 1, 3) := by decide +kernel
theorem dX10_tower_193 : decode cX10_tower 193 = .ok (.goto (-56), 3) := by decide +kernel
theorem dX10_tower_196 : decode cX10_tower 196 = .ok (.aload_n 0, 1) := by decide +kernel
theorem dX10_tower_197 : decode cX10_tower 197 = .ok (.iload 6, 2) := by decide +kernel
theorem dX10_tower_199 : decode cX10_tower 199 = .ok (.invokevirtual 117, 3) := by decide +kernel
theorem dX10_tower_202 : decode cX10_tower 202 = .ok (.ireturn, 1) := by decide +kernel
theorem dX10_high_0 : decode cX10_high 0 = .ok (.aload_n 0, 1) := by decide +kernel
theorem dX10_high_1 : decode cX10_high 1 = .ok (.iconst 0, 1) := by decide +kernel
theorem dX10_high_2 : decode cX10_high 2 = .ok (.putfield 103, 3) := by decide +kernel
theorem dX10_high_5 : decode cX10_high 5 = .ok (.iload_n 2, 1) := by decide +kernel
theorem dX10_high_6 : decode cX10_high 6 = .ok (.i2l, 1) := by decide +kernel
theorem dX10_high_7 : decode cX10_high 7 = .ok (.lconst 1, 1) := by decide +kernel
theorem dX10_high_8 : decode cX10_high 8 = .ok (.ldc2_w 146, 3) := by decide +kernel
theorem dX10_high_11 : decode cX10_high 11 = .ok (.invokestatic 113, 3) := by decide +kernel
theorem dX10_high_14 : decode cX10_high 14 = .ok (.ifCond .ne 9, 3) := by decide +kernel
theorem dX10_high_17 : decode cX10_high 17 = .ok (.aload_n 0, 1) := by decide +kernel
theorem dX10_high_18 : decode cX10_high 18 = .ok (.iconst (-1), 1) := by decide +kernel
theorem dX10_high_19 : decode cX10_high 19 = .ok (.invokevirtual 117, 3) := by decide +kernel
theorem dX10_high_22 : decode cX10_high 22 = .ok (.ireturn, 1) := by decide +kernel
theorem dX10_high_23 : decode cX10_high 23 = .ok (.aload_n 0, 1) := by decide +kernel
theorem dX10_high_24 : decode cX10_high 24 = .ok (.iload_n 1, 1) := by decide +kernel
theorem dX10_high_25 : decode cX10_high 25 = .ok (.invokevirtual 165, 3) := by decide +kernel
theorem dX10_high_28 : decode cX10_high 28 = .ok (.ifCond .eq 19, 3) := by decide +kernel
theorem dX10_high_31 : decode cX10_high 31 = .ok (.aload_n 0, 1) := by decide +kernel
theorem dX10_high_32 : decode cX10_high 32 = .ok (.bipush 11, 2) := by decide +kernel
theorem dX10_high_34 : decode cX10_high 34 = .ok (.iconst 5, 1) := by decide +kernel
theorem dX10_high_35 : decode cX10_high 35 = .ok (.iload_n 1, 1) := by decide +kernel
theorem dX10_high_36 : decode cX10_high 36 = .ok (.imul, 1) := by decide +kernel
theorem dX10_high_37 : decode cX10_high 37 = .ok (.iadd, 1) := by decide +kernel
theorem dX10_high_38 : decode cX10_high 38 = .ok (.iconst 4, 1) := by decide +kernel
theorem dX10_high_39 : decode cX10_high 39 = .ok (.iadd, 1) := by decide +kernel
theorem dX10_high_40 : decode cX10_high 40 = .ok (.iload_n 2, 1) := by decide +kernel
theorem dX10_high_41 : decode cX10_high 41 = .ok (.invokevirtual 168, 3) := by decide +kernel
theorem dX10_high_44 : decode cX10_high 44 = .ok (.goto 9, 3) := by decide +kernel
theorem dX10_high_47 : decode cX10_high 47 = .ok (.aload_n 0, 1) := by decide +kernel
theorem dX10_high_48 : decode cX10_high 48 = .ok (.bipush (-2), 2) := by decide +kernel
theorem dX10_high_50 : decode cX10_high 50 = .ok (.invokevirtual 117, 3) := by decide +kernel
theorem dX10_high_53 : decode cX10_high 53 = .ok (.ireturn, 1) := by decide +kernel
theorem dX10_at_0 : decode cX10_at 0 = .ok (.aload_n 0, 1) := by decide +kernel
theorem dX10_at_1 : decode cX10_at 1 = .ok (.iconst 0, 1) := by decide +kernel
theorem dX10_at_2 : decode cX10_at 2 = .ok (.putfield 103, 3) := by decide +kernel
theorem dX10_at_5 : decode cX10_at 5 = .ok (.iload_n 1, 1) := by decide +kernel
theorem dX10_at_6 : decode cX10_at 6 = .ok (.invokestatic 132, 3) := by decide +kernel
theorem dX10_at_9 : decode cX10_at 9 = .ok (.ifCond .eq 11, 3) := by decide +kernel
theorem dX10_at_12 : decode cX10_at 12 = .ok (.aload_n 0, 1) := by decide +kernel
theorem dX10_at_13 : decode cX10_at 13 = .ok (.iload_n 1, 1) := by decide +kernel
theorem dX10_at_14 : decode cX10_at 14 = .ok (.invokevirtual 136, 3) := by decide +kernel
theorem dX10_at_17 : decode cX10_at 17 = .ok (.goto 4, 3) := by decide +kernel
theorem dX10_at_20 : decode cX10_at 20 = .ok (.iconst (-1), 1) := by decide +kernel
theorem dX10_at_21 : decode cX10_at 21 = .ok (.ireturn, 1) := by decide +kernel
theorem dX10_put_0 : decode cX10_put 0 = .ok (.aload_n 0, 1) := by decide +kernel
theorem dX10_put_1 : decode cX10_put 1 = .ok (.iconst 0, 1) := by decide +kernel
theorem dX10_put_2 : decode cX10_put 2 = .ok (.putfield 103, 3) := by decide +kernel
theorem dX10_put_5 : decode cX10_put 5 = .ok (.iload_n 1, 1) := by decide +kernel
theorem dX10_put_6 : decode cX10_put 6 = .ok (.invokestatic 132, 3) := by decide +kernel
theorem dX10_put_9 : decode cX10_put 9 = .ok (.ifCond .eq 38, 3) := by decide +kernel
theorem dX10_put_12 : decode cX10_put 12 = .ok (.iload_n 2, 1) := by decide +kernel
theorem dX10_put_13 : decode cX10_put 13 = .ok (.i2l, 1) := by decide +kernel
theorem dX10_put_14 : decode cX10_put 14 = .ok (.lconst 0, 1) := by decide +kernel
theorem dX10_put_15 : decode cX10_put 15 = .ok (.ldc2_w 171, 3) := by decide +kernel
theorem dX10_put_18 : decode cX10_put 18 = .ok (.invokestatic 113, 3) := by decide +kernel
theorem dX10_put_21 : decode cX10_put 21 = .ok (.ifCond .eq 26, 3) := by decide +kernel
theorem dX10_put_24 : decode cX10_put 24 = .ok (.iload_n 3, 1) := by decide +kernel
theorem dX10_put_25 : decode cX10_put 25 = .ok (.i2l, 1) := by decide +kernel
theorem dX10_put_26 : decode cX10_put 26 = .ok (.lconst 0, 1) := by decide +kernel
theorem dX10_put_27 : decode cX10_put 27 = .ok (.iload_n 2, 1) := by decide +kernel
theorem dX10_put_28 : decode cX10_put 28 = .ok (.iconst 2, 1) := by decide +kernel
theorem dX10_put_29 : decode cX10_put 29 = .ok (.if_icmp .ne 9, 3) := by decide +kernel
theorem dX10_put_32 : decode cX10_put 32 = .ok (.ldc2_w 122, 3) := by decide +kernel
theorem dX10_put_35 : decode cX10_put 35 = .ok (.goto 6, 3) := by decide +kernel
theorem dX10_put_38 : decode cX10_put 38 = .ok (.ldc2_w 142, 3) := by decide +kernel
theorem dX10_put_41 : decode cX10_put 41 = .ok (.invokestatic 113, 3) := by decide +kernel
theorem dX10_put_44 : decode cX10_put 44 = .ok (.ifCond .ne 9, 3) := by decide +kernel
theorem dX10_put_47 : decode cX10_put 47 = .ok (.aload_n 0, 1) := by decide +kernel
theorem dX10_put_48 : decode cX10_put 48 = .ok (.iconst (-1), 1) := by decide +kernel
theorem dX10_put_49 : decode cX10_put 49 = .ok (.invokevirtual 117, 3) := by decide +kernel
theorem dX10_put_52 : decode cX10_put 52 = .ok (.ireturn, 1) := by decide +kernel
theorem dX10_put_53 : decode cX10_put 53 = .ok (.aload_n 0, 1) := by decide +kernel
theorem dX10_put_54 : decode cX10_put 54 = .ok (.iload_n 1, 1) := by decide +kernel
theorem dX10_put_55 : decode cX10_put 55 = .ok (.invokevirtual 136, 3) := by decide +kernel
theorem dX10_put_58 : decode cX10_put 58 = .ok (.iconst (-1), 1) := by decide +kernel
theorem dX10_put_59 : decode cX10_put 59 = .ok (.if_icmp .eq 12, 3) := by decide +kernel
theorem dX10_put_62 : decode cX10_put 62 = .ok (.aload_n 0, 1) := by decide +kernel
theorem dX10_put_63 : decode cX10_put 63 = .ok (.bipush (-3), 2) := by decide +kernel
theorem dX10_put_65 : decode cX10_put 65 = .ok (.invokevirtual 117, 3) := by decide +kernel
theorem dX10_put_68 : decode cX10_put 68 = .ok (.goto 17, 3) := by decide +kernel
theorem dX10_put_71 : decode cX10_put 71 = .ok (.aload_n 0, 1) := by decide +kernel
theorem dX10_put_72 : decode cX10_put 72 = .ok (.bipush 41, 2) := by decide +kernel
theorem dX10_put_74 : decode cX10_put 74 = .ok (.bipush 100, 2) := by decide +kernel
theorem dX10_put_76 : decode cX10_put 76 = .ok (.iload_n 2, 1) := by decide +kernel
theorem dX10_put_77 : decode cX10_put 77 = .ok (.imul, 1) := by decide +kernel
theorem dX10_put_78 : decode cX10_put 78 = .ok (.iadd, 1) := by decide +kernel
theorem dX10_put_79 : decode cX10_put 79 = .ok (.iload_n 1, 1) := by decide +kernel
theorem dX10_put_80 : decode cX10_put 80 = .ok (.iadd, 1) := by decide +kernel
theorem dX10_put_81 : decode cX10_put 81 = .ok (.iload_n 3, 1) := by decide +kernel
theorem dX10_put_82 : decode cX10_put 82 = .ok (.invokevirtual 168, 3) := by decide +kernel
theorem dX10_put_85 : decode cX10_put 85 = .ok (.ireturn, 1) := by decide +kernel
theorem dX10_of_0 : decode cX10_of 0 = .ok (.aload_n 0, 1) := by decide +kernel
theorem dX10_of_1 : decode cX10_of 1 = .ok (.iconst 0, 1) := by decide +kernel
theorem dX10_of_2 : decode cX10_of 2 = .ok (.putfield 103, 3) := by decide +kernel
theorem dX10_of_5 : decode cX10_of 5 = .ok (.aload_n 0, 1) := by decide +kernel
theorem dX10_of_6 : decode cX10_of 6 = .ok (.iload_n 1, 1) := by decide +kernel
theorem dX10_of_7 : decode cX10_of 7 = .ok (.invokevirtual 148, 3) := by decide +kernel
theorem dX10_of_10 : decode cX10_of 10 = .ok (.ifCond .eq 32, 3) := by decide +kernel
theorem dX10_of_13 : decode cX10_of 13 = .ok (.iload_n 2, 1) := by decide +kernel
theorem dX10_of_14 : decode cX10_of 14 = .ok (.i2l, 1) := by decide +kernel
theorem dX10_of_15 : decode cX10_of 15 = .ok (.lconst 0, 1) := by decide +kernel
theorem dX10_of_16 : decode cX10_of 16 = .ok (.ldc2_w 171, 3) := by decide +kernel
theorem dX10_of_19 : decode cX10_of 19 = .ok (.invokestatic 113, 3) := by decide +kernel
theorem dX10_of_22 : decode cX10_of 22 = .ok (.ifCond .eq 20, 3) := by decide +kernel
theorem dX10_of_25 : decode cX10_of 25 = .ok (.aload_n 0, 1) := by decide +kernel
theorem dX10_of_26 : decode cX10_of 26 = .ok (.getfield 13, 3) := by decide +kernel
theorem dX10_of_29 : decode cX10_of 29 = .ok (.bipush 41, 2) := by decide +kernel
theorem dX10_of_31 : decode cX10_of 31 = .ok (.bipush 100, 2) := by decide +kernel
theorem dX10_of_33 : decode cX10_of 33 = .ok (.iload_n 2, 1) := by decide +kernel
theorem dX10_of_34 : decode cX10_of 34 = .ok (.imul, 1) := by decide +kernel
theorem dX10_of_35 : decode cX10_of 35 = .ok (.iadd, 1) := by decide +kernel
theorem dX10_of_36 : decode cX10_of 36 = .ok (.iload_n 1, 1) := by decide +kernel
theorem dX10_of_37 : decode cX10_of 37 = .ok (.iadd, 1) := by decide +kernel
theorem dX10_of_38 : decode cX10_of 38 = .ok (.iaload, 1) := by decide +kernel
theorem dX10_of_39 : decode cX10_of 39 = .ok (.goto 4, 3) := by decide +kernel
theorem dX10_of_42 : decode cX10_of 42 = .ok (.iconst (-1), 1) := by decide +kernel
theorem dX10_of_43 : decode cX10_of 43 = .ok (.ireturn, 1) := by decide +kernel
theorem dX10_isUse_0 : decode cX10_isUse 0 = .ok (.iload_n 0, 1) := by decide +kernel
theorem dX10_isUse_1 : decode cX10_isUse 1 = .ok (.i2l, 1) := by decide +kernel
theorem dX10_isUse_2 : decode cX10_isUse 2 = .ok (.lconst 1, 1) := by decide +kernel
theorem dX10_isUse_3 : decode cX10_isUse 3 = .ok (.ldc2_w 122, 3) := by decide +kernel
theorem dX10_isUse_6 : decode cX10_isUse 6 = .ok (.invokestatic 113, 3) := by decide +kernel
theorem dX10_isUse_9 : decode cX10_isUse 9 = .ok (.ireturn, 1) := by decide +kernel
theorem dX10_line_0 : decode cX10_line 0 = .ok (.aload_n 0, 1) := by decide +kernel
theorem dX10_line_1 : decode cX10_line 1 = .ok (.iconst 0, 1) := by decide +kernel
theorem dX10_line_2 : decode cX10_line 2 = .ok (.putfield 103, 3) := by decide +kernel
theorem dX10_line_5 : decode cX10_line 5 = .ok (.iload_n 1, 1) := by decide +kernel
theorem dX10_line_6 : decode cX10_line 6 = .ok (.invokestatic 173, 3) := by decide +kernel
theorem dX10_line_9 : decode cX10_line 9 = .ok (.ifCond .eq 39, 3) := by decide +kernel
theorem dX10_line_12 : decode cX10_line 12 = .ok (.iload_n 2, 1) := by decide +kernel
theorem dX10_line_13 : decode cX10_line 13 = .ok (.i2l, 1) := by decide +kernel
theorem dX10_line_14 : decode cX10_line 14 = .ok (.lconst 0, 1) := by decide +kernel
theorem dX10_line_15 : decode cX10_line 15 = .ok (.lconst 1, 1) := by decide +kernel
theorem dX10_line_16 : decode cX10_line 16 = .ok (.invokestatic 113, 3) := by decide +kernel
theorem dX10_line_19 : decode cX10_line 19 = .ok (.ifCond .eq 29, 3) := by decide +kernel
theorem dX10_line_22 : decode cX10_line 22 = .ok (.iload_n 3, 1) := by decide +kernel
theorem dX10_line_23 : decode cX10_line 23 = .ok (.i2l, 1) := by decide +kernel
theorem dX10_line_24 : decode cX10_line 24 = .ok (.lconst 0, 1) := by decide +kernel
theorem dX10_line_25 : decode cX10_line 25 = .ok (.iload_n 2, 1) := by decide +kernel
theorem dX10_line_26 : decode cX10_line 26 = .ok (.ifCond .ne 9, 3) := by decide +kernel
theorem dX10_line_29 : decode cX10_line 29 = .ok (.ldc2_w 120, 3) := by decide +kernel
theorem dX10_line_32 : decode cX10_line 32 = .ok (.goto 6, 3) := by decide +kernel
theorem dX10_line_35 : decode cX10_line 35 = .ok (.ldc2_w 176, 3) := by decide +kernel
theorem dX10_line_38 : decode cX10_line 38 = .ok (.invokestatic 113, 3) := by decide +kernel
theorem dX10_line_41 : decode cX10_line 41 = .ok (.ifCond .eq 7, 3) := by decide +kernel
theorem dX10_line_44 : decode cX10_line 44 = .ok (.iconst 1, 1) := by decide +kernel
theorem dX10_line_45 : decode cX10_line 45 = .ok (.goto 4, 3) := by decide +kernel
theorem dX10_line_48 : decode cX10_line 48 = .ok (.iconst 0, 1) := by decide +kernel
theorem dX10_line_49 : decode cX10_line 49 = .ok (.istore 4, 2) := by decide +kernel
theorem dX10_line_51 : decode cX10_line 51 = .ok (.iload 4, 2) := by decide +kernel
theorem dX10_line_53 : decode cX10_line 53 = .ok (.ifCond .eq 20, 3) := by decide +kernel
theorem dX10_line_56 : decode cX10_line 56 = .ok (.aload_n 0, 1) := by decide +kernel
theorem dX10_line_57 : decode cX10_line 57 = .ok (.iconst 5, 1) := by decide +kernel
theorem dX10_line_58 : decode cX10_line 58 = .ok (.iconst 2, 1) := by decide +kernel
theorem dX10_line_59 : decode cX10_line 59 = .ok (.iload_n 1, 1) := by decide +kernel
theorem dX10_line_60 : decode cX10_line 60 = .ok (.iconst 1, 1) := by decide +kernel
theorem dX10_line_61 : decode cX10_line 61 = .ok (.isub, 1) := by decide +kernel
theorem dX10_line_62 : decode cX10_line 62 = .ok (.imul, 1) := by decide +kernel
theorem dX10_line_63 : decode cX10_line 63 = .ok (.iadd, 1) := by decide +kernel
theorem dX10_line_64 : decode cX10_line 64 = .ok (.iload_n 2, 1) := by decide +kernel
theorem dX10_line_65 : decode cX10_line 65 = .ok (.iadd, 1) := by decide +kernel
theorem dX10_line_66 : decode cX10_line 66 = .ok (.iload_n 3, 1) := by decide +kernel
theorem dX10_line_67 : decode cX10_line 67 = .ok (.invokevirtual 168, 3) := by decide +kernel
theorem dX10_line_70 : decode cX10_line 70 = .ok (.goto 8, 3) := by decide +kernel
theorem dX10_line_73 : decode cX10_line 73 = .ok (.aload_n 0, 1) := by decide +kernel
theorem dX10_line_74 : decode cX10_line 74 = .ok (.iconst (-1), 1) := by decide +kernel
theorem dX10_line_75 : decode cX10_line 75 = .ok (.invokevirtual 117, 3) := by decide +kernel
theorem dX10_line_78 : decode cX10_line 78 = .ok (.ireturn, 1) := by decide +kernel
theorem dX10_hours_0 : decode cX10_hours 0 = .ok (.aload_n 0, 1) := by decide +kernel
theorem dX10_hours_1 : decode cX10_hours 1 = .ok (.iconst 0, 1) := by decide +kernel
theorem dX10_hours_2 : decode cX10_hours 2 = .ok (.putfield 103, 3) := by decide +kernel
theorem dX10_hours_5 : decode cX10_hours 5 = .ok (.iload_n 1, 1) := by decide +kernel
theorem dX10_hours_6 : decode cX10_hours 6 = .ok (.invokestatic 178, 3) := by decide +kernel
theorem dX10_hours_9 : decode cX10_hours 9 = .ok (.ifCond .eq 45, 3) := by decide +kernel
theorem dX10_hours_12 : decode cX10_hours 12 = .ok (.iload_n 2, 1) := by decide +kernel
theorem dX10_hours_13 : decode cX10_hours 13 = .ok (.i2l, 1) := by decide +kernel
theorem dX10_hours_14 : decode cX10_hours 14 = .ok (.lconst 0, 1) := by decide +kernel
theorem dX10_hours_15 : decode cX10_hours 15 = .ok (.ldc2_w 142, 3) := by decide +kernel
theorem dX10_hours_18 : decode cX10_hours 18 = .ok (.invokestatic 113, 3) := by decide +kernel
theorem dX10_hours_21 : decode cX10_hours 21 = .ok (.ifCond .eq 33, 3) := by decide +kernel
theorem dX10_hours_24 : decode cX10_hours 24 = .ok (.iload_n 3, 1) := by decide +kernel
theorem dX10_hours_25 : decode cX10_hours 25 = .ok (.i2l, 1) := by decide +kernel
theorem dX10_hours_26 : decode cX10_hours 26 = .ok (.lconst 0, 1) := by decide +kernel
theorem dX10_hours_27 : decode cX10_hours 27 = .ok (.ldc2_w 181, 3) := by decide +kernel
theorem dX10_hours_30 : decode cX10_hours 30 = .ok (.invokestatic 113, 3) := by decide +kernel
theorem dX10_hours_33 : decode cX10_hours 33 = .ok (.ifCond .eq 21, 3) := by decide +kernel
theorem dX10_hours_36 : decode cX10_hours 36 = .ok (.aload_n 0, 1) := by decide +kernel
theorem dX10_hours_37 : decode cX10_hours 37 = .ok (.sipush 341, 3) := by decide +kernel
theorem dX10_hours_40 : decode cX10_hours 40 = .ok (.bipush 10, 2) := by decide +kernel
theorem dX10_hours_42 : decode cX10_hours 42 = .ok (.iload_n 1, 1) := by decide +kernel
theorem dX10_hours_43 : decode cX10_hours 43 = .ok (.imul, 1) := by decide +kernel
theorem dX10_hours_44 : decode cX10_hours 44 = .ok (.iadd, 1) := by decide +kernel
theorem dX10_hours_45 : decode cX10_hours 45 = .ok (.iload_n 2, 1) := by decide +kernel
theorem dX10_hours_46 : decode cX10_hours 46 = .ok (.iadd, 1) := by decide +kernel
theorem dX10_hours_47 : decode cX10_hours 47 = .ok (.iload_n 3, 1) := by decide +kernel
theorem dX10_hours_48 : decode cX10_hours 48 = .ok (.invokevirtual 168, 3) := by decide +kernel
theorem dX10_hours_51 : decode cX10_hours 51 = .ok (.goto 8, 3) := by decide +kernel
theorem dX10_hours_54 : decode cX10_hours 54 = .ok (.aload_n 0, 1) := by decide +kernel
theorem dX10_hours_55 : decode cX10_hours 55 = .ok (.iconst (-1), 1) := by decide +kernel
theorem dX10_hours_56 : decode cX10_hours 56 = .ok (.invokevirtual 117, 3) := by decide +kernel
theorem dX10_hours_59 : decode cX10_hours 59 = .ok (.ireturn, 1) := by decide +kernel
theorem dX10_allHours_0 : decode cX10_allHours 0 = .ok (.iconst 0, 1) := by decide +kernel
theorem dX10_allHours_1 : decode cX10_allHours 1 = .ok (.istore_n 1, 1) := by decide +kernel
theorem dX10_allHours_2 : decode cX10_allHours 2 = .ok (.iconst 0, 1) := by decide +kernel
theorem dX10_allHours_3 : decode cX10_allHours 3 = .ok (.istore_n 2, 1) := by decide +kernel
theorem dX10_allHours_4 : decode cX10_allHours 4 = .ok (.iload_n 2, 1) := by decide +kernel
theorem dX10_allHours_5 : decode cX10_allHours 5 = .ok (.bipush 40, 2) := by decide +kernel
theorem dX10_allHours_7 : decode cX10_allHours 7 = .ok (.if_icmp .ge 22, 3) := by decide +kernel
theorem dX10_allHours_10 : decode cX10_allHours 10 = .ok (.iload_n 1, 1) := by decide +kernel
theorem dX10_allHours_11 : decode cX10_allHours 11 = .ok (.aload_n 0, 1) := by decide +kernel
theorem dX10_allHours_12 : decode cX10_allHours 12 = .ok (.getfield 13, 3) := by decide +kernel
theorem dX10_allHours_15 : decode cX10_allHours 15 = .ok (.sipush 341, 3) := by decide +kernel
theorem dX10_allHours_18 : decode cX10_allHours 18 = .ok (.iload_n 2, 1) := by decide +kernel
theorem dX10_allHours_19 : decode cX10_allHours 19 = .ok (.iadd, 1) := by decide +kernel
theorem dX10_allHours_20 : decode cX10_allHours 20 = .ok (.iaload, 1) := by decide +kernel
theorem dX10_allHours_21 : decode cX10_allHours 21 = .ok (.iadd, 1) := by decide +kernel
theorem dX10_allHours_22 : decode cX10_allHours 22 = .ok (.istore_n 1, 1) := by decide +kernel
theorem dX10_allHours_23 : decode cX10_allHours 23 = .ok (.iinc 2 1, 3) := by decide +kernel
theorem dX10_allHours_26 : decode cX10_allHours 26 = .ok (.goto (-22), 3) := by decide +kernel
theorem dX10_allHours_29 : decode cX10_allHours 29 = .ok (.iload_n 1, 1) := by decide +kernel
theorem dX10_allHours_30 : decode cX10_allHours 30 = .ok (.ireturn, 1) := by decide +kernel
theorem dX10_row_0 : decode cX10_row 0 = .ok (.aload_n 0, 1) := by decide +kernel
theorem dX10_row_1 : decode cX10_row 1 = .ok (.iconst 0, 1) := by decide +kernel
theorem dX10_row_2 : decode cX10_row 2 = .ok (.putfield 103, 3) := by decide +kernel
theorem dX10_row_5 : decode cX10_row 5 = .ok (.aload_n 0, 1) := by decide +kernel
theorem dX10_row_6 : decode cX10_row 6 = .ok (.getfield 183, 3) := by decide +kernel
theorem dX10_row_9 : decode cX10_row 9 = .ok (.istore_n 1, 1) := by decide +kernel
theorem dX10_row_10 : decode cX10_row 10 = .ok (.aload_n 0, 1) := by decide +kernel
theorem dX10_row_11 : decode cX10_row 11 = .ok (.iconst 0, 1) := by decide +kernel
theorem dX10_row_12 : decode cX10_row 12 = .ok (.putfield 183, 3) := by decide +kernel
theorem dX10_row_15 : decode cX10_row 15 = .ok (.iload_n 1, 1) := by decide +kernel
theorem dX10_row_16 : decode cX10_row 16 = .ok (.ifCond .ne 10, 3) := by decide +kernel
theorem dX10_row_19 : decode cX10_row 19 = .ok (.aload_n 0, 1) := by decide +kernel
theorem dX10_row_20 : decode cX10_row 20 = .ok (.bipush (-6), 2) := by decide +kernel
theorem dX10_row_22 : decode cX10_row 22 = .ok (.invokevirtual 117, 3) := by decide +kernel
theorem dX10_row_25 : decode cX10_row 25 = .ok (.ireturn, 1) := by decide +kernel
theorem dX10_row_26 : decode cX10_row 26 = .ok (.iload_n 1, 1) := by decide +kernel
theorem dX10_row_27 : decode cX10_row 27 = .ok (.bipush 80, 2) := by decide +kernel
theorem dX10_row_29 : decode cX10_row 29 = .ok (.if_icmp .le 8, 3) := by decide +kernel
theorem dX10_row_32 : decode cX10_row 32 = .ok (.bipush 80, 2) := by decide +kernel
theorem dX10_row_34 : decode cX10_row 34 = .ok (.goto 8, 3) := by decide +kernel
theorem dX10_row_37 : decode cX10_row 37 = .ok (.iload_n 1, 1) := by decide +kernel
theorem dX10_row_38 : decode cX10_row 38 = .ok (.iload_n 1, 1) := by decide +kernel
theorem dX10_row_39 : decode cX10_row 39 = .ok (.iconst 2, 1) := by decide +kernel
theorem dX10_row_40 : decode cX10_row 40 = .ok (.irem, 1) := by decide +kernel
theorem dX10_row_41 : decode cX10_row 41 = .ok (.isub, 1) := by decide +kernel
theorem dX10_row_42 : decode cX10_row 42 = .ok (.istore_n 2, 1) := by decide +kernel
theorem dX10_row_43 : decode cX10_row 43 = .ok (.aload_n 0, 1) := by decide +kernel
theorem dX10_row_44 : decode cX10_row 44 = .ok (.iload_n 1, 1) := by decide +kernel
theorem dX10_row_45 : decode cX10_row 45 = .ok (.iload_n 2, 1) := by decide +kernel
theorem dX10_row_46 : decode cX10_row 46 = .ok (.isub, 1) := by decide +kernel
theorem dX10_row_47 : decode cX10_row 47 = .ok (.putfield 186, 3) := by decide +kernel
theorem dX10_row_50 : decode cX10_row 50 = .ok (.iconst 0, 1) := by decide +kernel
theorem dX10_row_51 : decode cX10_row 51 = .ok (.istore_n 3, 1) := by decide +kernel
theorem dX10_row_52 : decode cX10_row 52 = .ok (.iload_n 3, 1) := by decide +kernel
theorem dX10_row_53 : decode cX10_row 53 = .ok (.iload_n 2, 1) := by decide +kernel
theorem dX10_row_54 : decode cX10_row 54 = .ok (.if_icmp .ge 58, 3) := by decide +kernel
theorem dX10_row_57 : decode cX10_row 57 = .ok (.sipush 256, 3) := by decide +kernel
theorem dX10_row_60 : decode cX10_row 60 = .ok (.aload_n 0, 1) := by decide +kernel
theorem dX10_row_61 : decode cX10_row 61 = .ok (.getfield 23, 3) := by decide +kernel
theorem dX10_row_64 : decode cX10_row 64 = .ok (.iload_n 3, 1) := by decide +kernel
theorem dX10_row_65 : decode cX10_row 65 = .ok (.iaload, 1) := by decide +kernel
theorem dX10_row_66 : decode cX10_row 66 = .ok (.imul, 1) := by decide +kernel
theorem dX10_row_67 : decode cX10_row 67 = .ok (.aload_n 0, 1) := by decide +kernel
theorem dX10_row_68 : decode cX10_row 68 = .ok (.getfield 23, 3) := by decide +kernel
theorem dX10_row_71 : decode cX10_row 71 = .ok (.iload_n 3, 1) := by decide +kernel
theorem dX10_row_72 : decode cX10_row 72 = .ok (.iconst 1, 1) := by decide +kernel
theorem dX10_row_73 : decode cX10_row 73 = .ok (.iadd, 1) := by decide +kernel
theorem dX10_row_74 : decode cX10_row 74 = .ok (.iaload, 1) := by decide +kernel
theorem dX10_row_75 : decode cX10_row 75 = .ok (.iadd, 1) := by decide +kernel
theorem dX10_row_76 : decode cX10_row 76 = .ok (.istore 4, 2) := by decide +kernel
theorem dX10_row_78 : decode cX10_row 78 = .ok (.aload_n 0, 1) := by decide +kernel
theorem dX10_row_79 : decode cX10_row 79 = .ok (.getfield 13, 3) := by decide +kernel
theorem dX10_row_82 : decode cX10_row 82 = .ok (.sipush 341, 3) := by decide +kernel
theorem dX10_row_85 : decode cX10_row 85 = .ok (.iload_n 3, 1) := by decide +kernel
theorem dX10_row_86 : decode cX10_row 86 = .ok (.iconst 2, 1) := by decide +kernel
theorem dX10_row_87 : decode cX10_row 87 = .ok (.idiv, 1) := by decide +kernel
theorem dX10_row_88 : decode cX10_row 88 = .ok (.iadd, 1) := by decide +kernel
theorem dX10_row_89 : decode cX10_row 89 = .ok (.iload 4, 2) := by decide +kernel
theorem dX10_row_91 : decode cX10_row 91 = .ok (.sipush 999, 3) := by decide +kernel
theorem dX10_row_94 : decode cX10_row 94 = .ok (.if_icmp .le 9, 3) := by decide +kernel
theorem dX10_row_97 : decode cX10_row 97 = .ok (.sipush 999, 3) := by decide +kernel
theorem dX10_row_100 : decode cX10_row 100 = .ok (.goto 5, 3) := by decide +kernel
theorem dX10_row_103 : decode cX10_row 103 = .ok (.iload 4, 2) := by decide +kernel
theorem dX10_row_105 : decode cX10_row 105 = .ok (.iastore, 1) := by decide +kernel
theorem dX10_row_106 : decode cX10_row 106 = .ok (.iinc 3 2, 3) := by decide +kernel
theorem dX10_row_109 : decode cX10_row 109 = .ok (.goto (-57), 3) := by decide +kernel
theorem dX10_row_112 : decode cX10_row 112 = .ok (.aload_n 0, 1) := by decide +kernel
theorem dX10_row_113 : decode cX10_row 113 = .ok (.aload_n 0, 1) := by decide +kernel
theorem dX10_row_114 : decode cX10_row 114 = .ok (.invokevirtual 189, 3) := by decide +kernel
theorem dX10_row_117 : decode cX10_row 117 = .ok (.invokevirtual 117, 3) := by decide +kernel
theorem dX10_row_120 : decode cX10_row 120 = .ok (.ireturn, 1) := by decide +kernel
theorem dX10_torn_0 : decode cX10_torn 0 = .ok (.aload_n 0, 1) := by decide +kernel
theorem dX10_torn_1 : decode cX10_torn 1 = .ok (.iconst 0, 1) := by decide +kernel
theorem dX10_torn_2 : decode cX10_torn 2 = .ok (.putfield 103, 3) := by decide +kernel
theorem dX10_torn_5 : decode cX10_torn 5 = .ok (.aload_n 0, 1) := by decide +kernel
theorem dX10_torn_6 : decode cX10_torn 6 = .ok (.getfield 186, 3) := by decide +kernel
theorem dX10_torn_9 : decode cX10_torn 9 = .ok (.ireturn, 1) := by decide +kernel
theorem dX10_four_0 : decode cX10_four 0 = .ok (.bipush 24, 2) := by decide +kernel
theorem dX10_four_2 : decode cX10_four 2 = .ok (.istore_n 2, 1) := by decide +kernel
theorem dX10_four_3 : decode cX10_four 3 = .ok (.iload_n 2, 1) := by decide +kernel
theorem dX10_four_4 : decode cX10_four 4 = .ok (.ifCond .lt 35, 3) := by decide +kernel
theorem dX10_four_7 : decode cX10_four 7 = .ok (.aload_n 0, 1) := by decide +kernel
theorem dX10_four_8 : decode cX10_four 8 = .ok (.getfield 23, 3) := by decide +kernel
theorem dX10_four_11 : decode cX10_four 11 = .ok (.aload_n 0, 1) := by decide +kernel
theorem dX10_four_12 : decode cX10_four 12 = .ok (.getfield 183, 3) := by decide +kernel
theorem dX10_four_15 : decode cX10_four 15 = .ok (.iload_n 1, 1) := by decide +kernel
theorem dX10_four_16 : decode cX10_four 16 = .ok (.iload_n 2, 1) := by decide +kernel
theorem dX10_four_17 : decode cX10_four 17 = .ok (.ishr, 1) := by decide +kernel
theorem dX10_four_18 : decode cX10_four 18 = .ok (.sipush 255, 3) := by decide +kernel
theorem dX10_four_21 : decode cX10_four 21 = .ok (.iand, 1) := by decide +kernel
theorem dX10_four_22 : decode cX10_four 22 = .ok (.iastore, 1) := by decide +kernel
theorem dX10_four_23 : decode cX10_four 23 = .ok (.aload_n 0, 1) := by decide +kernel
theorem dX10_four_24 : decode cX10_four 24 = .ok (.dup, 1) := by decide +kernel
theorem dX10_four_25 : decode cX10_four 25 = .ok (.getfield 183, 3) := by decide +kernel
theorem dX10_four_28 : decode cX10_four 28 = .ok (.iconst 1, 1) := by decide +kernel
theorem dX10_four_29 : decode cX10_four 29 = .ok (.iadd, 1) := by decide +kernel
theorem dX10_four_30 : decode cX10_four 30 = .ok (.putfield 183, 3) := by decide +kernel
theorem dX10_four_33 : decode cX10_four 33 = .ok (.iinc 2 (-8), 3) := by decide +kernel
theorem dX10_four_36 : decode cX10_four 36 = .ok (.goto (-33), 3) := by decide +kernel
theorem dX10_four_39 : decode cX10_four 39 = .ok (.return_, 1) := by decide +kernel
theorem dX10_feed_0 : decode cX10_feed 0 = .ok (.aload_n 0, 1) := by decide +kernel
theorem dX10_feed_1 : decode cX10_feed 1 = .ok (.iconst 0, 1) := by decide +kernel
theorem dX10_feed_2 : decode cX10_feed 2 = .ok (.putfield 103, 3) := by decide +kernel
theorem dX10_feed_5 : decode cX10_feed 5 = .ok (.aload_n 0, 1) := by decide +kernel
theorem dX10_feed_6 : decode cX10_feed 6 = .ok (.getfield 183, 3) := by decide +kernel
theorem dX10_feed_9 : decode cX10_feed 9 = .ok (.bipush 20, 2) := by decide +kernel
theorem dX10_feed_11 : decode cX10_feed 11 = .ok (.iadd, 1) := by decide +kernel
theorem dX10_feed_12 : decode cX10_feed 12 = .ok (.sipush 400, 3) := by decide +kernel
theorem dX10_feed_15 : decode cX10_feed 15 = .ok (.if_icmp .le 5, 3) := by decide +kernel
theorem dX10_feed_18 : decode cX10_feed 18 = .ok (.iconst (-1), 1) := by decide +kernel
theorem dX10_feed_19 : decode cX10_feed 19 = .ok (.ireturn, 1) := by decide +kernel
theorem dX10_feed_20 : decode cX10_feed 20 = .ok (.aload_n 0, 1) := by decide +kernel
theorem dX10_feed_21 : decode cX10_feed 21 = .ok (.iload_n 1, 1) := by decide +kernel
theorem dX10_feed_22 : decode cX10_feed 22 = .ok (.invokevirtual 193, 3) := by decide +kernel
theorem dX10_feed_25 : decode cX10_feed 25 = .ok (.aload_n 0, 1) := by decide +kernel
theorem dX10_feed_26 : decode cX10_feed 26 = .ok (.iload_n 2, 1) := by decide +kernel
theorem dX10_feed_27 : decode cX10_feed 27 = .ok (.invokevirtual 193, 3) := by decide +kernel
theorem dX10_feed_30 : decode cX10_feed 30 = .ok (.aload_n 0, 1) := by decide +kernel
theorem dX10_feed_31 : decode cX10_feed 31 = .ok (.iload_n 3, 1) := by decide +kernel
theorem dX10_feed_32 : decode cX10_feed 32 = .ok (.invokevirtual 193, 3) := by decide +kernel
theorem dX10_feed_35 : decode cX10_feed 35 = .ok (.aload_n 0, 1) := by decide +kernel
theorem dX10_feed_36 : decode cX10_feed 36 = .ok (.iload 4, 2) := by decide +kernel
theorem dX10_feed_38 : decode cX10_feed 38 = .ok (.invokevirtual 193, 3) := by decide +kernel
theorem dX10_feed_41 : decode cX10_feed 41 = .ok (.aload_n 0, 1) := by decide +kernel
theorem dX10_feed_42 : decode cX10_feed 42 = .ok (.iload 5, 2) := by decide +kernel
theorem dX10_feed_44 : decode cX10_feed 44 = .ok (.invokevirtual 193, 3) := by decide +kernel
theorem dX10_feed_47 : decode cX10_feed 47 = .ok (.aload_n 0, 1) := by decide +kernel
theorem dX10_feed_48 : decode cX10_feed 48 = .ok (.getfield 183, 3) := by decide +kernel
theorem dX10_feed_51 : decode cX10_feed 51 = .ok (.ireturn, 1) := by decide +kernel
theorem dX10_end_0 : decode cX10_end 0 = .ok (.aload_n 0, 1) := by decide +kernel
theorem dX10_end_1 : decode cX10_end 1 = .ok (.iconst 0, 1) := by decide +kernel
theorem dX10_end_2 : decode cX10_end 2 = .ok (.putfield 103, 3) := by decide +kernel
theorem dX10_end_5 : decode cX10_end 5 = .ok (.iload_n 1, 1) := by decide +kernel
theorem dX10_end_6 : decode cX10_end 6 = .ok (.ifCond .lt 11, 3) := by decide +kernel
theorem dX10_end_9 : decode cX10_end 9 = .ok (.iload_n 1, 1) := by decide +kernel
theorem dX10_end_10 : decode cX10_end 10 = .ok (.aload_n 0, 1) := by decide +kernel
theorem dX10_end_11 : decode cX10_end 11 = .ok (.getfield 183, 3) := by decide +kernel
theorem dX10_end_14 : decode cX10_end 14 = .ok (.if_icmp .le 5, 3) := by decide +kernel
theorem dX10_end_17 : decode cX10_end 17 = .ok (.iconst (-1), 1) := by decide +kernel
theorem dX10_end_18 : decode cX10_end 18 = .ok (.ireturn, 1) := by decide +kernel
theorem dX10_end_19 : decode cX10_end 19 = .ok (.aload_n 0, 1) := by decide +kernel
theorem dX10_end_20 : decode cX10_end 20 = .ok (.iload_n 1, 1) := by decide +kernel
theorem dX10_end_21 : decode cX10_end 21 = .ok (.putfield 183, 3) := by decide +kernel
theorem dX10_end_24 : decode cX10_end 24 = .ok (.iload_n 1, 1) := by decide +kernel
theorem dX10_end_25 : decode cX10_end 25 = .ok (.ireturn, 1) := by decide +kernel
theorem dX10_isSmall_0 : decode cX10_isSmall 0 = .ok (.iload_n 0, 1) := by decide +kernel
theorem dX10_isSmall_1 : decode cX10_isSmall 1 = .ok (.bipush 97, 2) := by decide +kernel
theorem dX10_isSmall_3 : decode cX10_isSmall 3 = .ok (.if_icmp .lt 13, 3) := by decide +kernel
theorem dX10_isSmall_6 : decode cX10_isSmall 6 = .ok (.iload_n 0, 1) := by decide +kernel
theorem dX10_isSmall_7 : decode cX10_isSmall 7 = .ok (.bipush 122, 2) := by decide +kernel
theorem dX10_isSmall_9 : decode cX10_isSmall 9 = .ok (.if_icmp .gt 7, 3) := by decide +kernel
theorem dX10_isSmall_12 : decode cX10_isSmall 12 = .ok (.iconst 1, 1) := by decide +kernel
theorem dX10_isSmall_13 : decode cX10_isSmall 13 = .ok (.goto 4, 3) := by decide +kernel
theorem dX10_isSmall_16 : decode cX10_isSmall 16 = .ok (.iconst 0, 1) := by decide +kernel
theorem dX10_isSmall_17 : decode cX10_isSmall 17 = .ok (.ireturn, 1) := by decide +kernel
theorem dX10_isDigit_0 : decode cX10_isDigit 0 = .ok (.iload_n 0, 1) := by decide +kernel
theorem dX10_isDigit_1 : decode cX10_isDigit 1 = .ok (.bipush 48, 2) := by decide +kernel
theorem dX10_isDigit_3 : decode cX10_isDigit 3 = .ok (.if_icmp .lt 13, 3) := by decide +kernel
theorem dX10_isDigit_6 : decode cX10_isDigit 6 = .ok (.iload_n 0, 1) := by decide +kernel
theorem dX10_isDigit_7 : decode cX10_isDigit 7 = .ok (.bipush 57, 2) := by decide +kernel
theorem dX10_isDigit_9 : decode cX10_isDigit 9 = .ok (.if_icmp .gt 7, 3) := by decide +kernel
theorem dX10_isDigit_12 : decode cX10_isDigit 12 = .ok (.iconst 1, 1) := by decide +kernel
theorem dX10_isDigit_13 : decode cX10_isDigit 13 = .ok (.goto 4, 3) := by decide +kernel
theorem dX10_isDigit_16 : decode cX10_isDigit 16 = .ok (.iconst 0, 1) := by decide +kernel
theorem dX10_isDigit_17 : decode cX10_isDigit 17 = .ok (.ireturn, 1) := by decide +kernel
theorem dX10_begin_0 : decode cX10_begin 0 = .ok (.aload_n 0, 1) := by decide +kernel
theorem dX10_begin_1 : decode cX10_begin 1 = .ok (.iconst 0, 1) := by decide +kernel
theorem dX10_begin_2 : decode cX10_begin 2 = .ok (.putfield 197, 3) := by decide +kernel
theorem dX10_begin_5 : decode cX10_begin 5 = .ok (.aload_n 0, 1) := by decide +kernel
theorem dX10_begin_6 : decode cX10_begin 6 = .ok (.iconst 0, 1) := by decide +kernel
theorem dX10_begin_7 : decode cX10_begin 7 = .ok (.putfield 200, 3) := by decide +kernel
theorem dX10_begin_10 : decode cX10_begin 10 = .ok (.aload_n 0, 1) := by decide +kernel
theorem dX10_begin_11 : decode cX10_begin 11 = .ok (.iconst (-1), 1) := by decide +kernel
theorem dX10_begin_12 : decode cX10_begin 12 = .ok (.putfield 26, 3) := by decide +kernel
theorem dX10_begin_15 : decode cX10_begin 15 = .ok (.aload_n 0, 1) := by decide +kernel
theorem dX10_begin_16 : decode cX10_begin 16 = .ok (.invokevirtual 204, 3) := by decide +kernel
theorem dX10_begin_19 : decode cX10_begin 19 = .ok (.return_, 1) := by decide +kernel
theorem dX10_next_0 : decode cX10_next 0 = .ok (.aload_n 0, 1) := by decide +kernel
theorem dX10_next_1 : decode cX10_next 1 = .ok (.aload_n 0, 1) := by decide +kernel
theorem dX10_next_2 : decode cX10_next 2 = .ok (.getfield 197, 3) := by decide +kernel
theorem dX10_next_5 : decode cX10_next 5 = .ok (.putfield 207, 3) := by decide +kernel
theorem dX10_next_8 : decode cX10_next 8 = .ok (.aload_n 0, 1) := by decide +kernel
theorem dX10_next_9 : decode cX10_next 9 = .ok (.getfield 207, 3) := by decide +kernel
theorem dX10_next_12 : decode cX10_next 12 = .ok (.aload_n 0, 1) := by decide +kernel
theorem dX10_next_13 : decode cX10_next 13 = .ok (.getfield 183, 3) := by decide +kernel
theorem dX10_next_16 : decode cX10_next 16 = .ok (.if_icmp .ge 30, 3) := by decide +kernel
theorem dX10_next_19 : decode cX10_next 19 = .ok (.aload_n 0, 1) := by decide +kernel
theorem dX10_next_20 : decode cX10_next 20 = .ok (.getfield 23, 3) := by decide +kernel
theorem dX10_next_23 : decode cX10_next 23 = .ok (.aload_n 0, 1) := by decide +kernel
theorem dX10_next_24 : decode cX10_next 24 = .ok (.getfield 207, 3) := by decide +kernel
theorem dX10_next_27 : decode cX10_next 27 = .ok (.iaload, 1) := by decide +kernel
theorem dX10_next_28 : decode cX10_next 28 = .ok (.bipush 32, 2) := by decide +kernel
theorem dX10_next_30 : decode cX10_next 30 = .ok (.if_icmp .ne 16, 3) := by decide +kernel
theorem dX10_next_33 : decode cX10_next 33 = .ok (.aload_n 0, 1) := by decide +kernel
theorem dX10_next_34 : decode cX10_next 34 = .ok (.dup, 1) := by decide +kernel
theorem dX10_next_35 : decode cX10_next 35 = .ok (.getfield 207, 3) := by decide +kernel
theorem dX10_next_38 : decode cX10_next 38 = .ok (.iconst 1, 1) := by decide +kernel
theorem dX10_next_39 : decode cX10_next 39 = .ok (.iadd, 1) := by decide +kernel
theorem dX10_next_40 : decode cX10_next 40 = .ok (.putfield 207, 3) := by decide +kernel
theorem dX10_next_43 : decode cX10_next 43 = .ok (.goto (-35), 3) := by decide +kernel
theorem dX10_next_46 : decode cX10_next 46 = .ok (.aload_n 0, 1) := by decide +kernel
theorem dX10_next_47 : decode cX10_next 47 = .ok (.aload_n 0, 1) := by decide +kernel
theorem dX10_next_48 : decode cX10_next 48 = .ok (.getfield 207, 3) := by decide +kernel
theorem dX10_next_51 : decode cX10_next 51 = .ok (.putfield 197, 3) := by decide +kernel
theorem dX10_next_54 : decode cX10_next 54 = .ok (.aload_n 0, 1) := by decide +kernel
theorem dX10_next_55 : decode cX10_next 55 = .ok (.lconst 0, 1) := by decide +kernel
theorem dX10_next_56 : decode cX10_next 56 = .ok (.putfield 210, 3) := by decide +kernel
theorem dX10_next_59 : decode cX10_next 59 = .ok (.aload_n 0, 1) := by decide +kernel
theorem dX10_next_60 : decode cX10_next 60 = .ok (.aload_n 0, 1) := by decide +kernel
theorem dX10_next_61 : decode cX10_next 61 = .ok (.getfield 207, 3) := by decide +kernel
theorem dX10_next_64 : decode cX10_next 64 = .ok (.aload_n 0, 1) := by decide +kernel
theorem dX10_next_65 : decode cX10_next 65 = .ok (.getfield 183, 3) := by decide +kernel
theorem dX10_next_68 : decode cX10_next 68 = .ok (.if_icmp .ne 7, 3) := by decide +kernel
theorem dX10_next_71 : decode cX10_next 71 = .ok (.iconst 0, 1) := by decide +kernel
theorem dX10_next_72 : decode cX10_next 72 = .ok (.goto 42, 3) := by decide +kernel
theorem dX10_next_75 : decode cX10_next 75 = .ok (.aload_n 0, 1) := by decide +kernel
theorem dX10_next_76 : decode cX10_next 76 = .ok (.getfield 23, 3) := by decide +kernel
theorem dX10_next_79 : decode cX10_next 79 = .ok (.aload_n 0, 1) := by decide +kernel
theorem dX10_next_80 : decode cX10_next 80 = .ok (.getfield 207, 3) := by decide +kernel
theorem dX10_next_83 : decode cX10_next 83 = .ok (.iaload, 1) := by decide +kernel
theorem dX10_next_84 : decode cX10_next 84 = .ok (.invokestatic 214, 3) := by decide +kernel
theorem dX10_next_87 : decode cX10_next 87 = .ok (.ifCond .eq 7, 3) := by decide +kernel
theorem dX10_next_90 : decode cX10_next 90 = .ok (.iconst 1, 1) := by decide +kernel
theorem dX10_next_91 : decode cX10_next 91 = .ok (.goto 23, 3) := by decide +kernel
theorem dX10_next_94 : decode cX10_next 94 = .ok (.aload_n 0, 1) := by decide +kernel
theorem dX10_next_95 : decode cX10_next 95 = .ok (.getfield 23, 3) := by decide +kernel
theorem dX10_next_98 : decode cX10_next 98 = .ok (.aload_n 0, 1) := by decide +kernel
theorem dX10_next_99 : decode cX10_next 99 = .ok (.getfield 207, 3) := by decide +kernel
theorem dX10_next_102 : decode cX10_next 102 = .ok (.iaload, 1) := by decide +kernel
theorem dX10_next_103 : decode cX10_next 103 = .ok (.invokestatic 217, 3) := by decide +kernel
theorem dX10_next_106 : decode cX10_next 106 = .ok (.ifCond .eq 7, 3) := by decide +kernel
theorem dX10_next_109 : decode cX10_next 109 = .ok (.iconst 2, 1) := by decide +kernel
theorem dX10_next_110 : decode cX10_next 110 = .ok (.goto 4, 3) := by decide +kernel
theorem dX10_next_113 : decode cX10_next 113 = .ok (.iconst 3, 1) := by decide +kernel
theorem dX10_next_114 : decode cX10_next 114 = .ok (.putfield 220, 3) := by decide +kernel
theorem dX10_next_117 : decode cX10_next 117 = .ok (.aload_n 0, 1) := by decide +kernel
theorem dX10_next_118 : decode cX10_next 118 = .ok (.getfield 220, 3) := by decide +kernel
theorem dX10_next_121 : decode cX10_next 121 = .ok (.iconst 3, 1) := by decide +kernel
theorem dX10_next_122 : decode cX10_next 122 = .ok (.if_icmp .ne 27, 3) := by decide +kernel
theorem dX10_next_125 : decode cX10_next 125 = .ok (.aload_n 0, 1) := by decide +kernel
theorem dX10_next_126 : decode cX10_next 126 = .ok (.aload_n 0, 1) := by decide +kernel
theorem dX10_next_127 : decode cX10_next 127 = .ok (.getfield 23, 3) := by decide +kernel
theorem dX10_next_130 : decode cX10_next 130 = .ok (.aload_n 0, 1) := by decide +kernel
theorem dX10_next_131 : decode cX10_next 131 = .ok (.getfield 207, 3) := by decide +kernel
theorem dX10_next_134 : decode cX10_next 134 = .ok (.iaload, 1) := by decide +kernel
theorem dX10_next_135 : decode cX10_next 135 = .ok (.i2l, 1) := by decide +kernel
theorem dX10_next_136 : decode cX10_next 136 = .ok (.putfield 210, 3) := by decide +kernel
theorem dX10_next_139 : decode cX10_next 139 = .ok (.aload_n 0, 1) := by decide +kernel
theorem dX10_next_140 : decode cX10_next 140 = .ok (.dup, 1) := by decide +kernel
theorem dX10_next_141 : decode cX10_next 141 = .ok (.getfield 197, 3) := by decide +kernel
theorem dX10_next_144 : decode cX10_next 144 = .ok (.iconst 1, 1) := by decide +kernel
theorem dX10_next_145 : decode cX10_next 145 = .ok (.iadd, 1) := by decide +kernel
theorem dX10_next_146 : decode cX10_next 146 = .ok (.putfield 197, 3) := by decide +kernel
theorem dX10_next_149 : decode cX10_next 149 = .ok (.aload_n 0, 1) := by decide +kernel
theorem dX10_next_150 : decode cX10_next 150 = .ok (.getfield 220, 3) := by decide +kernel
theorem dX10_next_153 : decode cX10_next 153 = .ok (.iconst 1, 1) := by decide +kernel
theorem dX10_next_154 : decode cX10_next 154 = .ok (.if_icmp .ne 89, 3) := by decide +kernel
theorem dX10_next_157 : decode cX10_next 157 = .ok (.aload_n 0, 1) := by decide +kernel
theorem dX10_next_158 : decode cX10_next 158 = .ok (.getfield 197, 3) := by decide +kernel
theorem dX10_next_161 : decode cX10_next 161 = .ok (.aload_n 0, 1) := by decide +kernel
theorem dX10_next_162 : decode cX10_next 162 = .ok (.getfield 183, 3) := by decide +kernel
theorem dX10_next_165 : decode cX10_next 165 = .ok (.if_icmp .ge 78, 3) := by decide +kernel
theorem dX10_next_168 : decode cX10_next 168 = .ok (.aload_n 0, 1) := by decide +kernel
theorem dX10_next_169 : decode cX10_next 169 = .ok (.getfield 23, 3) := by decide +kernel
theorem dX10_next_172 : decode cX10_next 172 = .ok (.aload_n 0, 1) := by decide +kernel
theorem dX10_next_173 : decode cX10_next 173 = .ok (.getfield 197, 3) := by decide +kernel
theorem dX10_next_176 : decode cX10_next 176 = .ok (.iaload, 1) := by decide +kernel
theorem dX10_next_177 : decode cX10_next 177 = .ok (.invokestatic 214, 3) := by decide +kernel
theorem dX10_next_180 : decode cX10_next 180 = .ok (.ifCond .eq 63, 3) := by decide +kernel
theorem dX10_next_183 : decode cX10_next 183 = .ok (.aload_n 0, 1) := by decide +kernel
theorem dX10_next_184 : decode cX10_next 184 = .ok (.aload_n 0, 1) := by decide +kernel
theorem dX10_next_185 : decode cX10_next 185 = .ok (.getfield 197, 3) := by decide +kernel
theorem dX10_next_188 : decode cX10_next 188 = .ok (.aload_n 0, 1) := by decide +kernel
theorem dX10_next_189 : decode cX10_next 189 = .ok (.getfield 207, 3) := by decide +kernel
theorem dX10_next_192 : decode cX10_next 192 = .ok (.isub, 1) := by decide +kernel
theorem dX10_next_193 : decode cX10_next 193 = .ok (.bipush 10, 2) := by decide +kernel
theorem dX10_next_195 : decode cX10_next 195 = .ok (.if_icmp .ge 29, 3) := by decide +kernel
theorem dX10_next_198 : decode cX10_next 198 = .ok (.aload_n 0, 1) := by decide +kernel
theorem dX10_next_199 : decode cX10_next 199 = .ok (.getfield 210, 3) := by decide +kernel
theorem dX10_next_202 : decode cX10_next 202 = .ok (.ldc2_w 223, 3) := by decide +kernel
theorem dX10_next_205 : decode cX10_next 205 = .ok (.lmul, 1) := by decide +kernel
theorem dX10_next_206 : decode cX10_next 206 = .ok (.aload_n 0, 1) := by decide +kernel
theorem dX10_next_207 : decode cX10_next 207 = .ok (.getfield 23, 3) := by decide +kernel
theorem dX10_next_210 : decode cX10_next 210 = .ok (.aload_n 0, 1) := by decide +kernel
theorem dX10_next_211 : decode cX10_next 211 = .ok (.getfield 197, 3) := by decide +kernel
theorem dX10_next_214 : decode cX10_next 214 = .ok (.iaload, 1) := by decide +kernel
theorem dX10_next_215 : decode cX10_next 215 = .ok (.i2l, 1) := by decide +kernel
theorem dX10_next_216 : decode cX10_next 216 = .ok (.ladd, 1) := by decide +kernel
theorem dX10_next_217 : decode cX10_next 217 = .ok (.ldc2_w 225, 3) := by decide +kernel
theorem dX10_next_220 : decode cX10_next 220 = .ok (.lsub, 1) := by decide +kernel
theorem dX10_next_221 : decode cX10_next 221 = .ok (.goto 6, 3) := by decide +kernel
theorem dX10_next_224 : decode cX10_next 224 = .ok (.ldc2_w 227, 3) := by decide +kernel
theorem dX10_next_227 : decode cX10_next 227 = .ok (.putfield 210, 3) := by decide +kernel
theorem dX10_next_230 : decode cX10_next 230 = .ok (.aload_n 0, 1) := by decide +kernel
theorem dX10_next_231 : decode cX10_next 231 = .ok (.dup, 1) := by decide +kernel
theorem dX10_next_232 : decode cX10_next 232 = .ok (.getfield 197, 3) := by decide +kernel
theorem dX10_next_235 : decode cX10_next 235 = .ok (.iconst 1, 1) := by decide +kernel
theorem dX10_next_236 : decode cX10_next 236 = .ok (.iadd, 1) := by decide +kernel
theorem dX10_next_237 : decode cX10_next 237 = .ok (.putfield 197, 3) := by decide +kernel
theorem dX10_next_240 : decode cX10_next 240 = .ok (.goto (-91), 3) := by decide +kernel
theorem dX10_next_243 : decode cX10_next 243 = .ok (.aload_n 0, 1) := by decide +kernel
theorem dX10_next_244 : decode cX10_next 244 = .ok (.getfield 220, 3) := by decide +kernel
theorem dX10_next_247 : decode cX10_next 247 = .ok (.iconst 2, 1) := by decide +kernel
theorem dX10_next_248 : decode cX10_next 248 = .ok (.if_icmp .ne 87, 3) := by decide +kernel
theorem dX10_next_251 : decode cX10_next 251 = .ok (.aload_n 0, 1) := by decide +kernel
theorem dX10_next_252 : decode cX10_next 252 = .ok (.getfield 197, 3) := by decide +kernel
theorem dX10_next_255 : decode cX10_next 255 = .ok (.aload_n 0, 1) := by decide +kernel
theorem dX10_next_256 : decode cX10_next 256 = .ok (.getfield 183, 3) := by decide +kernel
theorem dX10_next_259 : decode cX10_next 259 = .ok (.if_icmp .ge 76, 3) := by decide +kernel
theorem dX10_next_262 : decode cX10_next 262 = .ok (.aload_n 0, 1) := by decide +kernel
theorem dX10_next_263 : decode cX10_next 263 = .ok (.getfield 23, 3) := by decide +kernel
theorem dX10_next_266 : decode cX10_next 266 = .ok (.aload_n 0, 1) := by decide +kernel
theorem dX10_next_267 : decode cX10_next 267 = .ok (.getfield 197, 3) := by decide +kernel
theorem dX10_next_270 : decode cX10_next 270 = .ok (.iaload, 1) := by decide +kernel
theorem dX10_next_271 : decode cX10_next 271 = .ok (.invokestatic 217, 3) := by decide +kernel
theorem dX10_next_274 : decode cX10_next 274 = .ok (.ifCond .eq 61, 3) := by decide +kernel
theorem dX10_next_277 : decode cX10_next 277 = .ok (.aload_n 0, 1) := by decide +kernel
theorem dX10_next_278 : decode cX10_next 278 = .ok (.aload_n 0, 1) := by decide +kernel
theorem dX10_next_279 : decode cX10_next 279 = .ok (.getfield 210, 3) := by decide +kernel
theorem dX10_next_282 : decode cX10_next 282 = .ok (.ldc2_w 229, 3) := by decide +kernel
theorem dX10_next_285 : decode cX10_next 285 = .ok (.lcmp, 1) := by decide +kernel
theorem dX10_next_286 : decode cX10_next 286 = .ok (.ifCond .le 10, 3) := by decide +kernel
theorem dX10_next_289 : decode cX10_next 289 = .ok (.aload_n 0, 1) := by decide +kernel
theorem dX10_next_290 : decode cX10_next 290 = .ok (.getfield 210, 3) := by decide +kernel
theorem dX10_next_293 : decode cX10_next 293 = .ok (.goto 26, 3) := by decide +kernel
theorem dX10_next_296 : decode cX10_next 296 = .ok (.aload_n 0, 1) := by decide +kernel
theorem dX10_next_297 : decode cX10_next 297 = .ok (.getfield 210, 3) := by decide +kernel
theorem dX10_next_300 : decode cX10_next 300 = .ok (.ldc2_w 231, 3) := by decide +kernel
theorem dX10_next_303 : decode cX10_next 303 = .ok (.lmul, 1) := by decide +kernel
theorem dX10_next_304 : decode cX10_next 304 = .ok (.aload_n 0, 1) := by decide +kernel
theorem dX10_next_305 : decode cX10_next 305 = .ok (.getfield 23, 3) := by decide +kernel
theorem dX10_next_308 : decode cX10_next 308 = .ok (.aload_n 0, 1) := by decide +kernel
theorem dX10_next_309 : decode cX10_next 309 = .ok (.getfield 197, 3) := by decide +kernel
theorem dX10_next_312 : decode cX10_next 312 = .ok (.iaload, 1) := by decide +kernel
theorem dX10_next_313 : decode cX10_next 313 = .ok (.i2l, 1) := by decide +kernel
theorem dX10_next_314 : decode cX10_next 314 = .ok (.ladd, 1) := by decide +kernel
theorem dX10_next_315 : decode cX10_next 315 = .ok (.ldc2_w 233, 3) := by decide +kernel
theorem dX10_next_318 : decode cX10_next 318 = .ok (.lsub, 1) := by decide +kernel
theorem dX10_next_319 : decode cX10_next 319 = .ok (.putfield 210, 3) := by decide +kernel
theorem dX10_next_322 : decode cX10_next 322 = .ok (.aload_n 0, 1) := by decide +kernel
theorem dX10_next_323 : decode cX10_next 323 = .ok (.dup, 1) := by decide +kernel
theorem dX10_next_324 : decode cX10_next 324 = .ok (.getfield 197, 3) := by decide +kernel
theorem dX10_next_327 : decode cX10_next 327 = .ok (.iconst 1, 1) := by decide +kernel
theorem dX10_next_328 : decode cX10_next 328 = .ok (.iadd, 1) := by decide +kernel
theorem dX10_next_329 : decode cX10_next 329 = .ok (.putfield 197, 3) := by decide +kernel
theorem dX10_next_332 : decode cX10_next 332 = .ok (.goto (-89), 3) := by decide +kernel
theorem dX10_next_335 : decode cX10_next 335 = .ok (.return_, 1) := by decide +kernel
theorem dX10_isWord_0 : decode cX10_isWord 0 = .ok (.aload_n 0, 1) := by decide +kernel
theorem dX10_isWord_1 : decode cX10_isWord 1 = .ok (.getfield 220, 3) := by decide +kernel
theorem dX10_isWord_4 : decode cX10_isWord 4 = .ok (.iconst 1, 1) := by decide +kernel
theorem dX10_isWord_5 : decode cX10_isWord 5 = .ok (.if_icmp .ne 16, 3) := by decide +kernel
theorem dX10_isWord_8 : decode cX10_isWord 8 = .ok (.aload_n 0, 1) := by decide +kernel
theorem dX10_isWord_9 : decode cX10_isWord 9 = .ok (.getfield 210, 3) := by decide +kernel
theorem dX10_isWord_12 : decode cX10_isWord 12 = .ok (.lload_n 1, 1) := by decide +kernel
theorem dX10_isWord_13 : decode cX10_isWord 13 = .ok (.lcmp, 1) := by decide +kernel
theorem dX10_isWord_14 : decode cX10_isWord 14 = .ok (.ifCond .ne 7, 3) := by decide +kernel
theorem dX10_isWord_17 : decode cX10_isWord 17 = .ok (.iconst 1, 1) := by decide +kernel
theorem dX10_isWord_18 : decode cX10_isWord 18 = .ok (.goto 4, 3) := by decide +kernel
theorem dX10_isWord_21 : decode cX10_isWord 21 = .ok (.iconst 0, 1) := by decide +kernel
theorem dX10_isWord_22 : decode cX10_isWord 22 = .ok (.ireturn, 1) := by decide +kernel
theorem dX10_isSign_0 : decode cX10_isSign 0 = .ok (.aload_n 0, 1) := by decide +kernel
theorem dX10_isSign_1 : decode cX10_isSign 1 = .ok (.getfield 220, 3) := by decide +kernel
theorem dX10_isSign_4 : decode cX10_isSign 4 = .ok (.iconst 3, 1) := by decide +kernel
theorem dX10_isSign_5 : decode cX10_isSign 5 = .ok (.if_icmp .ne 17, 3) := by decide +kernel
theorem dX10_isSign_8 : decode cX10_isSign 8 = .ok (.aload_n 0, 1) := by decide +kernel
theorem dX10_isSign_9 : decode cX10_isSign 9 = .ok (.getfield 210, 3) := by decide +kernel
theorem dX10_isSign_12 : decode cX10_isSign 12 = .ok (.iload_n 1, 1) := by decide +kernel
theorem dX10_isSign_13 : decode cX10_isSign 13 = .ok (.i2l, 1) := by decide +kernel
theorem dX10_isSign_14 : decode cX10_isSign 14 = .ok (.lcmp, 1) := by decide +kernel
theorem dX10_isSign_15 : decode cX10_isSign 15 = .ok (.ifCond .ne 7, 3) := by decide +kernel
theorem dX10_isSign_18 : decode cX10_isSign 18 = .ok (.iconst 1, 1) := by decide +kernel
theorem dX10_isSign_19 : decode cX10_isSign 19 = .ok (.goto 4, 3) := by decide +kernel
theorem dX10_isSign_22 : decode cX10_isSign 22 = .ok (.iconst 0, 1) := by decide +kernel
theorem dX10_isSign_23 : decode cX10_isSign 23 = .ok (.ireturn, 1) := by decide +kernel
theorem dX10_must_0 : decode cX10_must 0 = .ok (.aload_n 0, 1) := by decide +kernel
theorem dX10_must_1 : decode cX10_must 1 = .ok (.getfield 200, 3) := by decide +kernel
theorem dX10_must_4 : decode cX10_must 4 = .ok (.ifCond .ne 20, 3) := by decide +kernel
theorem dX10_must_7 : decode cX10_must 7 = .ok (.iload_n 1, 1) := by decide +kernel
theorem dX10_must_8 : decode cX10_must 8 = .ok (.ifCond .ne 16, 3) := by decide +kernel
theorem dX10_must_11 : decode cX10_must 11 = .ok (.aload_n 0, 1) := by decide +kernel
theorem dX10_must_12 : decode cX10_must 12 = .ok (.iconst 1, 1) := by decide +kernel
theorem dX10_must_13 : decode cX10_must 13 = .ok (.putfield 200, 3) := by decide +kernel
theorem dX10_must_16 : decode cX10_must 16 = .ok (.aload_n 0, 1) := by decide +kernel
theorem dX10_must_17 : decode cX10_must 17 = .ok (.aload_n 0, 1) := by decide +kernel
theorem dX10_must_18 : decode cX10_must 18 = .ok (.getfield 207, 3) := by decide +kernel
theorem dX10_must_21 : decode cX10_must 21 = .ok (.putfield 26, 3) := by decide +kernel
theorem dX10_must_24 : decode cX10_must 24 = .ok (.aload_n 0, 1) := by decide +kernel
theorem dX10_must_25 : decode cX10_must 25 = .ok (.getfield 200, 3) := by decide +kernel
theorem dX10_must_28 : decode cX10_must 28 = .ok (.ifCond .ne 7, 3) := by decide +kernel
theorem dX10_must_31 : decode cX10_must 31 = .ok (.aload_n 0, 1) := by decide +kernel
theorem dX10_must_32 : decode cX10_must 32 = .ok (.invokevirtual 204, 3) := by decide +kernel
theorem dX10_must_35 : decode cX10_must 35 = .ok (.return_, 1) := by decide +kernel
theorem dX10_fault_0 : decode cX10_fault 0 = .ok (.aload_n 0, 1) := by decide +kernel
theorem dX10_fault_1 : decode cX10_fault 1 = .ok (.iconst 0, 1) := by decide +kernel
theorem dX10_fault_2 : decode cX10_fault 2 = .ok (.putfield 103, 3) := by decide +kernel
theorem dX10_fault_5 : decode cX10_fault 5 = .ok (.aload_n 0, 1) := by decide +kernel
theorem dX10_fault_6 : decode cX10_fault 6 = .ok (.getfield 26, 3) := by decide +kernel
theorem dX10_fault_9 : decode cX10_fault 9 = .ok (.ireturn, 1) := by decide +kernel
theorem dX10_emit_0 : decode cX10_emit 0 = .ok (.aload_n 0, 1) := by decide +kernel
theorem dX10_emit_1 : decode cX10_emit 1 = .ok (.getfield 33, 3) := by decide +kernel
theorem dX10_emit_4 : decode cX10_emit 4 = .ok (.aload_n 0, 1) := by decide +kernel
theorem dX10_emit_5 : decode cX10_emit 5 = .ok (.getfield 239, 3) := by decide +kernel
theorem dX10_emit_8 : decode cX10_emit 8 = .ok (.iload_n 1, 1) := by decide +kernel
theorem dX10_emit_9 : decode cX10_emit 9 = .ok (.iastore, 1) := by decide +kernel
theorem dX10_emit_10 : decode cX10_emit 10 = .ok (.aload_n 0, 1) := by decide +kernel
theorem dX10_emit_11 : decode cX10_emit 11 = .ok (.getfield 36, 3) := by decide +kernel
theorem dX10_emit_14 : decode cX10_emit 14 = .ok (.aload_n 0, 1) := by decide +kernel
theorem dX10_emit_15 : decode cX10_emit 15 = .ok (.getfield 239, 3) := by decide +kernel
theorem dX10_emit_18 : decode cX10_emit 18 = .ok (.iload_n 2, 1) := by decide +kernel
theorem dX10_emit_19 : decode cX10_emit 19 = .ok (.iastore, 1) := by decide +kernel
theorem dX10_emit_20 : decode cX10_emit 20 = .ok (.aload_n 0, 1) := by decide +kernel
theorem dX10_emit_21 : decode cX10_emit 21 = .ok (.dup, 1) := by decide +kernel
theorem dX10_emit_22 : decode cX10_emit 22 = .ok (.getfield 239, 3) := by decide +kernel
theorem dX10_emit_25 : decode cX10_emit 25 = .ok (.iconst 1, 1) := by decide +kernel
theorem dX10_emit_26 : decode cX10_emit 26 = .ok (.iadd, 1) := by decide +kernel
theorem dX10_emit_27 : decode cX10_emit 27 = .ok (.putfield 239, 3) := by decide +kernel
theorem dX10_emit_30 : decode cX10_emit 30 = .ok (.return_, 1) := by decide +kernel
theorem dX10_push_0 : decode cX10_push 0 = .ok (.aload_n 0, 1) := by decide +kernel
theorem dX10_push_1 : decode cX10_push 1 = .ok (.getfield 39, 3) := by decide +kernel
theorem dX10_push_4 : decode cX10_push 4 = .ok (.aload_n 0, 1) := by decide +kernel
theorem dX10_push_5 : decode cX10_push 5 = .ok (.getfield 242, 3) := by decide +kernel
theorem dX10_push_8 : decode cX10_push 8 = .ok (.iload_n 1, 1) := by decide +kernel
theorem dX10_push_9 : decode cX10_push 9 = .ok (.iastore, 1) := by decide +kernel
theorem dX10_push_10 : decode cX10_push 10 = .ok (.aload_n 0, 1) := by decide +kernel
theorem dX10_push_11 : decode cX10_push 11 = .ok (.getfield 42, 3) := by decide +kernel
theorem dX10_push_14 : decode cX10_push 14 = .ok (.aload_n 0, 1) := by decide +kernel
theorem dX10_push_15 : decode cX10_push 15 = .ok (.getfield 242, 3) := by decide +kernel
theorem dX10_push_18 : decode cX10_push 18 = .ok (.iload_n 2, 1) := by decide +kernel
theorem dX10_push_19 : decode cX10_push 19 = .ok (.iastore, 1) := by decide +kernel
theorem dX10_push_20 : decode cX10_push 20 = .ok (.aload_n 0, 1) := by decide +kernel
theorem dX10_push_21 : decode cX10_push 21 = .ok (.dup, 1) := by decide +kernel
theorem dX10_push_22 : decode cX10_push 22 = .ok (.getfield 242, 3) := by decide +kernel
theorem dX10_push_25 : decode cX10_push 25 = .ok (.iconst 1, 1) := by decide +kernel
theorem dX10_push_26 : decode cX10_push 26 = .ok (.iadd, 1) := by decide +kernel
theorem dX10_push_27 : decode cX10_push 27 = .ok (.putfield 242, 3) := by decide +kernel
theorem dX10_push_30 : decode cX10_push 30 = .ok (.return_, 1) := by decide +kernel
theorem dX10_binds_0 : decode cX10_binds 0 = .ok (.iload_n 0, 1) := by decide +kernel
theorem dX10_binds_1 : decode cX10_binds 1 = .ok (.bipush 30, 2) := by decide +kernel
theorem dX10_binds_3 : decode cX10_binds 3 = .ok (.if_icmp .lt 7, 3) := by decide +kernel
theorem dX10_binds_6 : decode cX10_binds 6 = .ok (.iconst 0, 1) := by decide +kernel
theorem dX10_binds_7 : decode cX10_binds 7 = .ok (.goto 55, 3) := by decide +kernel
theorem dX10_binds_10 : decode cX10_binds 10 = .ok (.iload_n 0, 1) := by decide +kernel
theorem dX10_binds_11 : decode cX10_binds 11 = .ok (.bipush 29, 2) := by decide +kernel
theorem dX10_binds_13 : decode cX10_binds 13 = .ok (.if_icmp .ne 7, 3) := by decide +kernel
theorem dX10_binds_16 : decode cX10_binds 16 = .ok (.iconst 1, 1) := by decide +kernel
theorem dX10_binds_17 : decode cX10_binds 17 = .ok (.goto 45, 3) := by decide +kernel
theorem dX10_binds_20 : decode cX10_binds 20 = .ok (.iload_n 0, 1) := by decide +kernel
theorem dX10_binds_21 : decode cX10_binds 21 = .ok (.bipush 28, 2) := by decide +kernel
