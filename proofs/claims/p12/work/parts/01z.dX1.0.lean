theorem dX1_init_0 : decode cX1_init 0 = .ok (.aload_n 0, 1) := by decide +kernel
theorem dX1_init_1 : decode cX1_init 1 = .ok (.invokespecial 3, 3) := by decide +kernel
theorem dX1_init_4 : decode cX1_init 4 = .ok (.aload_n 0, 1) := by decide +kernel
theorem dX1_init_5 : decode cX1_init 5 = .ok (.aload_n 1, 1) := by decide +kernel
theorem dX1_init_6 : decode cX1_init 6 = .ok (.putfield 9, 3) := by decide +kernel
theorem dX1_init_9 : decode cX1_init 9 = .ok (.aload_n 0, 1) := by decide +kernel
theorem dX1_init_10 : decode cX1_init 10 = .ok (.aload_n 2, 1) := by decide +kernel
theorem dX1_init_11 : decode cX1_init 11 = .ok (.putfield 15, 3) := by decide +kernel
theorem dX1_init_14 : decode cX1_init 14 = .ok (.return_, 1) := by decide +kernel
theorem dX1_tells_0 : decode cX1_tells 0 = .ok (.aload_n 0, 1) := by decide +kernel
theorem dX1_tells_1 : decode cX1_tells 1 = .ok (.getfield 15, 3) := by decide +kernel
theorem dX1_tells_4 : decode cX1_tells 4 = .ok (.arraylength, 1) := by decide +kernel
theorem dX1_tells_5 : decode cX1_tells 5 = .ok (.iconst 1, 1) := by decide +kernel
theorem dX1_tells_6 : decode cX1_tells 6 = .ok (.isub, 1) := by decide +kernel
theorem dX1_tells_7 : decode cX1_tells 7 = .ok (.iconst 2, 1) := by decide +kernel
theorem dX1_tells_8 : decode cX1_tells 8 = .ok (.idiv, 1) := by decide +kernel
theorem dX1_tells_9 : decode cX1_tells 9 = .ok (.iconst 1, 1) := by decide +kernel
theorem dX1_tells_10 : decode cX1_tells 10 = .ok (.isub, 1) := by decide +kernel
theorem dX1_tells_11 : decode cX1_tells 11 = .ok (.istore_n 3, 1) := by decide +kernel
theorem dX1_tells_12 : decode cX1_tells 12 = .ok (.iload_n 3, 1) := by decide +kernel
theorem dX1_tells_13 : decode cX1_tells 13 = .ok (.ifCond .lt 92, 3) := by decide +kernel
theorem dX1_tells_16 : decode cX1_tells 16 = .ok (.aload_n 0, 1) := by decide +kernel
theorem dX1_tells_17 : decode cX1_tells 17 = .ok (.getfield 15, 3) := by decide +kernel
theorem dX1_tells_20 : decode cX1_tells 20 = .ok (.iconst 2, 1) := by decide +kernel
theorem dX1_tells_21 : decode cX1_tells 21 = .ok (.iload_n 3, 1) := by decide +kernel
theorem dX1_tells_22 : decode cX1_tells 22 = .ok (.imul, 1) := by decide +kernel
theorem dX1_tells_23 : decode cX1_tells 23 = .ok (.iconst 1, 1) := by decide +kernel
theorem dX1_tells_24 : decode cX1_tells 24 = .ok (.iadd, 1) := by decide +kernel
theorem dX1_tells_25 : decode cX1_tells 25 = .ok (.iaload, 1) := by decide +kernel
theorem dX1_tells_26 : decode cX1_tells 26 = .ok (.istore 4, 2) := by decide +kernel
theorem dX1_tells_28 : decode cX1_tells 28 = .ok (.aload_n 0, 1) := by decide +kernel
theorem dX1_tells_29 : decode cX1_tells 29 = .ok (.getfield 15, 3) := by decide +kernel
theorem dX1_tells_32 : decode cX1_tells 32 = .ok (.iconst 2, 1) := by decide +kernel
theorem dX1_tells_33 : decode cX1_tells 33 = .ok (.iload_n 3, 1) := by decide +kernel
theorem dX1_tells_34 : decode cX1_tells 34 = .ok (.imul, 1) := by decide +kernel
theorem dX1_tells_35 : decode cX1_tells 35 = .ok (.iconst 2, 1) := by decide +kernel
theorem dX1_tells_36 : decode cX1_tells 36 = .ok (.iadd, 1) := by decide +kernel
theorem dX1_tells_37 : decode cX1_tells 37 = .ok (.iaload, 1) := by decide +kernel
theorem dX1_tells_38 : decode cX1_tells 38 = .ok (.istore 5, 2) := by decide +kernel
theorem dX1_tells_40 : decode cX1_tells 40 = .ok (.iload 4, 2) := by decide +kernel
theorem dX1_tells_42 : decode cX1_tells 42 = .ok (.iload 5, 2) := by decide +kernel
theorem dX1_tells_44 : decode cX1_tells 44 = .ok (.if_icmp .eq 17, 3) := by decide +kernel
theorem dX1_tells_47 : decode cX1_tells 47 = .ok (.aload_n 0, 1) := by decide +kernel
theorem dX1_tells_48 : decode cX1_tells 48 = .ok (.iload 4, 2) := by decide +kernel
theorem dX1_tells_50 : decode cX1_tells 50 = .ok (.iload 5, 2) := by decide +kernel
theorem dX1_tells_52 : decode cX1_tells 52 = .ok (.aload_n 1, 1) := by decide +kernel
theorem dX1_tells_53 : decode cX1_tells 53 = .ok (.aload_n 2, 1) := by decide +kernel
theorem dX1_tells_54 : decode cX1_tells 54 = .ok (.invokevirtual 18, 3) := by decide +kernel
theorem dX1_tells_57 : decode cX1_tells 57 = .ok (.iconst 1, 1) := by decide +kernel
theorem dX1_tells_58 : decode cX1_tells 58 = .ok (.if_icmp .ne 41, 3) := by decide +kernel
theorem dX1_tells_61 : decode cX1_tells 61 = .ok (.aload_n 0, 1) := by decide +kernel
theorem dX1_tells_62 : decode cX1_tells 62 = .ok (.aload_n 0, 1) := by decide +kernel
theorem dX1_tells_63 : decode cX1_tells 63 = .ok (.getfield 15, 3) := by decide +kernel
theorem dX1_tells_66 : decode cX1_tells 66 = .ok (.iconst 2, 1) := by decide +kernel
theorem dX1_tells_67 : decode cX1_tells 67 = .ok (.iload_n 3, 1) := by decide +kernel
theorem dX1_tells_68 : decode cX1_tells 68 = .ok (.imul, 1) := by decide +kernel
theorem dX1_tells_69 : decode cX1_tells 69 = .ok (.iaload, 1) := by decide +kernel
theorem dX1_tells_70 : decode cX1_tells 70 = .ok (.iload 4, 2) := by decide +kernel
theorem dX1_tells_72 : decode cX1_tells 72 = .ok (.aload_n 1, 1) := by decide +kernel
theorem dX1_tells_73 : decode cX1_tells 73 = .ok (.aload_n 2, 1) := by decide +kernel
theorem dX1_tells_74 : decode cX1_tells 74 = .ok (.invokevirtual 18, 3) := by decide +kernel
theorem dX1_tells_77 : decode cX1_tells 77 = .ok (.istore 6, 2) := by decide +kernel
theorem dX1_tells_79 : decode cX1_tells 79 = .ok (.iload 6, 2) := by decide +kernel
theorem dX1_tells_81 : decode cX1_tells 81 = .ok (.ldc 22, 2) := by decide +kernel
theorem dX1_tells_83 : decode cX1_tells 83 = .ok (.if_icmp .eq 16, 3) := by decide +kernel
theorem dX1_tells_86 : decode cX1_tells 86 = .ok (.iconst 0, 1) := by decide +kernel
theorem dX1_tells_87 : decode cX1_tells 87 = .ok (.sipush 999, 3) := by decide +kernel
theorem dX1_tells_90 : decode cX1_tells 90 = .ok (.iload 6, 2) := by decide +kernel
theorem dX1_tells_92 : decode cX1_tells 92 = .ok (.invokestatic 23, 3) := by decide +kernel
theorem dX1_tells_95 : decode cX1_tells 95 = .ok (.invokestatic 29, 3) := by decide +kernel
theorem dX1_tells_98 : decode cX1_tells 98 = .ok (.ireturn, 1) := by decide +kernel
theorem dX1_tells_99 : decode cX1_tells 99 = .ok (.iinc 3 (-1), 3) := by decide +kernel
theorem dX1_tells_102 : decode cX1_tells 102 = .ok (.goto (-90), 3) := by decide +kernel
theorem dX1_tells_105 : decode cX1_tells 105 = .ok (.iconst (-1), 1) := by decide +kernel
theorem dX1_tells_106 : decode cX1_tells 106 = .ok (.ireturn, 1) := by decide +kernel
theorem dX1_reckon_0 : decode cX1_reckon 0 = .ok (.iconst (-1), 1) := by decide +kernel
theorem dX1_reckon_1 : decode cX1_reckon 1 = .ok (.istore 5, 2) := by decide +kernel
theorem dX1_reckon_3 : decode cX1_reckon 3 = .ok (.iload_n 1, 1) := by decide +kernel
theorem dX1_reckon_4 : decode cX1_reckon 4 = .ok (.istore 6, 2) := by decide +kernel
theorem dX1_reckon_6 : decode cX1_reckon 6 = .ok (.iload 6, 2) := by decide +kernel
theorem dX1_reckon_8 : decode cX1_reckon 8 = .ok (.ifCond .lt 227, 3) := by decide +kernel
theorem dX1_reckon_11 : decode cX1_reckon 11 = .ok (.iload 6, 2) := by decide +kernel
theorem dX1_reckon_13 : decode cX1_reckon 13 = .ok (.iload_n 2, 1) := by decide +kernel
theorem dX1_reckon_14 : decode cX1_reckon 14 = .ok (.if_icmp .ge 221, 3) := by decide +kernel
theorem dX1_reckon_17 : decode cX1_reckon 17 = .ok (.iload 6, 2) := by decide +kernel
theorem dX1_reckon_19 : decode cX1_reckon 19 = .ok (.aload_n 0, 1) := by decide +kernel
theorem dX1_reckon_20 : decode cX1_reckon 20 = .ok (.getfield 9, 3) := by decide +kernel
theorem dX1_reckon_23 : decode cX1_reckon 23 = .ok (.arraylength, 1) := by decide +kernel
theorem dX1_reckon_24 : decode cX1_reckon 24 = .ok (.if_icmp .ge 211, 3) := by decide +kernel
theorem dX1_reckon_27 : decode cX1_reckon 27 = .ok (.aload_n 0, 1) := by decide +kernel
theorem dX1_reckon_28 : decode cX1_reckon 28 = .ok (.getfield 9, 3) := by decide +kernel
theorem dX1_reckon_31 : decode cX1_reckon 31 = .ok (.iload 6, 2) := by decide +kernel
theorem dX1_reckon_33 : decode cX1_reckon 33 = .ok (.iaload, 1) := by decide +kernel
theorem dX1_reckon_34 : decode cX1_reckon 34 = .ok (.bipush 15, 2) := by decide +kernel
theorem dX1_reckon_36 : decode cX1_reckon 36 = .ok (.iand, 1) := by decide +kernel
theorem dX1_reckon_37 : decode cX1_reckon 37 = .ok (.istore 7, 2) := by decide +kernel
theorem dX1_reckon_39 : decode cX1_reckon 39 = .ok (.aload_n 0, 1) := by decide +kernel
theorem dX1_reckon_40 : decode cX1_reckon 40 = .ok (.getfield 9, 3) := by decide +kernel
theorem dX1_reckon_43 : decode cX1_reckon 43 = .ok (.iload 6, 2) := by decide +kernel
theorem dX1_reckon_45 : decode cX1_reckon 45 = .ok (.iaload, 1) := by decide +kernel
theorem dX1_reckon_46 : decode cX1_reckon 46 = .ok (.iconst 4, 1) := by decide +kernel
theorem dX1_reckon_47 : decode cX1_reckon 47 = .ok (.ishr, 1) := by decide +kernel
theorem dX1_reckon_48 : decode cX1_reckon 48 = .ok (.istore 8, 2) := by decide +kernel
theorem dX1_reckon_50 : decode cX1_reckon 50 = .ok (.iload 7, 2) := by decide +kernel
theorem dX1_reckon_52 : decode cX1_reckon 52 = .ok (.iconst 1, 1) := by decide +kernel
theorem dX1_reckon_53 : decode cX1_reckon 53 = .ok (.if_icmp .gt 52, 3) := by decide +kernel
theorem dX1_reckon_56 : decode cX1_reckon 56 = .ok (.iinc 5 1, 3) := by decide +kernel
theorem dX1_reckon_59 : decode cX1_reckon 59 = .ok (.iload 5, 2) := by decide +kernel
theorem dX1_reckon_61 : decode cX1_reckon 61 = .ok (.aload 4, 2) := by decide +kernel
theorem dX1_reckon_63 : decode cX1_reckon 63 = .ok (.arraylength, 1) := by decide +kernel
theorem dX1_reckon_64 : decode cX1_reckon 64 = .ok (.if_icmp .ge 8, 3) := by decide +kernel
theorem dX1_reckon_67 : decode cX1_reckon 67 = .ok (.iload 8, 2) := by decide +kernel
theorem dX1_reckon_69 : decode cX1_reckon 69 = .ok (.ifCond .ge 6, 3) := by decide +kernel
theorem dX1_reckon_72 : decode cX1_reckon 72 = .ok (.ldc 22, 2) := by decide +kernel
theorem dX1_reckon_74 : decode cX1_reckon 74 = .ok (.ireturn, 1) := by decide +kernel
theorem dX1_reckon_75 : decode cX1_reckon 75 = .ok (.aload 4, 2) := by decide +kernel
theorem dX1_reckon_77 : decode cX1_reckon 77 = .ok (.iload 5, 2) := by decide +kernel
theorem dX1_reckon_79 : decode cX1_reckon 79 = .ok (.iload 7, 2) := by decide +kernel
theorem dX1_reckon_81 : decode cX1_reckon 81 = .ok (.iconst 1, 1) := by decide +kernel
theorem dX1_reckon_82 : decode cX1_reckon 82 = .ok (.if_icmp .ne 17, 3) := by decide +kernel
theorem dX1_reckon_85 : decode cX1_reckon 85 = .ok (.iload 8, 2) := by decide +kernel
theorem dX1_reckon_87 : decode cX1_reckon 87 = .ok (.aload_n 3, 1) := by decide +kernel
theorem dX1_reckon_88 : decode cX1_reckon 88 = .ok (.arraylength, 1) := by decide +kernel
theorem dX1_reckon_89 : decode cX1_reckon 89 = .ok (.if_icmp .ge 10, 3) := by decide +kernel
theorem dX1_reckon_92 : decode cX1_reckon 92 = .ok (.aload_n 3, 1) := by decide +kernel
theorem dX1_reckon_93 : decode cX1_reckon 93 = .ok (.iload 8, 2) := by decide +kernel
theorem dX1_reckon_95 : decode cX1_reckon 95 = .ok (.iaload, 1) := by decide +kernel
theorem dX1_reckon_96 : decode cX1_reckon 96 = .ok (.goto 5, 3) := by decide +kernel
theorem dX1_reckon_99 : decode cX1_reckon 99 = .ok (.iload 8, 2) := by decide +kernel
theorem dX1_reckon_101 : decode cX1_reckon 101 = .ok (.iastore, 1) := by decide +kernel
theorem dX1_reckon_102 : decode cX1_reckon 102 = .ok (.goto 127, 3) := by decide +kernel
theorem dX1_reckon_105 : decode cX1_reckon 105 = .ok (.iload 7, 2) := by decide +kernel
theorem dX1_reckon_107 : decode cX1_reckon 107 = .ok (.bipush 9, 2) := by decide +kernel
theorem dX1_reckon_109 : decode cX1_reckon 109 = .ok (.if_icmp .lt 73, 3) := by decide +kernel
theorem dX1_reckon_112 : decode cX1_reckon 112 = .ok (.iload 5, 2) := by decide +kernel
theorem dX1_reckon_114 : decode cX1_reckon 114 = .ok (.ifCond .ge 6, 3) := by decide +kernel
theorem dX1_reckon_117 : decode cX1_reckon 117 = .ok (.ldc 22, 2) := by decide +kernel
theorem dX1_reckon_119 : decode cX1_reckon 119 = .ok (.ireturn, 1) := by decide +kernel
theorem dX1_reckon_120 : decode cX1_reckon 120 = .ok (.iload 7, 2) := by decide +kernel
theorem dX1_reckon_122 : decode cX1_reckon 122 = .ok (.bipush 9, 2) := by decide +kernel
theorem dX1_reckon_124 : decode cX1_reckon 124 = .ok (.if_icmp .ne 18, 3) := by decide +kernel
theorem dX1_reckon_127 : decode cX1_reckon 127 = .ok (.aload 4, 2) := by decide +kernel
theorem dX1_reckon_129 : decode cX1_reckon 129 = .ok (.iload 5, 2) := by decide +kernel
theorem dX1_reckon_131 : decode cX1_reckon 131 = .ok (.iconst 1, 1) := by decide +kernel
theorem dX1_reckon_132 : decode cX1_reckon 132 = .ok (.aload 4, 2) := by decide +kernel
theorem dX1_reckon_134 : decode cX1_reckon 134 = .ok (.iload 5, 2) := by decide +kernel
theorem dX1_reckon_136 : decode cX1_reckon 136 = .ok (.iaload, 1) := by decide +kernel
theorem dX1_reckon_137 : decode cX1_reckon 137 = .ok (.isub, 1) := by decide +kernel
theorem dX1_reckon_138 : decode cX1_reckon 138 = .ok (.iastore, 1) := by decide +kernel
theorem dX1_reckon_139 : decode cX1_reckon 139 = .ok (.goto 90, 3) := by decide +kernel
theorem dX1_reckon_142 : decode cX1_reckon 142 = .ok (.aload 4, 2) := by decide +kernel
theorem dX1_reckon_144 : decode cX1_reckon 144 = .ok (.iload 5, 2) := by decide +kernel
theorem dX1_reckon_146 : decode cX1_reckon 146 = .ok (.iaload, 1) := by decide +kernel
theorem dX1_reckon_147 : decode cX1_reckon 147 = .ok (.iload 7, 2) := by decide +kernel
theorem dX1_reckon_149 : decode cX1_reckon 149 = .ok (.bipush 11, 2) := by decide +kernel
theorem dX1_reckon_151 : decode cX1_reckon 151 = .ok (.if_icmp .ne 7, 3) := by decide +kernel
theorem dX1_reckon_154 : decode cX1_reckon 154 = .ok (.iconst 1, 1) := by decide +kernel
theorem dX1_reckon_155 : decode cX1_reckon 155 = .ok (.goto 4, 3) := by decide +kernel
theorem dX1_reckon_158 : decode cX1_reckon 158 = .ok (.iconst 0, 1) := by decide +kernel
theorem dX1_reckon_159 : decode cX1_reckon 159 = .ok (.if_icmp .ne 17, 3) := by decide +kernel
theorem dX1_reckon_162 : decode cX1_reckon 162 = .ok (.iload 6, 2) := by decide +kernel
theorem dX1_reckon_164 : decode cX1_reckon 164 = .ok (.iload 8, 2) := by decide +kernel
theorem dX1_reckon_166 : decode cX1_reckon 166 = .ok (.iconst 1, 1) := by decide +kernel
theorem dX1_reckon_167 : decode cX1_reckon 167 = .ok (.isub, 1) := by decide +kernel
theorem dX1_reckon_168 : decode cX1_reckon 168 = .ok (.invokestatic 29, 3) := by decide +kernel
theorem dX1_reckon_171 : decode cX1_reckon 171 = .ok (.istore 6, 2) := by decide +kernel
theorem dX1_reckon_173 : decode cX1_reckon 173 = .ok (.goto 56, 3) := by decide +kernel
theorem dX1_reckon_176 : decode cX1_reckon 176 = .ok (.iinc 5 (-1), 3) := by decide +kernel
theorem dX1_reckon_179 : decode cX1_reckon 179 = .ok (.goto 50, 3) := by decide +kernel
theorem dX1_reckon_182 : decode cX1_reckon 182 = .ok (.iload 5, 2) := by decide +kernel
theorem dX1_reckon_184 : decode cX1_reckon 184 = .ok (.iconst 1, 1) := by decide +kernel
theorem dX1_reckon_185 : decode cX1_reckon 185 = .ok (.if_icmp .ge 6, 3) := by decide +kernel
theorem dX1_reckon_188 : decode cX1_reckon 188 = .ok (.ldc 22, 2) := by decide +kernel
theorem dX1_reckon_190 : decode cX1_reckon 190 = .ok (.ireturn, 1) := by decide +kernel
theorem dX1_reckon_191 : decode cX1_reckon 191 = .ok (.iinc 5 (-1), 3) := by decide +kernel
theorem dX1_reckon_194 : decode cX1_reckon 194 = .ok (.aload 4, 2) := by decide +kernel
theorem dX1_reckon_196 : decode cX1_reckon 196 = .ok (.iload 5, 2) := by decide +kernel
theorem dX1_reckon_198 : decode cX1_reckon 198 = .ok (.iload 7, 2) := by decide +kernel
theorem dX1_reckon_200 : decode cX1_reckon 200 = .ok (.aload 4, 2) := by decide +kernel
theorem dX1_reckon_202 : decode cX1_reckon 202 = .ok (.iload 5, 2) := by decide +kernel
theorem dX1_reckon_204 : decode cX1_reckon 204 = .ok (.iaload, 1) := by decide +kernel
theorem dX1_reckon_205 : decode cX1_reckon 205 = .ok (.aload 4, 2) := by decide +kernel
theorem dX1_reckon_207 : decode cX1_reckon 207 = .ok (.iload 5, 2) := by decide +kernel
theorem dX1_reckon_209 : decode cX1_reckon 209 = .ok (.iconst 1, 1) := by decide +kernel
theorem dX1_reckon_210 : decode cX1_reckon 210 = .ok (.iadd, 1) := by decide +kernel
theorem dX1_reckon_211 : decode cX1_reckon 211 = .ok (.iaload, 1) := by decide +kernel
theorem dX1_reckon_212 : decode cX1_reckon 212 = .ok (.invokestatic 32, 3) := by decide +kernel
theorem dX1_reckon_215 : decode cX1_reckon 215 = .ok (.iastore, 1) := by decide +kernel
theorem dX1_reckon_216 : decode cX1_reckon 216 = .ok (.aload 4, 2) := by decide +kernel
theorem dX1_reckon_218 : decode cX1_reckon 218 = .ok (.iload 5, 2) := by decide +kernel
theorem dX1_reckon_220 : decode cX1_reckon 220 = .ok (.iaload, 1) := by decide +kernel
theorem dX1_reckon_221 : decode cX1_reckon 221 = .ok (.ldc 22, 2) := by decide +kernel
theorem dX1_reckon_223 : decode cX1_reckon 223 = .ok (.if_icmp .ne 6, 3) := by decide +kernel
theorem dX1_reckon_226 : decode cX1_reckon 226 = .ok (.ldc 22, 2) := by decide +kernel
theorem dX1_reckon_228 : decode cX1_reckon 228 = .ok (.ireturn, 1) := by decide +kernel
theorem dX1_reckon_229 : decode cX1_reckon 229 = .ok (.iinc 6 1, 3) := by decide +kernel
theorem dX1_reckon_232 : decode cX1_reckon 232 = .ok (.goto (-226), 3) := by decide +kernel
theorem dX1_reckon_235 : decode cX1_reckon 235 = .ok (.iload 5, 2) := by decide +kernel
theorem dX1_reckon_237 : decode cX1_reckon 237 = .ok (.ifCond .ne 10, 3) := by decide +kernel
theorem dX1_reckon_240 : decode cX1_reckon 240 = .ok (.aload 4, 2) := by decide +kernel
theorem dX1_reckon_242 : decode cX1_reckon 242 = .ok (.iconst 0, 1) := by decide +kernel
theorem dX1_reckon_243 : decode cX1_reckon 243 = .ok (.iaload, 1) := by decide +kernel
theorem dX1_reckon_244 : decode cX1_reckon 244 = .ok (.goto 5, 3) := by decide +kernel
theorem dX1_reckon_247 : decode cX1_reckon 247 = .ok (.ldc 22, 2) := by decide +kernel
theorem dX1_reckon_249 : decode cX1_reckon 249 = .ok (.ireturn, 1) := by decide +kernel
theorem dX1_joined_0 : decode cX1_joined 0 = .ok (.iload_n 0, 1) := by decide +kernel
theorem dX1_joined_1 : decode cX1_joined 1 = .ok (.tableswitch 112 2 7 #[39, 48, 57, 66, 84, 98], 39) := by decide +kernel
theorem dX1_joined_40 : decode cX1_joined 40 = .ok (.iload_n 1, 1) := by decide +kernel
theorem dX1_joined_41 : decode cX1_joined 41 = .ok (.i2l, 1) := by decide +kernel
theorem dX1_joined_42 : decode cX1_joined 42 = .ok (.iload_n 2, 1) := by decide +kernel
theorem dX1_joined_43 : decode cX1_joined 43 = .ok (.i2l, 1) := by decide +kernel
theorem dX1_joined_44 : decode cX1_joined 44 = .ok (.ladd, 1) := by decide +kernel
theorem dX1_joined_45 : decode cX1_joined 45 = .ok (.lstore_n 3, 1) := by decide +kernel
theorem dX1_joined_46 : decode cX1_joined 46 = .ok (.goto 78, 3) := by decide +kernel
theorem dX1_joined_49 : decode cX1_joined 49 = .ok (.iload_n 1, 1) := by decide +kernel
theorem dX1_joined_50 : decode cX1_joined 50 = .ok (.i2l, 1) := by decide +kernel
theorem dX1_joined_51 : decode cX1_joined 51 = .ok (.iload_n 2, 1) := by decide +kernel
theorem dX1_joined_52 : decode cX1_joined 52 = .ok (.i2l, 1) := by decide +kernel
theorem dX1_joined_53 : decode cX1_joined 53 = .ok (.lsub, 1) := by decide +kernel
theorem dX1_joined_54 : decode cX1_joined 54 = .ok (.lstore_n 3, 1) := by decide +kernel
theorem dX1_joined_55 : decode cX1_joined 55 = .ok (.goto 69, 3) := by decide +kernel
theorem dX1_joined_58 : decode cX1_joined 58 = .ok (.iload_n 1, 1) := by decide +kernel
theorem dX1_joined_59 : decode cX1_joined 59 = .ok (.i2l, 1) := by decide +kernel
theorem dX1_joined_60 : decode cX1_joined 60 = .ok (.iload_n 2, 1) := by decide +kernel
theorem dX1_joined_61 : decode cX1_joined 61 = .ok (.i2l, 1) := by decide +kernel
theorem dX1_joined_62 : decode cX1_joined 62 = .ok (.lmul, 1) := by decide +kernel
theorem dX1_joined_63 : decode cX1_joined 63 = .ok (.lstore_n 3, 1) := by decide +kernel
theorem dX1_joined_64 : decode cX1_joined 64 = .ok (.goto 60, 3) := by decide +kernel
theorem dX1_joined_67 : decode cX1_joined 67 = .ok (.iload_n 2, 1) := by decide +kernel
theorem dX1_joined_68 : decode cX1_joined 68 = .ok (.ifCond .ne 9, 3) := by decide +kernel
theorem dX1_joined_71 : decode cX1_joined 71 = .ok (.ldc2_w 36, 3) := by decide +kernel
theorem dX1_joined_74 : decode cX1_joined 74 = .ok (.goto 7, 3) := by decide +kernel
theorem dX1_joined_77 : decode cX1_joined 77 = .ok (.iload_n 1, 1) := by decide +kernel
theorem dX1_joined_78 : decode cX1_joined 78 = .ok (.iload_n 2, 1) := by decide +kernel
theorem dX1_joined_79 : decode cX1_joined 79 = .ok (.idiv, 1) := by decide +kernel
theorem dX1_joined_80 : decode cX1_joined 80 = .ok (.i2l, 1) := by decide +kernel
theorem dX1_joined_81 : decode cX1_joined 81 = .ok (.lstore_n 3, 1) := by decide +kernel
theorem dX1_joined_82 : decode cX1_joined 82 = .ok (.goto 42, 3) := by decide +kernel
theorem dX1_joined_85 : decode cX1_joined 85 = .ok (.iload_n 1, 1) := by decide +kernel
theorem dX1_joined_86 : decode cX1_joined 86 = .ok (.iload_n 2, 1) := by decide +kernel
theorem dX1_joined_87 : decode cX1_joined 87 = .ok (.if_icmp .ge 7, 3) := by decide +kernel
theorem dX1_joined_90 : decode cX1_joined 90 = .ok (.lconst 1, 1) := by decide +kernel
theorem dX1_joined_91 : decode cX1_joined 91 = .ok (.goto 4, 3) := by decide +kernel
theorem dX1_joined_94 : decode cX1_joined 94 = .ok (.lconst 0, 1) := by decide +kernel
theorem dX1_joined_95 : decode cX1_joined 95 = .ok (.lstore_n 3, 1) := by decide +kernel
theorem dX1_joined_96 : decode cX1_joined 96 = .ok (.goto 28, 3) := by decide +kernel
theorem dX1_joined_99 : decode cX1_joined 99 = .ok (.iload_n 1, 1) := by decide +kernel
theorem dX1_joined_100 : decode cX1_joined 100 = .ok (.iload_n 2, 1) := by decide +kernel
theorem dX1_joined_101 : decode cX1_joined 101 = .ok (.if_icmp .le 7, 3) := by decide +kernel
theorem dX1_joined_104 : decode cX1_joined 104 = .ok (.lconst 1, 1) := by decide +kernel
theorem dX1_joined_105 : decode cX1_joined 105 = .ok (.goto 4, 3) := by decide +kernel
theorem dX1_joined_108 : decode cX1_joined 108 = .ok (.lconst 0, 1) := by decide +kernel
theorem dX1_joined_109 : decode cX1_joined 109 = .ok (.lstore_n 3, 1) := by decide +kernel
theorem dX1_joined_110 : decode cX1_joined 110 = .ok (.goto 14, 3) := by decide +kernel
theorem dX1_joined_113 : decode cX1_joined 113 = .ok (.iload_n 1, 1) := by decide +kernel
theorem dX1_joined_114 : decode cX1_joined 114 = .ok (.iload_n 2, 1) := by decide +kernel
theorem dX1_joined_115 : decode cX1_joined 115 = .ok (.if_icmp .ne 7, 3) := by decide +kernel
theorem dX1_joined_118 : decode cX1_joined 118 = .ok (.lconst 1, 1) := by decide +kernel
theorem dX1_joined_119 : decode cX1_joined 119 = .ok (.goto 4, 3) := by decide +kernel
theorem dX1_joined_122 : decode cX1_joined 122 = .ok (.lconst 0, 1) := by decide +kernel
theorem dX1_joined_123 : decode cX1_joined 123 = .ok (.lstore_n 3, 1) := by decide +kernel
theorem dX1_joined_124 : decode cX1_joined 124 = .ok (.lload_n 3, 1) := by decide +kernel
theorem dX1_joined_125 : decode cX1_joined 125 = .ok (.ldc2_w 38, 3) := by decide +kernel
theorem dX1_joined_128 : decode cX1_joined 128 = .ok (.lcmp, 1) := by decide +kernel
theorem dX1_joined_129 : decode cX1_joined 129 = .ok (.ifCond .gt 11, 3) := by decide +kernel
theorem dX1_joined_132 : decode cX1_joined 132 = .ok (.lload_n 3, 1) := by decide +kernel
theorem dX1_joined_133 : decode cX1_joined 133 = .ok (.ldc2_w 40, 3) := by decide +kernel
theorem dX1_joined_136 : decode cX1_joined 136 = .ok (.lcmp, 1) := by decide +kernel
theorem dX1_joined_137 : decode cX1_joined 137 = .ok (.ifCond .ge 8, 3) := by decide +kernel
theorem dX1_joined_140 : decode cX1_joined 140 = .ok (.ldc 22, 2) := by decide +kernel
theorem dX1_joined_142 : decode cX1_joined 142 = .ok (.goto 5, 3) := by decide +kernel
theorem dX1_joined_145 : decode cX1_joined 145 = .ok (.lload_n 3, 1) := by decide +kernel
theorem dX1_joined_146 : decode cX1_joined 146 = .ok (.l2i, 1) := by decide +kernel
theorem dX1_joined_147 : decode cX1_joined 147 = .ok (.ireturn, 1) := by decide +kernel
