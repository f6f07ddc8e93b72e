theorem dX9_salt_9 : decode cX9_salt 9 = .ok (.sipush 9999, 3) := by decide +kernel
theorem dX9_salt_12 : decode cX9_salt 12 = .ok (.invokestatic 102, 3) := by decide +kernel
theorem dX9_salt_15 : decode cX9_salt 15 = .ok (.ifCond .ne 5, 3) := by decide +kernel
theorem dX9_salt_18 : decode cX9_salt 18 = .ok (.iconst (-1), 1) := by decide +kernel
theorem dX9_salt_19 : decode cX9_salt 19 = .ok (.ireturn, 1) := by decide +kernel
theorem dX9_salt_20 : decode cX9_salt 20 = .ok (.iload_n 1, 1) := by decide +kernel
theorem dX9_salt_21 : decode cX9_salt 21 = .ok (.iconst (-1), 1) := by decide +kernel
theorem dX9_salt_22 : decode cX9_salt 22 = .ok (.if_icmp .ne 10, 3) := by decide +kernel
theorem dX9_salt_25 : decode cX9_salt 25 = .ok (.aload_n 0, 1) := by decide +kernel
theorem dX9_salt_26 : decode cX9_salt 26 = .ok (.iload_n 2, 1) := by decide +kernel
theorem dX9_salt_27 : decode cX9_salt 27 = .ok (.iload_n 3, 1) := by decide +kernel
theorem dX9_salt_28 : decode cX9_salt 28 = .ok (.invokevirtual 328, 3) := by decide +kernel
theorem dX9_salt_31 : decode cX9_salt 31 = .ok (.ireturn, 1) := by decide +kernel
theorem dX9_salt_32 : decode cX9_salt 32 = .ok (.aload_n 0, 1) := by decide +kernel
theorem dX9_salt_33 : decode cX9_salt 33 = .ok (.getfield 10, 3) := by decide +kernel
theorem dX9_salt_36 : decode cX9_salt 36 = .ok (.iload_n 1, 1) := by decide +kernel
theorem dX9_salt_37 : decode cX9_salt 37 = .ok (.invokevirtual 124, 3) := by decide +kernel
theorem dX9_salt_40 : decode cX9_salt 40 = .ok (.ifCond .ne 5, 3) := by decide +kernel
theorem dX9_salt_43 : decode cX9_salt 43 = .ok (.iconst (-1), 1) := by decide +kernel
theorem dX9_salt_44 : decode cX9_salt 44 = .ok (.ireturn, 1) := by decide +kernel
theorem dX9_salt_45 : decode cX9_salt 45 = .ok (.aload_n 0, 1) := by decide +kernel
theorem dX9_salt_46 : decode cX9_salt 46 = .ok (.getfield 23, 3) := by decide +kernel
theorem dX9_salt_49 : decode cX9_salt 49 = .ok (.aload_n 0, 1) := by decide +kernel
theorem dX9_salt_50 : decode cX9_salt 50 = .ok (.getfield 10, 3) := by decide +kernel
theorem dX9_salt_53 : decode cX9_salt 53 = .ok (.aload_n 0, 1) := by decide +kernel
theorem dX9_salt_54 : decode cX9_salt 54 = .ok (.getfield 10, 3) := by decide +kernel
theorem dX9_salt_57 : decode cX9_salt 57 = .ok (.getfield 79, 3) := by decide +kernel
theorem dX9_salt_60 : decode cX9_salt 60 = .ok (.iload_n 1, 1) := by decide +kernel
theorem dX9_salt_61 : decode cX9_salt 61 = .ok (.invokestatic 131, 3) := by decide +kernel
theorem dX9_salt_64 : decode cX9_salt 64 = .ok (.iload_n 2, 1) := by decide +kernel
theorem dX9_salt_65 : decode cX9_salt 65 = .ok (.invokevirtual 179, 3) := by decide +kernel
theorem dX9_salt_68 : decode cX9_salt 68 = .ok (.iload_n 3, 1) := by decide +kernel
theorem dX9_salt_69 : decode cX9_salt 69 = .ok (.invokestatic 331, 3) := by decide +kernel
theorem dX9_salt_72 : decode cX9_salt 72 = .ok (.istore 4, 2) := by decide +kernel
theorem dX9_salt_74 : decode cX9_salt 74 = .ok (.iload 4, 2) := by decide +kernel
theorem dX9_salt_76 : decode cX9_salt 76 = .ok (.bipush 10, 2) := by decide +kernel
theorem dX9_salt_78 : decode cX9_salt 78 = .ok (.if_icmp .ge 8, 3) := by decide +kernel
theorem dX9_salt_81 : decode cX9_salt 81 = .ok (.iload 4, 2) := by decide +kernel
theorem dX9_salt_83 : decode cX9_salt 83 = .ok (.goto 4, 3) := by decide +kernel
theorem dX9_salt_86 : decode cX9_salt 86 = .ok (.iconst (-1), 1) := by decide +kernel
theorem dX9_salt_87 : decode cX9_salt 87 = .ok (.ireturn, 1) := by decide +kernel
theorem dX9_saltCells_0 : decode cX9_saltCells 0 = .ok (.iconst 0, 1) := by decide +kernel
theorem dX9_saltCells_1 : decode cX9_saltCells 1 = .ok (.istore_n 3, 1) := by decide +kernel
theorem dX9_saltCells_2 : decode cX9_saltCells 2 = .ok (.iconst 0, 1) := by decide +kernel
theorem dX9_saltCells_3 : decode cX9_saltCells 3 = .ok (.istore 4, 2) := by decide +kernel
theorem dX9_saltCells_5 : decode cX9_saltCells 5 = .ok (.iload 4, 2) := by decide +kernel
theorem dX9_saltCells_7 : decode cX9_saltCells 7 = .ok (.bipush 100, 2) := by decide +kernel
theorem dX9_saltCells_9 : decode cX9_saltCells 9 = .ok (.if_icmp .ge 66, 3) := by decide +kernel
theorem dX9_saltCells_12 : decode cX9_saltCells 12 = .ok (.aload_n 0, 1) := by decide +kernel
theorem dX9_saltCells_13 : decode cX9_saltCells 13 = .ok (.getfield 10, 3) := by decide +kernel
theorem dX9_saltCells_16 : decode cX9_saltCells 16 = .ok (.iload 4, 2) := by decide +kernel
theorem dX9_saltCells_18 : decode cX9_saltCells 18 = .ok (.invokevirtual 124, 3) := by decide +kernel
theorem dX9_saltCells_21 : decode cX9_saltCells 21 = .ok (.ifCond .eq 48, 3) := by decide +kernel
theorem dX9_saltCells_24 : decode cX9_saltCells 24 = .ok (.aload_n 0, 1) := by decide +kernel
theorem dX9_saltCells_25 : decode cX9_saltCells 25 = .ok (.getfield 23, 3) := by decide +kernel
theorem dX9_saltCells_28 : decode cX9_saltCells 28 = .ok (.aload_n 0, 1) := by decide +kernel
theorem dX9_saltCells_29 : decode cX9_saltCells 29 = .ok (.getfield 10, 3) := by decide +kernel
theorem dX9_saltCells_32 : decode cX9_saltCells 32 = .ok (.aload_n 0, 1) := by decide +kernel
theorem dX9_saltCells_33 : decode cX9_saltCells 33 = .ok (.getfield 10, 3) := by decide +kernel
theorem dX9_saltCells_36 : decode cX9_saltCells 36 = .ok (.getfield 79, 3) := by decide +kernel
theorem dX9_saltCells_39 : decode cX9_saltCells 39 = .ok (.iload 4, 2) := by decide +kernel
theorem dX9_saltCells_41 : decode cX9_saltCells 41 = .ok (.invokestatic 131, 3) := by decide +kernel
theorem dX9_saltCells_44 : decode cX9_saltCells 44 = .ok (.iload_n 1, 1) := by decide +kernel
theorem dX9_saltCells_45 : decode cX9_saltCells 45 = .ok (.invokevirtual 179, 3) := by decide +kernel
theorem dX9_saltCells_48 : decode cX9_saltCells 48 = .ok (.istore 5, 2) := by decide +kernel
theorem dX9_saltCells_50 : decode cX9_saltCells 50 = .ok (.iload_n 3, 1) := by decide +kernel
theorem dX9_saltCells_51 : decode cX9_saltCells 51 = .ok (.iload 5, 2) := by decide +kernel
theorem dX9_saltCells_53 : decode cX9_saltCells 53 = .ok (.iload_n 2, 1) := by decide +kernel
theorem dX9_saltCells_54 : decode cX9_saltCells 54 = .ok (.invokestatic 331, 3) := by decide +kernel
theorem dX9_saltCells_57 : decode cX9_saltCells 57 = .ok (.bipush 10, 2) := by decide +kernel
theorem dX9_saltCells_59 : decode cX9_saltCells 59 = .ok (.if_icmp .ge 7, 3) := by decide +kernel
theorem dX9_saltCells_62 : decode cX9_saltCells 62 = .ok (.iconst 1, 1) := by decide +kernel
theorem dX9_saltCells_63 : decode cX9_saltCells 63 = .ok (.goto 4, 3) := by decide +kernel
theorem dX9_saltCells_66 : decode cX9_saltCells 66 = .ok (.iconst 0, 1) := by decide +kernel
theorem dX9_saltCells_67 : decode cX9_saltCells 67 = .ok (.iadd, 1) := by decide +kernel
theorem dX9_saltCells_68 : decode cX9_saltCells 68 = .ok (.istore_n 3, 1) := by decide +kernel
theorem dX9_saltCells_69 : decode cX9_saltCells 69 = .ok (.iinc 4 1, 3) := by decide +kernel
theorem dX9_saltCells_72 : decode cX9_saltCells 72 = .ok (.goto (-67), 3) := by decide +kernel
theorem dX9_saltCells_75 : decode cX9_saltCells 75 = .ok (.iload_n 3, 1) := by decide +kernel
theorem dX9_saltCells_76 : decode cX9_saltCells 76 = .ok (.ireturn, 1) := by decide +kernel
theorem dX9_odds_0 : decode cX9_odds 0 = .ok (.aload_n 0, 1) := by decide +kernel
theorem dX9_odds_1 : decode cX9_odds 1 = .ok (.getfield 10, 3) := by decide +kernel
theorem dX9_odds_4 : decode cX9_odds 4 = .ok (.getfield 89, 3) := by decide +kernel
theorem dX9_odds_7 : decode cX9_odds 7 = .ok (.iload_n 1, 1) := by decide +kernel
theorem dX9_odds_8 : decode cX9_odds 8 = .ok (.invokevirtual 106, 3) := by decide +kernel
theorem dX9_odds_11 : decode cX9_odds 11 = .ok (.ifCond .eq 39, 3) := by decide +kernel
theorem dX9_odds_14 : decode cX9_odds 14 = .ok (.aload_n 0, 1) := by decide +kernel
theorem dX9_odds_15 : decode cX9_odds 15 = .ok (.getfield 10, 3) := by decide +kernel
theorem dX9_odds_18 : decode cX9_odds 18 = .ok (.iload_n 2, 1) := by decide +kernel
theorem dX9_odds_19 : decode cX9_odds 19 = .ok (.invokevirtual 124, 3) := by decide +kernel
theorem dX9_odds_22 : decode cX9_odds 22 = .ok (.ifCond .eq 28, 3) := by decide +kernel
theorem dX9_odds_25 : decode cX9_odds 25 = .ok (.iload_n 3, 1) := by decide +kernel
theorem dX9_odds_26 : decode cX9_odds 26 = .ok (.invokestatic 140, 3) := by decide +kernel
theorem dX9_odds_29 : decode cX9_odds 29 = .ok (.ifCond .eq 21, 3) := by decide +kernel
theorem dX9_odds_32 : decode cX9_odds 32 = .ok (.iload 4, 2) := by decide +kernel
theorem dX9_odds_34 : decode cX9_odds 34 = .ok (.invokestatic 143, 3) := by decide +kernel
theorem dX9_odds_37 : decode cX9_odds 37 = .ok (.ifCond .eq 13, 3) := by decide +kernel
theorem dX9_odds_40 : decode cX9_odds 40 = .ok (.iload 5, 2) := by decide +kernel
theorem dX9_odds_42 : decode cX9_odds 42 = .ok (.iconst 0, 1) := by decide +kernel
theorem dX9_odds_43 : decode cX9_odds 43 = .ok (.iconst 1, 1) := by decide +kernel
theorem dX9_odds_44 : decode cX9_odds 44 = .ok (.invokestatic 102, 3) := by decide +kernel
theorem dX9_odds_47 : decode cX9_odds 47 = .ok (.ifCond .ne 5, 3) := by decide +kernel
theorem dX9_odds_50 : decode cX9_odds 50 = .ok (.iconst (-1), 1) := by decide +kernel
theorem dX9_odds_51 : decode cX9_odds 51 = .ok (.ireturn, 1) := by decide +kernel
theorem dX9_odds_52 : decode cX9_odds 52 = .ok (.aload_n 0, 1) := by decide +kernel
theorem dX9_odds_53 : decode cX9_odds 53 = .ok (.getfield 23, 3) := by decide +kernel
theorem dX9_odds_56 : decode cX9_odds 56 = .ok (.aload_n 0, 1) := by decide +kernel
theorem dX9_odds_57 : decode cX9_odds 57 = .ok (.getfield 10, 3) := by decide +kernel
theorem dX9_odds_60 : decode cX9_odds 60 = .ok (.aload_n 0, 1) := by decide +kernel
theorem dX9_odds_61 : decode cX9_odds 61 = .ok (.getfield 10, 3) := by decide +kernel
theorem dX9_odds_64 : decode cX9_odds 64 = .ok (.getfield 79, 3) := by decide +kernel
theorem dX9_odds_67 : decode cX9_odds 67 = .ok (.iload_n 2, 1) := by decide +kernel
theorem dX9_odds_68 : decode cX9_odds 68 = .ok (.invokestatic 131, 3) := by decide +kernel
theorem dX9_odds_71 : decode cX9_odds 71 = .ok (.iload_n 3, 1) := by decide +kernel
theorem dX9_odds_72 : decode cX9_odds 72 = .ok (.invokevirtual 179, 3) := by decide +kernel
theorem dX9_odds_75 : decode cX9_odds 75 = .ok (.istore 6, 2) := by decide +kernel
theorem dX9_odds_77 : decode cX9_odds 77 = .ok (.aload_n 0, 1) := by decide +kernel
theorem dX9_odds_78 : decode cX9_odds 78 = .ok (.getfield 30, 3) := by decide +kernel
theorem dX9_odds_81 : decode cX9_odds 81 = .ok (.getfield 208, 3) := by decide +kernel
theorem dX9_odds_84 : decode cX9_odds 84 = .ok (.aload_n 0, 1) := by decide +kernel
theorem dX9_odds_85 : decode cX9_odds 85 = .ok (.getfield 10, 3) := by decide +kernel
theorem dX9_odds_88 : decode cX9_odds 88 = .ok (.getfield 79, 3) := by decide +kernel
theorem dX9_odds_91 : decode cX9_odds 91 = .ok (.invokevirtual 209, 3) := by decide +kernel
theorem dX9_odds_94 : decode cX9_odds 94 = .ok (.aload_n 0, 1) := by decide +kernel
theorem dX9_odds_95 : decode cX9_odds 95 = .ok (.getfield 10, 3) := by decide +kernel
theorem dX9_odds_98 : decode cX9_odds 98 = .ok (.getfield 89, 3) := by decide +kernel
theorem dX9_odds_101 : decode cX9_odds 101 = .ok (.iload_n 1, 1) := by decide +kernel
theorem dX9_odds_102 : decode cX9_odds 102 = .ok (.iconst 0, 1) := by decide +kernel
theorem dX9_odds_103 : decode cX9_odds 103 = .ok (.aload_n 0, 1) := by decide +kernel
theorem dX9_odds_104 : decode cX9_odds 104 = .ok (.getfield 30, 3) := by decide +kernel
theorem dX9_odds_107 : decode cX9_odds 107 = .ok (.getfield 208, 3) := by decide +kernel
theorem dX9_odds_110 : decode cX9_odds 110 = .ok (.invokevirtual 114, 3) := by decide +kernel
theorem dX9_odds_113 : decode cX9_odds 113 = .ok (.aload_n 0, 1) := by decide +kernel
theorem dX9_odds_114 : decode cX9_odds 114 = .ok (.getfield 23, 3) := by decide +kernel
theorem dX9_odds_117 : decode cX9_odds 117 = .ok (.aload_n 0, 1) := by decide +kernel
theorem dX9_odds_118 : decode cX9_odds 118 = .ok (.getfield 10, 3) := by decide +kernel
theorem dX9_odds_121 : decode cX9_odds 121 = .ok (.aload_n 0, 1) := by decide +kernel
theorem dX9_odds_122 : decode cX9_odds 122 = .ok (.getfield 30, 3) := by decide +kernel
theorem dX9_odds_125 : decode cX9_odds 125 = .ok (.getfield 208, 3) := by decide +kernel
theorem dX9_odds_128 : decode cX9_odds 128 = .ok (.iload_n 2, 1) := by decide +kernel
theorem dX9_odds_129 : decode cX9_odds 129 = .ok (.invokestatic 131, 3) := by decide +kernel
theorem dX9_odds_132 : decode cX9_odds 132 = .ok (.iload_n 3, 1) := by decide +kernel
theorem dX9_odds_133 : decode cX9_odds 133 = .ok (.invokevirtual 179, 3) := by decide +kernel
theorem dX9_odds_136 : decode cX9_odds 136 = .ok (.istore 7, 2) := by decide +kernel
theorem dX9_odds_138 : decode cX9_odds 138 = .ok (.iconst 0, 1) := by decide +kernel
theorem dX9_odds_139 : decode cX9_odds 139 = .ok (.istore 8, 2) := by decide +kernel
theorem dX9_odds_141 : decode cX9_odds 141 = .ok (.iconst 0, 1) := by decide +kernel
theorem dX9_odds_142 : decode cX9_odds 142 = .ok (.istore 9, 2) := by decide +kernel
theorem dX9_odds_144 : decode cX9_odds 144 = .ok (.iconst 0, 1) := by decide +kernel
theorem dX9_odds_145 : decode cX9_odds 145 = .ok (.istore 10, 2) := by decide +kernel
theorem dX9_odds_147 : decode cX9_odds 147 = .ok (.iload 10, 2) := by decide +kernel
theorem dX9_odds_149 : decode cX9_odds 149 = .ok (.bipush 10, 2) := by decide +kernel
theorem dX9_odds_151 : decode cX9_odds 151 = .ok (.if_icmp .ge 70, 3) := by decide +kernel
theorem dX9_odds_154 : decode cX9_odds 154 = .ok (.iload 10, 2) := by decide +kernel
theorem dX9_odds_156 : decode cX9_odds 156 = .ok (.iload 6, 2) := by decide +kernel
theorem dX9_odds_158 : decode cX9_odds 158 = .ok (.imul, 1) := by decide +kernel
theorem dX9_odds_159 : decode cX9_odds 159 = .ok (.iload 4, 2) := by decide +kernel
theorem dX9_odds_161 : decode cX9_odds 161 = .ok (.iload 6, 2) := by decide +kernel
theorem dX9_odds_163 : decode cX9_odds 163 = .ok (.imul, 1) := by decide +kernel
theorem dX9_odds_164 : decode cX9_odds 164 = .ok (.if_icmp .lt 51, 3) := by decide +kernel
theorem dX9_odds_167 : decode cX9_odds 167 = .ok (.aload_n 0, 1) := by decide +kernel
theorem dX9_odds_168 : decode cX9_odds 168 = .ok (.getfield 10, 3) := by decide +kernel
theorem dX9_odds_171 : decode cX9_odds 171 = .ok (.getfield 334, 3) := by decide +kernel
theorem dX9_odds_174 : decode cX9_odds 174 = .ok (.iload_n 3, 1) := by decide +kernel
theorem dX9_odds_175 : decode cX9_odds 175 = .ok (.bipush 10, 2) := by decide +kernel
theorem dX9_odds_177 : decode cX9_odds 177 = .ok (.imul, 1) := by decide +kernel
theorem dX9_odds_178 : decode cX9_odds 178 = .ok (.iload 10, 2) := by decide +kernel
theorem dX9_odds_180 : decode cX9_odds 180 = .ok (.iadd, 1) := by decide +kernel
theorem dX9_odds_181 : decode cX9_odds 181 = .ok (.iaload, 1) := by decide +kernel
theorem dX9_odds_182 : decode cX9_odds 182 = .ok (.istore 11, 2) := by decide +kernel
theorem dX9_odds_184 : decode cX9_odds 184 = .ok (.iload 8, 2) := by decide +kernel
theorem dX9_odds_186 : decode cX9_odds 186 = .ok (.iload 11, 2) := by decide +kernel
theorem dX9_odds_188 : decode cX9_odds 188 = .ok (.iadd, 1) := by decide +kernel
theorem dX9_odds_189 : decode cX9_odds 189 = .ok (.istore 8, 2) := by decide +kernel
theorem dX9_odds_191 : decode cX9_odds 191 = .ok (.iload 9, 2) := by decide +kernel
theorem dX9_odds_193 : decode cX9_odds 193 = .ok (.iload 10, 2) := by decide +kernel
theorem dX9_odds_195 : decode cX9_odds 195 = .ok (.iload 7, 2) := by decide +kernel
theorem dX9_odds_197 : decode cX9_odds 197 = .ok (.imul, 1) := by decide +kernel
theorem dX9_odds_198 : decode cX9_odds 198 = .ok (.iload 4, 2) := by decide +kernel
theorem dX9_odds_200 : decode cX9_odds 200 = .ok (.iload 6, 2) := by decide +kernel
theorem dX9_odds_202 : decode cX9_odds 202 = .ok (.imul, 1) := by decide +kernel
theorem dX9_odds_203 : decode cX9_odds 203 = .ok (.if_icmp .ge 8, 3) := by decide +kernel
theorem dX9_odds_206 : decode cX9_odds 206 = .ok (.iload 11, 2) := by decide +kernel
theorem dX9_odds_208 : decode cX9_odds 208 = .ok (.goto 4, 3) := by decide +kernel
theorem dX9_odds_211 : decode cX9_odds 211 = .ok (.iconst 0, 1) := by decide +kernel
theorem dX9_odds_212 : decode cX9_odds 212 = .ok (.iadd, 1) := by decide +kernel
theorem dX9_odds_213 : decode cX9_odds 213 = .ok (.istore 9, 2) := by decide +kernel
theorem dX9_odds_215 : decode cX9_odds 215 = .ok (.iinc 10 1, 3) := by decide +kernel
theorem dX9_odds_218 : decode cX9_odds 218 = .ok (.goto (-71), 3) := by decide +kernel
theorem dX9_odds_221 : decode cX9_odds 221 = .ok (.iload 8, 2) := by decide +kernel
theorem dX9_odds_223 : decode cX9_odds 223 = .ok (.iload 9, 2) := by decide +kernel
theorem dX9_odds_225 : decode cX9_odds 225 = .ok (.invokestatic 337, 3) := by decide +kernel
theorem dX9_odds_228 : decode cX9_odds 228 = .ok (.istore 10, 2) := by decide +kernel
theorem dX9_odds_230 : decode cX9_odds 230 = .ok (.iload 10, 2) := by decide +kernel
theorem dX9_odds_232 : decode cX9_odds 232 = .ok (.ifCond .gt 6, 3) := by decide +kernel
theorem dX9_odds_235 : decode cX9_odds 235 = .ok (.iload 5, 2) := by decide +kernel
theorem dX9_odds_237 : decode cX9_odds 237 = .ok (.ireturn, 1) := by decide +kernel
theorem dX9_odds_238 : decode cX9_odds 238 = .ok (.iload 5, 2) := by decide +kernel
theorem dX9_odds_240 : decode cX9_odds 240 = .ok (.ifCond .ne 11, 3) := by decide +kernel
theorem dX9_odds_243 : decode cX9_odds 243 = .ok (.iload 9, 2) := by decide +kernel
theorem dX9_odds_245 : decode cX9_odds 245 = .ok (.iload 10, 2) := by decide +kernel
theorem dX9_odds_247 : decode cX9_odds 247 = .ok (.idiv, 1) := by decide +kernel
theorem dX9_odds_248 : decode cX9_odds 248 = .ok (.goto 8, 3) := by decide +kernel
theorem dX9_odds_251 : decode cX9_odds 251 = .ok (.iload 8, 2) := by decide +kernel
theorem dX9_odds_253 : decode cX9_odds 253 = .ok (.iload 10, 2) := by decide +kernel
theorem dX9_odds_255 : decode cX9_odds 255 = .ok (.idiv, 1) := by decide +kernel
theorem dX9_odds_256 : decode cX9_odds 256 = .ok (.ireturn, 1) := by decide +kernel
theorem dX9_day_0 : decode cX9_day 0 = .ok (.iload_n 1, 1) := by decide +kernel
theorem dX9_day_1 : decode cX9_day 1 = .ok (.iconst 0, 1) := by decide +kernel
theorem dX9_day_2 : decode cX9_day 2 = .ok (.ldc_w 340, 3) := by decide +kernel
theorem dX9_day_5 : decode cX9_day 5 = .ok (.invokestatic 102, 3) := by decide +kernel
theorem dX9_day_8 : decode cX9_day 8 = .ok (.ifCond .ne 9, 3) := by decide +kernel
theorem dX9_day_11 : decode cX9_day 11 = .ok (.aload_n 0, 1) := by decide +kernel
theorem dX9_day_12 : decode cX9_day 12 = .ok (.iconst (-1), 1) := by decide +kernel
theorem dX9_day_13 : decode cX9_day 13 = .ok (.invokevirtual 75, 3) := by decide +kernel
theorem dX9_day_16 : decode cX9_day 16 = .ok (.ireturn, 1) := by decide +kernel
theorem dX9_day_17 : decode cX9_day 17 = .ok (.aload_n 0, 1) := by decide +kernel
theorem dX9_day_18 : decode cX9_day 18 = .ok (.getfield 10, 3) := by decide +kernel
theorem dX9_day_21 : decode cX9_day 21 = .ok (.invokevirtual 160, 3) := by decide +kernel
theorem dX9_day_24 : decode cX9_day 24 = .ok (.istore_n 2, 1) := by decide +kernel
theorem dX9_day_25 : decode cX9_day 25 = .ok (.iload_n 2, 1) := by decide +kernel
theorem dX9_day_26 : decode cX9_day 26 = .ok (.ifCond .gt 10, 3) := by decide +kernel
theorem dX9_day_29 : decode cX9_day 29 = .ok (.aload_n 0, 1) := by decide +kernel
theorem dX9_day_30 : decode cX9_day 30 = .ok (.bipush (-3), 2) := by decide +kernel
theorem dX9_day_32 : decode cX9_day 32 = .ok (.invokevirtual 75, 3) := by decide +kernel
theorem dX9_day_35 : decode cX9_day 35 = .ok (.ireturn, 1) := by decide +kernel
theorem dX9_day_36 : decode cX9_day 36 = .ok (.iload_n 1, 1) := by decide +kernel
theorem dX9_day_37 : decode cX9_day 37 = .ok (.istore_n 3, 1) := by decide +kernel
theorem dX9_day_38 : decode cX9_day 38 = .ok (.iconst 0, 1) := by decide +kernel
theorem dX9_day_39 : decode cX9_day 39 = .ok (.istore 4, 2) := by decide +kernel
theorem dX9_day_41 : decode cX9_day 41 = .ok (.iload 4, 2) := by decide +kernel
theorem dX9_day_43 : decode cX9_day 43 = .ok (.bipush 24, 2) := by decide +kernel
theorem dX9_day_45 : decode cX9_day 45 = .ok (.if_icmp .ge 40, 3) := by decide +kernel
theorem dX9_day_48 : decode cX9_day 48 = .ok (.iload_n 3, 1) := by decide +kernel
theorem dX9_day_49 : decode cX9_day 49 = .ok (.sipush 1103, 3) := by decide +kernel
theorem dX9_day_52 : decode cX9_day 52 = .ok (.imul, 1) := by decide +kernel
theorem dX9_day_53 : decode cX9_day 53 = .ok (.sipush 12345, 3) := by decide +kernel
theorem dX9_day_56 : decode cX9_day 56 = .ok (.iadd, 1) := by decide +kernel
theorem dX9_day_57 : decode cX9_day 57 = .ok (.ldc_w 341, 3) := by decide +kernel
theorem dX9_day_60 : decode cX9_day 60 = .ok (.irem, 1) := by decide +kernel
theorem dX9_day_61 : decode cX9_day 61 = .ok (.istore_n 3, 1) := by decide +kernel
theorem dX9_day_62 : decode cX9_day 62 = .ok (.aload_n 0, 1) := by decide +kernel
theorem dX9_day_63 : decode cX9_day 63 = .ok (.getfield 58, 3) := by decide +kernel
theorem dX9_day_66 : decode cX9_day 66 = .ok (.iload 4, 2) := by decide +kernel
theorem dX9_day_68 : decode cX9_day 68 = .ok (.aload_n 0, 1) := by decide +kernel
theorem dX9_day_69 : decode cX9_day 69 = .ok (.getfield 10, 3) := by decide +kernel
theorem dX9_day_72 : decode cX9_day 72 = .ok (.iload_n 3, 1) := by decide +kernel
theorem dX9_day_73 : decode cX9_day 73 = .ok (.iload_n 2, 1) := by decide +kernel
theorem dX9_day_74 : decode cX9_day 74 = .ok (.irem, 1) := by decide +kernel
theorem dX9_day_75 : decode cX9_day 75 = .ok (.invokevirtual 342, 3) := by decide +kernel
theorem dX9_day_78 : decode cX9_day 78 = .ok (.iastore, 1) := by decide +kernel
theorem dX9_day_79 : decode cX9_day 79 = .ok (.iinc 4 1, 3) := by decide +kernel
theorem dX9_day_82 : decode cX9_day 82 = .ok (.goto (-41), 3) := by decide +kernel
theorem dX9_day_85 : decode cX9_day 85 = .ok (.aload_n 0, 1) := by decide +kernel
theorem dX9_day_86 : decode cX9_day 86 = .ok (.iconst 1, 1) := by decide +kernel
theorem dX9_day_87 : decode cX9_day 87 = .ok (.putfield 61, 3) := by decide +kernel
theorem dX9_day_90 : decode cX9_day 90 = .ok (.aload_n 0, 1) := by decide +kernel
theorem dX9_day_91 : decode cX9_day 91 = .ok (.aload_n 0, 1) := by decide +kernel
theorem dX9_day_92 : decode cX9_day 92 = .ok (.invokevirtual 345, 3) := by decide +kernel
theorem dX9_day_95 : decode cX9_day 95 = .ok (.invokevirtual 99, 3) := by decide +kernel
theorem dX9_day_98 : decode cX9_day 98 = .ok (.ireturn, 1) := by decide +kernel
theorem dX9_tooQuickHours_0 : decode cX9_tooQuickHours 0 = .ok (.iconst 0, 1) := by decide +kernel
theorem dX9_tooQuickHours_1 : decode cX9_tooQuickHours 1 = .ok (.istore_n 1, 1) := by decide +kernel
theorem dX9_tooQuickHours_2 : decode cX9_tooQuickHours 2 = .ok (.iconst 0, 1) := by decide +kernel
theorem dX9_tooQuickHours_3 : decode cX9_tooQuickHours 3 = .ok (.istore_n 2, 1) := by decide +kernel
theorem dX9_tooQuickHours_4 : decode cX9_tooQuickHours 4 = .ok (.iload_n 2, 1) := by decide +kernel
theorem dX9_tooQuickHours_5 : decode cX9_tooQuickHours 5 = .ok (.iconst 4, 1) := by decide +kernel
theorem dX9_tooQuickHours_6 : decode cX9_tooQuickHours 6 = .ok (.if_icmp .ge 97, 3) := by decide +kernel
theorem dX9_tooQuickHours_9 : decode cX9_tooQuickHours 9 = .ok (.aload_n 0, 1) := by decide +kernel
theorem dX9_tooQuickHours_10 : decode cX9_tooQuickHours 10 = .ok (.getfield 10, 3) := by decide +kernel
theorem dX9_tooQuickHours_13 : decode cX9_tooQuickHours 13 = .ok (.getfield 348, 3) := by decide +kernel
theorem dX9_tooQuickHours_16 : decode cX9_tooQuickHours 16 = .ok (.iload_n 2, 1) := by decide +kernel
theorem dX9_tooQuickHours_17 : decode cX9_tooQuickHours 17 = .ok (.iaload, 1) := by decide +kernel
theorem dX9_tooQuickHours_18 : decode cX9_tooQuickHours 18 = .ok (.ifCond .le 25, 3) := by decide +kernel
theorem dX9_tooQuickHours_21 : decode cX9_tooQuickHours 21 = .ok (.aload_n 0, 1) := by decide +kernel
theorem dX9_tooQuickHours_22 : decode cX9_tooQuickHours 22 = .ok (.getfield 23, 3) := by decide +kernel
theorem dX9_tooQuickHours_25 : decode cX9_tooQuickHours 25 = .ok (.aload_n 0, 1) := by decide +kernel
theorem dX9_tooQuickHours_26 : decode cX9_tooQuickHours 26 = .ok (.getfield 10, 3) := by decide +kernel
theorem dX9_tooQuickHours_29 : decode cX9_tooQuickHours 29 = .ok (.aload_n 0, 1) := by decide +kernel
theorem dX9_tooQuickHours_30 : decode cX9_tooQuickHours 30 = .ok (.getfield 10, 3) := by decide +kernel
theorem dX9_tooQuickHours_33 : decode cX9_tooQuickHours 33 = .ok (.getfield 79, 3) := by decide +kernel
theorem dX9_tooQuickHours_36 : decode cX9_tooQuickHours 36 = .ok (.iload_n 2, 1) := by decide +kernel
theorem dX9_tooQuickHours_37 : decode cX9_tooQuickHours 37 = .ok (.invokevirtual 351, 3) := by decide +kernel
theorem dX9_tooQuickHours_40 : decode cX9_tooQuickHours 40 = .ok (.goto 5, 3) := by decide +kernel
theorem dX9_tooQuickHours_43 : decode cX9_tooQuickHours 43 = .ok (.bipush 10, 2) := by decide +kernel
theorem dX9_tooQuickHours_45 : decode cX9_tooQuickHours 45 = .ok (.istore_n 3, 1) := by decide +kernel
theorem dX9_tooQuickHours_46 : decode cX9_tooQuickHours 46 = .ok (.iconst 0, 1) := by decide +kernel
theorem dX9_tooQuickHours_47 : decode cX9_tooQuickHours 47 = .ok (.istore 4, 2) := by decide +kernel
theorem dX9_tooQuickHours_49 : decode cX9_tooQuickHours 49 = .ok (.iload 4, 2) := by decide +kernel
theorem dX9_tooQuickHours_51 : decode cX9_tooQuickHours 51 = .ok (.bipush 24, 2) := by decide +kernel
theorem dX9_tooQuickHours_53 : decode cX9_tooQuickHours 53 = .ok (.if_icmp .ge 44, 3) := by decide +kernel
theorem dX9_tooQuickHours_56 : decode cX9_tooQuickHours 56 = .ok (.aload_n 0, 1) := by decide +kernel
theorem dX9_tooQuickHours_57 : decode cX9_tooQuickHours 57 = .ok (.getfield 58, 3) := by decide +kernel
theorem dX9_tooQuickHours_60 : decode cX9_tooQuickHours 60 = .ok (.iload 4, 2) := by decide +kernel
theorem dX9_tooQuickHours_62 : decode cX9_tooQuickHours 62 = .ok (.iaload, 1) := by decide +kernel
theorem dX9_tooQuickHours_63 : decode cX9_tooQuickHours 63 = .ok (.istore 5, 2) := by decide +kernel
theorem dX9_tooQuickHours_65 : decode cX9_tooQuickHours 65 = .ok (.iload_n 1, 1) := by decide +kernel
theorem dX9_tooQuickHours_66 : decode cX9_tooQuickHours 66 = .ok (.iload 5, 2) := by decide +kernel
theorem dX9_tooQuickHours_68 : decode cX9_tooQuickHours 68 = .ok (.bipush 10, 2) := by decide +kernel
theorem dX9_tooQuickHours_70 : decode cX9_tooQuickHours 70 = .ok (.idiv, 1) := by decide +kernel
theorem dX9_tooQuickHours_71 : decode cX9_tooQuickHours 71 = .ok (.iload_n 2, 1) := by decide +kernel
theorem dX9_tooQuickHours_72 : decode cX9_tooQuickHours 72 = .ok (.if_icmp .ne 16, 3) := by decide +kernel
theorem dX9_tooQuickHours_75 : decode cX9_tooQuickHours 75 = .ok (.iload 5, 2) := by decide +kernel
theorem dX9_tooQuickHours_77 : decode cX9_tooQuickHours 77 = .ok (.bipush 10, 2) := by decide +kernel
theorem dX9_tooQuickHours_79 : decode cX9_tooQuickHours 79 = .ok (.irem, 1) := by decide +kernel
theorem dX9_tooQuickHours_80 : decode cX9_tooQuickHours 80 = .ok (.iload_n 3, 1) := by decide +kernel
theorem dX9_tooQuickHours_81 : decode cX9_tooQuickHours 81 = .ok (.if_icmp .lt 7, 3) := by decide +kernel
theorem dX9_tooQuickHours_84 : decode cX9_tooQuickHours 84 = .ok (.iconst 1, 1) := by decide +kernel
theorem dX9_tooQuickHours_85 : decode cX9_tooQuickHours 85 = .ok (.goto 4, 3) := by decide +kernel
theorem dX9_tooQuickHours_88 : decode cX9_tooQuickHours 88 = .ok (.iconst 0, 1) := by decide +kernel
theorem dX9_tooQuickHours_89 : decode cX9_tooQuickHours 89 = .ok (.iadd, 1) := by decide +kernel
theorem dX9_tooQuickHours_90 : decode cX9_tooQuickHours 90 = .ok (.istore_n 1, 1) := by decide +kernel
theorem dX9_tooQuickHours_91 : decode cX9_tooQuickHours 91 = .ok (.iinc 4 1, 3) := by decide +kernel
theorem dX9_tooQuickHours_94 : decode cX9_tooQuickHours 94 = .ok (.goto (-45), 3) := by decide +kernel
theorem dX9_tooQuickHours_97 : decode cX9_tooQuickHours 97 = .ok (.iinc 2 1, 3) := by decide +kernel
theorem dX9_tooQuickHours_100 : decode cX9_tooQuickHours 100 = .ok (.goto (-96), 3) := by decide +kernel
theorem dX9_tooQuickHours_103 : decode cX9_tooQuickHours 103 = .ok (.iload_n 1, 1) := by decide +kernel
theorem dX9_tooQuickHours_104 : decode cX9_tooQuickHours 104 = .ok (.ireturn, 1) := by decide +kernel
theorem dX9_drawn_0 : decode cX9_drawn 0 = .ok (.aload_n 0, 1) := by decide +kernel
theorem dX9_drawn_1 : decode cX9_drawn 1 = .ok (.getfield 61, 3) := by decide +kernel
theorem dX9_drawn_4 : decode cX9_drawn 4 = .ok (.ifCond .eq 22, 3) := by decide +kernel
theorem dX9_drawn_7 : decode cX9_drawn 7 = .ok (.iload_n 1, 1) := by decide +kernel
theorem dX9_drawn_8 : decode cX9_drawn 8 = .ok (.iconst 0, 1) := by decide +kernel
theorem dX9_drawn_9 : decode cX9_drawn 9 = .ok (.bipush 23, 2) := by decide +kernel
theorem dX9_drawn_11 : decode cX9_drawn 11 = .ok (.invokestatic 102, 3) := by decide +kernel
theorem dX9_drawn_14 : decode cX9_drawn 14 = .ok (.ifCond .eq 12, 3) := by decide +kernel
theorem dX9_drawn_17 : decode cX9_drawn 17 = .ok (.iload_n 2, 1) := by decide +kernel
theorem dX9_drawn_18 : decode cX9_drawn 18 = .ok (.iconst 0, 1) := by decide +kernel
theorem dX9_drawn_19 : decode cX9_drawn 19 = .ok (.iconst 1, 1) := by decide +kernel
theorem dX9_drawn_20 : decode cX9_drawn 20 = .ok (.invokestatic 102, 3) := by decide +kernel
theorem dX9_drawn_23 : decode cX9_drawn 23 = .ok (.ifCond .ne 5, 3) := by decide +kernel
theorem dX9_drawn_26 : decode cX9_drawn 26 = .ok (.iconst (-1), 1) := by decide +kernel
theorem dX9_drawn_27 : decode cX9_drawn 27 = .ok (.ireturn, 1) := by decide +kernel
theorem dX9_drawn_28 : decode cX9_drawn 28 = .ok (.iload_n 2, 1) := by decide +kernel
theorem dX9_drawn_29 : decode cX9_drawn 29 = .ok (.ifCond .ne 15, 3) := by decide +kernel
theorem dX9_drawn_32 : decode cX9_drawn 32 = .ok (.aload_n 0, 1) := by decide +kernel
theorem dX9_drawn_33 : decode cX9_drawn 33 = .ok (.getfield 58, 3) := by decide +kernel
theorem dX9_drawn_36 : decode cX9_drawn 36 = .ok (.iload_n 1, 1) := by decide +kernel
theorem dX9_drawn_37 : decode cX9_drawn 37 = .ok (.iaload, 1) := by decide +kernel
theorem dX9_drawn_38 : decode cX9_drawn 38 = .ok (.bipush 10, 2) := by decide +kernel
theorem dX9_drawn_40 : decode cX9_drawn 40 = .ok (.idiv, 1) := by decide +kernel
theorem dX9_drawn_41 : decode cX9_drawn 41 = .ok (.goto 12, 3) := by decide +kernel
theorem dX9_drawn_44 : decode cX9_drawn 44 = .ok (.aload_n 0, 1) := by decide +kernel
theorem dX9_drawn_45 : decode cX9_drawn 45 = .ok (.getfield 58, 3) := by decide +kernel
theorem dX9_drawn_48 : decode cX9_drawn 48 = .ok (.iload_n 1, 1) := by decide +kernel
theorem dX9_drawn_49 : decode cX9_drawn 49 = .ok (.iaload, 1) := by decide +kernel
theorem dX9_drawn_50 : decode cX9_drawn 50 = .ok (.bipush 10, 2) := by decide +kernel
theorem dX9_drawn_52 : decode cX9_drawn 52 = .ok (.irem, 1) := by decide +kernel
theorem dX9_drawn_53 : decode cX9_drawn 53 = .ok (.ireturn, 1) := by decide +kernel
theorem dX9_image_0 : decode cX9_image 0 = .ok (.iload_n 1, 1) := by decide +kernel
theorem dX9_image_1 : decode cX9_image 1 = .ok (.iconst 0, 1) := by decide +kernel
theorem dX9_image_2 : decode cX9_image 2 = .ok (.iconst 1, 1) := by decide +kernel
theorem dX9_image_3 : decode cX9_image 3 = .ok (.invokestatic 102, 3) := by decide +kernel
theorem dX9_image_6 : decode cX9_image 6 = .ok (.ifCond .ne 9, 3) := by decide +kernel
theorem dX9_image_9 : decode cX9_image 9 = .ok (.aload_n 0, 1) := by decide +kernel
theorem dX9_image_10 : decode cX9_image 10 = .ok (.iconst (-1), 1) := by decide +kernel
theorem dX9_image_11 : decode cX9_image 11 = .ok (.invokevirtual 75, 3) := by decide +kernel
theorem dX9_image_14 : decode cX9_image 14 = .ok (.ireturn, 1) := by decide +kernel
theorem dX9_image_15 : decode cX9_image 15 = .ok (.aload_n 0, 1) := by decide +kernel
theorem dX9_image_16 : decode cX9_image 16 = .ok (.getfield 16, 3) := by decide +kernel
theorem dX9_image_19 : decode cX9_image 19 = .ok (.iload_n 1, 1) := by decide +kernel
theorem dX9_image_20 : decode cX9_image 20 = .ok (.aaload, 1) := by decide +kernel
theorem dX9_image_21 : decode cX9_image 21 = .ok (.astore_n 2, 1) := by decide +kernel
theorem dX9_image_22 : decode cX9_image 22 = .ok (.aload_n 2, 1) := by decide +kernel
theorem dX9_image_23 : decode cX9_image 23 = .ok (.ifnonnull 18, 3) := by decide +kernel
theorem dX9_image_26 : decode cX9_image 26 = .ok (.new 7, 3) := by decide +kernel
theorem dX9_image_29 : decode cX9_image 29 = .ok (.dup, 1) := by decide +kernel
theorem dX9_image_30 : decode cX9_image 30 = .ok (.invokespecial 9, 3) := by decide +kernel
theorem dX9_image_33 : decode cX9_image 33 = .ok (.astore_n 2, 1) := by decide +kernel
theorem dX9_image_34 : decode cX9_image 34 = .ok (.aload_n 0, 1) := by decide +kernel
theorem dX9_image_35 : decode cX9_image 35 = .ok (.getfield 16, 3) := by decide +kernel
theorem dX9_image_38 : decode cX9_image 38 = .ok (.iload_n 1, 1) := by decide +kernel
theorem dX9_image_39 : decode cX9_image 39 = .ok (.aload_n 2, 1) := by decide +kernel
theorem dX9_image_40 : decode cX9_image 40 = .ok (.aastore, 1) := by decide +kernel
theorem dX9_image_41 : decode cX9_image 41 = .ok (.aload_n 2, 1) := by decide +kernel
theorem dX9_image_42 : decode cX9_image 42 = .ok (.aload_n 0, 1) := by decide +kernel
theorem dX9_image_43 : decode cX9_image 43 = .ok (.getfield 10, 3) := by decide +kernel
theorem dX9_image_46 : decode cX9_image 46 = .ok (.invokevirtual 355, 3) := by decide +kernel
theorem dX9_image_49 : decode cX9_image 49 = .ok (.aload_n 0, 1) := by decide +kernel
theorem dX9_image_50 : decode cX9_image 50 = .ok (.iconst 0, 1) := by decide +kernel
theorem dX9_image_51 : decode cX9_image 51 = .ok (.invokevirtual 99, 3) := by decide +kernel
theorem dX9_image_54 : decode cX9_image 54 = .ok (.ireturn, 1) := by decide +kernel
theorem dX9_back_0 : decode cX9_back 0 = .ok (.iload_n 1, 1) := by decide +kernel
theorem dX9_back_1 : decode cX9_back 1 = .ok (.iconst 0, 1) := by decide +kernel
theorem dX9_back_2 : decode cX9_back 2 = .ok (.iconst 1, 1) := by decide +kernel
theorem dX9_back_3 : decode cX9_back 3 = .ok (.invokestatic 102, 3) := by decide +kernel
theorem dX9_back_6 : decode cX9_back 6 = .ok (.ifCond .ne 9, 3) := by decide +kernel
theorem dX9_back_9 : decode cX9_back 9 = .ok (.aload_n 0, 1) := by decide +kernel
theorem dX9_back_10 : decode cX9_back 10 = .ok (.iconst (-1), 1) := by decide +kernel
theorem dX9_back_11 : decode cX9_back 11 = .ok (.invokevirtual 75, 3) := by decide +kernel
theorem dX9_back_14 : decode cX9_back 14 = .ok (.ireturn, 1) := by decide +kernel
theorem dX9_back_15 : decode cX9_back 15 = .ok (.aload_n 0, 1) := by decide +kernel
theorem dX9_back_16 : decode cX9_back 16 = .ok (.getfield 16, 3) := by decide +kernel
theorem dX9_back_19 : decode cX9_back 19 = .ok (.iload_n 1, 1) := by decide +kernel
theorem dX9_back_20 : decode cX9_back 20 = .ok (.aaload, 1) := by decide +kernel
theorem dX9_back_21 : decode cX9_back 21 = .ok (.astore_n 2, 1) := by decide +kernel
theorem dX9_back_22 : decode cX9_back 22 = .ok (.aload_n 2, 1) := by decide +kernel
theorem dX9_back_23 : decode cX9_back 23 = .ok (.ifnonnull 10, 3) := by decide +kernel
theorem dX9_back_26 : decode cX9_back 26 = .ok (.aload_n 0, 1) := by decide +kernel
theorem dX9_back_27 : decode cX9_back 27 = .ok (.bipush (-2), 2) := by decide +kernel
theorem dX9_back_29 : decode cX9_back 29 = .ok (.invokevirtual 75, 3) := by decide +kernel
theorem dX9_back_32 : decode cX9_back 32 = .ok (.ireturn, 1) := by decide +kernel
theorem dX9_back_33 : decode cX9_back 33 = .ok (.aload_n 0, 1) := by decide +kernel
theorem dX9_back_34 : decode cX9_back 34 = .ok (.getfield 10, 3) := by decide +kernel
theorem dX9_back_37 : decode cX9_back 37 = .ok (.aload_n 2, 1) := by decide +kernel
theorem dX9_back_38 : decode cX9_back 38 = .ok (.invokevirtual 355, 3) := by decide +kernel
theorem dX9_back_41 : decode cX9_back 41 = .ok (.aload_n 0, 1) := by decide +kernel
theorem dX9_back_42 : decode cX9_back 42 = .ok (.iconst 0, 1) := by decide +kernel
theorem dX9_back_43 : decode cX9_back 43 = .ok (.invokevirtual 99, 3) := by decide +kernel
theorem dX9_back_46 : decode cX9_back 46 = .ok (.ireturn, 1) := by decide +kernel
theorem dX9_count_0 : decode cX9_count 0 = .ok (.iload_n 1, 1) := by decide +kernel
theorem dX9_count_1 : decode cX9_count 1 = .ok (.tableswitch 170 0 12 #[67, 78, 86, 94, 105, 113, 121, 126, 133, 140, 147, 154, 162], 67) := by decide +kernel
theorem dX9_count_68 : decode cX9_count 68 = .ok (.aload_n 0, 1) := by decide +kernel
theorem dX9_count_69 : decode cX9_count 69 = .ok (.getfield 10, 3) := by decide +kernel
theorem dX9_count_72 : decode cX9_count 72 = .ok (.getfield 89, 3) := by decide +kernel
theorem dX9_count_75 : decode cX9_count 75 = .ok (.getfield 219, 3) := by decide +kernel
theorem dX9_count_78 : decode cX9_count 78 = .ok (.ireturn, 1) := by decide +kernel
theorem dX9_count_79 : decode cX9_count 79 = .ok (.aload_n 0, 1) := by decide +kernel
theorem dX9_count_80 : decode cX9_count 80 = .ok (.getfield 10, 3) := by decide +kernel
theorem dX9_count_83 : decode cX9_count 83 = .ok (.invokevirtual 358, 3) := by decide +kernel
theorem dX9_count_86 : decode cX9_count 86 = .ok (.ireturn, 1) := by decide +kernel
theorem dX9_count_87 : decode cX9_count 87 = .ok (.aload_n 0, 1) := by decide +kernel
theorem dX9_count_88 : decode cX9_count 88 = .ok (.getfield 10, 3) := by decide +kernel
theorem dX9_count_91 : decode cX9_count 91 = .ok (.getfield 164, 3) := by decide +kernel
theorem dX9_count_94 : decode cX9_count 94 = .ok (.ireturn, 1) := by decide +kernel
theorem dX9_count_95 : decode cX9_count 95 = .ok (.aload_n 0, 1) := by decide +kernel
theorem dX9_count_96 : decode cX9_count 96 = .ok (.getfield 10, 3) := by decide +kernel
theorem dX9_count_99 : decode cX9_count 99 = .ok (.getfield 260, 3) := by decide +kernel
theorem dX9_count_102 : decode cX9_count 102 = .ok (.getfield 267, 3) := by decide +kernel
theorem dX9_count_105 : decode cX9_count 105 = .ok (.ireturn, 1) := by decide +kernel
theorem dX9_count_106 : decode cX9_count 106 = .ok (.aload_n 0, 1) := by decide +kernel
theorem dX9_count_107 : decode cX9_count 107 = .ok (.getfield 10, 3) := by decide +kernel
theorem dX9_count_110 : decode cX9_count 110 = .ok (.getfield 307, 3) := by decide +kernel
theorem dX9_count_113 : decode cX9_count 113 = .ok (.ireturn, 1) := by decide +kernel
theorem dX9_count_114 : decode cX9_count 114 = .ok (.aload_n 0, 1) := by decide +kernel
theorem dX9_count_115 : decode cX9_count 115 = .ok (.getfield 10, 3) := by decide +kernel
theorem dX9_count_118 : decode cX9_count 118 = .ok (.invokevirtual 160, 3) := by decide +kernel
theorem dX9_count_121 : decode cX9_count 121 = .ok (.ireturn, 1) := by decide +kernel
theorem dX9_count_122 : decode cX9_count 122 = .ok (.aload_n 0, 1) := by decide +kernel
theorem dX9_count_123 : decode cX9_count 123 = .ok (.getfield 48, 3) := by decide +kernel
theorem dX9_count_126 : decode cX9_count 126 = .ok (.ireturn, 1) := by decide +kernel
theorem dX9_count_127 : decode cX9_count 127 = .ok (.aload_n 0, 1) := by decide +kernel
theorem dX9_count_128 : decode cX9_count 128 = .ok (.getfield 65, 3) := by decide +kernel
theorem dX9_count_131 : decode cX9_count 131 = .ok (.iconst 1, 1) := by decide +kernel
theorem dX9_count_132 : decode cX9_count 132 = .ok (.iaload, 1) := by decide +kernel
theorem dX9_count_133 : decode cX9_count 133 = .ok (.ireturn, 1) := by decide +kernel
theorem dX9_count_134 : decode cX9_count 134 = .ok (.aload_n 0, 1) := by decide +kernel
theorem dX9_count_135 : decode cX9_count 135 = .ok (.getfield 65, 3) := by decide +kernel
theorem dX9_count_138 : decode cX9_count 138 = .ok (.iconst 2, 1) := by decide +kernel
theorem dX9_count_139 : decode cX9_count 139 = .ok (.iaload, 1) := by decide +kernel
theorem dX9_count_140 : decode cX9_count 140 = .ok (.ireturn, 1) := by decide +kernel
theorem dX9_count_141 : decode cX9_count 141 = .ok (.aload_n 0, 1) := by decide +kernel
theorem dX9_count_142 : decode cX9_count 142 = .ok (.getfield 65, 3) := by decide +kernel
theorem dX9_count_145 : decode cX9_count 145 = .ok (.iconst 3, 1) := by decide +kernel
theorem dX9_count_146 : decode cX9_count 146 = .ok (.iaload, 1) := by decide +kernel
theorem dX9_count_147 : decode cX9_count 147 = .ok (.ireturn, 1) := by decide +kernel
theorem dX9_count_148 : decode cX9_count 148 = .ok (.aload_n 0, 1) := by decide +kernel
theorem dX9_count_149 : decode cX9_count 149 = .ok (.getfield 65, 3) := by decide +kernel
theorem dX9_count_152 : decode cX9_count 152 = .ok (.iconst 5, 1) := by decide +kernel
theorem dX9_count_153 : decode cX9_count 153 = .ok (.iaload, 1) := by decide +kernel
theorem dX9_count_154 : decode cX9_count 154 = .ok (.ireturn, 1) := by decide +kernel
theorem dX9_count_155 : decode cX9_count 155 = .ok (.aload_n 0, 1) := by decide +kernel
theorem dX9_count_156 : decode cX9_count 156 = .ok (.getfield 65, 3) := by decide +kernel
theorem dX9_count_159 : decode cX9_count 159 = .ok (.bipush 6, 2) := by decide +kernel
theorem dX9_count_161 : decode cX9_count 161 = .ok (.iaload, 1) := by decide +kernel
theorem dX9_count_162 : decode cX9_count 162 = .ok (.ireturn, 1) := by decide +kernel
theorem dX9_count_163 : decode cX9_count 163 = .ok (.aload_n 0, 1) := by decide +kernel
theorem dX9_count_164 : decode cX9_count 164 = .ok (.getfield 10, 3) := by decide +kernel
theorem dX9_count_167 : decode cX9_count 167 = .ok (.getfield 176, 3) := by decide +kernel
theorem dX9_count_170 : decode cX9_count 170 = .ok (.ireturn, 1) := by decide +kernel
theorem dX9_count_171 : decode cX9_count 171 = .ok (.iconst (-1), 1) := by decide +kernel
theorem dX9_count_172 : decode cX9_count 172 = .ok (.ireturn, 1) := by decide +kernel
theorem dX9_status_0 : decode cX9_status 0 = .ok (.aload_n 0, 1) := by decide +kernel
theorem dX9_status_1 : decode cX9_status 1 = .ok (.getfield 68, 3) := by decide +kernel
theorem dX9_status_4 : decode cX9_status 4 = .ok (.ireturn, 1) := by decide +kernel
theorem dX9_refuse_0 : decode cX9_refuse 0 = .ok (.aload_n 0, 1) := by decide +kernel
theorem dX9_refuse_1 : decode cX9_refuse 1 = .ok (.iload_n 1, 1) := by decide +kernel
theorem dX9_refuse_2 : decode cX9_refuse 2 = .ok (.putfield 68, 3) := by decide +kernel
theorem dX9_refuse_5 : decode cX9_refuse 5 = .ok (.iload_n 1, 1) := by decide +kernel
theorem dX9_refuse_6 : decode cX9_refuse 6 = .ok (.ineg, 1) := by decide +kernel
theorem dX9_refuse_7 : decode cX9_refuse 7 = .ok (.iconst 0, 1) := by decide +kernel
theorem dX9_refuse_8 : decode cX9_refuse 8 = .ok (.aload_n 0, 1) := by decide +kernel
theorem dX9_refuse_9 : decode cX9_refuse 9 = .ok (.getfield 65, 3) := by decide +kernel
theorem dX9_refuse_12 : decode cX9_refuse 12 = .ok (.arraylength, 1) := by decide +kernel
theorem dX9_refuse_13 : decode cX9_refuse 13 = .ok (.iconst 1, 1) := by decide +kernel
theorem dX9_refuse_14 : decode cX9_refuse 14 = .ok (.isub, 1) := by decide +kernel
theorem dX9_refuse_15 : decode cX9_refuse 15 = .ok (.invokestatic 102, 3) := by decide +kernel
theorem dX9_refuse_18 : decode cX9_refuse 18 = .ok (.ifCond .eq 14, 3) := by decide +kernel
theorem dX9_refuse_21 : decode cX9_refuse 21 = .ok (.aload_n 0, 1) := by decide +kernel
theorem dX9_refuse_22 : decode cX9_refuse 22 = .ok (.getfield 65, 3) := by decide +kernel
theorem dX9_refuse_25 : decode cX9_refuse 25 = .ok (.iload_n 1, 1) := by decide +kernel
theorem dX9_refuse_26 : decode cX9_refuse 26 = .ok (.ineg, 1) := by decide +kernel
theorem dX9_refuse_27 : decode cX9_refuse 27 = .ok (.dup2, 1) := by decide +kernel
theorem dX9_refuse_28 : decode cX9_refuse 28 = .ok (.iaload, 1) := by decide +kernel
theorem dX9_refuse_29 : decode cX9_refuse 29 = .ok (.iconst 1, 1) := by decide +kernel
theorem dX9_refuse_30 : decode cX9_refuse 30 = .ok (.iadd, 1) := by decide +kernel
theorem dX9_refuse_31 : decode cX9_refuse 31 = .ok (.iastore, 1) := by decide +kernel
theorem dX9_refuse_32 : decode cX9_refuse 32 = .ok (.iload_n 1, 1) := by decide +kernel
theorem dX9_refuse_33 : decode cX9_refuse 33 = .ok (.ireturn, 1) := by decide +kernel
theorem dX9_accept_0 : decode cX9_accept 0 = .ok (.aload_n 0, 1) := by decide +kernel
theorem dX9_accept_1 : decode cX9_accept 1 = .ok (.iconst 0, 1) := by decide +kernel
theorem dX9_accept_2 : decode cX9_accept 2 = .ok (.putfield 68, 3) := by decide +kernel
theorem dX9_accept_5 : decode cX9_accept 5 = .ok (.aload_n 0, 1) := by decide +kernel
theorem dX9_accept_6 : decode cX9_accept 6 = .ok (.getfield 30, 3) := by decide +kernel
theorem dX9_accept_9 : decode cX9_accept 9 = .ok (.invokevirtual 361, 3) := by decide +kernel
theorem dX9_accept_12 : decode cX9_accept 12 = .ok (.iload_n 1, 1) := by decide +kernel
theorem dX9_accept_13 : decode cX9_accept 13 = .ok (.ireturn, 1) := by decide +kernel
theorem dX9_isWithin_0 : decode cX9_isWithin 0 = .ok (.iload_n 0, 1) := by decide +kernel
theorem dX9_isWithin_1 : decode cX9_isWithin 1 = .ok (.iload_n 1, 1) := by decide +kernel
theorem dX9_isWithin_2 : decode cX9_isWithin 2 = .ok (.if_icmp .lt 12, 3) := by decide +kernel
theorem dX9_isWithin_5 : decode cX9_isWithin 5 = .ok (.iload_n 0, 1) := by decide +kernel
theorem dX9_isWithin_6 : decode cX9_isWithin 6 = .ok (.iload_n 2, 1) := by decide +kernel
theorem dX9_isWithin_7 : decode cX9_isWithin 7 = .ok (.if_icmp .gt 7, 3) := by decide +kernel
theorem dX9_isWithin_10 : decode cX9_isWithin 10 = .ok (.iconst 1, 1) := by decide +kernel
theorem dX9_isWithin_11 : decode cX9_isWithin 11 = .ok (.goto 4, 3) := by decide +kernel
theorem dX9_isWithin_14 : decode cX9_isWithin 14 = .ok (.iconst 0, 1) := by decide +kernel
theorem dX9_isWithin_15 : decode cX9_isWithin 15 = .ok (.ireturn, 1) := by decide +kernel
theorem dX9_isCell_0 : decode cX9_isCell 0 = .ok (.iload_n 0, 1) := by decide +kernel
theorem dX9_isCell_1 : decode cX9_isCell 1 = .ok (.ifCond .lt 13, 3) := by decide +kernel
theorem dX9_isCell_4 : decode cX9_isCell 4 = .ok (.iload_n 0, 1) := by decide +kernel
theorem dX9_isCell_5 : decode cX9_isCell 5 = .ok (.bipush 100, 2) := by decide +kernel
theorem dX9_isCell_7 : decode cX9_isCell 7 = .ok (.if_icmp .ge 7, 3) := by decide +kernel
theorem dX9_isCell_10 : decode cX9_isCell 10 = .ok (.iconst 1, 1) := by decide +kernel
theorem dX9_isCell_11 : decode cX9_isCell 11 = .ok (.goto 4, 3) := by decide +kernel
theorem dX9_isCell_14 : decode cX9_isCell 14 = .ok (.iconst 0, 1) := by decide +kernel
theorem dX9_isCell_15 : decode cX9_isCell 15 = .ok (.ireturn, 1) := by decide +kernel
theorem dX9_isWay_0 : decode cX9_isWay 0 = .ok (.iload_n 0, 1) := by decide +kernel
theorem dX9_isWay_1 : decode cX9_isWay 1 = .ok (.ifCond .lt 12, 3) := by decide +kernel
theorem dX9_isWay_4 : decode cX9_isWay 4 = .ok (.iload_n 0, 1) := by decide +kernel
theorem dX9_isWay_5 : decode cX9_isWay 5 = .ok (.iconst 4, 1) := by decide +kernel
theorem dX9_isWay_6 : decode cX9_isWay 6 = .ok (.if_icmp .ge 7, 3) := by decide +kernel
theorem dX9_isWay_9 : decode cX9_isWay 9 = .ok (.iconst 1, 1) := by decide +kernel
theorem dX9_isWay_10 : decode cX9_isWay 10 = .ok (.goto 4, 3) := by decide +kernel
theorem dX9_isWay_13 : decode cX9_isWay 13 = .ok (.iconst 0, 1) := by decide +kernel
theorem dX9_isWay_14 : decode cX9_isWay 14 = .ok (.ireturn, 1) := by decide +kernel
theorem dX9_isPace_0 : decode cX9_isPace 0 = .ok (.iload_n 0, 1) := by decide +kernel
theorem dX9_isPace_1 : decode cX9_isPace 1 = .ok (.ifCond .lt 13, 3) := by decide +kernel
theorem dX9_isPace_4 : decode cX9_isPace 4 = .ok (.iload_n 0, 1) := by decide +kernel
theorem dX9_isPace_5 : decode cX9_isPace 5 = .ok (.bipush 10, 2) := by decide +kernel
theorem dX9_isPace_7 : decode cX9_isPace 7 = .ok (.if_icmp .ge 7, 3) := by decide +kernel
theorem dX9_isPace_10 : decode cX9_isPace 10 = .ok (.iconst 1, 1) := by decide +kernel
theorem dX9_isPace_11 : decode cX9_isPace 11 = .ok (.goto 4, 3) := by decide +kernel
theorem dX9_isPace_14 : decode cX9_isPace 14 = .ok (.iconst 0, 1) := by decide +kernel
theorem dX9_isPace_15 : decode cX9_isPace 15 = .ok (.ireturn, 1) := by decide +kernel
theorem dX9_isOnEdge_0 : decode cX9_isOnEdge 0 = .ok (.iload_n 0, 1) := by decide +kernel
theorem dX9_isOnEdge_1 : decode cX9_isOnEdge 1 = .ok (.ifCond .lt 13, 3) := by decide +kernel
theorem dX9_isOnEdge_4 : decode cX9_isOnEdge 4 = .ok (.iload_n 0, 1) := by decide +kernel
theorem dX9_isOnEdge_5 : decode cX9_isOnEdge 5 = .ok (.bipush 10, 2) := by decide +kernel
theorem dX9_isOnEdge_7 : decode cX9_isOnEdge 7 = .ok (.if_icmp .ge 7, 3) := by decide +kernel
theorem dX9_isOnEdge_10 : decode cX9_isOnEdge 10 = .ok (.iconst 1, 1) := by decide +kernel
theorem dX9_isOnEdge_11 : decode cX9_isOnEdge 11 = .ok (.goto 4, 3) := by decide +kernel
theorem dX9_isOnEdge_14 : decode cX9_isOnEdge 14 = .ok (.iconst 0, 1) := by decide +kernel
theorem dX9_isOnEdge_15 : decode cX9_isOnEdge 15 = .ok (.ireturn, 1) := by decide +kernel
theorem dX9_spotAt_0 : decode cX9_spotAt 0 = .ok (.iload_n 1, 1) := by decide +kernel
theorem dX9_spotAt_1 : decode cX9_spotAt 1 = .ok (.iconst 3, 1) := by decide +kernel
theorem dX9_spotAt_2 : decode cX9_spotAt 2 = .ok (.iadd, 1) := by decide +kernel
theorem dX9_spotAt_3 : decode cX9_spotAt 3 = .ok (.bipush 16, 2) := by decide +kernel
theorem dX9_spotAt_5 : decode cX9_spotAt 5 = .ok (.imul, 1) := by decide +kernel
theorem dX9_spotAt_6 : decode cX9_spotAt 6 = .ok (.iload_n 0, 1) := by decide +kernel
theorem dX9_spotAt_7 : decode cX9_spotAt 7 = .ok (.iadd, 1) := by decide +kernel
theorem dX9_spotAt_8 : decode cX9_spotAt 8 = .ok (.iconst 3, 1) := by decide +kernel
theorem dX9_spotAt_9 : decode cX9_spotAt 9 = .ok (.iadd, 1) := by decide +kernel
theorem dX9_spotAt_10 : decode cX9_spotAt 10 = .ok (.ireturn, 1) := by decide +kernel
theorem dX9_spotOf_0 : decode cX9_spotOf 0 = .ok (.iload_n 0, 1) := by decide +kernel
theorem dX9_spotOf_1 : decode cX9_spotOf 1 = .ok (.bipush 10, 2) := by decide +kernel
theorem dX9_spotOf_3 : decode cX9_spotOf 3 = .ok (.irem, 1) := by decide +kernel
theorem dX9_spotOf_4 : decode cX9_spotOf 4 = .ok (.iload_n 0, 1) := by decide +kernel
theorem dX9_spotOf_5 : decode cX9_spotOf 5 = .ok (.bipush 10, 2) := by decide +kernel
theorem dX9_spotOf_7 : decode cX9_spotOf 7 = .ok (.idiv, 1) := by decide +kernel
theorem dX9_spotOf_8 : decode cX9_spotOf 8 = .ok (.invokestatic 251, 3) := by decide +kernel
theorem dX9_spotOf_11 : decode cX9_spotOf 11 = .ok (.ireturn, 1) := by decide +kernel
theorem dX9_stepX_0 : decode cX9_stepX 0 = .ok (.iload_n 0, 1) := by decide +kernel
theorem dX9_stepX_1 : decode cX9_stepX 1 = .ok (.iconst 1, 1) := by decide +kernel
theorem dX9_stepX_2 : decode cX9_stepX 2 = .ok (.if_icmp .ne 7, 3) := by decide +kernel
theorem dX9_stepX_5 : decode cX9_stepX 5 = .ok (.iconst 1, 1) := by decide +kernel
theorem dX9_stepX_6 : decode cX9_stepX 6 = .ok (.goto 13, 3) := by decide +kernel
theorem dX9_stepX_9 : decode cX9_stepX 9 = .ok (.iload_n 0, 1) := by decide +kernel
theorem dX9_stepX_10 : decode cX9_stepX 10 = .ok (.iconst 3, 1) := by decide +kernel
theorem dX9_stepX_11 : decode cX9_stepX 11 = .ok (.if_icmp .ne 7, 3) := by decide +kernel
theorem dX9_stepX_14 : decode cX9_stepX 14 = .ok (.iconst (-1), 1) := by decide +kernel
theorem dX9_stepX_15 : decode cX9_stepX 15 = .ok (.goto 4, 3) := by decide +kernel
theorem dX9_stepX_18 : decode cX9_stepX 18 = .ok (.iconst 0, 1) := by decide +kernel
theorem dX9_stepX_19 : decode cX9_stepX 19 = .ok (.ireturn, 1) := by decide +kernel
theorem dX9_stepY_0 : decode cX9_stepY 0 = .ok (.iload_n 0, 1) := by decide +kernel
theorem dX9_stepY_1 : decode cX9_stepY 1 = .ok (.ifCond .ne 7, 3) := by decide +kernel
theorem dX9_stepY_4 : decode cX9_stepY 4 = .ok (.iconst (-1), 1) := by decide +kernel
theorem dX9_stepY_5 : decode cX9_stepY 5 = .ok (.goto 13, 3) := by decide +kernel
theorem dX9_stepY_8 : decode cX9_stepY 8 = .ok (.iload_n 0, 1) := by decide +kernel
theorem dX9_stepY_9 : decode cX9_stepY 9 = .ok (.iconst 2, 1) := by decide +kernel
theorem dX9_stepY_10 : decode cX9_stepY 10 = .ok (.if_icmp .ne 7, 3) := by decide +kernel
theorem dX9_stepY_13 : decode cX9_stepY 13 = .ok (.iconst 1, 1) := by decide +kernel
theorem dX9_stepY_14 : decode cX9_stepY 14 = .ok (.goto 4, 3) := by decide +kernel
theorem dX9_stepY_17 : decode cX9_stepY 17 = .ok (.iconst 0, 1) := by decide +kernel
theorem dX9_stepY_18 : decode cX9_stepY 18 = .ok (.ireturn, 1) := by decide +kernel
theorem dX9_leastPaceAbove_0 : decode cX9_leastPaceAbove 0 = .ok (.iload_n 0, 1) := by decide +kernel
theorem dX9_leastPaceAbove_1 : decode cX9_leastPaceAbove 1 = .ok (.ifCond .gt 8, 3) := by decide +kernel
theorem dX9_leastPaceAbove_4 : decode cX9_leastPaceAbove 4 = .ok (.bipush 10, 2) := by decide +kernel
theorem dX9_leastPaceAbove_6 : decode cX9_leastPaceAbove 6 = .ok (.goto 16, 3) := by decide +kernel
theorem dX9_leastPaceAbove_9 : decode cX9_leastPaceAbove 9 = .ok (.bipush 10, 2) := by decide +kernel
theorem dX9_leastPaceAbove_11 : decode cX9_leastPaceAbove 11 = .ok (.bipush 100, 2) := by decide +kernel
theorem dX9_leastPaceAbove_13 : decode cX9_leastPaceAbove 13 = .ok (.iload_n 1, 1) := by decide +kernel
theorem dX9_leastPaceAbove_14 : decode cX9_leastPaceAbove 14 = .ok (.imul, 1) := by decide +kernel
theorem dX9_leastPaceAbove_15 : decode cX9_leastPaceAbove 15 = .ok (.iload_n 0, 1) := by decide +kernel
theorem dX9_leastPaceAbove_16 : decode cX9_leastPaceAbove 16 = .ok (.idiv, 1) := by decide +kernel
theorem dX9_leastPaceAbove_17 : decode cX9_leastPaceAbove 17 = .ok (.iconst 1, 1) := by decide +kernel
theorem dX9_leastPaceAbove_18 : decode cX9_leastPaceAbove 18 = .ok (.iadd, 1) := by decide +kernel
theorem dX9_leastPaceAbove_19 : decode cX9_leastPaceAbove 19 = .ok (.invokestatic 154, 3) := by decide +kernel
theorem dX9_leastPaceAbove_22 : decode cX9_leastPaceAbove 22 = .ok (.ireturn, 1) := by decide +kernel
theorem dX9_greatestDivisor_0 : decode cX9_greatestDivisor 0 = .ok (.iload_n 0, 1) := by decide +kernel
theorem dX9_greatestDivisor_1 : decode cX9_greatestDivisor 1 = .ok (.istore_n 2, 1) := by decide +kernel
theorem dX9_greatestDivisor_2 : decode cX9_greatestDivisor 2 = .ok (.iload_n 1, 1) := by decide +kernel
theorem dX9_greatestDivisor_3 : decode cX9_greatestDivisor 3 = .ok (.istore_n 3, 1) := by decide +kernel
theorem dX9_greatestDivisor_4 : decode cX9_greatestDivisor 4 = .ok (.iconst 0, 1) := by decide +kernel
theorem dX9_greatestDivisor_5 : decode cX9_greatestDivisor 5 = .ok (.istore 4, 2) := by decide +kernel
theorem dX9_greatestDivisor_7 : decode cX9_greatestDivisor 7 = .ok (.iload 4, 2) := by decide +kernel
theorem dX9_greatestDivisor_9 : decode cX9_greatestDivisor 9 = .ok (.bipush 64, 2) := by decide +kernel
theorem dX9_greatestDivisor_11 : decode cX9_greatestDivisor 11 = .ok (.if_icmp .ge 23, 3) := by decide +kernel
theorem dX9_greatestDivisor_14 : decode cX9_greatestDivisor 14 = .ok (.iload_n 3, 1) := by decide +kernel
theorem dX9_greatestDivisor_15 : decode cX9_greatestDivisor 15 = .ok (.ifCond .eq 19, 3) := by decide +kernel
theorem dX9_greatestDivisor_18 : decode cX9_greatestDivisor 18 = .ok (.iload_n 2, 1) := by decide +kernel
theorem dX9_greatestDivisor_19 : decode cX9_greatestDivisor 19 = .ok (.iload_n 3, 1) := by decide +kernel
theorem dX9_greatestDivisor_20 : decode cX9_greatestDivisor 20 = .ok (.irem, 1) := by decide +kernel
theorem dX9_greatestDivisor_21 : decode cX9_greatestDivisor 21 = .ok (.istore 5, 2) := by decide +kernel
theorem dX9_greatestDivisor_23 : decode cX9_greatestDivisor 23 = .ok (.iload_n 3, 1) := by decide +kernel
theorem dX9_greatestDivisor_24 : decode cX9_greatestDivisor 24 = .ok (.istore_n 2, 1) := by decide +kernel
theorem dX9_greatestDivisor_25 : decode cX9_greatestDivisor 25 = .ok (.iload 5, 2) := by decide +kernel
theorem dX9_greatestDivisor_27 : decode cX9_greatestDivisor 27 = .ok (.istore_n 3, 1) := by decide +kernel
theorem dX9_greatestDivisor_28 : decode cX9_greatestDivisor 28 = .ok (.iinc 4 1, 3) := by decide +kernel
theorem dX9_greatestDivisor_31 : decode cX9_greatestDivisor 31 = .ok (.goto (-24), 3) := by decide +kernel
theorem dX9_greatestDivisor_34 : decode cX9_greatestDivisor 34 = .ok (.iload_n 2, 1) := by decide +kernel
theorem dX9_greatestDivisor_35 : decode cX9_greatestDivisor 35 = .ok (.ireturn, 1) := by decide +kernel
