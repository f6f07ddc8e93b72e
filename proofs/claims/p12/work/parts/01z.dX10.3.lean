theorem dX10_doWorks_192 : decode cX10_doWorks 192 = .ok (.iastore, 1) := by decide +kernel
theorem dX10_doWorks_193 : decode cX10_doWorks 193 = .ok (.goto 11, 3) := by decide +kernel
theorem dX10_doWorks_196 : decode cX10_doWorks 196 = .ok (.aload_n 0, 1) := by decide +kernel
theorem dX10_doWorks_197 : decode cX10_doWorks 197 = .ok (.iload 4, 2) := by decide +kernel
theorem dX10_doWorks_199 : decode cX10_doWorks 199 = .ok (.iload 5, 2) := by decide +kernel
theorem dX10_doWorks_201 : decode cX10_doWorks 201 = .ok (.invokevirtual 452, 3) := by decide +kernel
theorem dX10_doWorks_204 : decode cX10_doWorks 204 = .ok (.iinc 3 1, 3) := by decide +kernel
theorem dX10_doWorks_207 : decode cX10_doWorks 207 = .ok (.goto (-199), 3) := by decide +kernel
theorem dX10_doWorks_210 : decode cX10_doWorks 210 = .ok (.iload_n 2, 1) := by decide +kernel
theorem dX10_doWorks_211 : decode cX10_doWorks 211 = .ok (.ireturn, 1) := by decide +kernel
theorem dX10_moveUse_0 : decode cX10_moveUse 0 = .ok (.aload_n 0, 1) := by decide +kernel
theorem dX10_moveUse_1 : decode cX10_moveUse 1 = .ok (.getfield 82, 3) := by decide +kernel
theorem dX10_moveUse_4 : decode cX10_moveUse 4 = .ok (.iload_n 1, 1) := by decide +kernel
theorem dX10_moveUse_5 : decode cX10_moveUse 5 = .ok (.iaload, 1) := by decide +kernel
theorem dX10_moveUse_6 : decode cX10_moveUse 6 = .ok (.istore_n 3, 1) := by decide +kernel
theorem dX10_moveUse_7 : decode cX10_moveUse 7 = .ok (.aload_n 0, 1) := by decide +kernel
theorem dX10_moveUse_8 : decode cX10_moveUse 8 = .ok (.getfield 82, 3) := by decide +kernel
theorem dX10_moveUse_11 : decode cX10_moveUse 11 = .ok (.iload_n 1, 1) := by decide +kernel
theorem dX10_moveUse_12 : decode cX10_moveUse 12 = .ok (.iconst 0, 1) := by decide +kernel
theorem dX10_moveUse_13 : decode cX10_moveUse 13 = .ok (.iastore, 1) := by decide +kernel
theorem dX10_moveUse_14 : decode cX10_moveUse 14 = .ok (.aload_n 0, 1) := by decide +kernel
theorem dX10_moveUse_15 : decode cX10_moveUse 15 = .ok (.getfield 82, 3) := by decide +kernel
theorem dX10_moveUse_18 : decode cX10_moveUse 18 = .ok (.iload_n 2, 1) := by decide +kernel
theorem dX10_moveUse_19 : decode cX10_moveUse 19 = .ok (.iload_n 3, 1) := by decide +kernel
theorem dX10_moveUse_20 : decode cX10_moveUse 20 = .ok (.iastore, 1) := by decide +kernel
theorem dX10_moveUse_21 : decode cX10_moveUse 21 = .ok (.return_, 1) := by decide +kernel
theorem dX10_findAboves_0 : decode cX10_findAboves 0 = .ok (.aload_n 0, 1) := by decide +kernel
theorem dX10_findAboves_1 : decode cX10_findAboves 1 = .ok (.invokevirtual 405, 3) := by decide +kernel
theorem dX10_findAboves_4 : decode cX10_findAboves 4 = .ok (.iconst 0, 1) := by decide +kernel
theorem dX10_findAboves_5 : decode cX10_findAboves 5 = .ok (.istore_n 1, 1) := by decide +kernel
theorem dX10_findAboves_6 : decode cX10_findAboves 6 = .ok (.iload_n 1, 1) := by decide +kernel
theorem dX10_findAboves_7 : decode cX10_findAboves 7 = .ok (.iconst 3, 1) := by decide +kernel
theorem dX10_findAboves_8 : decode cX10_findAboves 8 = .ok (.if_icmp .ge 60, 3) := by decide +kernel
theorem dX10_findAboves_11 : decode cX10_findAboves 11 = .ok (.iconst 0, 1) := by decide +kernel
theorem dX10_findAboves_12 : decode cX10_findAboves 12 = .ok (.istore_n 2, 1) := by decide +kernel
theorem dX10_findAboves_13 : decode cX10_findAboves 13 = .ok (.iload_n 2, 1) := by decide +kernel
theorem dX10_findAboves_14 : decode cX10_findAboves 14 = .ok (.bipush 100, 2) := by decide +kernel
theorem dX10_findAboves_16 : decode cX10_findAboves 16 = .ok (.if_icmp .ge 46, 3) := by decide +kernel
theorem dX10_findAboves_19 : decode cX10_findAboves 19 = .ok (.aload_n 0, 1) := by decide +kernel
theorem dX10_findAboves_20 : decode cX10_findAboves 20 = .ok (.getfield 97, 3) := by decide +kernel
theorem dX10_findAboves_23 : decode cX10_findAboves 23 = .ok (.bipush 100, 2) := by decide +kernel
theorem dX10_findAboves_25 : decode cX10_findAboves 25 = .ok (.iload_n 1, 1) := by decide +kernel
theorem dX10_findAboves_26 : decode cX10_findAboves 26 = .ok (.imul, 1) := by decide +kernel
theorem dX10_findAboves_27 : decode cX10_findAboves 27 = .ok (.iload_n 2, 1) := by decide +kernel
theorem dX10_findAboves_28 : decode cX10_findAboves 28 = .ok (.iadd, 1) := by decide +kernel
theorem dX10_findAboves_29 : decode cX10_findAboves 29 = .ok (.aload_n 0, 1) := by decide +kernel
theorem dX10_findAboves_30 : decode cX10_findAboves 30 = .ok (.getfield 73, 3) := by decide +kernel
theorem dX10_findAboves_33 : decode cX10_findAboves 33 = .ok (.iload_n 2, 1) := by decide +kernel
theorem dX10_findAboves_34 : decode cX10_findAboves 34 = .ok (.iaload, 1) := by decide +kernel
theorem dX10_findAboves_35 : decode cX10_findAboves 35 = .ok (.iconst (-1), 1) := by decide +kernel
theorem dX10_findAboves_36 : decode cX10_findAboves 36 = .ok (.if_icmp .ne 18, 3) := by decide +kernel
theorem dX10_findAboves_39 : decode cX10_findAboves 39 = .ok (.aload_n 0, 1) := by decide +kernel
theorem dX10_findAboves_40 : decode cX10_findAboves 40 = .ok (.iload_n 2, 1) := by decide +kernel
theorem dX10_findAboves_41 : decode cX10_findAboves 41 = .ok (.aload_n 0, 1) := by decide +kernel
theorem dX10_findAboves_42 : decode cX10_findAboves 42 = .ok (.iload_n 1, 1) := by decide +kernel
theorem dX10_findAboves_43 : decode cX10_findAboves 43 = .ok (.iconst 1, 1) := by decide +kernel
theorem dX10_findAboves_44 : decode cX10_findAboves 44 = .ok (.iadd, 1) := by decide +kernel
theorem dX10_findAboves_45 : decode cX10_findAboves 45 = .ok (.invokevirtual 413, 3) := by decide +kernel
theorem dX10_findAboves_48 : decode cX10_findAboves 48 = .ok (.invokevirtual 416, 3) := by decide +kernel
theorem dX10_findAboves_51 : decode cX10_findAboves 51 = .ok (.goto 4, 3) := by decide +kernel
theorem dX10_findAboves_54 : decode cX10_findAboves 54 = .ok (.iconst 0, 1) := by decide +kernel
theorem dX10_findAboves_55 : decode cX10_findAboves 55 = .ok (.iastore, 1) := by decide +kernel
theorem dX10_findAboves_56 : decode cX10_findAboves 56 = .ok (.iinc 2 1, 3) := by decide +kernel
theorem dX10_findAboves_59 : decode cX10_findAboves 59 = .ok (.goto (-46), 3) := by decide +kernel
theorem dX10_findAboves_62 : decode cX10_findAboves 62 = .ok (.iinc 1 1, 3) := by decide +kernel
theorem dX10_findAboves_65 : decode cX10_findAboves 65 = .ok (.goto (-59), 3) := by decide +kernel
theorem dX10_findAboves_68 : decode cX10_findAboves 68 = .ok (.return_, 1) := by decide +kernel
theorem dX10_done_0 : decode cX10_done 0 = .ok (.aload_n 0, 1) := by decide +kernel
theorem dX10_done_1 : decode cX10_done 1 = .ok (.iconst 0, 1) := by decide +kernel
theorem dX10_done_2 : decode cX10_done 2 = .ok (.putfield 103, 3) := by decide +kernel
theorem dX10_done_5 : decode cX10_done 5 = .ok (.iload_n 1, 1) := by decide +kernel
theorem dX10_done_6 : decode cX10_done 6 = .ok (.i2l, 1) := by decide +kernel
theorem dX10_done_7 : decode cX10_done 7 = .ok (.lconst 0, 1) := by decide +kernel
theorem dX10_done_8 : decode cX10_done 8 = .ok (.iconst 1, 1) := by decide +kernel
theorem dX10_done_9 : decode cX10_done 9 = .ok (.aload_n 0, 1) := by decide +kernel
theorem dX10_done_10 : decode cX10_done 10 = .ok (.getfield 13, 3) := by decide +kernel
theorem dX10_done_13 : decode cX10_done 13 = .ok (.iconst 3, 1) := by decide +kernel
theorem dX10_done_14 : decode cX10_done 14 = .ok (.iaload, 1) := by decide +kernel
theorem dX10_done_15 : decode cX10_done 15 = .ok (.ishl, 1) := by decide +kernel
theorem dX10_done_16 : decode cX10_done 16 = .ok (.i2l, 1) := by decide +kernel
theorem dX10_done_17 : decode cX10_done 17 = .ok (.lconst 1, 1) := by decide +kernel
theorem dX10_done_18 : decode cX10_done 18 = .ok (.lsub, 1) := by decide +kernel
theorem dX10_done_19 : decode cX10_done 19 = .ok (.invokestatic 113, 3) := by decide +kernel
theorem dX10_done_22 : decode cX10_done 22 = .ok (.ifCond .eq 15, 3) := by decide +kernel
theorem dX10_done_25 : decode cX10_done 25 = .ok (.iload_n 2, 1) := by decide +kernel
theorem dX10_done_26 : decode cX10_done 26 = .ok (.i2l, 1) := by decide +kernel
theorem dX10_done_27 : decode cX10_done 27 = .ok (.lconst 0, 1) := by decide +kernel
theorem dX10_done_28 : decode cX10_done 28 = .ok (.ldc2_w 122, 3) := by decide +kernel
theorem dX10_done_31 : decode cX10_done 31 = .ok (.invokestatic 113, 3) := by decide +kernel
theorem dX10_done_34 : decode cX10_done 34 = .ok (.ifCond .ne 5, 3) := by decide +kernel
theorem dX10_done_37 : decode cX10_done 37 = .ok (.iconst (-1), 1) := by decide +kernel
theorem dX10_done_38 : decode cX10_done 38 = .ok (.ireturn, 1) := by decide +kernel
theorem dX10_done_39 : decode cX10_done 39 = .ok (.aload_n 0, 1) := by decide +kernel
theorem dX10_done_40 : decode cX10_done 40 = .ok (.invokevirtual 455, 3) := by decide +kernel
theorem dX10_done_43 : decode cX10_done 43 = .ok (.aload_n 0, 1) := by decide +kernel
theorem dX10_done_44 : decode cX10_done 44 = .ok (.iload_n 1, 1) := by decide +kernel
theorem dX10_done_45 : decode cX10_done 45 = .ok (.invokevirtual 458, 3) := by decide +kernel
theorem dX10_done_48 : decode cX10_done 48 = .ok (.istore_n 3, 1) := by decide +kernel
theorem dX10_done_49 : decode cX10_done 49 = .ok (.iload_n 2, 1) := by decide +kernel
theorem dX10_done_50 : decode cX10_done 50 = .ok (.ifCond .eq 8, 3) := by decide +kernel
theorem dX10_done_53 : decode cX10_done 53 = .ok (.iload_n 2, 1) := by decide +kernel
theorem dX10_done_54 : decode cX10_done 54 = .ok (.iconst 3, 1) := by decide +kernel
theorem dX10_done_55 : decode cX10_done 55 = .ok (.if_icmp .ne 16, 3) := by decide +kernel
theorem dX10_done_58 : decode cX10_done 58 = .ok (.iload_n 2, 1) := by decide +kernel
theorem dX10_done_59 : decode cX10_done 59 = .ok (.ifCond .ne 10, 3) := by decide +kernel
theorem dX10_done_62 : decode cX10_done 62 = .ok (.aload_n 0, 1) := by decide +kernel
theorem dX10_done_63 : decode cX10_done 63 = .ok (.invokevirtual 422, 3) := by decide +kernel
theorem dX10_done_66 : decode cX10_done 66 = .ok (.goto 4, 3) := by decide +kernel
theorem dX10_done_69 : decode cX10_done 69 = .ok (.iload_n 3, 1) := by decide +kernel
theorem dX10_done_70 : decode cX10_done 70 = .ok (.ireturn, 1) := by decide +kernel
theorem dX10_done_71 : decode cX10_done 71 = .ok (.iconst 0, 1) := by decide +kernel
theorem dX10_done_72 : decode cX10_done 72 = .ok (.istore 4, 2) := by decide +kernel
theorem dX10_done_74 : decode cX10_done 74 = .ok (.iconst (-1), 1) := by decide +kernel
theorem dX10_done_75 : decode cX10_done 75 = .ok (.istore 5, 2) := by decide +kernel
theorem dX10_done_77 : decode cX10_done 77 = .ok (.bipush 99, 2) := by decide +kernel
theorem dX10_done_79 : decode cX10_done 79 = .ok (.istore 6, 2) := by decide +kernel
theorem dX10_done_81 : decode cX10_done 81 = .ok (.iload 6, 2) := by decide +kernel
theorem dX10_done_83 : decode cX10_done 83 = .ok (.ifCond .lt 77, 3) := by decide +kernel
theorem dX10_done_86 : decode cX10_done 86 = .ok (.aload_n 0, 1) := by decide +kernel
theorem dX10_done_87 : decode cX10_done 87 = .ok (.getfield 73, 3) := by decide +kernel
theorem dX10_done_90 : decode cX10_done 90 = .ok (.iload 6, 2) := by decide +kernel
theorem dX10_done_92 : decode cX10_done 92 = .ok (.iaload, 1) := by decide +kernel
theorem dX10_done_93 : decode cX10_done 93 = .ok (.iconst (-1), 1) := by decide +kernel
theorem dX10_done_94 : decode cX10_done 94 = .ok (.if_icmp .ne 60, 3) := by decide +kernel
theorem dX10_done_97 : decode cX10_done 97 = .ok (.aload_n 0, 1) := by decide +kernel
theorem dX10_done_98 : decode cX10_done 98 = .ok (.getfield 82, 3) := by decide +kernel
theorem dX10_done_101 : decode cX10_done 101 = .ok (.iload 6, 2) := by decide +kernel
theorem dX10_done_103 : decode cX10_done 103 = .ok (.iaload, 1) := by decide +kernel
theorem dX10_done_104 : decode cX10_done 104 = .ok (.ifCond .le 50, 3) := by decide +kernel
theorem dX10_done_107 : decode cX10_done 107 = .ok (.aload_n 0, 1) := by decide +kernel
theorem dX10_done_108 : decode cX10_done 108 = .ok (.iload 6, 2) := by decide +kernel
theorem dX10_done_110 : decode cX10_done 110 = .ok (.aload_n 0, 1) := by decide +kernel
theorem dX10_done_111 : decode cX10_done 111 = .ok (.aload_n 0, 1) := by decide +kernel
theorem dX10_done_112 : decode cX10_done 112 = .ok (.getfield 82, 3) := by decide +kernel
theorem dX10_done_115 : decode cX10_done 115 = .ok (.iload 6, 2) := by decide +kernel
theorem dX10_done_117 : decode cX10_done 117 = .ok (.iaload, 1) := by decide +kernel
theorem dX10_done_118 : decode cX10_done 118 = .ok (.invokevirtual 413, 3) := by decide +kernel
theorem dX10_done_121 : decode cX10_done 121 = .ok (.invokevirtual 416, 3) := by decide +kernel
theorem dX10_done_124 : decode cX10_done 124 = .ok (.aload_n 0, 1) := by decide +kernel
theorem dX10_done_125 : decode cX10_done 125 = .ok (.getfield 97, 3) := by decide +kernel
theorem dX10_done_128 : decode cX10_done 128 = .ok (.bipush 100, 2) := by decide +kernel
theorem dX10_done_130 : decode cX10_done 130 = .ok (.aload_n 0, 1) := by decide +kernel
theorem dX10_done_131 : decode cX10_done 131 = .ok (.getfield 82, 3) := by decide +kernel
theorem dX10_done_134 : decode cX10_done 134 = .ok (.iload 6, 2) := by decide +kernel
theorem dX10_done_136 : decode cX10_done 136 = .ok (.iaload, 1) := by decide +kernel
theorem dX10_done_137 : decode cX10_done 137 = .ok (.iconst 1, 1) := by decide +kernel
theorem dX10_done_138 : decode cX10_done 138 = .ok (.isub, 1) := by decide +kernel
theorem dX10_done_139 : decode cX10_done 139 = .ok (.imul, 1) := by decide +kernel
theorem dX10_done_140 : decode cX10_done 140 = .ok (.iload 6, 2) := by decide +kernel
theorem dX10_done_142 : decode cX10_done 142 = .ok (.iadd, 1) := by decide +kernel
theorem dX10_done_143 : decode cX10_done 143 = .ok (.iaload, 1) := by decide +kernel
theorem dX10_done_144 : decode cX10_done 144 = .ok (.if_icmp .le 10, 3) := by decide +kernel
theorem dX10_done_147 : decode cX10_done 147 = .ok (.iinc 4 1, 3) := by decide +kernel
theorem dX10_done_150 : decode cX10_done 150 = .ok (.iload 6, 2) := by decide +kernel
theorem dX10_done_152 : decode cX10_done 152 = .ok (.istore 5, 2) := by decide +kernel
theorem dX10_done_154 : decode cX10_done 154 = .ok (.iinc 6 (-1), 3) := by decide +kernel
theorem dX10_done_157 : decode cX10_done 157 = .ok (.goto (-76), 3) := by decide +kernel
theorem dX10_done_160 : decode cX10_done 160 = .ok (.iload_n 2, 1) := by decide +kernel
theorem dX10_done_161 : decode cX10_done 161 = .ok (.iconst 1, 1) := by decide +kernel
theorem dX10_done_162 : decode cX10_done 162 = .ok (.if_icmp .ne 8, 3) := by decide +kernel
theorem dX10_done_165 : decode cX10_done 165 = .ok (.iload 4, 2) := by decide +kernel
theorem dX10_done_167 : decode cX10_done 167 = .ok (.goto 5, 3) := by decide +kernel
theorem dX10_done_170 : decode cX10_done 170 = .ok (.iload 5, 2) := by decide +kernel
theorem dX10_done_172 : decode cX10_done 172 = .ok (.ireturn, 1) := by decide +kernel
theorem dX10_least_0 : decode cX10_least 0 = .ok (.aload_n 0, 1) := by decide +kernel
theorem dX10_least_1 : decode cX10_least 1 = .ok (.iconst 0, 1) := by decide +kernel
theorem dX10_least_2 : decode cX10_least 2 = .ok (.putfield 103, 3) := by decide +kernel
theorem dX10_least_5 : decode cX10_least 5 = .ok (.iload_n 1, 1) := by decide +kernel
theorem dX10_least_6 : decode cX10_least 6 = .ok (.i2l, 1) := by decide +kernel
theorem dX10_least_7 : decode cX10_least 7 = .ok (.lconst 0, 1) := by decide +kernel
theorem dX10_least_8 : decode cX10_least 8 = .ok (.ldc2_w 171, 3) := by decide +kernel
theorem dX10_least_11 : decode cX10_least 11 = .ok (.invokestatic 113, 3) := by decide +kernel
theorem dX10_least_14 : decode cX10_least 14 = .ok (.ifCond .ne 5, 3) := by decide +kernel
theorem dX10_least_17 : decode cX10_least 17 = .ok (.iconst (-1), 1) := by decide +kernel
theorem dX10_least_18 : decode cX10_least 18 = .ok (.ireturn, 1) := by decide +kernel
theorem dX10_least_19 : decode cX10_least 19 = .ok (.iconst (-1), 1) := by decide +kernel
theorem dX10_least_20 : decode cX10_least 20 = .ok (.istore_n 2, 1) := by decide +kernel
theorem dX10_least_21 : decode cX10_least 21 = .ok (.iconst 0, 1) := by decide +kernel
theorem dX10_least_22 : decode cX10_least 22 = .ok (.istore_n 3, 1) := by decide +kernel
theorem dX10_least_23 : decode cX10_least 23 = .ok (.iconst 0, 1) := by decide +kernel
theorem dX10_least_24 : decode cX10_least 24 = .ok (.istore 4, 2) := by decide +kernel
theorem dX10_least_26 : decode cX10_least 26 = .ok (.iconst 0, 1) := by decide +kernel
theorem dX10_least_27 : decode cX10_least 27 = .ok (.istore 5, 2) := by decide +kernel
theorem dX10_least_29 : decode cX10_least 29 = .ok (.iload 5, 2) := by decide +kernel
theorem dX10_least_31 : decode cX10_least 31 = .ok (.iconst 1, 1) := by decide +kernel
theorem dX10_least_32 : decode cX10_least 32 = .ok (.aload_n 0, 1) := by decide +kernel
theorem dX10_least_33 : decode cX10_least 33 = .ok (.getfield 13, 3) := by decide +kernel
theorem dX10_least_36 : decode cX10_least 36 = .ok (.iconst 3, 1) := by decide +kernel
theorem dX10_least_37 : decode cX10_least 37 = .ok (.iaload, 1) := by decide +kernel
theorem dX10_least_38 : decode cX10_least 38 = .ok (.ishl, 1) := by decide +kernel
theorem dX10_least_39 : decode cX10_least 39 = .ok (.if_icmp .ge 92, 3) := by decide +kernel
theorem dX10_least_42 : decode cX10_least 42 = .ok (.aload_n 0, 1) := by decide +kernel
theorem dX10_least_43 : decode cX10_least 43 = .ok (.iload 5, 2) := by decide +kernel
theorem dX10_least_45 : decode cX10_least 45 = .ok (.invokevirtual 458, 3) := by decide +kernel
theorem dX10_least_48 : decode cX10_least 48 = .ok (.istore 6, 2) := by decide +kernel
theorem dX10_least_50 : decode cX10_least 50 = .ok (.aload_n 0, 1) := by decide +kernel
theorem dX10_least_51 : decode cX10_least 51 = .ok (.invokevirtual 422, 3) := by decide +kernel
theorem dX10_least_54 : decode cX10_least 54 = .ok (.istore 7, 2) := by decide +kernel
theorem dX10_least_56 : decode cX10_least 56 = .ok (.iload_n 2, 1) := by decide +kernel
theorem dX10_least_57 : decode cX10_least 57 = .ok (.iconst (-1), 1) := by decide +kernel
theorem dX10_least_58 : decode cX10_least 58 = .ok (.if_icmp .eq 22, 3) := by decide +kernel
theorem dX10_least_61 : decode cX10_least 61 = .ok (.iload 7, 2) := by decide +kernel
theorem dX10_least_63 : decode cX10_least 63 = .ok (.iload_n 3, 1) := by decide +kernel
theorem dX10_least_64 : decode cX10_least 64 = .ok (.if_icmp .lt 16, 3) := by decide +kernel
theorem dX10_least_67 : decode cX10_least 67 = .ok (.iload 7, 2) := by decide +kernel
theorem dX10_least_69 : decode cX10_least 69 = .ok (.iload_n 3, 1) := by decide +kernel
theorem dX10_least_70 : decode cX10_least 70 = .ok (.if_icmp .ne 14, 3) := by decide +kernel
theorem dX10_least_73 : decode cX10_least 73 = .ok (.iload 6, 2) := by decide +kernel
theorem dX10_least_75 : decode cX10_least 75 = .ok (.iload 4, 2) := by decide +kernel
theorem dX10_least_77 : decode cX10_least 77 = .ok (.if_icmp .ge 7, 3) := by decide +kernel
theorem dX10_least_80 : decode cX10_least 80 = .ok (.iconst 1, 1) := by decide +kernel
theorem dX10_least_81 : decode cX10_least 81 = .ok (.goto 4, 3) := by decide +kernel
theorem dX10_least_84 : decode cX10_least 84 = .ok (.iconst 0, 1) := by decide +kernel
theorem dX10_least_85 : decode cX10_least 85 = .ok (.istore 8, 2) := by decide +kernel
theorem dX10_least_87 : decode cX10_least 87 = .ok (.iload 8, 2) := by decide +kernel
theorem dX10_least_89 : decode cX10_least 89 = .ok (.ifCond .eq 8, 3) := by decide +kernel
theorem dX10_least_92 : decode cX10_least 92 = .ok (.iload 5, 2) := by decide +kernel
theorem dX10_least_94 : decode cX10_least 94 = .ok (.goto 4, 3) := by decide +kernel
theorem dX10_least_97 : decode cX10_least 97 = .ok (.iload_n 2, 1) := by decide +kernel
theorem dX10_least_98 : decode cX10_least 98 = .ok (.istore_n 2, 1) := by decide +kernel
theorem dX10_least_99 : decode cX10_least 99 = .ok (.iload 8, 2) := by decide +kernel
theorem dX10_least_101 : decode cX10_least 101 = .ok (.ifCond .eq 8, 3) := by decide +kernel
theorem dX10_least_104 : decode cX10_least 104 = .ok (.iload 7, 2) := by decide +kernel
theorem dX10_least_106 : decode cX10_least 106 = .ok (.goto 4, 3) := by decide +kernel
theorem dX10_least_109 : decode cX10_least 109 = .ok (.iload_n 3, 1) := by decide +kernel
theorem dX10_least_110 : decode cX10_least 110 = .ok (.istore_n 3, 1) := by decide +kernel
theorem dX10_least_111 : decode cX10_least 111 = .ok (.iload 8, 2) := by decide +kernel
theorem dX10_least_113 : decode cX10_least 113 = .ok (.ifCond .eq 8, 3) := by decide +kernel
theorem dX10_least_116 : decode cX10_least 116 = .ok (.iload 6, 2) := by decide +kernel
theorem dX10_least_118 : decode cX10_least 118 = .ok (.goto 5, 3) := by decide +kernel
theorem dX10_least_121 : decode cX10_least 121 = .ok (.iload 4, 2) := by decide +kernel
theorem dX10_least_123 : decode cX10_least 123 = .ok (.istore 4, 2) := by decide +kernel
theorem dX10_least_125 : decode cX10_least 125 = .ok (.iinc 5 1, 3) := by decide +kernel
theorem dX10_least_128 : decode cX10_least 128 = .ok (.goto (-99), 3) := by decide +kernel
theorem dX10_least_131 : decode cX10_least 131 = .ok (.iload_n 1, 1) := by decide +kernel
theorem dX10_least_132 : decode cX10_least 132 = .ok (.ifCond .ne 8, 3) := by decide +kernel
theorem dX10_least_135 : decode cX10_least 135 = .ok (.iload 4, 2) := by decide +kernel
theorem dX10_least_137 : decode cX10_least 137 = .ok (.goto 13, 3) := by decide +kernel
theorem dX10_least_140 : decode cX10_least 140 = .ok (.iload_n 1, 1) := by decide +kernel
theorem dX10_least_141 : decode cX10_least 141 = .ok (.iconst 1, 1) := by decide +kernel
theorem dX10_least_142 : decode cX10_least 142 = .ok (.if_icmp .ne 7, 3) := by decide +kernel
theorem dX10_least_145 : decode cX10_least 145 = .ok (.iload_n 2, 1) := by decide +kernel
theorem dX10_least_146 : decode cX10_least 146 = .ok (.goto 4, 3) := by decide +kernel
theorem dX10_least_149 : decode cX10_least 149 = .ok (.iload_n 3, 1) := by decide +kernel
theorem dX10_least_150 : decode cX10_least 150 = .ok (.ireturn, 1) := by decide +kernel
theorem dX10_build_0 : decode cX10_build 0 = .ok (.aload_n 0, 1) := by decide +kernel
theorem dX10_build_1 : decode cX10_build 1 = .ok (.iconst 0, 1) := by decide +kernel
theorem dX10_build_2 : decode cX10_build 2 = .ok (.putfield 103, 3) := by decide +kernel
theorem dX10_build_5 : decode cX10_build 5 = .ok (.iload_n 1, 1) := by decide +kernel
theorem dX10_build_6 : decode cX10_build 6 = .ok (.i2l, 1) := by decide +kernel
theorem dX10_build_7 : decode cX10_build 7 = .ok (.lconst 0, 1) := by decide +kernel
theorem dX10_build_8 : decode cX10_build 8 = .ok (.iconst 1, 1) := by decide +kernel
theorem dX10_build_9 : decode cX10_build 9 = .ok (.aload_n 0, 1) := by decide +kernel
theorem dX10_build_10 : decode cX10_build 10 = .ok (.getfield 13, 3) := by decide +kernel
theorem dX10_build_13 : decode cX10_build 13 = .ok (.iconst 3, 1) := by decide +kernel
theorem dX10_build_14 : decode cX10_build 14 = .ok (.iaload, 1) := by decide +kernel
theorem dX10_build_15 : decode cX10_build 15 = .ok (.ishl, 1) := by decide +kernel
theorem dX10_build_16 : decode cX10_build 16 = .ok (.i2l, 1) := by decide +kernel
theorem dX10_build_17 : decode cX10_build 17 = .ok (.lconst 1, 1) := by decide +kernel
theorem dX10_build_18 : decode cX10_build 18 = .ok (.lsub, 1) := by decide +kernel
theorem dX10_build_19 : decode cX10_build 19 = .ok (.invokestatic 113, 3) := by decide +kernel
theorem dX10_build_22 : decode cX10_build 22 = .ok (.ifCond .ne 9, 3) := by decide +kernel
theorem dX10_build_25 : decode cX10_build 25 = .ok (.aload_n 0, 1) := by decide +kernel
theorem dX10_build_26 : decode cX10_build 26 = .ok (.iconst (-1), 1) := by decide +kernel
theorem dX10_build_27 : decode cX10_build 27 = .ok (.invokevirtual 117, 3) := by decide +kernel
theorem dX10_build_30 : decode cX10_build 30 = .ok (.ireturn, 1) := by decide +kernel
theorem dX10_build_31 : decode cX10_build 31 = .ok (.aload_n 0, 1) := by decide +kernel
theorem dX10_build_32 : decode cX10_build 32 = .ok (.iload_n 1, 1) := by decide +kernel
theorem dX10_build_33 : decode cX10_build 33 = .ok (.invokevirtual 458, 3) := by decide +kernel
theorem dX10_build_36 : decode cX10_build 36 = .ok (.istore_n 2, 1) := by decide +kernel
theorem dX10_build_37 : decode cX10_build 37 = .ok (.iconst 0, 1) := by decide +kernel
theorem dX10_build_38 : decode cX10_build 38 = .ok (.istore_n 3, 1) := by decide +kernel
theorem dX10_build_39 : decode cX10_build 39 = .ok (.iload_n 3, 1) := by decide +kernel
theorem dX10_build_40 : decode cX10_build 40 = .ok (.bipush 100, 2) := by decide +kernel
theorem dX10_build_42 : decode cX10_build 42 = .ok (.if_icmp .ge 56, 3) := by decide +kernel
theorem dX10_build_45 : decode cX10_build 45 = .ok (.aload_n 0, 1) := by decide +kernel
theorem dX10_build_46 : decode cX10_build 46 = .ok (.getfield 13, 3) := by decide +kernel
theorem dX10_build_49 : decode cX10_build 49 = .ok (.bipush 41, 2) := by decide +kernel
theorem dX10_build_51 : decode cX10_build 51 = .ok (.iload_n 3, 1) := by decide +kernel
theorem dX10_build_52 : decode cX10_build 52 = .ok (.iadd, 1) := by decide +kernel
theorem dX10_build_53 : decode cX10_build 53 = .ok (.aload_n 0, 1) := by decide +kernel
theorem dX10_build_54 : decode cX10_build 54 = .ok (.getfield 76, 3) := by decide +kernel
theorem dX10_build_57 : decode cX10_build 57 = .ok (.iload_n 3, 1) := by decide +kernel
theorem dX10_build_58 : decode cX10_build 58 = .ok (.iaload, 1) := by decide +kernel
theorem dX10_build_59 : decode cX10_build 59 = .ok (.iastore, 1) := by decide +kernel
theorem dX10_build_60 : decode cX10_build 60 = .ok (.aload_n 0, 1) := by decide +kernel
theorem dX10_build_61 : decode cX10_build 61 = .ok (.getfield 13, 3) := by decide +kernel
theorem dX10_build_64 : decode cX10_build 64 = .ok (.sipush 141, 3) := by decide +kernel
theorem dX10_build_67 : decode cX10_build 67 = .ok (.iload_n 3, 1) := by decide +kernel
theorem dX10_build_68 : decode cX10_build 68 = .ok (.iadd, 1) := by decide +kernel
theorem dX10_build_69 : decode cX10_build 69 = .ok (.aload_n 0, 1) := by decide +kernel
theorem dX10_build_70 : decode cX10_build 70 = .ok (.getfield 79, 3) := by decide +kernel
theorem dX10_build_73 : decode cX10_build 73 = .ok (.iload_n 3, 1) := by decide +kernel
theorem dX10_build_74 : decode cX10_build 74 = .ok (.iaload, 1) := by decide +kernel
theorem dX10_build_75 : decode cX10_build 75 = .ok (.iastore, 1) := by decide +kernel
theorem dX10_build_76 : decode cX10_build 76 = .ok (.aload_n 0, 1) := by decide +kernel
theorem dX10_build_77 : decode cX10_build 77 = .ok (.getfield 13, 3) := by decide +kernel
theorem dX10_build_80 : decode cX10_build 80 = .ok (.sipush 241, 3) := by decide +kernel
theorem dX10_build_83 : decode cX10_build 83 = .ok (.iload_n 3, 1) := by decide +kernel
theorem dX10_build_84 : decode cX10_build 84 = .ok (.iadd, 1) := by decide +kernel
theorem dX10_build_85 : decode cX10_build 85 = .ok (.aload_n 0, 1) := by decide +kernel
theorem dX10_build_86 : decode cX10_build 86 = .ok (.getfield 82, 3) := by decide +kernel
theorem dX10_build_89 : decode cX10_build 89 = .ok (.iload_n 3, 1) := by decide +kernel
theorem dX10_build_90 : decode cX10_build 90 = .ok (.iaload, 1) := by decide +kernel
theorem dX10_build_91 : decode cX10_build 91 = .ok (.iastore, 1) := by decide +kernel
theorem dX10_build_92 : decode cX10_build 92 = .ok (.iinc 3 1, 3) := by decide +kernel
theorem dX10_build_95 : decode cX10_build 95 = .ok (.goto (-56), 3) := by decide +kernel
theorem dX10_build_98 : decode cX10_build 98 = .ok (.iconst 0, 1) := by decide +kernel
theorem dX10_build_99 : decode cX10_build 99 = .ok (.istore_n 3, 1) := by decide +kernel
theorem dX10_build_100 : decode cX10_build 100 = .ok (.iload_n 3, 1) := by decide +kernel
theorem dX10_build_101 : decode cX10_build 101 = .ok (.aload_n 0, 1) := by decide +kernel
theorem dX10_build_102 : decode cX10_build 102 = .ok (.getfield 13, 3) := by decide +kernel
theorem dX10_build_105 : decode cX10_build 105 = .ok (.iconst 0, 1) := by decide +kernel
theorem dX10_build_106 : decode cX10_build 106 = .ok (.iaload, 1) := by decide +kernel
theorem dX10_build_107 : decode cX10_build 107 = .ok (.if_icmp .ge 28, 3) := by decide +kernel
theorem dX10_build_110 : decode cX10_build 110 = .ok (.aload_n 0, 1) := by decide +kernel
theorem dX10_build_111 : decode cX10_build 111 = .ok (.getfield 13, 3) := by decide +kernel
theorem dX10_build_114 : decode cX10_build 114 = .ok (.bipush 11, 2) := by decide +kernel
theorem dX10_build_116 : decode cX10_build 116 = .ok (.iconst 5, 1) := by decide +kernel
theorem dX10_build_117 : decode cX10_build 117 = .ok (.iload_n 3, 1) := by decide +kernel
theorem dX10_build_118 : decode cX10_build 118 = .ok (.imul, 1) := by decide +kernel
theorem dX10_build_119 : decode cX10_build 119 = .ok (.iadd, 1) := by decide +kernel
theorem dX10_build_120 : decode cX10_build 120 = .ok (.iconst 4, 1) := by decide +kernel
theorem dX10_build_121 : decode cX10_build 121 = .ok (.iadd, 1) := by decide +kernel
theorem dX10_build_122 : decode cX10_build 122 = .ok (.aload_n 0, 1) := by decide +kernel
theorem dX10_build_123 : decode cX10_build 123 = .ok (.getfield 85, 3) := by decide +kernel
theorem dX10_build_126 : decode cX10_build 126 = .ok (.iload_n 3, 1) := by decide +kernel
theorem dX10_build_127 : decode cX10_build 127 = .ok (.iaload, 1) := by decide +kernel
theorem dX10_build_128 : decode cX10_build 128 = .ok (.iastore, 1) := by decide +kernel
theorem dX10_build_129 : decode cX10_build 129 = .ok (.iinc 3 1, 3) := by decide +kernel
theorem dX10_build_132 : decode cX10_build 132 = .ok (.goto (-32), 3) := by decide +kernel
theorem dX10_build_135 : decode cX10_build 135 = .ok (.bipush 7, 2) := by decide +kernel
theorem dX10_build_137 : decode cX10_build 137 = .ok (.istore_n 3, 1) := by decide +kernel
theorem dX10_build_138 : decode cX10_build 138 = .ok (.iload_n 3, 1) := by decide +kernel
theorem dX10_build_139 : decode cX10_build 139 = .ok (.ifCond .lt 22, 3) := by decide +kernel
theorem dX10_build_142 : decode cX10_build 142 = .ok (.iload_n 1, 1) := by decide +kernel
theorem dX10_build_143 : decode cX10_build 143 = .ok (.iload_n 3, 1) := by decide +kernel
theorem dX10_build_144 : decode cX10_build 144 = .ok (.invokestatic 354, 3) := by decide +kernel
theorem dX10_build_147 : decode cX10_build 147 = .ok (.ifCond .eq 8, 3) := by decide +kernel
theorem dX10_build_150 : decode cX10_build 150 = .ok (.aload_n 0, 1) := by decide +kernel
theorem dX10_build_151 : decode cX10_build 151 = .ok (.iload_n 3, 1) := by decide +kernel
theorem dX10_build_152 : decode cX10_build 152 = .ok (.invokevirtual 449, 3) := by decide +kernel
theorem dX10_build_155 : decode cX10_build 155 = .ok (.iinc 3 (-1), 3) := by decide +kernel
theorem dX10_build_158 : decode cX10_build 158 = .ok (.goto (-20), 3) := by decide +kernel
theorem dX10_build_161 : decode cX10_build 161 = .ok (.aload_n 0, 1) := by decide +kernel
theorem dX10_build_162 : decode cX10_build 162 = .ok (.iload_n 2, 1) := by decide +kernel
theorem dX10_build_163 : decode cX10_build 163 = .ok (.ifCond .ge 7, 3) := by decide +kernel
theorem dX10_build_166 : decode cX10_build 166 = .ok (.iconst 0, 1) := by decide +kernel
theorem dX10_build_167 : decode cX10_build 167 = .ok (.goto 7, 3) := by decide +kernel
theorem dX10_build_170 : decode cX10_build 170 = .ok (.aload_n 0, 1) := by decide +kernel
theorem dX10_build_171 : decode cX10_build 171 = .ok (.invokevirtual 422, 3) := by decide +kernel
theorem dX10_build_174 : decode cX10_build 174 = .ok (.invokevirtual 117, 3) := by decide +kernel
theorem dX10_build_177 : decode cX10_build 177 = .ok (.ireturn, 1) := by decide +kernel
theorem dX10_place_0 : decode cX10_place 0 = .ok (.aload_n 0, 1) := by decide +kernel
theorem dX10_place_1 : decode cX10_place 1 = .ok (.iconst 0, 1) := by decide +kernel
theorem dX10_place_2 : decode cX10_place 2 = .ok (.putfield 103, 3) := by decide +kernel
theorem dX10_place_5 : decode cX10_place 5 = .ok (.iload_n 1, 1) := by decide +kernel
theorem dX10_place_6 : decode cX10_place 6 = .ok (.invokestatic 132, 3) := by decide +kernel
theorem dX10_place_9 : decode cX10_place 9 = .ok (.ifCond .ne 9, 3) := by decide +kernel
theorem dX10_place_12 : decode cX10_place 12 = .ok (.aload_n 0, 1) := by decide +kernel
theorem dX10_place_13 : decode cX10_place 13 = .ok (.iconst (-1), 1) := by decide +kernel
theorem dX10_place_14 : decode cX10_place 14 = .ok (.invokevirtual 117, 3) := by decide +kernel
theorem dX10_place_17 : decode cX10_place 17 = .ok (.ireturn, 1) := by decide +kernel
theorem dX10_place_18 : decode cX10_place 18 = .ok (.aload_n 0, 1) := by decide +kernel
theorem dX10_place_19 : decode cX10_place 19 = .ok (.iload_n 1, 1) := by decide +kernel
theorem dX10_place_20 : decode cX10_place 20 = .ok (.invokevirtual 148, 3) := by decide +kernel
theorem dX10_place_23 : decode cX10_place 23 = .ok (.ifCond .eq 11, 3) := by decide +kernel
theorem dX10_place_26 : decode cX10_place 26 = .ok (.aload_n 0, 1) := by decide +kernel
theorem dX10_place_27 : decode cX10_place 27 = .ok (.iload_n 1, 1) := by decide +kernel
theorem dX10_place_28 : decode cX10_place 28 = .ok (.invokevirtual 154, 3) := by decide +kernel
theorem dX10_place_31 : decode cX10_place 31 = .ok (.ifCond .eq 10, 3) := by decide +kernel
theorem dX10_place_34 : decode cX10_place 34 = .ok (.aload_n 0, 1) := by decide +kernel
theorem dX10_place_35 : decode cX10_place 35 = .ok (.bipush (-3), 2) := by decide +kernel
theorem dX10_place_37 : decode cX10_place 37 = .ok (.invokevirtual 117, 3) := by decide +kernel
theorem dX10_place_40 : decode cX10_place 40 = .ok (.ireturn, 1) := by decide +kernel
theorem dX10_place_41 : decode cX10_place 41 = .ok (.aload_n 0, 1) := by decide +kernel
theorem dX10_place_42 : decode cX10_place 42 = .ok (.getfield 13, 3) := by decide +kernel
theorem dX10_place_45 : decode cX10_place 45 = .ok (.iconst 4, 1) := by decide +kernel
theorem dX10_place_46 : decode cX10_place 46 = .ok (.iaload, 1) := by decide +kernel
theorem dX10_place_47 : decode cX10_place 47 = .ok (.istore_n 2, 1) := by decide +kernel
theorem dX10_place_48 : decode cX10_place 48 = .ok (.iload_n 2, 1) := by decide +kernel
theorem dX10_place_49 : decode cX10_place 49 = .ok (.bipush 12, 2) := by decide +kernel
theorem dX10_place_51 : decode cX10_place 51 = .ok (.if_icmp .ne 10, 3) := by decide +kernel
theorem dX10_place_54 : decode cX10_place 54 = .ok (.aload_n 0, 1) := by decide +kernel
theorem dX10_place_55 : decode cX10_place 55 = .ok (.bipush (-5), 2) := by decide +kernel
theorem dX10_place_57 : decode cX10_place 57 = .ok (.invokevirtual 117, 3) := by decide +kernel
theorem dX10_place_60 : decode cX10_place 60 = .ok (.ireturn, 1) := by decide +kernel
theorem dX10_place_61 : decode cX10_place 61 = .ok (.aload_n 0, 1) := by decide +kernel
theorem dX10_place_62 : decode cX10_place 62 = .ok (.getfield 13, 3) := by decide +kernel
theorem dX10_place_65 : decode cX10_place 65 = .ok (.sipush 413, 3) := by decide +kernel
theorem dX10_place_68 : decode cX10_place 68 = .ok (.iload_n 2, 1) := by decide +kernel
theorem dX10_place_69 : decode cX10_place 69 = .ok (.iadd, 1) := by decide +kernel
theorem dX10_place_70 : decode cX10_place 70 = .ok (.iload_n 1, 1) := by decide +kernel
theorem dX10_place_71 : decode cX10_place 71 = .ok (.iastore, 1) := by decide +kernel
theorem dX10_place_72 : decode cX10_place 72 = .ok (.aload_n 0, 1) := by decide +kernel
theorem dX10_place_73 : decode cX10_place 73 = .ok (.getfield 13, 3) := by decide +kernel
theorem dX10_place_76 : decode cX10_place 76 = .ok (.iconst 4, 1) := by decide +kernel
theorem dX10_place_77 : decode cX10_place 77 = .ok (.dup2, 1) := by decide +kernel
theorem dX10_place_78 : decode cX10_place 78 = .ok (.iaload, 1) := by decide +kernel
theorem dX10_place_79 : decode cX10_place 79 = .ok (.iconst 1, 1) := by decide +kernel
theorem dX10_place_80 : decode cX10_place 80 = .ok (.iadd, 1) := by decide +kernel
theorem dX10_place_81 : decode cX10_place 81 = .ok (.iastore, 1) := by decide +kernel
theorem dX10_place_82 : decode cX10_place 82 = .ok (.aload_n 0, 1) := by decide +kernel
theorem dX10_place_83 : decode cX10_place 83 = .ok (.iload_n 2, 1) := by decide +kernel
theorem dX10_place_84 : decode cX10_place 84 = .ok (.invokevirtual 117, 3) := by decide +kernel
theorem dX10_place_87 : decode cX10_place 87 = .ok (.ireturn, 1) := by decide +kernel
theorem dX10_isNear_0 : decode cX10_isNear 0 = .ok (.iload_n 0, 1) := by decide +kernel
theorem dX10_isNear_1 : decode cX10_isNear 1 = .ok (.bipush 10, 2) := by decide +kernel
theorem dX10_isNear_3 : decode cX10_isNear 3 = .ok (.irem, 1) := by decide +kernel
theorem dX10_isNear_4 : decode cX10_isNear 4 = .ok (.iload_n 1, 1) := by decide +kernel
theorem dX10_isNear_5 : decode cX10_isNear 5 = .ok (.bipush 10, 2) := by decide +kernel
theorem dX10_isNear_7 : decode cX10_isNear 7 = .ok (.irem, 1) := by decide +kernel
theorem dX10_isNear_8 : decode cX10_isNear 8 = .ok (.isub, 1) := by decide +kernel
theorem dX10_isNear_9 : decode cX10_isNear 9 = .ok (.istore_n 2, 1) := by decide +kernel
theorem dX10_isNear_10 : decode cX10_isNear 10 = .ok (.iload_n 0, 1) := by decide +kernel
theorem dX10_isNear_11 : decode cX10_isNear 11 = .ok (.bipush 10, 2) := by decide +kernel
theorem dX10_isNear_13 : decode cX10_isNear 13 = .ok (.idiv, 1) := by decide +kernel
theorem dX10_isNear_14 : decode cX10_isNear 14 = .ok (.iload_n 1, 1) := by decide +kernel
theorem dX10_isNear_15 : decode cX10_isNear 15 = .ok (.bipush 10, 2) := by decide +kernel
theorem dX10_isNear_17 : decode cX10_isNear 17 = .ok (.idiv, 1) := by decide +kernel
theorem dX10_isNear_18 : decode cX10_isNear 18 = .ok (.isub, 1) := by decide +kernel
theorem dX10_isNear_19 : decode cX10_isNear 19 = .ok (.istore_n 3, 1) := by decide +kernel
theorem dX10_isNear_20 : decode cX10_isNear 20 = .ok (.iload_n 2, 1) := by decide +kernel
theorem dX10_isNear_21 : decode cX10_isNear 21 = .ok (.ifCond .ge 8, 3) := by decide +kernel
theorem dX10_isNear_24 : decode cX10_isNear 24 = .ok (.iload_n 2, 1) := by decide +kernel
theorem dX10_isNear_25 : decode cX10_isNear 25 = .ok (.ineg, 1) := by decide +kernel
theorem dX10_isNear_26 : decode cX10_isNear 26 = .ok (.goto 4, 3) := by decide +kernel
theorem dX10_isNear_29 : decode cX10_isNear 29 = .ok (.iload_n 2, 1) := by decide +kernel
theorem dX10_isNear_30 : decode cX10_isNear 30 = .ok (.iload_n 3, 1) := by decide +kernel
theorem dX10_isNear_31 : decode cX10_isNear 31 = .ok (.ifCond .ge 8, 3) := by decide +kernel
theorem dX10_isNear_34 : decode cX10_isNear 34 = .ok (.iload_n 3, 1) := by decide +kernel
theorem dX10_isNear_35 : decode cX10_isNear 35 = .ok (.ineg, 1) := by decide +kernel
theorem dX10_isNear_36 : decode cX10_isNear 36 = .ok (.goto 4, 3) := by decide +kernel
theorem dX10_isNear_39 : decode cX10_isNear 39 = .ok (.iload_n 3, 1) := by decide +kernel
theorem dX10_isNear_40 : decode cX10_isNear 40 = .ok (.iadd, 1) := by decide +kernel
theorem dX10_isNear_41 : decode cX10_isNear 41 = .ok (.iconst 3, 1) := by decide +kernel
theorem dX10_isNear_42 : decode cX10_isNear 42 = .ok (.if_icmp .gt 7, 3) := by decide +kernel
theorem dX10_isNear_45 : decode cX10_isNear 45 = .ok (.iconst 1, 1) := by decide +kernel
theorem dX10_isNear_46 : decode cX10_isNear 46 = .ok (.goto 4, 3) := by decide +kernel
theorem dX10_isNear_49 : decode cX10_isNear 49 = .ok (.iconst 0, 1) := by decide +kernel
theorem dX10_isNear_50 : decode cX10_isNear 50 = .ok (.ireturn, 1) := by decide +kernel
theorem dX10_isWatched_0 : decode cX10_isWatched 0 = .ok (.iconst 1, 1) := by decide +kernel
theorem dX10_isWatched_1 : decode cX10_isWatched 1 = .ok (.istore_n 2, 1) := by decide +kernel
theorem dX10_isWatched_2 : decode cX10_isWatched 2 = .ok (.iconst 0, 1) := by decide +kernel
theorem dX10_isWatched_3 : decode cX10_isWatched 3 = .ok (.istore_n 3, 1) := by decide +kernel
theorem dX10_isWatched_4 : decode cX10_isWatched 4 = .ok (.iload_n 3, 1) := by decide +kernel
theorem dX10_isWatched_5 : decode cX10_isWatched 5 = .ok (.bipush 100, 2) := by decide +kernel
theorem dX10_isWatched_7 : decode cX10_isWatched 7 = .ok (.if_icmp .ge 91, 3) := by decide +kernel
theorem dX10_isWatched_10 : decode cX10_isWatched 10 = .ok (.iload_n 2, 1) := by decide +kernel
theorem dX10_isWatched_11 : decode cX10_isWatched 11 = .ok (.ifCond .eq 87, 3) := by decide +kernel
theorem dX10_isWatched_14 : decode cX10_isWatched 14 = .ok (.aload_n 0, 1) := by decide +kernel
theorem dX10_isWatched_15 : decode cX10_isWatched 15 = .ok (.getfield 91, 3) := by decide +kernel
theorem dX10_isWatched_18 : decode cX10_isWatched 18 = .ok (.iload_n 3, 1) := by decide +kernel
theorem dX10_isWatched_19 : decode cX10_isWatched 19 = .ok (.baload, 1) := by decide +kernel
theorem dX10_isWatched_20 : decode cX10_isWatched 20 = .ok (.ifCond .ne 7, 3) := by decide +kernel
theorem dX10_isWatched_23 : decode cX10_isWatched 23 = .ok (.iconst 1, 1) := by decide +kernel
theorem dX10_isWatched_24 : decode cX10_isWatched 24 = .ok (.goto 4, 3) := by decide +kernel
theorem dX10_isWatched_27 : decode cX10_isWatched 27 = .ok (.iconst 0, 1) := by decide +kernel
theorem dX10_isWatched_28 : decode cX10_isWatched 28 = .ok (.istore 4, 2) := by decide +kernel
theorem dX10_isWatched_30 : decode cX10_isWatched 30 = .ok (.iconst 0, 1) := by decide +kernel
theorem dX10_isWatched_31 : decode cX10_isWatched 31 = .ok (.istore 5, 2) := by decide +kernel
theorem dX10_isWatched_33 : decode cX10_isWatched 33 = .ok (.iload 5, 2) := by decide +kernel
theorem dX10_isWatched_35 : decode cX10_isWatched 35 = .ok (.aload_n 0, 1) := by decide +kernel
theorem dX10_isWatched_36 : decode cX10_isWatched 36 = .ok (.getfield 13, 3) := by decide +kernel
theorem dX10_isWatched_39 : decode cX10_isWatched 39 = .ok (.iconst 4, 1) := by decide +kernel
theorem dX10_isWatched_40 : decode cX10_isWatched 40 = .ok (.iaload, 1) := by decide +kernel
theorem dX10_isWatched_41 : decode cX10_isWatched 41 = .ok (.if_icmp .ge 48, 3) := by decide +kernel
theorem dX10_isWatched_44 : decode cX10_isWatched 44 = .ok (.iload 4, 2) := by decide +kernel
theorem dX10_isWatched_46 : decode cX10_isWatched 46 = .ok (.ifCond .ne 30, 3) := by decide +kernel
theorem dX10_isWatched_49 : decode cX10_isWatched 49 = .ok (.iload_n 1, 1) := by decide +kernel
theorem dX10_isWatched_50 : decode cX10_isWatched 50 = .ok (.iload 5, 2) := by decide +kernel
theorem dX10_isWatched_52 : decode cX10_isWatched 52 = .ok (.invokestatic 354, 3) := by decide +kernel
theorem dX10_isWatched_55 : decode cX10_isWatched 55 = .ok (.ifCond .eq 25, 3) := by decide +kernel
theorem dX10_isWatched_58 : decode cX10_isWatched 58 = .ok (.aload_n 0, 1) := by decide +kernel
theorem dX10_isWatched_59 : decode cX10_isWatched 59 = .ok (.getfield 13, 3) := by decide +kernel
theorem dX10_isWatched_62 : decode cX10_isWatched 62 = .ok (.sipush 413, 3) := by decide +kernel
theorem dX10_isWatched_65 : decode cX10_isWatched 65 = .ok (.iload 5, 2) := by decide +kernel
theorem dX10_isWatched_67 : decode cX10_isWatched 67 = .ok (.iadd, 1) := by decide +kernel
theorem dX10_isWatched_68 : decode cX10_isWatched 68 = .ok (.iaload, 1) := by decide +kernel
theorem dX10_isWatched_69 : decode cX10_isWatched 69 = .ok (.iload_n 3, 1) := by decide +kernel
theorem dX10_isWatched_70 : decode cX10_isWatched 70 = .ok (.invokestatic 461, 3) := by decide +kernel
theorem dX10_isWatched_73 : decode cX10_isWatched 73 = .ok (.ifCond .eq 7, 3) := by decide +kernel
theorem dX10_isWatched_76 : decode cX10_isWatched 76 = .ok (.iconst 1, 1) := by decide +kernel
theorem dX10_isWatched_77 : decode cX10_isWatched 77 = .ok (.goto 4, 3) := by decide +kernel
theorem dX10_isWatched_80 : decode cX10_isWatched 80 = .ok (.iconst 0, 1) := by decide +kernel
theorem dX10_isWatched_81 : decode cX10_isWatched 81 = .ok (.istore 4, 2) := by decide +kernel
theorem dX10_isWatched_83 : decode cX10_isWatched 83 = .ok (.iinc 5 1, 3) := by decide +kernel
theorem dX10_isWatched_86 : decode cX10_isWatched 86 = .ok (.goto (-53), 3) := by decide +kernel
theorem dX10_isWatched_89 : decode cX10_isWatched 89 = .ok (.iload 4, 2) := by decide +kernel
theorem dX10_isWatched_91 : decode cX10_isWatched 91 = .ok (.istore_n 2, 1) := by decide +kernel
theorem dX10_isWatched_92 : decode cX10_isWatched 92 = .ok (.iinc 3 1, 3) := by decide +kernel
theorem dX10_isWatched_95 : decode cX10_isWatched 95 = .ok (.goto (-91), 3) := by decide +kernel
theorem dX10_isWatched_98 : decode cX10_isWatched 98 = .ok (.iload_n 2, 1) := by decide +kernel
theorem dX10_isWatched_99 : decode cX10_isWatched 99 = .ok (.ireturn, 1) := by decide +kernel
theorem dX10_glass_0 : decode cX10_glass 0 = .ok (.aload_n 0, 1) := by decide +kernel
theorem dX10_glass_1 : decode cX10_glass 1 = .ok (.iconst 0, 1) := by decide +kernel
theorem dX10_glass_2 : decode cX10_glass 2 = .ok (.putfield 103, 3) := by decide +kernel
theorem dX10_glass_5 : decode cX10_glass 5 = .ok (.iload_n 1, 1) := by decide +kernel
theorem dX10_glass_6 : decode cX10_glass 6 = .ok (.i2l, 1) := by decide +kernel
theorem dX10_glass_7 : decode cX10_glass 7 = .ok (.lconst 0, 1) := by decide +kernel
theorem dX10_glass_8 : decode cX10_glass 8 = .ok (.ldc2_w 171, 3) := by decide +kernel
theorem dX10_glass_11 : decode cX10_glass 11 = .ok (.invokestatic 113, 3) := by decide +kernel
theorem dX10_glass_14 : decode cX10_glass 14 = .ok (.ifCond .ne 5, 3) := by decide +kernel
theorem dX10_glass_17 : decode cX10_glass 17 = .ok (.iconst (-1), 1) := by decide +kernel
theorem dX10_glass_18 : decode cX10_glass 18 = .ok (.ireturn, 1) := by decide +kernel
theorem dX10_glass_19 : decode cX10_glass 19 = .ok (.aload_n 0, 1) := by decide +kernel
theorem dX10_glass_20 : decode cX10_glass 20 = .ok (.invokevirtual 405, 3) := by decide +kernel
theorem dX10_glass_23 : decode cX10_glass 23 = .ok (.aload_n 0, 1) := by decide +kernel
theorem dX10_glass_24 : decode cX10_glass 24 = .ok (.invokevirtual 425, 3) := by decide +kernel
theorem dX10_glass_27 : decode cX10_glass 27 = .ok (.iconst (-1), 1) := by decide +kernel
theorem dX10_glass_28 : decode cX10_glass 28 = .ok (.istore_n 2, 1) := by decide +kernel
theorem dX10_glass_29 : decode cX10_glass 29 = .ok (.iconst 0, 1) := by decide +kernel
theorem dX10_glass_30 : decode cX10_glass 30 = .ok (.istore_n 3, 1) := by decide +kernel
theorem dX10_glass_31 : decode cX10_glass 31 = .ok (.iconst (-1), 1) := by decide +kernel
theorem dX10_glass_32 : decode cX10_glass 32 = .ok (.istore 4, 2) := by decide +kernel
theorem dX10_glass_34 : decode cX10_glass 34 = .ok (.iconst 0, 1) := by decide +kernel
theorem dX10_glass_35 : decode cX10_glass 35 = .ok (.istore 5, 2) := by decide +kernel
theorem dX10_glass_37 : decode cX10_glass 37 = .ok (.iload 5, 2) := by decide +kernel
theorem dX10_glass_39 : decode cX10_glass 39 = .ok (.iconst 1, 1) := by decide +kernel
theorem dX10_glass_40 : decode cX10_glass 40 = .ok (.aload_n 0, 1) := by decide +kernel
theorem dX10_glass_41 : decode cX10_glass 41 = .ok (.getfield 13, 3) := by decide +kernel
theorem dX10_glass_44 : decode cX10_glass 44 = .ok (.iconst 4, 1) := by decide +kernel
theorem dX10_glass_45 : decode cX10_glass 45 = .ok (.iaload, 1) := by decide +kernel
theorem dX10_glass_46 : decode cX10_glass 46 = .ok (.ishl, 1) := by decide +kernel
theorem dX10_glass_47 : decode cX10_glass 47 = .ok (.if_icmp .ge 84, 3) := by decide +kernel
theorem dX10_glass_50 : decode cX10_glass 50 = .ok (.iload 5, 2) := by decide +kernel
theorem dX10_glass_52 : decode cX10_glass 52 = .ok (.invokestatic 435, 3) := by decide +kernel
theorem dX10_glass_55 : decode cX10_glass 55 = .ok (.istore 6, 2) := by decide +kernel
theorem dX10_glass_57 : decode cX10_glass 57 = .ok (.iload_n 2, 1) := by decide +kernel
theorem dX10_glass_58 : decode cX10_glass 58 = .ok (.iconst (-1), 1) := by decide +kernel
theorem dX10_glass_59 : decode cX10_glass 59 = .ok (.if_icmp .eq 9, 3) := by decide +kernel
theorem dX10_glass_62 : decode cX10_glass 62 = .ok (.iload 6, 2) := by decide +kernel
theorem dX10_glass_64 : decode cX10_glass 64 = .ok (.iload_n 2, 1) := by decide +kernel
theorem dX10_glass_65 : decode cX10_glass 65 = .ok (.if_icmp .gt 60, 3) := by decide +kernel
theorem dX10_glass_68 : decode cX10_glass 68 = .ok (.aload_n 0, 1) := by decide +kernel
theorem dX10_glass_69 : decode cX10_glass 69 = .ok (.iload 5, 2) := by decide +kernel
theorem dX10_glass_71 : decode cX10_glass 71 = .ok (.invokevirtual 464, 3) := by decide +kernel
theorem dX10_glass_74 : decode cX10_glass 74 = .ok (.ifCond .eq 51, 3) := by decide +kernel
theorem dX10_glass_77 : decode cX10_glass 77 = .ok (.iload_n 2, 1) := by decide +kernel
theorem dX10_glass_78 : decode cX10_glass 78 = .ok (.iconst (-1), 1) := by decide +kernel
theorem dX10_glass_79 : decode cX10_glass 79 = .ok (.if_icmp .eq 9, 3) := by decide +kernel
theorem dX10_glass_82 : decode cX10_glass 82 = .ok (.iload 6, 2) := by decide +kernel
theorem dX10_glass_84 : decode cX10_glass 84 = .ok (.iload_n 2, 1) := by decide +kernel
theorem dX10_glass_85 : decode cX10_glass 85 = .ok (.if_icmp .ge 7, 3) := by decide +kernel
theorem dX10_glass_88 : decode cX10_glass 88 = .ok (.iconst 1, 1) := by decide +kernel
theorem dX10_glass_89 : decode cX10_glass 89 = .ok (.goto 4, 3) := by decide +kernel
theorem dX10_glass_92 : decode cX10_glass 92 = .ok (.iconst 0, 1) := by decide +kernel
theorem dX10_glass_93 : decode cX10_glass 93 = .ok (.istore 7, 2) := by decide +kernel
theorem dX10_glass_95 : decode cX10_glass 95 = .ok (.iload 7, 2) := by decide +kernel
theorem dX10_glass_97 : decode cX10_glass 97 = .ok (.ifCond .eq 7, 3) := by decide +kernel
theorem dX10_glass_100 : decode cX10_glass 100 = .ok (.iconst 1, 1) := by decide +kernel
theorem dX10_glass_101 : decode cX10_glass 101 = .ok (.goto 6, 3) := by decide +kernel
theorem dX10_glass_104 : decode cX10_glass 104 = .ok (.iload_n 3, 1) := by decide +kernel
theorem dX10_glass_105 : decode cX10_glass 105 = .ok (.iconst 1, 1) := by decide +kernel
theorem dX10_glass_106 : decode cX10_glass 106 = .ok (.iadd, 1) := by decide +kernel
theorem dX10_glass_107 : decode cX10_glass 107 = .ok (.istore_n 3, 1) := by decide +kernel
theorem dX10_glass_108 : decode cX10_glass 108 = .ok (.iload 7, 2) := by decide +kernel
theorem dX10_glass_110 : decode cX10_glass 110 = .ok (.ifCond .eq 8, 3) := by decide +kernel
theorem dX10_glass_113 : decode cX10_glass 113 = .ok (.iload 5, 2) := by decide +kernel
theorem dX10_glass_115 : decode cX10_glass 115 = .ok (.goto 5, 3) := by decide +kernel
theorem dX10_glass_118 : decode cX10_glass 118 = .ok (.iload 4, 2) := by decide +kernel
theorem dX10_glass_120 : decode cX10_glass 120 = .ok (.istore 4, 2) := by decide +kernel
theorem dX10_glass_122 : decode cX10_glass 122 = .ok (.iload 6, 2) := by decide +kernel
theorem dX10_glass_124 : decode cX10_glass 124 = .ok (.istore_n 2, 1) := by decide +kernel
theorem dX10_glass_125 : decode cX10_glass 125 = .ok (.iinc 5 1, 3) := by decide +kernel
theorem dX10_glass_128 : decode cX10_glass 128 = .ok (.goto (-91), 3) := by decide +kernel
theorem dX10_glass_131 : decode cX10_glass 131 = .ok (.iload_n 1, 1) := by decide +kernel
theorem dX10_glass_132 : decode cX10_glass 132 = .ok (.ifCond .ne 7, 3) := by decide +kernel
theorem dX10_glass_135 : decode cX10_glass 135 = .ok (.iload_n 2, 1) := by decide +kernel
theorem dX10_glass_136 : decode cX10_glass 136 = .ok (.goto 14, 3) := by decide +kernel
theorem dX10_glass_139 : decode cX10_glass 139 = .ok (.iload_n 1, 1) := by decide +kernel
theorem dX10_glass_140 : decode cX10_glass 140 = .ok (.iconst 1, 1) := by decide +kernel
theorem dX10_glass_141 : decode cX10_glass 141 = .ok (.if_icmp .ne 8, 3) := by decide +kernel
theorem dX10_glass_144 : decode cX10_glass 144 = .ok (.iload 4, 2) := by decide +kernel
theorem dX10_glass_146 : decode cX10_glass 146 = .ok (.goto 4, 3) := by decide +kernel
theorem dX10_glass_149 : decode cX10_glass 149 = .ok (.iload_n 3, 1) := by decide +kernel
theorem dX10_glass_150 : decode cX10_glass 150 = .ok (.ireturn, 1) := by decide +kernel
theorem dX10_blown_0 : decode cX10_blown 0 = .ok (.aload_n 0, 1) := by decide +kernel
theorem dX10_blown_1 : decode cX10_blown 1 = .ok (.iload_n 1, 1) := by decide +kernel
theorem dX10_blown_2 : decode cX10_blown 2 = .ok (.iload_n 2, 1) := by decide +kernel
theorem dX10_blown_3 : decode cX10_blown 3 = .ok (.invokevirtual 408, 3) := by decide +kernel
theorem dX10_blown_6 : decode cX10_blown 6 = .ok (.istore 4, 2) := by decide +kernel
theorem dX10_blown_8 : decode cX10_blown 8 = .ok (.iconst 0, 1) := by decide +kernel
theorem dX10_blown_9 : decode cX10_blown 9 = .ok (.istore 5, 2) := by decide +kernel
theorem dX10_blown_11 : decode cX10_blown 11 = .ok (.iload 5, 2) := by decide +kernel
theorem dX10_blown_13 : decode cX10_blown 13 = .ok (.bipush 10, 2) := by decide +kernel
theorem dX10_blown_15 : decode cX10_blown 15 = .ok (.if_icmp .ge 24, 3) := by decide +kernel
theorem dX10_blown_18 : decode cX10_blown 18 = .ok (.iload 5, 2) := by decide +kernel
theorem dX10_blown_20 : decode cX10_blown 20 = .ok (.iload 4, 2) := by decide +kernel
theorem dX10_blown_22 : decode cX10_blown 22 = .ok (.imul, 1) := by decide +kernel
theorem dX10_blown_23 : decode cX10_blown 23 = .ok (.bipush 100, 2) := by decide +kernel
theorem dX10_blown_25 : decode cX10_blown 25 = .ok (.iload_n 3, 1) := by decide +kernel
theorem dX10_blown_26 : decode cX10_blown 26 = .ok (.imul, 1) := by decide +kernel
theorem dX10_blown_27 : decode cX10_blown 27 = .ok (.if_icmp .le 6, 3) := by decide +kernel
theorem dX10_blown_30 : decode cX10_blown 30 = .ok (.iload 5, 2) := by decide +kernel
theorem dX10_blown_32 : decode cX10_blown 32 = .ok (.ireturn, 1) := by decide +kernel
theorem dX10_blown_33 : decode cX10_blown 33 = .ok (.iinc 5 1, 3) := by decide +kernel
theorem dX10_blown_36 : decode cX10_blown 36 = .ok (.goto (-25), 3) := by decide +kernel
theorem dX10_blown_39 : decode cX10_blown 39 = .ok (.iconst (-1), 1) := by decide +kernel
theorem dX10_blown_40 : decode cX10_blown 40 = .ok (.ireturn, 1) := by decide +kernel
theorem dX10_salt_0 : decode cX10_salt 0 = .ok (.aload_n 0, 1) := by decide +kernel
theorem dX10_salt_1 : decode cX10_salt 1 = .ok (.iconst 0, 1) := by decide +kernel
theorem dX10_salt_2 : decode cX10_salt 2 = .ok (.putfield 103, 3) := by decide +kernel
theorem dX10_salt_5 : decode cX10_salt 5 = .ok (.iload_n 1, 1) := by decide +kernel
theorem dX10_salt_6 : decode cX10_salt 6 = .ok (.iconst (-1), 1) := by decide +kernel
theorem dX10_salt_7 : decode cX10_salt 7 = .ok (.if_icmp .eq 11, 3) := by decide +kernel
theorem dX10_salt_10 : decode cX10_salt 10 = .ok (.aload_n 0, 1) := by decide +kernel
theorem dX10_salt_11 : decode cX10_salt 11 = .ok (.iload_n 1, 1) := by decide +kernel
theorem dX10_salt_12 : decode cX10_salt 12 = .ok (.invokevirtual 148, 3) := by decide +kernel
theorem dX10_salt_15 : decode cX10_salt 15 = .ok (.ifCond .eq 22, 3) := by decide +kernel
theorem dX10_salt_18 : decode cX10_salt 18 = .ok (.iload_n 2, 1) := by decide +kernel
theorem dX10_salt_19 : decode cX10_salt 19 = .ok (.invokestatic 178, 3) := by decide +kernel
theorem dX10_salt_22 : decode cX10_salt 22 = .ok (.ifCond .eq 15, 3) := by decide +kernel
theorem dX10_salt_25 : decode cX10_salt 25 = .ok (.iload_n 3, 1) := by decide +kernel
theorem dX10_salt_26 : decode cX10_salt 26 = .ok (.i2l, 1) := by decide +kernel
theorem dX10_salt_27 : decode cX10_salt 27 = .ok (.lconst 0, 1) := by decide +kernel
theorem dX10_salt_28 : decode cX10_salt 28 = .ok (.ldc2_w 176, 3) := by decide +kernel
theorem dX10_salt_31 : decode cX10_salt 31 = .ok (.invokestatic 113, 3) := by decide +kernel
theorem dX10_salt_34 : decode cX10_salt 34 = .ok (.ifCond .ne 5, 3) := by decide +kernel
theorem dX10_salt_37 : decode cX10_salt 37 = .ok (.iconst (-1), 1) := by decide +kernel
theorem dX10_salt_38 : decode cX10_salt 38 = .ok (.ireturn, 1) := by decide +kernel
theorem dX10_salt_39 : decode cX10_salt 39 = .ok (.aload_n 0, 1) := by decide +kernel
theorem dX10_salt_40 : decode cX10_salt 40 = .ok (.invokevirtual 405, 3) := by decide +kernel
theorem dX10_salt_43 : decode cX10_salt 43 = .ok (.iload_n 1, 1) := by decide +kernel
theorem dX10_salt_44 : decode cX10_salt 44 = .ok (.iconst (-1), 1) := by decide +kernel
theorem dX10_salt_45 : decode cX10_salt 45 = .ok (.if_icmp .eq 11, 3) := by decide +kernel
theorem dX10_salt_48 : decode cX10_salt 48 = .ok (.aload_n 0, 1) := by decide +kernel
theorem dX10_salt_49 : decode cX10_salt 49 = .ok (.iload_n 1, 1) := by decide +kernel
theorem dX10_salt_50 : decode cX10_salt 50 = .ok (.iload_n 2, 1) := by decide +kernel
theorem dX10_salt_51 : decode cX10_salt 51 = .ok (.iload_n 3, 1) := by decide +kernel
theorem dX10_salt_52 : decode cX10_salt 52 = .ok (.invokevirtual 467, 3) := by decide +kernel
theorem dX10_salt_55 : decode cX10_salt 55 = .ok (.ireturn, 1) := by decide +kernel
theorem dX10_salt_56 : decode cX10_salt 56 = .ok (.iconst 0, 1) := by decide +kernel
theorem dX10_salt_57 : decode cX10_salt 57 = .ok (.istore 4, 2) := by decide +kernel
theorem dX10_salt_59 : decode cX10_salt 59 = .ok (.iconst 0, 1) := by decide +kernel
theorem dX10_salt_60 : decode cX10_salt 60 = .ok (.istore 5, 2) := by decide +kernel
theorem dX10_salt_62 : decode cX10_salt 62 = .ok (.iload 5, 2) := by decide +kernel
theorem dX10_salt_64 : decode cX10_salt 64 = .ok (.bipush 100, 2) := by decide +kernel
theorem dX10_salt_66 : decode cX10_salt 66 = .ok (.if_icmp .ge 42, 3) := by decide +kernel
theorem dX10_salt_69 : decode cX10_salt 69 = .ok (.iload 4, 2) := by decide +kernel
theorem dX10_salt_71 : decode cX10_salt 71 = .ok (.aload_n 0, 1) := by decide +kernel
theorem dX10_salt_72 : decode cX10_salt 72 = .ok (.getfield 73, 3) := by decide +kernel
theorem dX10_salt_75 : decode cX10_salt 75 = .ok (.iload 5, 2) := by decide +kernel
theorem dX10_salt_77 : decode cX10_salt 77 = .ok (.iaload, 1) := by decide +kernel
theorem dX10_salt_78 : decode cX10_salt 78 = .ok (.iconst (-1), 1) := by decide +kernel
theorem dX10_salt_79 : decode cX10_salt 79 = .ok (.if_icmp .ne 19, 3) := by decide +kernel
theorem dX10_salt_82 : decode cX10_salt 82 = .ok (.aload_n 0, 1) := by decide +kernel
theorem dX10_salt_83 : decode cX10_salt 83 = .ok (.iload 5, 2) := by decide +kernel
theorem dX10_salt_85 : decode cX10_salt 85 = .ok (.iload_n 2, 1) := by decide +kernel
theorem dX10_salt_86 : decode cX10_salt 86 = .ok (.iload_n 3, 1) := by decide +kernel
theorem dX10_salt_87 : decode cX10_salt 87 = .ok (.invokevirtual 467, 3) := by decide +kernel
theorem dX10_salt_90 : decode cX10_salt 90 = .ok (.iconst (-1), 1) := by decide +kernel
theorem dX10_salt_91 : decode cX10_salt 91 = .ok (.if_icmp .eq 7, 3) := by decide +kernel
theorem dX10_salt_94 : decode cX10_salt 94 = .ok (.iconst 1, 1) := by decide +kernel
theorem dX10_salt_95 : decode cX10_salt 95 = .ok (.goto 4, 3) := by decide +kernel
theorem dX10_salt_98 : decode cX10_salt 98 = .ok (.iconst 0, 1) := by decide +kernel
theorem dX10_salt_99 : decode cX10_salt 99 = .ok (.iadd, 1) := by decide +kernel
theorem dX10_salt_100 : decode cX10_salt 100 = .ok (.istore 4, 2) := by decide +kernel
theorem dX10_salt_102 : decode cX10_salt 102 = .ok (.iinc 5 1, 3) := by decide +kernel
theorem dX10_salt_105 : decode cX10_salt 105 = .ok (.goto (-43), 3) := by decide +kernel
theorem dX10_salt_108 : decode cX10_salt 108 = .ok (.iload 4, 2) := by decide +kernel
theorem dX10_salt_110 : decode cX10_salt 110 = .ok (.ireturn, 1) := by decide +kernel
theorem dX10_common_0 : decode cX10_common 0 = .ok (.iload_n 0, 1) := by decide +kernel
theorem dX10_common_1 : decode cX10_common 1 = .ok (.istore_n 2, 1) := by decide +kernel
theorem dX10_common_2 : decode cX10_common 2 = .ok (.iload_n 1, 1) := by decide +kernel
theorem dX10_common_3 : decode cX10_common 3 = .ok (.istore_n 3, 1) := by decide +kernel
theorem dX10_common_4 : decode cX10_common 4 = .ok (.iload_n 3, 1) := by decide +kernel
theorem dX10_common_5 : decode cX10_common 5 = .ok (.ifCond .eq 16, 3) := by decide +kernel
theorem dX10_common_8 : decode cX10_common 8 = .ok (.iload_n 2, 1) := by decide +kernel
theorem dX10_common_9 : decode cX10_common 9 = .ok (.iload_n 3, 1) := by decide +kernel
theorem dX10_common_10 : decode cX10_common 10 = .ok (.irem, 1) := by decide +kernel
theorem dX10_common_11 : decode cX10_common 11 = .ok (.istore 4, 2) := by decide +kernel
theorem dX10_common_13 : decode cX10_common 13 = .ok (.iload_n 3, 1) := by decide +kernel
theorem dX10_common_14 : decode cX10_common 14 = .ok (.istore_n 2, 1) := by decide +kernel
theorem dX10_common_15 : decode cX10_common 15 = .ok (.iload 4, 2) := by decide +kernel
theorem dX10_common_17 : decode cX10_common 17 = .ok (.istore_n 3, 1) := by decide +kernel
theorem dX10_common_18 : decode cX10_common 18 = .ok (.goto (-14), 3) := by decide +kernel
theorem dX10_common_21 : decode cX10_common 21 = .ok (.iload_n 2, 1) := by decide +kernel
theorem dX10_common_22 : decode cX10_common 22 = .ok (.ireturn, 1) := by decide +kernel
theorem dX10_odds_0 : decode cX10_odds 0 = .ok (.aload_n 0, 1) := by decide +kernel
theorem dX10_odds_1 : decode cX10_odds 1 = .ok (.iconst 0, 1) := by decide +kernel
theorem dX10_odds_2 : decode cX10_odds 2 = .ok (.putfield 103, 3) := by decide +kernel
theorem dX10_odds_5 : decode cX10_odds 5 = .ok (.aload_n 0, 1) := by decide +kernel
theorem dX10_odds_6 : decode cX10_odds 6 = .ok (.iload_n 1, 1) := by decide +kernel
theorem dX10_odds_7 : decode cX10_odds 7 = .ok (.invokevirtual 165, 3) := by decide +kernel
theorem dX10_odds_10 : decode cX10_odds 10 = .ok (.ifCond .eq 42, 3) := by decide +kernel
theorem dX10_odds_13 : decode cX10_odds 13 = .ok (.aload_n 0, 1) := by decide +kernel
theorem dX10_odds_14 : decode cX10_odds 14 = .ok (.iload_n 2, 1) := by decide +kernel
theorem dX10_odds_15 : decode cX10_odds 15 = .ok (.invokevirtual 148, 3) := by decide +kernel
theorem dX10_odds_18 : decode cX10_odds 18 = .ok (.ifCond .eq 34, 3) := by decide +kernel
theorem dX10_odds_21 : decode cX10_odds 21 = .ok (.iload_n 3, 1) := by decide +kernel
theorem dX10_odds_22 : decode cX10_odds 22 = .ok (.invokestatic 178, 3) := by decide +kernel
theorem dX10_odds_25 : decode cX10_odds 25 = .ok (.ifCond .eq 27, 3) := by decide +kernel
theorem dX10_odds_28 : decode cX10_odds 28 = .ok (.iload 4, 2) := by decide +kernel
theorem dX10_odds_30 : decode cX10_odds 30 = .ok (.i2l, 1) := by decide +kernel
theorem dX10_odds_31 : decode cX10_odds 31 = .ok (.lconst 0, 1) := by decide +kernel
theorem dX10_odds_32 : decode cX10_odds 32 = .ok (.ldc2_w 142, 3) := by decide +kernel
theorem dX10_odds_35 : decode cX10_odds 35 = .ok (.invokestatic 113, 3) := by decide +kernel
theorem dX10_odds_38 : decode cX10_odds 38 = .ok (.ifCond .eq 14, 3) := by decide +kernel
theorem dX10_odds_41 : decode cX10_odds 41 = .ok (.iload 5, 2) := by decide +kernel
theorem dX10_odds_43 : decode cX10_odds 43 = .ok (.i2l, 1) := by decide +kernel
theorem dX10_odds_44 : decode cX10_odds 44 = .ok (.lconst 0, 1) := by decide +kernel
theorem dX10_odds_45 : decode cX10_odds 45 = .ok (.lconst 1, 1) := by decide +kernel
theorem dX10_odds_46 : decode cX10_odds 46 = .ok (.invokestatic 113, 3) := by decide +kernel
theorem dX10_odds_49 : decode cX10_odds 49 = .ok (.ifCond .ne 5, 3) := by decide +kernel
theorem dX10_odds_52 : decode cX10_odds 52 = .ok (.iconst (-1), 1) := by decide +kernel
theorem dX10_odds_53 : decode cX10_odds 53 = .ok (.ireturn, 1) := by decide +kernel
theorem dX10_odds_54 : decode cX10_odds 54 = .ok (.aload_n 0, 1) := by decide +kernel
theorem dX10_odds_55 : decode cX10_odds 55 = .ok (.invokevirtual 405, 3) := by decide +kernel
theorem dX10_odds_58 : decode cX10_odds 58 = .ok (.aload_n 0, 1) := by decide +kernel
theorem dX10_odds_59 : decode cX10_odds 59 = .ok (.iload_n 2, 1) := by decide +kernel
theorem dX10_odds_60 : decode cX10_odds 60 = .ok (.iload_n 3, 1) := by decide +kernel
theorem dX10_odds_61 : decode cX10_odds 61 = .ok (.invokevirtual 408, 3) := by decide +kernel
theorem dX10_odds_64 : decode cX10_odds 64 = .ok (.istore 6, 2) := by decide +kernel
theorem dX10_odds_66 : decode cX10_odds 66 = .ok (.aload_n 0, 1) := by decide +kernel
theorem dX10_odds_67 : decode cX10_odds 67 = .ok (.bipush 63, 2) := by decide +kernel
theorem dX10_odds_69 : decode cX10_odds 69 = .ok (.iconst 1, 1) := by decide +kernel
theorem dX10_odds_70 : decode cX10_odds 70 = .ok (.iload_n 1, 1) := by decide +kernel
theorem dX10_odds_71 : decode cX10_odds 71 = .ok (.ishl, 1) := by decide +kernel
theorem dX10_odds_72 : decode cX10_odds 72 = .ok (.iconst (-1), 1) := by decide +kernel
theorem dX10_odds_73 : decode cX10_odds 73 = .ok (.ixor, 1) := by decide +kernel
theorem dX10_odds_74 : decode cX10_odds 74 = .ok (.iand, 1) := by decide +kernel
theorem dX10_odds_75 : decode cX10_odds 75 = .ok (.invokevirtual 357, 3) := by decide +kernel
theorem dX10_odds_78 : decode cX10_odds 78 = .ok (.aload_n 0, 1) := by decide +kernel
theorem dX10_odds_79 : decode cX10_odds 79 = .ok (.iload_n 2, 1) := by decide +kernel
theorem dX10_odds_80 : decode cX10_odds 80 = .ok (.iload_n 3, 1) := by decide +kernel
theorem dX10_odds_81 : decode cX10_odds 81 = .ok (.invokevirtual 408, 3) := by decide +kernel
theorem dX10_odds_84 : decode cX10_odds 84 = .ok (.istore 7, 2) := by decide +kernel
theorem dX10_odds_86 : decode cX10_odds 86 = .ok (.iconst 0, 1) := by decide +kernel
theorem dX10_odds_87 : decode cX10_odds 87 = .ok (.istore 8, 2) := by decide +kernel
theorem dX10_odds_89 : decode cX10_odds 89 = .ok (.iconst 0, 1) := by decide +kernel
theorem dX10_odds_90 : decode cX10_odds 90 = .ok (.istore 9, 2) := by decide +kernel
theorem dX10_odds_92 : decode cX10_odds 92 = .ok (.iconst 0, 1) := by decide +kernel
theorem dX10_odds_93 : decode cX10_odds 93 = .ok (.istore 10, 2) := by decide +kernel
theorem dX10_odds_95 : decode cX10_odds 95 = .ok (.iload 10, 2) := by decide +kernel
theorem dX10_odds_97 : decode cX10_odds 97 = .ok (.bipush 10, 2) := by decide +kernel
theorem dX10_odds_99 : decode cX10_odds 99 = .ok (.if_icmp .ge 81, 3) := by decide +kernel
theorem dX10_odds_102 : decode cX10_odds 102 = .ok (.iload 10, 2) := by decide +kernel
theorem dX10_odds_104 : decode cX10_odds 104 = .ok (.iload 6, 2) := by decide +kernel
theorem dX10_odds_106 : decode cX10_odds 106 = .ok (.imul, 1) := by decide +kernel
theorem dX10_odds_107 : decode cX10_odds 107 = .ok (.iload 4, 2) := by decide +kernel
theorem dX10_odds_109 : decode cX10_odds 109 = .ok (.iload 6, 2) := by decide +kernel
theorem dX10_odds_111 : decode cX10_odds 111 = .ok (.imul, 1) := by decide +kernel
theorem dX10_odds_112 : decode cX10_odds 112 = .ok (.if_icmp .lt 62, 3) := by decide +kernel
theorem dX10_odds_115 : decode cX10_odds 115 = .ok (.iload 8, 2) := by decide +kernel
theorem dX10_odds_117 : decode cX10_odds 117 = .ok (.aload_n 0, 1) := by decide +kernel
theorem dX10_odds_118 : decode cX10_odds 118 = .ok (.getfield 13, 3) := by decide +kernel
theorem dX10_odds_121 : decode cX10_odds 121 = .ok (.sipush 341, 3) := by decide +kernel
theorem dX10_odds_124 : decode cX10_odds 124 = .ok (.bipush 10, 2) := by decide +kernel
theorem dX10_odds_126 : decode cX10_odds 126 = .ok (.iload_n 3, 1) := by decide +kernel
theorem dX10_odds_127 : decode cX10_odds 127 = .ok (.imul, 1) := by decide +kernel
theorem dX10_odds_128 : decode cX10_odds 128 = .ok (.iadd, 1) := by decide +kernel
theorem dX10_odds_129 : decode cX10_odds 129 = .ok (.iload 10, 2) := by decide +kernel
theorem dX10_odds_131 : decode cX10_odds 131 = .ok (.iadd, 1) := by decide +kernel
theorem dX10_odds_132 : decode cX10_odds 132 = .ok (.iaload, 1) := by decide +kernel
theorem dX10_odds_133 : decode cX10_odds 133 = .ok (.iadd, 1) := by decide +kernel
theorem dX10_odds_134 : decode cX10_odds 134 = .ok (.istore 8, 2) := by decide +kernel
theorem dX10_odds_136 : decode cX10_odds 136 = .ok (.iload 9, 2) := by decide +kernel
theorem dX10_odds_138 : decode cX10_odds 138 = .ok (.iload 10, 2) := by decide +kernel
theorem dX10_odds_140 : decode cX10_odds 140 = .ok (.iload 7, 2) := by decide +kernel
theorem dX10_odds_142 : decode cX10_odds 142 = .ok (.imul, 1) := by decide +kernel
theorem dX10_odds_143 : decode cX10_odds 143 = .ok (.iload 4, 2) := by decide +kernel
theorem dX10_odds_145 : decode cX10_odds 145 = .ok (.iload 6, 2) := by decide +kernel
theorem dX10_odds_147 : decode cX10_odds 147 = .ok (.imul, 1) := by decide +kernel
theorem dX10_odds_148 : decode cX10_odds 148 = .ok (.if_icmp .ge 22, 3) := by decide +kernel
theorem dX10_odds_151 : decode cX10_odds 151 = .ok (.aload_n 0, 1) := by decide +kernel
theorem dX10_odds_152 : decode cX10_odds 152 = .ok (.getfield 13, 3) := by decide +kernel
theorem dX10_odds_155 : decode cX10_odds 155 = .ok (.sipush 341, 3) := by decide +kernel
theorem dX10_odds_158 : decode cX10_odds 158 = .ok (.bipush 10, 2) := by decide +kernel
theorem dX10_odds_160 : decode cX10_odds 160 = .ok (.iload_n 3, 1) := by decide +kernel
theorem dX10_odds_161 : decode cX10_odds 161 = .ok (.imul, 1) := by decide +kernel
theorem dX10_odds_162 : decode cX10_odds 162 = .ok (.iadd, 1) := by decide +kernel
theorem dX10_odds_163 : decode cX10_odds 163 = .ok (.iload 10, 2) := by decide +kernel
theorem dX10_odds_165 : decode cX10_odds 165 = .ok (.iadd, 1) := by decide +kernel
theorem dX10_odds_166 : decode cX10_odds 166 = .ok (.iaload, 1) := by decide +kernel
theorem dX10_odds_167 : decode cX10_odds 167 = .ok (.goto 4, 3) := by decide +kernel
theorem dX10_odds_170 : decode cX10_odds 170 = .ok (.iconst 0, 1) := by decide +kernel
theorem dX10_odds_171 : decode cX10_odds 171 = .ok (.iadd, 1) := by decide +kernel
theorem dX10_odds_172 : decode cX10_odds 172 = .ok (.istore 9, 2) := by decide +kernel
theorem dX10_odds_174 : decode cX10_odds 174 = .ok (.iinc 10 1, 3) := by decide +kernel
theorem dX10_odds_177 : decode cX10_odds 177 = .ok (.goto (-82), 3) := by decide +kernel
theorem dX10_odds_180 : decode cX10_odds 180 = .ok (.iload 8, 2) := by decide +kernel
theorem dX10_odds_182 : decode cX10_odds 182 = .ok (.ifCond .ne 6, 3) := by decide +kernel
theorem dX10_odds_185 : decode cX10_odds 185 = .ok (.iload 5, 2) := by decide +kernel
theorem dX10_odds_187 : decode cX10_odds 187 = .ok (.ireturn, 1) := by decide +kernel
theorem dX10_odds_188 : decode cX10_odds 188 = .ok (.iload 8, 2) := by decide +kernel
theorem dX10_odds_190 : decode cX10_odds 190 = .ok (.iload 9, 2) := by decide +kernel
theorem dX10_odds_192 : decode cX10_odds 192 = .ok (.invokestatic 470, 3) := by decide +kernel
theorem dX10_odds_195 : decode cX10_odds 195 = .ok (.istore 10, 2) := by decide +kernel
theorem dX10_odds_197 : decode cX10_odds 197 = .ok (.iload 5, 2) := by decide +kernel
theorem dX10_odds_199 : decode cX10_odds 199 = .ok (.ifCond .ne 11, 3) := by decide +kernel
theorem dX10_odds_202 : decode cX10_odds 202 = .ok (.iload 9, 2) := by decide +kernel
theorem dX10_odds_204 : decode cX10_odds 204 = .ok (.iload 10, 2) := by decide +kernel
theorem dX10_odds_206 : decode cX10_odds 206 = .ok (.idiv, 1) := by decide +kernel
theorem dX10_odds_207 : decode cX10_odds 207 = .ok (.goto 8, 3) := by decide +kernel
theorem dX10_odds_210 : decode cX10_odds 210 = .ok (.iload 8, 2) := by decide +kernel
theorem dX10_odds_212 : decode cX10_odds 212 = .ok (.iload 10, 2) := by decide +kernel
theorem dX10_odds_214 : decode cX10_odds 214 = .ok (.idiv, 1) := by decide +kernel
theorem dX10_odds_215 : decode cX10_odds 215 = .ok (.ireturn, 1) := by decide +kernel
theorem dX10_day_0 : decode cX10_day 0 = .ok (.aload_n 0, 1) := by decide +kernel
theorem dX10_day_1 : decode cX10_day 1 = .ok (.iconst 0, 1) := by decide +kernel
theorem dX10_day_2 : decode cX10_day 2 = .ok (.putfield 103, 3) := by decide +kernel
theorem dX10_day_5 : decode cX10_day 5 = .ok (.iload_n 1, 1) := by decide +kernel
theorem dX10_day_6 : decode cX10_day 6 = .ok (.i2l, 1) := by decide +kernel
theorem dX10_day_7 : decode cX10_day 7 = .ok (.lconst 0, 1) := by decide +kernel
theorem dX10_day_8 : decode cX10_day 8 = .ok (.ldc2_w 229, 3) := by decide +kernel
theorem dX10_day_11 : decode cX10_day 11 = .ok (.invokestatic 113, 3) := by decide +kernel
theorem dX10_day_14 : decode cX10_day 14 = .ok (.ifCond .ne 9, 3) := by decide +kernel
theorem dX10_day_17 : decode cX10_day 17 = .ok (.aload_n 0, 1) := by decide +kernel
theorem dX10_day_18 : decode cX10_day 18 = .ok (.iconst (-1), 1) := by decide +kernel
theorem dX10_day_19 : decode cX10_day 19 = .ok (.invokevirtual 117, 3) := by decide +kernel
theorem dX10_day_22 : decode cX10_day 22 = .ok (.ireturn, 1) := by decide +kernel
theorem dX10_day_23 : decode cX10_day 23 = .ok (.aload_n 0, 1) := by decide +kernel
theorem dX10_day_24 : decode cX10_day 24 = .ok (.invokevirtual 189, 3) := by decide +kernel
theorem dX10_day_27 : decode cX10_day 27 = .ok (.istore_n 2, 1) := by decide +kernel
theorem dX10_day_28 : decode cX10_day 28 = .ok (.iload_n 2, 1) := by decide +kernel
theorem dX10_day_29 : decode cX10_day 29 = .ok (.ifCond .ne 10, 3) := by decide +kernel
theorem dX10_day_32 : decode cX10_day 32 = .ok (.aload_n 0, 1) := by decide +kernel
theorem dX10_day_33 : decode cX10_day 33 = .ok (.bipush (-3), 2) := by decide +kernel
theorem dX10_day_35 : decode cX10_day 35 = .ok (.invokevirtual 117, 3) := by decide +kernel
theorem dX10_day_38 : decode cX10_day 38 = .ok (.ireturn, 1) := by decide +kernel
theorem dX10_day_39 : decode cX10_day 39 = .ok (.aload_n 0, 1) := by decide +kernel
theorem dX10_day_40 : decode cX10_day 40 = .ok (.invokevirtual 405, 3) := by decide +kernel
theorem dX10_day_43 : decode cX10_day 43 = .ok (.aload_n 0, 1) := by decide +kernel
theorem dX10_day_44 : decode cX10_day 44 = .ok (.iload_n 1, 1) := by decide +kernel
theorem dX10_day_45 : decode cX10_day 45 = .ok (.i2l, 1) := by decide +kernel
theorem dX10_day_46 : decode cX10_day 46 = .ok (.putfield 473, 3) := by decide +kernel
theorem dX10_day_49 : decode cX10_day 49 = .ok (.iconst 0, 1) := by decide +kernel
theorem dX10_day_50 : decode cX10_day 50 = .ok (.istore_n 3, 1) := by decide +kernel
theorem dX10_day_51 : decode cX10_day 51 = .ok (.iconst 0, 1) := by decide +kernel
theorem dX10_day_52 : decode cX10_day 52 = .ok (.istore 4, 2) := by decide +kernel
theorem dX10_day_54 : decode cX10_day 54 = .ok (.iload 4, 2) := by decide +kernel
theorem dX10_day_56 : decode cX10_day 56 = .ok (.bipush 24, 2) := by decide +kernel
theorem dX10_day_58 : decode cX10_day 58 = .ok (.if_icmp .ge 188, 3) := by decide +kernel
theorem dX10_day_61 : decode cX10_day 61 = .ok (.aload_n 0, 1) := by decide +kernel
theorem dX10_day_62 : decode cX10_day 62 = .ok (.aload_n 0, 1) := by decide +kernel
theorem dX10_day_63 : decode cX10_day 63 = .ok (.getfield 473, 3) := by decide +kernel
theorem dX10_day_66 : decode cX10_day 66 = .ok (.ldc2_w 476, 3) := by decide +kernel
theorem dX10_day_69 : decode cX10_day 69 = .ok (.lmul, 1) := by decide +kernel
theorem dX10_day_70 : decode cX10_day 70 = .ok (.ldc2_w 478, 3) := by decide +kernel
theorem dX10_day_73 : decode cX10_day 73 = .ok (.ladd, 1) := by decide +kernel
theorem dX10_day_74 : decode cX10_day 74 = .ok (.ldc2_w 480, 3) := by decide +kernel
theorem dX10_day_77 : decode cX10_day 77 = .ok (.lrem, 1) := by decide +kernel
theorem dX10_day_78 : decode cX10_day 78 = .ok (.putfield 473, 3) := by decide +kernel
theorem dX10_day_81 : decode cX10_day 81 = .ok (.aload_n 0, 1) := by decide +kernel
theorem dX10_day_82 : decode cX10_day 82 = .ok (.getfield 473, 3) := by decide +kernel
theorem dX10_day_85 : decode cX10_day 85 = .ok (.iload_n 2, 1) := by decide +kernel
theorem dX10_day_86 : decode cX10_day 86 = .ok (.i2l, 1) := by decide +kernel
theorem dX10_day_87 : decode cX10_day 87 = .ok (.lrem, 1) := by decide +kernel
theorem dX10_day_88 : decode cX10_day 88 = .ok (.l2i, 1) := by decide +kernel
theorem dX10_day_89 : decode cX10_day 89 = .ok (.istore 5, 2) := by decide +kernel
theorem dX10_day_91 : decode cX10_day 91 = .ok (.iconst 0, 1) := by decide +kernel
theorem dX10_day_92 : decode cX10_day 92 = .ok (.istore 6, 2) := by decide +kernel
theorem dX10_day_94 : decode cX10_day 94 = .ok (.iload 5, 2) := by decide +kernel
theorem dX10_day_96 : decode cX10_day 96 = .ok (.aload_n 0, 1) := by decide +kernel
theorem dX10_day_97 : decode cX10_day 97 = .ok (.getfield 13, 3) := by decide +kernel
theorem dX10_day_100 : decode cX10_day 100 = .ok (.sipush 341, 3) := by decide +kernel
theorem dX10_day_103 : decode cX10_day 103 = .ok (.iload 6, 2) := by decide +kernel
theorem dX10_day_105 : decode cX10_day 105 = .ok (.iadd, 1) := by decide +kernel
theorem dX10_day_106 : decode cX10_day 106 = .ok (.iaload, 1) := by decide +kernel
theorem dX10_day_107 : decode cX10_day 107 = .ok (.if_icmp .lt 25, 3) := by decide +kernel
theorem dX10_day_110 : decode cX10_day 110 = .ok (.iload 5, 2) := by decide +kernel
theorem dX10_day_112 : decode cX10_day 112 = .ok (.aload_n 0, 1) := by decide +kernel
theorem dX10_day_113 : decode cX10_day 113 = .ok (.getfield 13, 3) := by decide +kernel
theorem dX10_day_116 : decode cX10_day 116 = .ok (.sipush 341, 3) := by decide +kernel
theorem dX10_day_119 : decode cX10_day 119 = .ok (.iload 6, 2) := by decide +kernel
theorem dX10_day_121 : decode cX10_day 121 = .ok (.iadd, 1) := by decide +kernel
theorem dX10_day_122 : decode cX10_day 122 = .ok (.iaload, 1) := by decide +kernel
theorem dX10_day_123 : decode cX10_day 123 = .ok (.isub, 1) := by decide +kernel
theorem dX10_day_124 : decode cX10_day 124 = .ok (.istore 5, 2) := by decide +kernel
theorem dX10_day_126 : decode cX10_day 126 = .ok (.iinc 6 1, 3) := by decide +kernel
theorem dX10_day_129 : decode cX10_day 129 = .ok (.goto (-35), 3) := by decide +kernel
theorem dX10_day_132 : decode cX10_day 132 = .ok (.aload_n 0, 1) := by decide +kernel
theorem dX10_day_133 : decode cX10_day 133 = .ok (.getfield 100, 3) := by decide +kernel
theorem dX10_day_136 : decode cX10_day 136 = .ok (.iload 4, 2) := by decide +kernel
theorem dX10_day_138 : decode cX10_day 138 = .ok (.iload 6, 2) := by decide +kernel
theorem dX10_day_140 : decode cX10_day 140 = .ok (.iastore, 1) := by decide +kernel
theorem dX10_day_141 : decode cX10_day 141 = .ok (.iconst 0, 1) := by decide +kernel
theorem dX10_day_142 : decode cX10_day 142 = .ok (.istore 7, 2) := by decide +kernel
theorem dX10_day_144 : decode cX10_day 144 = .ok (.iconst 0, 1) := by decide +kernel
theorem dX10_day_145 : decode cX10_day 145 = .ok (.istore 8, 2) := by decide +kernel
theorem dX10_day_147 : decode cX10_day 147 = .ok (.iload 8, 2) := by decide +kernel
theorem dX10_day_149 : decode cX10_day 149 = .ok (.bipush 100, 2) := by decide +kernel
theorem dX10_day_151 : decode cX10_day 151 = .ok (.if_icmp .ge 76, 3) := by decide +kernel
theorem dX10_day_154 : decode cX10_day 154 = .ok (.iload 7, 2) := by decide +kernel
theorem dX10_day_156 : decode cX10_day 156 = .ok (.ifCond .ne 71, 3) := by decide +kernel
theorem dX10_day_159 : decode cX10_day 159 = .ok (.aload_n 0, 1) := by decide +kernel
theorem dX10_day_160 : decode cX10_day 160 = .ok (.getfield 73, 3) := by decide +kernel
theorem dX10_day_163 : decode cX10_day 163 = .ok (.iload 8, 2) := by decide +kernel
theorem dX10_day_165 : decode cX10_day 165 = .ok (.iaload, 1) := by decide +kernel
theorem dX10_day_166 : decode cX10_day 166 = .ok (.iconst (-1), 1) := by decide +kernel
theorem dX10_day_167 : decode cX10_day 167 = .ok (.if_icmp .ne 51, 3) := by decide +kernel
theorem dX10_day_170 : decode cX10_day 170 = .ok (.aload_n 0, 1) := by decide +kernel
theorem dX10_day_171 : decode cX10_day 171 = .ok (.getfield 82, 3) := by decide +kernel
theorem dX10_day_174 : decode cX10_day 174 = .ok (.iload 8, 2) := by decide +kernel
theorem dX10_day_176 : decode cX10_day 176 = .ok (.iaload, 1) := by decide +kernel
theorem dX10_day_177 : decode cX10_day 177 = .ok (.ifCond .le 41, 3) := by decide +kernel
theorem dX10_day_180 : decode cX10_day 180 = .ok (.iload 6, 2) := by decide +kernel
theorem dX10_day_182 : decode cX10_day 182 = .ok (.bipush 10, 2) := by decide +kernel
theorem dX10_day_184 : decode cX10_day 184 = .ok (.irem, 1) := by decide +kernel
theorem dX10_day_185 : decode cX10_day 185 = .ok (.aload_n 0, 1) := by decide +kernel
theorem dX10_day_186 : decode cX10_day 186 = .ok (.iload 8, 2) := by decide +kernel
theorem dX10_day_188 : decode cX10_day 188 = .ok (.iload 6, 2) := by decide +kernel
theorem dX10_day_190 : decode cX10_day 190 = .ok (.bipush 10, 2) := by decide +kernel
theorem dX10_day_192 : decode cX10_day 192 = .ok (.idiv, 1) := by decide +kernel
theorem dX10_day_193 : decode cX10_day 193 = .ok (.invokevirtual 408, 3) := by decide +kernel
theorem dX10_day_196 : decode cX10_day 196 = .ok (.imul, 1) := by decide +kernel
theorem dX10_day_197 : decode cX10_day 197 = .ok (.bipush 100, 2) := by decide +kernel
theorem dX10_day_199 : decode cX10_day 199 = .ok (.aload_n 0, 1) := by decide +kernel
theorem dX10_day_200 : decode cX10_day 200 = .ok (.aload_n 0, 1) := by decide +kernel
theorem dX10_day_201 : decode cX10_day 201 = .ok (.getfield 82, 3) := by decide +kernel
theorem dX10_day_204 : decode cX10_day 204 = .ok (.iload 8, 2) := by decide +kernel
theorem dX10_day_206 : decode cX10_day 206 = .ok (.iaload, 1) := by decide +kernel
theorem dX10_day_207 : decode cX10_day 207 = .ok (.invokevirtual 413, 3) := by decide +kernel
theorem dX10_day_210 : decode cX10_day 210 = .ok (.imul, 1) := by decide +kernel
theorem dX10_day_211 : decode cX10_day 211 = .ok (.if_icmp .le 7, 3) := by decide +kernel
theorem dX10_day_214 : decode cX10_day 214 = .ok (.iconst 1, 1) := by decide +kernel
theorem dX10_day_215 : decode cX10_day 215 = .ok (.goto 4, 3) := by decide +kernel
theorem dX10_day_218 : decode cX10_day 218 = .ok (.iconst 0, 1) := by decide +kernel
theorem dX10_day_219 : decode cX10_day 219 = .ok (.istore 7, 2) := by decide +kernel
theorem dX10_day_221 : decode cX10_day 221 = .ok (.iinc 8 1, 3) := by decide +kernel
theorem dX10_day_224 : decode cX10_day 224 = .ok (.goto (-77), 3) := by decide +kernel
theorem dX10_day_227 : decode cX10_day 227 = .ok (.iload_n 3, 1) := by decide +kernel
theorem dX10_day_228 : decode cX10_day 228 = .ok (.iload 7, 2) := by decide +kernel
theorem dX10_day_230 : decode cX10_day 230 = .ok (.ifCond .eq 7, 3) := by decide +kernel
theorem dX10_day_233 : decode cX10_day 233 = .ok (.iconst 1, 1) := by decide +kernel
theorem dX10_day_234 : decode cX10_day 234 = .ok (.goto 4, 3) := by decide +kernel
theorem dX10_day_237 : decode cX10_day 237 = .ok (.iconst 0, 1) := by decide +kernel
theorem dX10_day_238 : decode cX10_day 238 = .ok (.iadd, 1) := by decide +kernel
theorem dX10_day_239 : decode cX10_day 239 = .ok (.istore_n 3, 1) := by decide +kernel
theorem dX10_day_240 : decode cX10_day 240 = .ok (.iinc 4 1, 3) := by decide +kernel
theorem dX10_day_243 : decode cX10_day 243 = .ok (.goto (-189), 3) := by decide +kernel
theorem dX10_day_246 : decode cX10_day 246 = .ok (.aload_n 0, 1) := by decide +kernel
theorem dX10_day_247 : decode cX10_day 247 = .ok (.iconst 1, 1) := by decide +kernel
theorem dX10_day_248 : decode cX10_day 248 = .ok (.putfield 482, 3) := by decide +kernel
theorem dX10_day_251 : decode cX10_day 251 = .ok (.aload_n 0, 1) := by decide +kernel
theorem dX10_day_252 : decode cX10_day 252 = .ok (.iload_n 3, 1) := by decide +kernel
theorem dX10_day_253 : decode cX10_day 253 = .ok (.invokevirtual 117, 3) := by decide +kernel
theorem dX10_day_256 : decode cX10_day 256 = .ok (.ireturn, 1) := by decide +kernel
theorem dX10_drawn_0 : decode cX10_drawn 0 = .ok (.aload_n 0, 1) := by decide +kernel
theorem dX10_drawn_1 : decode cX10_drawn 1 = .ok (.iconst 0, 1) := by decide +kernel
theorem dX10_drawn_2 : decode cX10_drawn 2 = .ok (.putfield 103, 3) := by decide +kernel
theorem dX10_drawn_5 : decode cX10_drawn 5 = .ok (.aload_n 0, 1) := by decide +kernel
theorem dX10_drawn_6 : decode cX10_drawn 6 = .ok (.getfield 482, 3) := by decide +kernel
theorem dX10_drawn_9 : decode cX10_drawn 9 = .ok (.ifCond .eq 53, 3) := by decide +kernel
theorem dX10_drawn_12 : decode cX10_drawn 12 = .ok (.iload_n 1, 1) := by decide +kernel
theorem dX10_drawn_13 : decode cX10_drawn 13 = .ok (.i2l, 1) := by decide +kernel
theorem dX10_drawn_14 : decode cX10_drawn 14 = .ok (.lconst 0, 1) := by decide +kernel
theorem dX10_drawn_15 : decode cX10_drawn 15 = .ok (.ldc2_w 254, 3) := by decide +kernel
theorem dX10_drawn_18 : decode cX10_drawn 18 = .ok (.invokestatic 113, 3) := by decide +kernel
theorem dX10_drawn_21 : decode cX10_drawn 21 = .ok (.ifCond .eq 41, 3) := by decide +kernel
theorem dX10_drawn_24 : decode cX10_drawn 24 = .ok (.iload_n 2, 1) := by decide +kernel
theorem dX10_drawn_25 : decode cX10_drawn 25 = .ok (.i2l, 1) := by decide +kernel
theorem dX10_drawn_26 : decode cX10_drawn 26 = .ok (.lconst 0, 1) := by decide +kernel
theorem dX10_drawn_27 : decode cX10_drawn 27 = .ok (.lconst 1, 1) := by decide +kernel
theorem dX10_drawn_28 : decode cX10_drawn 28 = .ok (.invokestatic 113, 3) := by decide +kernel
theorem dX10_drawn_31 : decode cX10_drawn 31 = .ok (.ifCond .eq 31, 3) := by decide +kernel
theorem dX10_drawn_34 : decode cX10_drawn 34 = .ok (.iload_n 2, 1) := by decide +kernel
theorem dX10_drawn_35 : decode cX10_drawn 35 = .ok (.ifCond .ne 15, 3) := by decide +kernel
theorem dX10_drawn_38 : decode cX10_drawn 38 = .ok (.aload_n 0, 1) := by decide +kernel
theorem dX10_drawn_39 : decode cX10_drawn 39 = .ok (.getfield 100, 3) := by decide +kernel
theorem dX10_drawn_42 : decode cX10_drawn 42 = .ok (.iload_n 1, 1) := by decide +kernel
theorem dX10_drawn_43 : decode cX10_drawn 43 = .ok (.iaload, 1) := by decide +kernel
theorem dX10_drawn_44 : decode cX10_drawn 44 = .ok (.bipush 10, 2) := by decide +kernel
theorem dX10_drawn_46 : decode cX10_drawn 46 = .ok (.idiv, 1) := by decide +kernel
theorem dX10_drawn_47 : decode cX10_drawn 47 = .ok (.goto 16, 3) := by decide +kernel
theorem dX10_drawn_50 : decode cX10_drawn 50 = .ok (.aload_n 0, 1) := by decide +kernel
theorem dX10_drawn_51 : decode cX10_drawn 51 = .ok (.getfield 100, 3) := by decide +kernel
theorem dX10_drawn_54 : decode cX10_drawn 54 = .ok (.iload_n 1, 1) := by decide +kernel
theorem dX10_drawn_55 : decode cX10_drawn 55 = .ok (.iaload, 1) := by decide +kernel
theorem dX10_drawn_56 : decode cX10_drawn 56 = .ok (.bipush 10, 2) := by decide +kernel
theorem dX10_drawn_58 : decode cX10_drawn 58 = .ok (.irem, 1) := by decide +kernel
theorem dX10_drawn_59 : decode cX10_drawn 59 = .ok (.goto 4, 3) := by decide +kernel
theorem dX10_drawn_62 : decode cX10_drawn 62 = .ok (.iconst (-1), 1) := by decide +kernel
theorem dX10_drawn_63 : decode cX10_drawn 63 = .ok (.ireturn, 1) := by decide +kernel
theorem dX10_count_0 : decode cX10_count 0 = .ok (.aload_n 0, 1) := by decide +kernel
theorem dX10_count_1 : decode cX10_count 1 = .ok (.iconst 0, 1) := by decide +kernel
theorem dX10_count_2 : decode cX10_count 2 = .ok (.putfield 103, 3) := by decide +kernel
theorem dX10_count_5 : decode cX10_count 5 = .ok (.iconst 0, 1) := by decide +kernel
theorem dX10_count_6 : decode cX10_count 6 = .ok (.istore_n 2, 1) := by decide +kernel
theorem dX10_count_7 : decode cX10_count 7 = .ok (.iconst 0, 1) := by decide +kernel
theorem dX10_count_8 : decode cX10_count 8 = .ok (.istore_n 3, 1) := by decide +kernel
theorem dX10_count_9 : decode cX10_count 9 = .ok (.iload_n 3, 1) := by decide +kernel
theorem dX10_count_10 : decode cX10_count 10 = .ok (.bipush 100, 2) := by decide +kernel
theorem dX10_count_12 : decode cX10_count 12 = .ok (.if_icmp .ge 26, 3) := by decide +kernel
theorem dX10_count_15 : decode cX10_count 15 = .ok (.iload_n 2, 1) := by decide +kernel
theorem dX10_count_16 : decode cX10_count 16 = .ok (.aload_n 0, 1) := by decide +kernel
theorem dX10_count_17 : decode cX10_count 17 = .ok (.iload_n 3, 1) := by decide +kernel
theorem dX10_count_18 : decode cX10_count 18 = .ok (.invokevirtual 136, 3) := by decide +kernel
theorem dX10_count_21 : decode cX10_count 21 = .ok (.iconst (-1), 1) := by decide +kernel
theorem dX10_count_22 : decode cX10_count 22 = .ok (.if_icmp .ne 7, 3) := by decide +kernel
theorem dX10_count_25 : decode cX10_count 25 = .ok (.iconst 1, 1) := by decide +kernel
theorem dX10_count_26 : decode cX10_count 26 = .ok (.goto 4, 3) := by decide +kernel
theorem dX10_count_29 : decode cX10_count 29 = .ok (.iconst 0, 1) := by decide +kernel
theorem dX10_count_30 : decode cX10_count 30 = .ok (.iadd, 1) := by decide +kernel
theorem dX10_count_31 : decode cX10_count 31 = .ok (.istore_n 2, 1) := by decide +kernel
theorem dX10_count_32 : decode cX10_count 32 = .ok (.iinc 3 1, 3) := by decide +kernel
theorem dX10_count_35 : decode cX10_count 35 = .ok (.goto (-26), 3) := by decide +kernel
theorem dX10_count_38 : decode cX10_count 38 = .ok (.iload_n 1, 1) := by decide +kernel
theorem dX10_count_39 : decode cX10_count 39 = .ok (.tableswitch 148 0 12 #[65, 72, 74, 81, 88, 95, 100, 105, 112, 119, 126, 133, 141], 65) := by decide +kernel
theorem dX10_count_104 : decode cX10_count 104 = .ok (.aload_n 0, 1) := by decide +kernel
theorem dX10_count_105 : decode cX10_count 105 = .ok (.getfield 13, 3) := by decide +kernel
theorem dX10_count_108 : decode cX10_count 108 = .ok (.iconst 0, 1) := by decide +kernel
theorem dX10_count_109 : decode cX10_count 109 = .ok (.iaload, 1) := by decide +kernel
theorem dX10_count_110 : decode cX10_count 110 = .ok (.ireturn, 1) := by decide +kernel
theorem dX10_count_111 : decode cX10_count 111 = .ok (.iload_n 2, 1) := by decide +kernel
theorem dX10_count_112 : decode cX10_count 112 = .ok (.ireturn, 1) := by decide +kernel
theorem dX10_count_113 : decode cX10_count 113 = .ok (.aload_n 0, 1) := by decide +kernel
theorem dX10_count_114 : decode cX10_count 114 = .ok (.getfield 13, 3) := by decide +kernel
theorem dX10_count_117 : decode cX10_count 117 = .ok (.iconst 1, 1) := by decide +kernel
theorem dX10_count_118 : decode cX10_count 118 = .ok (.iaload, 1) := by decide +kernel
theorem dX10_count_119 : decode cX10_count 119 = .ok (.ireturn, 1) := by decide +kernel
theorem dX10_count_120 : decode cX10_count 120 = .ok (.aload_n 0, 1) := by decide +kernel
theorem dX10_count_121 : decode cX10_count 121 = .ok (.getfield 13, 3) := by decide +kernel
theorem dX10_count_124 : decode cX10_count 124 = .ok (.iconst 3, 1) := by decide +kernel
theorem dX10_count_125 : decode cX10_count 125 = .ok (.iaload, 1) := by decide +kernel
theorem dX10_count_126 : decode cX10_count 126 = .ok (.ireturn, 1) := by decide +kernel
theorem dX10_count_127 : decode cX10_count 127 = .ok (.aload_n 0, 1) := by decide +kernel
theorem dX10_count_128 : decode cX10_count 128 = .ok (.getfield 13, 3) := by decide +kernel
theorem dX10_count_131 : decode cX10_count 131 = .ok (.iconst 4, 1) := by decide +kernel
theorem dX10_count_132 : decode cX10_count 132 = .ok (.iaload, 1) := by decide +kernel
theorem dX10_count_133 : decode cX10_count 133 = .ok (.ireturn, 1) := by decide +kernel
theorem dX10_count_134 : decode cX10_count 134 = .ok (.aload_n 0, 1) := by decide +kernel
theorem dX10_count_135 : decode cX10_count 135 = .ok (.invokevirtual 189, 3) := by decide +kernel
theorem dX10_count_138 : decode cX10_count 138 = .ok (.ireturn, 1) := by decide +kernel
theorem dX10_count_139 : decode cX10_count 139 = .ok (.aload_n 0, 1) := by decide +kernel
theorem dX10_count_140 : decode cX10_count 140 = .ok (.getfield 183, 3) := by decide +kernel
theorem dX10_count_143 : decode cX10_count 143 = .ok (.ireturn, 1) := by decide +kernel
theorem dX10_count_144 : decode cX10_count 144 = .ok (.aload_n 0, 1) := by decide +kernel
theorem dX10_count_145 : decode cX10_count 145 = .ok (.getfield 7, 3) := by decide +kernel
theorem dX10_count_148 : decode cX10_count 148 = .ok (.iconst 1, 1) := by decide +kernel
theorem dX10_count_149 : decode cX10_count 149 = .ok (.iaload, 1) := by decide +kernel
theorem dX10_count_150 : decode cX10_count 150 = .ok (.ireturn, 1) := by decide +kernel
theorem dX10_count_151 : decode cX10_count 151 = .ok (.aload_n 0, 1) := by decide +kernel
theorem dX10_count_152 : decode cX10_count 152 = .ok (.getfield 7, 3) := by decide +kernel
theorem dX10_count_155 : decode cX10_count 155 = .ok (.iconst 2, 1) := by decide +kernel
theorem dX10_count_156 : decode cX10_count 156 = .ok (.iaload, 1) := by decide +kernel
theorem dX10_count_157 : decode cX10_count 157 = .ok (.ireturn, 1) := by decide +kernel
theorem dX10_count_158 : decode cX10_count 158 = .ok (.aload_n 0, 1) := by decide +kernel
theorem dX10_count_159 : decode cX10_count 159 = .ok (.getfield 7, 3) := by decide +kernel
theorem dX10_count_162 : decode cX10_count 162 = .ok (.iconst 3, 1) := by decide +kernel
theorem dX10_count_163 : decode cX10_count 163 = .ok (.iaload, 1) := by decide +kernel
theorem dX10_count_164 : decode cX10_count 164 = .ok (.ireturn, 1) := by decide +kernel
theorem dX10_count_165 : decode cX10_count 165 = .ok (.aload_n 0, 1) := by decide +kernel
theorem dX10_count_166 : decode cX10_count 166 = .ok (.getfield 7, 3) := by decide +kernel
theorem dX10_count_169 : decode cX10_count 169 = .ok (.iconst 5, 1) := by decide +kernel
theorem dX10_count_170 : decode cX10_count 170 = .ok (.iaload, 1) := by decide +kernel
theorem dX10_count_171 : decode cX10_count 171 = .ok (.ireturn, 1) := by decide +kernel
theorem dX10_count_172 : decode cX10_count 172 = .ok (.aload_n 0, 1) := by decide +kernel
theorem dX10_count_173 : decode cX10_count 173 = .ok (.getfield 7, 3) := by decide +kernel
theorem dX10_count_176 : decode cX10_count 176 = .ok (.bipush 6, 2) := by decide +kernel
theorem dX10_count_178 : decode cX10_count 178 = .ok (.iaload, 1) := by decide +kernel
theorem dX10_count_179 : decode cX10_count 179 = .ok (.ireturn, 1) := by decide +kernel
theorem dX10_count_180 : decode cX10_count 180 = .ok (.aload_n 0, 1) := by decide +kernel
theorem dX10_count_181 : decode cX10_count 181 = .ok (.getfield 13, 3) := by decide +kernel
theorem dX10_count_184 : decode cX10_count 184 = .ok (.iconst 2, 1) := by decide +kernel
theorem dX10_count_185 : decode cX10_count 185 = .ok (.iaload, 1) := by decide +kernel
theorem dX10_count_186 : decode cX10_count 186 = .ok (.ireturn, 1) := by decide +kernel
theorem dX10_count_187 : decode cX10_count 187 = .ok (.iconst (-1), 1) := by decide +kernel
theorem dX10_count_188 : decode cX10_count 188 = .ok (.ireturn, 1) := by decide +kernel
theorem dX10_status_0 : decode cX10_status 0 = .ok (.aload_n 0, 1) := by decide +kernel
theorem dX10_status_1 : decode cX10_status 1 = .ok (.iconst 0, 1) := by decide +kernel
theorem dX10_status_2 : decode cX10_status 2 = .ok (.putfield 103, 3) := by decide +kernel
theorem dX10_status_5 : decode cX10_status 5 = .ok (.aload_n 0, 1) := by decide +kernel
theorem dX10_status_6 : decode cX10_status 6 = .ok (.getfield 106, 3) := by decide +kernel
theorem dX10_status_9 : decode cX10_status 9 = .ok (.ireturn, 1) := by decide +kernel
