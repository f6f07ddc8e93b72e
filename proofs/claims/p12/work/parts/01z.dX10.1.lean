theorem dX10_binds_23 : decode cX10_binds 23 = .ok (.if_icmp .ne 7, 3) := by decide +kernel
theorem dX10_binds_26 : decode cX10_binds 26 = .ok (.iconst 2, 1) := by decide +kernel
theorem dX10_binds_27 : decode cX10_binds 27 = .ok (.goto 35, 3) := by decide +kernel
theorem dX10_binds_30 : decode cX10_binds 30 = .ok (.iload_n 0, 1) := by decide +kernel
theorem dX10_binds_31 : decode cX10_binds 31 = .ok (.bipush 27, 2) := by decide +kernel
theorem dX10_binds_33 : decode cX10_binds 33 = .ok (.if_icmp .ne 7, 3) := by decide +kernel
theorem dX10_binds_36 : decode cX10_binds 36 = .ok (.iconst 3, 1) := by decide +kernel
theorem dX10_binds_37 : decode cX10_binds 37 = .ok (.goto 25, 3) := by decide +kernel
theorem dX10_binds_40 : decode cX10_binds 40 = .ok (.iload_n 0, 1) := by decide +kernel
theorem dX10_binds_41 : decode cX10_binds 41 = .ok (.bipush 24, 2) := by decide +kernel
theorem dX10_binds_43 : decode cX10_binds 43 = .ok (.if_icmp .lt 7, 3) := by decide +kernel
theorem dX10_binds_46 : decode cX10_binds 46 = .ok (.iconst 4, 1) := by decide +kernel
theorem dX10_binds_47 : decode cX10_binds 47 = .ok (.goto 15, 3) := by decide +kernel
theorem dX10_binds_50 : decode cX10_binds 50 = .ok (.iload_n 0, 1) := by decide +kernel
theorem dX10_binds_51 : decode cX10_binds 51 = .ok (.bipush 22, 2) := by decide +kernel
theorem dX10_binds_53 : decode cX10_binds 53 = .ok (.if_icmp .lt 8, 3) := by decide +kernel
theorem dX10_binds_56 : decode cX10_binds 56 = .ok (.bipush 6, 2) := by decide +kernel
theorem dX10_binds_58 : decode cX10_binds 58 = .ok (.goto 4, 3) := by decide +kernel
theorem dX10_binds_61 : decode cX10_binds 61 = .ok (.iconst 5, 1) := by decide +kernel
theorem dX10_binds_62 : decode cX10_binds 62 = .ok (.ireturn, 1) := by decide +kernel
theorem dX10_settle_0 : decode cX10_settle 0 = .ok (.aload_n 0, 1) := by decide +kernel
theorem dX10_settle_1 : decode cX10_settle 1 = .ok (.getfield 242, 3) := by decide +kernel
theorem dX10_settle_4 : decode cX10_settle 4 = .ok (.ifCond .le 97, 3) := by decide +kernel
theorem dX10_settle_7 : decode cX10_settle 7 = .ok (.aload_n 0, 1) := by decide +kernel
theorem dX10_settle_8 : decode cX10_settle 8 = .ok (.getfield 39, 3) := by decide +kernel
theorem dX10_settle_11 : decode cX10_settle 11 = .ok (.aload_n 0, 1) := by decide +kernel
theorem dX10_settle_12 : decode cX10_settle 12 = .ok (.getfield 242, 3) := by decide +kernel
theorem dX10_settle_15 : decode cX10_settle 15 = .ok (.iconst 1, 1) := by decide +kernel
theorem dX10_settle_16 : decode cX10_settle 16 = .ok (.isub, 1) := by decide +kernel
theorem dX10_settle_17 : decode cX10_settle 17 = .ok (.iaload, 1) := by decide +kernel
theorem dX10_settle_18 : decode cX10_settle 18 = .ok (.invokestatic 245, 3) := by decide +kernel
theorem dX10_settle_21 : decode cX10_settle 21 = .ok (.iload_n 1, 1) := by decide +kernel
theorem dX10_settle_22 : decode cX10_settle 22 = .ok (.if_icmp .lt 79, 3) := by decide +kernel
theorem dX10_settle_25 : decode cX10_settle 25 = .ok (.aload_n 0, 1) := by decide +kernel
theorem dX10_settle_26 : decode cX10_settle 26 = .ok (.dup, 1) := by decide +kernel
theorem dX10_settle_27 : decode cX10_settle 27 = .ok (.getfield 242, 3) := by decide +kernel
theorem dX10_settle_30 : decode cX10_settle 30 = .ok (.iconst 1, 1) := by decide +kernel
theorem dX10_settle_31 : decode cX10_settle 31 = .ok (.isub, 1) := by decide +kernel
theorem dX10_settle_32 : decode cX10_settle 32 = .ok (.putfield 242, 3) := by decide +kernel
theorem dX10_settle_35 : decode cX10_settle 35 = .ok (.aload_n 0, 1) := by decide +kernel
theorem dX10_settle_36 : decode cX10_settle 36 = .ok (.getfield 39, 3) := by decide +kernel
theorem dX10_settle_39 : decode cX10_settle 39 = .ok (.aload_n 0, 1) := by decide +kernel
theorem dX10_settle_40 : decode cX10_settle 40 = .ok (.getfield 242, 3) := by decide +kernel
theorem dX10_settle_43 : decode cX10_settle 43 = .ok (.iaload, 1) := by decide +kernel
theorem dX10_settle_44 : decode cX10_settle 44 = .ok (.bipush 28, 2) := by decide +kernel
theorem dX10_settle_46 : decode cX10_settle 46 = .ok (.if_icmp .eq 17, 3) := by decide +kernel
theorem dX10_settle_49 : decode cX10_settle 49 = .ok (.aload_n 0, 1) := by decide +kernel
theorem dX10_settle_50 : decode cX10_settle 50 = .ok (.getfield 39, 3) := by decide +kernel
theorem dX10_settle_53 : decode cX10_settle 53 = .ok (.aload_n 0, 1) := by decide +kernel
theorem dX10_settle_54 : decode cX10_settle 54 = .ok (.getfield 242, 3) := by decide +kernel
theorem dX10_settle_57 : decode cX10_settle 57 = .ok (.iaload, 1) := by decide +kernel
theorem dX10_settle_58 : decode cX10_settle 58 = .ok (.bipush 29, 2) := by decide +kernel
theorem dX10_settle_60 : decode cX10_settle 60 = .ok (.if_icmp .ne 24, 3) := by decide +kernel
theorem dX10_settle_63 : decode cX10_settle 63 = .ok (.aload_n 0, 1) := by decide +kernel
theorem dX10_settle_64 : decode cX10_settle 64 = .ok (.getfield 36, 3) := by decide +kernel
theorem dX10_settle_67 : decode cX10_settle 67 = .ok (.aload_n 0, 1) := by decide +kernel
theorem dX10_settle_68 : decode cX10_settle 68 = .ok (.getfield 42, 3) := by decide +kernel
theorem dX10_settle_71 : decode cX10_settle 71 = .ok (.aload_n 0, 1) := by decide +kernel
theorem dX10_settle_72 : decode cX10_settle 72 = .ok (.getfield 242, 3) := by decide +kernel
theorem dX10_settle_75 : decode cX10_settle 75 = .ok (.iaload, 1) := by decide +kernel
theorem dX10_settle_76 : decode cX10_settle 76 = .ok (.aload_n 0, 1) := by decide +kernel
theorem dX10_settle_77 : decode cX10_settle 77 = .ok (.getfield 239, 3) := by decide +kernel
theorem dX10_settle_80 : decode cX10_settle 80 = .ok (.iastore, 1) := by decide +kernel
theorem dX10_settle_81 : decode cX10_settle 81 = .ok (.goto (-81), 3) := by decide +kernel
theorem dX10_settle_84 : decode cX10_settle 84 = .ok (.aload_n 0, 1) := by decide +kernel
theorem dX10_settle_85 : decode cX10_settle 85 = .ok (.aload_n 0, 1) := by decide +kernel
theorem dX10_settle_86 : decode cX10_settle 86 = .ok (.getfield 39, 3) := by decide +kernel
theorem dX10_settle_89 : decode cX10_settle 89 = .ok (.aload_n 0, 1) := by decide +kernel
theorem dX10_settle_90 : decode cX10_settle 90 = .ok (.getfield 242, 3) := by decide +kernel
theorem dX10_settle_93 : decode cX10_settle 93 = .ok (.iaload, 1) := by decide +kernel
theorem dX10_settle_94 : decode cX10_settle 94 = .ok (.iconst 0, 1) := by decide +kernel
theorem dX10_settle_95 : decode cX10_settle 95 = .ok (.invokevirtual 248, 3) := by decide +kernel
theorem dX10_settle_98 : decode cX10_settle 98 = .ok (.goto (-98), 3) := by decide +kernel
theorem dX10_settle_101 : decode cX10_settle 101 = .ok (.return_, 1) := by decide +kernel
theorem dX10_inner_0 : decode cX10_inner 0 = .ok (.iconst (-1), 1) := by decide +kernel
theorem dX10_inner_1 : decode cX10_inner 1 = .ok (.istore_n 1, 1) := by decide +kernel
theorem dX10_inner_2 : decode cX10_inner 2 = .ok (.iconst 0, 1) := by decide +kernel
theorem dX10_inner_3 : decode cX10_inner 3 = .ok (.istore_n 2, 1) := by decide +kernel
theorem dX10_inner_4 : decode cX10_inner 4 = .ok (.iload_n 2, 1) := by decide +kernel
theorem dX10_inner_5 : decode cX10_inner 5 = .ok (.aload_n 0, 1) := by decide +kernel
theorem dX10_inner_6 : decode cX10_inner 6 = .ok (.getfield 242, 3) := by decide +kernel
theorem dX10_inner_9 : decode cX10_inner 9 = .ok (.if_icmp .ge 31, 3) := by decide +kernel
theorem dX10_inner_12 : decode cX10_inner 12 = .ok (.aload_n 0, 1) := by decide +kernel
theorem dX10_inner_13 : decode cX10_inner 13 = .ok (.getfield 39, 3) := by decide +kernel
theorem dX10_inner_16 : decode cX10_inner 16 = .ok (.iload_n 2, 1) := by decide +kernel
theorem dX10_inner_17 : decode cX10_inner 17 = .ok (.iaload, 1) := by decide +kernel
theorem dX10_inner_18 : decode cX10_inner 18 = .ok (.bipush 30, 2) := by decide +kernel
theorem dX10_inner_20 : decode cX10_inner 20 = .ok (.if_icmp .lt 12, 3) := by decide +kernel
theorem dX10_inner_23 : decode cX10_inner 23 = .ok (.aload_n 0, 1) := by decide +kernel
theorem dX10_inner_24 : decode cX10_inner 24 = .ok (.getfield 39, 3) := by decide +kernel
theorem dX10_inner_27 : decode cX10_inner 27 = .ok (.iload_n 2, 1) := by decide +kernel
theorem dX10_inner_28 : decode cX10_inner 28 = .ok (.iaload, 1) := by decide +kernel
theorem dX10_inner_29 : decode cX10_inner 29 = .ok (.goto 4, 3) := by decide +kernel
theorem dX10_inner_32 : decode cX10_inner 32 = .ok (.iload_n 1, 1) := by decide +kernel
theorem dX10_inner_33 : decode cX10_inner 33 = .ok (.istore_n 1, 1) := by decide +kernel
theorem dX10_inner_34 : decode cX10_inner 34 = .ok (.iinc 2 1, 3) := by decide +kernel
theorem dX10_inner_37 : decode cX10_inner 37 = .ok (.goto (-33), 3) := by decide +kernel
theorem dX10_inner_40 : decode cX10_inner 40 = .ok (.iload_n 1, 1) := by decide +kernel
theorem dX10_inner_41 : decode cX10_inner 41 = .ok (.ireturn, 1) := by decide +kernel
theorem dX10_isCompared_0 : decode cX10_isCompared 0 = .ok (.aload_n 0, 1) := by decide +kernel
theorem dX10_isCompared_1 : decode cX10_isCompared 1 = .ok (.getfield 242, 3) := by decide +kernel
theorem dX10_isCompared_4 : decode cX10_isCompared 4 = .ok (.iconst 1, 1) := by decide +kernel
theorem dX10_isCompared_5 : decode cX10_isCompared 5 = .ok (.isub, 1) := by decide +kernel
theorem dX10_isCompared_6 : decode cX10_isCompared 6 = .ok (.istore_n 1, 1) := by decide +kernel
theorem dX10_isCompared_7 : decode cX10_isCompared 7 = .ok (.iload_n 1, 1) := by decide +kernel
theorem dX10_isCompared_8 : decode cX10_isCompared 8 = .ok (.ifCond .lt 28, 3) := by decide +kernel
theorem dX10_isCompared_11 : decode cX10_isCompared 11 = .ok (.aload_n 0, 1) := by decide +kernel
theorem dX10_isCompared_12 : decode cX10_isCompared 12 = .ok (.getfield 39, 3) := by decide +kernel
theorem dX10_isCompared_15 : decode cX10_isCompared 15 = .ok (.iload_n 1, 1) := by decide +kernel
theorem dX10_isCompared_16 : decode cX10_isCompared 16 = .ok (.iaload, 1) := by decide +kernel
theorem dX10_isCompared_17 : decode cX10_isCompared 17 = .ok (.i2l, 1) := by decide +kernel
theorem dX10_isCompared_18 : decode cX10_isCompared 18 = .ok (.ldc2_w 252, 3) := by decide +kernel
theorem dX10_isCompared_21 : decode cX10_isCompared 21 = .ok (.ldc2_w 254, 3) := by decide +kernel
theorem dX10_isCompared_24 : decode cX10_isCompared 24 = .ok (.invokestatic 113, 3) := by decide +kernel
theorem dX10_isCompared_27 : decode cX10_isCompared 27 = .ok (.ifCond .eq 9, 3) := by decide +kernel
theorem dX10_isCompared_30 : decode cX10_isCompared 30 = .ok (.iinc 1 (-1), 3) := by decide +kernel
theorem dX10_isCompared_33 : decode cX10_isCompared 33 = .ok (.goto (-26), 3) := by decide +kernel
theorem dX10_isCompared_36 : decode cX10_isCompared 36 = .ok (.iload_n 1, 1) := by decide +kernel
theorem dX10_isCompared_37 : decode cX10_isCompared 37 = .ok (.ifCond .lt 26, 3) := by decide +kernel
theorem dX10_isCompared_40 : decode cX10_isCompared 40 = .ok (.aload_n 0, 1) := by decide +kernel
theorem dX10_isCompared_41 : decode cX10_isCompared 41 = .ok (.getfield 39, 3) := by decide +kernel
theorem dX10_isCompared_44 : decode cX10_isCompared 44 = .ok (.iload_n 1, 1) := by decide +kernel
theorem dX10_isCompared_45 : decode cX10_isCompared 45 = .ok (.iaload, 1) := by decide +kernel
theorem dX10_isCompared_46 : decode cX10_isCompared 46 = .ok (.i2l, 1) := by decide +kernel
theorem dX10_isCompared_47 : decode cX10_isCompared 47 = .ok (.ldc2_w 55, 3) := by decide +kernel
theorem dX10_isCompared_50 : decode cX10_isCompared 50 = .ok (.ldc2_w 256, 3) := by decide +kernel
theorem dX10_isCompared_53 : decode cX10_isCompared 53 = .ok (.invokestatic 113, 3) := by decide +kernel
theorem dX10_isCompared_56 : decode cX10_isCompared 56 = .ok (.ifCond .eq 7, 3) := by decide +kernel
theorem dX10_isCompared_59 : decode cX10_isCompared 59 = .ok (.iconst 1, 1) := by decide +kernel
theorem dX10_isCompared_60 : decode cX10_isCompared 60 = .ok (.goto 4, 3) := by decide +kernel
theorem dX10_isCompared_63 : decode cX10_isCompared 63 = .ok (.iconst 0, 1) := by decide +kernel
theorem dX10_isCompared_64 : decode cX10_isCompared 64 = .ok (.ireturn, 1) := by decide +kernel
theorem dX10_partAt_0 : decode cX10_partAt 0 = .ok (.iconst (-1), 1) := by decide +kernel
theorem dX10_partAt_1 : decode cX10_partAt 1 = .ok (.istore_n 1, 1) := by decide +kernel
theorem dX10_partAt_2 : decode cX10_partAt 2 = .ok (.iconst 0, 1) := by decide +kernel
theorem dX10_partAt_3 : decode cX10_partAt 3 = .ok (.istore_n 2, 1) := by decide +kernel
theorem dX10_partAt_4 : decode cX10_partAt 4 = .ok (.iload_n 2, 1) := by decide +kernel
theorem dX10_partAt_5 : decode cX10_partAt 5 = .ok (.bipush 9, 2) := by decide +kernel
theorem dX10_partAt_7 : decode cX10_partAt 7 = .ok (.if_icmp .ge 30, 3) := by decide +kernel
theorem dX10_partAt_10 : decode cX10_partAt 10 = .ok (.aload_n 0, 1) := by decide +kernel
theorem dX10_partAt_11 : decode cX10_partAt 11 = .ok (.aload_n 0, 1) := by decide +kernel
theorem dX10_partAt_12 : decode cX10_partAt 12 = .ok (.getfield 63, 3) := by decide +kernel
theorem dX10_partAt_15 : decode cX10_partAt 15 = .ok (.iload_n 2, 1) := by decide +kernel
theorem dX10_partAt_16 : decode cX10_partAt 16 = .ok (.laload, 1) := by decide +kernel
theorem dX10_partAt_17 : decode cX10_partAt 17 = .ok (.invokevirtual 258, 3) := by decide +kernel
theorem dX10_partAt_20 : decode cX10_partAt 20 = .ok (.ifCond .eq 9, 3) := by decide +kernel
theorem dX10_partAt_23 : decode cX10_partAt 23 = .ok (.iload_n 2, 1) := by decide +kernel
theorem dX10_partAt_24 : decode cX10_partAt 24 = .ok (.iconst 1, 1) := by decide +kernel
theorem dX10_partAt_25 : decode cX10_partAt 25 = .ok (.iadd, 1) := by decide +kernel
theorem dX10_partAt_26 : decode cX10_partAt 26 = .ok (.goto 4, 3) := by decide +kernel
theorem dX10_partAt_29 : decode cX10_partAt 29 = .ok (.iload_n 1, 1) := by decide +kernel
theorem dX10_partAt_30 : decode cX10_partAt 30 = .ok (.istore_n 1, 1) := by decide +kernel
theorem dX10_partAt_31 : decode cX10_partAt 31 = .ok (.iinc 2 1, 3) := by decide +kernel
theorem dX10_partAt_34 : decode cX10_partAt 34 = .ok (.goto (-30), 3) := by decide +kernel
theorem dX10_partAt_37 : decode cX10_partAt 37 = .ok (.iload_n 1, 1) := by decide +kernel
theorem dX10_partAt_38 : decode cX10_partAt 38 = .ok (.ireturn, 1) := by decide +kernel
theorem dX10_openBracket_0 : decode cX10_openBracket 0 = .ok (.aload_n 0, 1) := by decide +kernel
theorem dX10_openBracket_1 : decode cX10_openBracket 1 = .ok (.aload_n 0, 1) := by decide +kernel
theorem dX10_openBracket_2 : decode cX10_openBracket 2 = .ok (.getfield 262, 3) := by decide +kernel
theorem dX10_openBracket_5 : decode cX10_openBracket 5 = .ok (.bipush 8, 2) := by decide +kernel
theorem dX10_openBracket_7 : decode cX10_openBracket 7 = .ok (.if_icmp .ge 7, 3) := by decide +kernel
theorem dX10_openBracket_10 : decode cX10_openBracket 10 = .ok (.iconst 1, 1) := by decide +kernel
theorem dX10_openBracket_11 : decode cX10_openBracket 11 = .ok (.goto 4, 3) := by decide +kernel
theorem dX10_openBracket_14 : decode cX10_openBracket 14 = .ok (.iconst 0, 1) := by decide +kernel
theorem dX10_openBracket_15 : decode cX10_openBracket 15 = .ok (.invokevirtual 235, 3) := by decide +kernel
theorem dX10_openBracket_18 : decode cX10_openBracket 18 = .ok (.aload_n 0, 1) := by decide +kernel
theorem dX10_openBracket_19 : decode cX10_openBracket 19 = .ok (.getfield 200, 3) := by decide +kernel
theorem dX10_openBracket_22 : decode cX10_openBracket 22 = .ok (.ifCond .ne 19, 3) := by decide +kernel
theorem dX10_openBracket_25 : decode cX10_openBracket 25 = .ok (.aload_n 0, 1) := by decide +kernel
theorem dX10_openBracket_26 : decode cX10_openBracket 26 = .ok (.dup, 1) := by decide +kernel
theorem dX10_openBracket_27 : decode cX10_openBracket 27 = .ok (.getfield 262, 3) := by decide +kernel
theorem dX10_openBracket_30 : decode cX10_openBracket 30 = .ok (.iconst 1, 1) := by decide +kernel
theorem dX10_openBracket_31 : decode cX10_openBracket 31 = .ok (.iadd, 1) := by decide +kernel
theorem dX10_openBracket_32 : decode cX10_openBracket 32 = .ok (.putfield 262, 3) := by decide +kernel
theorem dX10_openBracket_35 : decode cX10_openBracket 35 = .ok (.aload_n 0, 1) := by decide +kernel
theorem dX10_openBracket_36 : decode cX10_openBracket 36 = .ok (.iload_n 1, 1) := by decide +kernel
theorem dX10_openBracket_37 : decode cX10_openBracket 37 = .ok (.iconst 0, 1) := by decide +kernel
theorem dX10_openBracket_38 : decode cX10_openBracket 38 = .ok (.invokevirtual 265, 3) := by decide +kernel
theorem dX10_openBracket_41 : decode cX10_openBracket 41 = .ok (.return_, 1) := by decide +kernel
theorem dX10_leaf_0 : decode cX10_leaf 0 = .ok (.aload_n 0, 1) := by decide +kernel
theorem dX10_leaf_1 : decode cX10_leaf 1 = .ok (.iload_n 1, 1) := by decide +kernel
theorem dX10_leaf_2 : decode cX10_leaf 2 = .ok (.ifCond .eq 16, 3) := by decide +kernel
theorem dX10_leaf_5 : decode cX10_leaf 5 = .ok (.aload_n 0, 1) := by decide +kernel
theorem dX10_leaf_6 : decode cX10_leaf 6 = .ok (.getfield 268, 3) := by decide +kernel
theorem dX10_leaf_9 : decode cX10_leaf 9 = .ok (.bipush 50, 2) := by decide +kernel
theorem dX10_leaf_11 : decode cX10_leaf 11 = .ok (.if_icmp .ge 7, 3) := by decide +kernel
theorem dX10_leaf_14 : decode cX10_leaf 14 = .ok (.iconst 1, 1) := by decide +kernel
theorem dX10_leaf_15 : decode cX10_leaf 15 = .ok (.goto 4, 3) := by decide +kernel
theorem dX10_leaf_18 : decode cX10_leaf 18 = .ok (.iconst 0, 1) := by decide +kernel
theorem dX10_leaf_19 : decode cX10_leaf 19 = .ok (.invokevirtual 235, 3) := by decide +kernel
theorem dX10_leaf_22 : decode cX10_leaf 22 = .ok (.aload_n 0, 1) := by decide +kernel
theorem dX10_leaf_23 : decode cX10_leaf 23 = .ok (.getfield 200, 3) := by decide +kernel
theorem dX10_leaf_26 : decode cX10_leaf 26 = .ok (.ifCond .ne 19, 3) := by decide +kernel
theorem dX10_leaf_29 : decode cX10_leaf 29 = .ok (.aload_n 0, 1) := by decide +kernel
theorem dX10_leaf_30 : decode cX10_leaf 30 = .ok (.iload_n 2, 1) := by decide +kernel
theorem dX10_leaf_31 : decode cX10_leaf 31 = .ok (.iload_n 3, 1) := by decide +kernel
theorem dX10_leaf_32 : decode cX10_leaf 32 = .ok (.invokevirtual 248, 3) := by decide +kernel
theorem dX10_leaf_35 : decode cX10_leaf 35 = .ok (.aload_n 0, 1) := by decide +kernel
theorem dX10_leaf_36 : decode cX10_leaf 36 = .ok (.dup, 1) := by decide +kernel
theorem dX10_leaf_37 : decode cX10_leaf 37 = .ok (.getfield 268, 3) := by decide +kernel
theorem dX10_leaf_40 : decode cX10_leaf 40 = .ok (.iconst 1, 1) := by decide +kernel
theorem dX10_leaf_41 : decode cX10_leaf 41 = .ok (.iadd, 1) := by decide +kernel
theorem dX10_leaf_42 : decode cX10_leaf 42 = .ok (.putfield 268, 3) := by decide +kernel
theorem dX10_leaf_45 : decode cX10_leaf 45 = .ok (.return_, 1) := by decide +kernel
theorem dX10_readPart_0 : decode cX10_readPart 0 = .ok (.aload_n 0, 1) := by decide +kernel
theorem dX10_readPart_1 : decode cX10_readPart 1 = .ok (.bipush 91, 2) := by decide +kernel
theorem dX10_readPart_3 : decode cX10_readPart 3 = .ok (.invokevirtual 271, 3) := by decide +kernel
theorem dX10_readPart_6 : decode cX10_readPart 6 = .ok (.ifCond .eq 11, 3) := by decide +kernel
theorem dX10_readPart_9 : decode cX10_readPart 9 = .ok (.aload_n 0, 1) := by decide +kernel
theorem dX10_readPart_10 : decode cX10_readPart 10 = .ok (.bipush 31, 2) := by decide +kernel
theorem dX10_readPart_12 : decode cX10_readPart 12 = .ok (.invokevirtual 274, 3) := by decide +kernel
theorem dX10_readPart_15 : decode cX10_readPart 15 = .ok (.iconst 1, 1) := by decide +kernel
theorem dX10_readPart_16 : decode cX10_readPart 16 = .ok (.ireturn, 1) := by decide +kernel
theorem dX10_readPart_17 : decode cX10_readPart 17 = .ok (.aload_n 0, 1) := by decide +kernel
theorem dX10_readPart_18 : decode cX10_readPart 18 = .ok (.invokevirtual 277, 3) := by decide +kernel
theorem dX10_readPart_21 : decode cX10_readPart 21 = .ok (.istore_n 1, 1) := by decide +kernel
theorem dX10_readPart_22 : decode cX10_readPart 22 = .ok (.aload_n 0, 1) := by decide +kernel
theorem dX10_readPart_23 : decode cX10_readPart 23 = .ok (.getfield 220, 3) := by decide +kernel
theorem dX10_readPart_26 : decode cX10_readPart 26 = .ok (.iconst 2, 1) := by decide +kernel
theorem dX10_readPart_27 : decode cX10_readPart 27 = .ok (.if_icmp .ne 18, 3) := by decide +kernel
theorem dX10_readPart_30 : decode cX10_readPart 30 = .ok (.aload_n 0, 1) := by decide +kernel
theorem dX10_readPart_31 : decode cX10_readPart 31 = .ok (.getfield 210, 3) := by decide +kernel
theorem dX10_readPart_34 : decode cX10_readPart 34 = .ok (.ldc2_w 280, 3) := by decide +kernel
theorem dX10_readPart_37 : decode cX10_readPart 37 = .ok (.lcmp, 1) := by decide +kernel
theorem dX10_readPart_38 : decode cX10_readPart 38 = .ok (.ifCond .gt 7, 3) := by decide +kernel
theorem dX10_readPart_41 : decode cX10_readPart 41 = .ok (.iconst 1, 1) := by decide +kernel
theorem dX10_readPart_42 : decode cX10_readPart 42 = .ok (.goto 4, 3) := by decide +kernel
theorem dX10_readPart_45 : decode cX10_readPart 45 = .ok (.iconst 0, 1) := by decide +kernel
theorem dX10_readPart_46 : decode cX10_readPart 46 = .ok (.istore_n 2, 1) := by decide +kernel
theorem dX10_readPart_47 : decode cX10_readPart 47 = .ok (.aload_n 0, 1) := by decide +kernel
theorem dX10_readPart_48 : decode cX10_readPart 48 = .ok (.iload_n 1, 1) := by decide +kernel
theorem dX10_readPart_49 : decode cX10_readPart 49 = .ok (.iconst (-1), 1) := by decide +kernel
theorem dX10_readPart_50 : decode cX10_readPart 50 = .ok (.if_icmp .ne 7, 3) := by decide +kernel
theorem dX10_readPart_53 : decode cX10_readPart 53 = .ok (.iload_n 2, 1) := by decide +kernel
theorem dX10_readPart_54 : decode cX10_readPart 54 = .ok (.ifCond .eq 7, 3) := by decide +kernel
theorem dX10_readPart_57 : decode cX10_readPart 57 = .ok (.iconst 1, 1) := by decide +kernel
theorem dX10_readPart_58 : decode cX10_readPart 58 = .ok (.goto 4, 3) := by decide +kernel
theorem dX10_readPart_61 : decode cX10_readPart 61 = .ok (.iconst 0, 1) := by decide +kernel
theorem dX10_readPart_62 : decode cX10_readPart 62 = .ok (.iload_n 1, 1) := by decide +kernel
theorem dX10_readPart_63 : decode cX10_readPart 63 = .ok (.iconst (-1), 1) := by decide +kernel
theorem dX10_readPart_64 : decode cX10_readPart 64 = .ok (.if_icmp .ne 7, 3) := by decide +kernel
theorem dX10_readPart_67 : decode cX10_readPart 67 = .ok (.iconst 0, 1) := by decide +kernel
theorem dX10_readPart_68 : decode cX10_readPart 68 = .ok (.goto 4, 3) := by decide +kernel
theorem dX10_readPart_71 : decode cX10_readPart 71 = .ok (.iload_n 1, 1) := by decide +kernel
theorem dX10_readPart_72 : decode cX10_readPart 72 = .ok (.iload_n 2, 1) := by decide +kernel
theorem dX10_readPart_73 : decode cX10_readPart 73 = .ok (.ifCond .eq 11, 3) := by decide +kernel
theorem dX10_readPart_76 : decode cX10_readPart 76 = .ok (.aload_n 0, 1) := by decide +kernel
theorem dX10_readPart_77 : decode cX10_readPart 77 = .ok (.getfield 210, 3) := by decide +kernel
theorem dX10_readPart_80 : decode cX10_readPart 80 = .ok (.l2i, 1) := by decide +kernel
theorem dX10_readPart_81 : decode cX10_readPart 81 = .ok (.goto 4, 3) := by decide +kernel
theorem dX10_readPart_84 : decode cX10_readPart 84 = .ok (.iconst 0, 1) := by decide +kernel
theorem dX10_readPart_85 : decode cX10_readPart 85 = .ok (.invokevirtual 282, 3) := by decide +kernel
theorem dX10_readPart_88 : decode cX10_readPart 88 = .ok (.iconst 3, 1) := by decide +kernel
theorem dX10_readPart_89 : decode cX10_readPart 89 = .ok (.ireturn, 1) := by decide +kernel
theorem dX10_readPlain_0 : decode cX10_readPlain 0 = .ok (.aload_n 0, 1) := by decide +kernel
theorem dX10_readPlain_1 : decode cX10_readPlain 1 = .ok (.ldc2_w 286, 3) := by decide +kernel
theorem dX10_readPlain_4 : decode cX10_readPlain 4 = .ok (.invokevirtual 258, 3) := by decide +kernel
theorem dX10_readPlain_7 : decode cX10_readPlain 7 = .ok (.ifCond .eq 16, 3) := by decide +kernel
theorem dX10_readPlain_10 : decode cX10_readPlain 10 = .ok (.aload_n 0, 1) := by decide +kernel
theorem dX10_readPlain_11 : decode cX10_readPlain 11 = .ok (.bipush 27, 2) := by decide +kernel
theorem dX10_readPlain_13 : decode cX10_readPlain 13 = .ok (.iconst 0, 1) := by decide +kernel
theorem dX10_readPlain_14 : decode cX10_readPlain 14 = .ok (.invokevirtual 265, 3) := by decide +kernel
theorem dX10_readPlain_17 : decode cX10_readPlain 17 = .ok (.aload_n 0, 1) := by decide +kernel
theorem dX10_readPlain_18 : decode cX10_readPlain 18 = .ok (.invokevirtual 204, 3) := by decide +kernel
theorem dX10_readPlain_21 : decode cX10_readPlain 21 = .ok (.iconst 0, 1) := by decide +kernel
theorem dX10_readPlain_22 : decode cX10_readPlain 22 = .ok (.ireturn, 1) := by decide +kernel
theorem dX10_readPlain_23 : decode cX10_readPlain 23 = .ok (.aload_n 0, 1) := by decide +kernel
theorem dX10_readPlain_24 : decode cX10_readPlain 24 = .ok (.bipush 40, 2) := by decide +kernel
theorem dX10_readPlain_26 : decode cX10_readPlain 26 = .ok (.invokevirtual 271, 3) := by decide +kernel
theorem dX10_readPlain_29 : decode cX10_readPlain 29 = .ok (.ifCond .eq 11, 3) := by decide +kernel
theorem dX10_readPlain_32 : decode cX10_readPlain 32 = .ok (.aload_n 0, 1) := by decide +kernel
theorem dX10_readPlain_33 : decode cX10_readPlain 33 = .ok (.bipush 30, 2) := by decide +kernel
theorem dX10_readPlain_35 : decode cX10_readPlain 35 = .ok (.invokevirtual 274, 3) := by decide +kernel
theorem dX10_readPlain_38 : decode cX10_readPlain 38 = .ok (.iconst 0, 1) := by decide +kernel
theorem dX10_readPlain_39 : decode cX10_readPlain 39 = .ok (.ireturn, 1) := by decide +kernel
theorem dX10_readPlain_40 : decode cX10_readPlain 40 = .ok (.aload_n 0, 1) := by decide +kernel
theorem dX10_readPlain_41 : decode cX10_readPlain 41 = .ok (.invokevirtual 288, 3) := by decide +kernel
theorem dX10_readPlain_44 : decode cX10_readPlain 44 = .ok (.ireturn, 1) := by decide +kernel
theorem dX10_behindSum_0 : decode cX10_behindSum 0 = .ok (.aload_n 0, 1) := by decide +kernel
theorem dX10_behindSum_1 : decode cX10_behindSum 1 = .ok (.bipush 43, 2) := by decide +kernel
theorem dX10_behindSum_3 : decode cX10_behindSum 3 = .ok (.invokevirtual 271, 3) := by decide +kernel
theorem dX10_behindSum_6 : decode cX10_behindSum 6 = .ok (.ifCond .eq 8, 3) := by decide +kernel
theorem dX10_behindSum_9 : decode cX10_behindSum 9 = .ok (.bipush 20, 2) := by decide +kernel
theorem dX10_behindSum_11 : decode cX10_behindSum 11 = .ok (.goto 46, 3) := by decide +kernel
theorem dX10_behindSum_14 : decode cX10_behindSum 14 = .ok (.aload_n 0, 1) := by decide +kernel
theorem dX10_behindSum_15 : decode cX10_behindSum 15 = .ok (.bipush 45, 2) := by decide +kernel
theorem dX10_behindSum_17 : decode cX10_behindSum 17 = .ok (.invokevirtual 271, 3) := by decide +kernel
theorem dX10_behindSum_20 : decode cX10_behindSum 20 = .ok (.ifCond .eq 8, 3) := by decide +kernel
theorem dX10_behindSum_23 : decode cX10_behindSum 23 = .ok (.bipush 21, 2) := by decide +kernel
theorem dX10_behindSum_25 : decode cX10_behindSum 25 = .ok (.goto 32, 3) := by decide +kernel
theorem dX10_behindSum_28 : decode cX10_behindSum 28 = .ok (.aload_n 0, 1) := by decide +kernel
theorem dX10_behindSum_29 : decode cX10_behindSum 29 = .ok (.bipush 42, 2) := by decide +kernel
theorem dX10_behindSum_31 : decode cX10_behindSum 31 = .ok (.invokevirtual 271, 3) := by decide +kernel
theorem dX10_behindSum_34 : decode cX10_behindSum 34 = .ok (.ifCond .eq 8, 3) := by decide +kernel
theorem dX10_behindSum_37 : decode cX10_behindSum 37 = .ok (.bipush 22, 2) := by decide +kernel
theorem dX10_behindSum_39 : decode cX10_behindSum 39 = .ok (.goto 18, 3) := by decide +kernel
theorem dX10_behindSum_42 : decode cX10_behindSum 42 = .ok (.aload_n 0, 1) := by decide +kernel
theorem dX10_behindSum_43 : decode cX10_behindSum 43 = .ok (.bipush 47, 2) := by decide +kernel
theorem dX10_behindSum_45 : decode cX10_behindSum 45 = .ok (.invokevirtual 271, 3) := by decide +kernel
theorem dX10_behindSum_48 : decode cX10_behindSum 48 = .ok (.ifCond .eq 8, 3) := by decide +kernel
theorem dX10_behindSum_51 : decode cX10_behindSum 51 = .ok (.bipush 23, 2) := by decide +kernel
theorem dX10_behindSum_53 : decode cX10_behindSum 53 = .ok (.goto 4, 3) := by decide +kernel
theorem dX10_behindSum_56 : decode cX10_behindSum 56 = .ok (.iconst (-1), 1) := by decide +kernel
theorem dX10_behindSum_57 : decode cX10_behindSum 57 = .ok (.istore_n 2, 1) := by decide +kernel
theorem dX10_behindSum_58 : decode cX10_behindSum 58 = .ok (.iload_n 2, 1) := by decide +kernel
theorem dX10_behindSum_59 : decode cX10_behindSum 59 = .ok (.iconst (-1), 1) := by decide +kernel
theorem dX10_behindSum_60 : decode cX10_behindSum 60 = .ok (.if_icmp .eq 23, 3) := by decide +kernel
theorem dX10_behindSum_63 : decode cX10_behindSum 63 = .ok (.aload_n 0, 1) := by decide +kernel
theorem dX10_behindSum_64 : decode cX10_behindSum 64 = .ok (.iload_n 2, 1) := by decide +kernel
theorem dX10_behindSum_65 : decode cX10_behindSum 65 = .ok (.invokestatic 245, 3) := by decide +kernel
theorem dX10_behindSum_68 : decode cX10_behindSum 68 = .ok (.invokevirtual 291, 3) := by decide +kernel
theorem dX10_behindSum_71 : decode cX10_behindSum 71 = .ok (.aload_n 0, 1) := by decide +kernel
theorem dX10_behindSum_72 : decode cX10_behindSum 72 = .ok (.iload_n 2, 1) := by decide +kernel
theorem dX10_behindSum_73 : decode cX10_behindSum 73 = .ok (.iconst 0, 1) := by decide +kernel
theorem dX10_behindSum_74 : decode cX10_behindSum 74 = .ok (.invokevirtual 265, 3) := by decide +kernel
theorem dX10_behindSum_77 : decode cX10_behindSum 77 = .ok (.aload_n 0, 1) := by decide +kernel
theorem dX10_behindSum_78 : decode cX10_behindSum 78 = .ok (.invokevirtual 204, 3) := by decide +kernel
theorem dX10_behindSum_81 : decode cX10_behindSum 81 = .ok (.iconst 1, 1) := by decide +kernel
theorem dX10_behindSum_82 : decode cX10_behindSum 82 = .ok (.ireturn, 1) := by decide +kernel
theorem dX10_behindSum_83 : decode cX10_behindSum 83 = .ok (.aload_n 0, 1) := by decide +kernel
theorem dX10_behindSum_84 : decode cX10_behindSum 84 = .ok (.invokevirtual 294, 3) := by decide +kernel
theorem dX10_behindSum_87 : decode cX10_behindSum 87 = .ok (.istore_n 3, 1) := by decide +kernel
theorem dX10_behindSum_88 : decode cX10_behindSum 88 = .ok (.iload_n 3, 1) := by decide +kernel
theorem dX10_behindSum_89 : decode cX10_behindSum 89 = .ok (.bipush 31, 2) := by decide +kernel
theorem dX10_behindSum_91 : decode cX10_behindSum 91 = .ok (.if_icmp .ne 47, 3) := by decide +kernel
theorem dX10_behindSum_94 : decode cX10_behindSum 94 = .ok (.aload_n 0, 1) := by decide +kernel
theorem dX10_behindSum_95 : decode cX10_behindSum 95 = .ok (.aload_n 0, 1) := by decide +kernel
theorem dX10_behindSum_96 : decode cX10_behindSum 96 = .ok (.bipush 93, 2) := by decide +kernel
theorem dX10_behindSum_98 : decode cX10_behindSum 98 = .ok (.invokevirtual 271, 3) := by decide +kernel
theorem dX10_behindSum_101 : decode cX10_behindSum 101 = .ok (.invokevirtual 235, 3) := by decide +kernel
theorem dX10_behindSum_104 : decode cX10_behindSum 104 = .ok (.aload_n 0, 1) := by decide +kernel
theorem dX10_behindSum_105 : decode cX10_behindSum 105 = .ok (.getfield 200, 3) := by decide +kernel
theorem dX10_behindSum_108 : decode cX10_behindSum 108 = .ok (.ifCond .ne 28, 3) := by decide +kernel
theorem dX10_behindSum_111 : decode cX10_behindSum 111 = .ok (.aload_n 0, 1) := by decide +kernel
theorem dX10_behindSum_112 : decode cX10_behindSum 112 = .ok (.iconst 5, 1) := by decide +kernel
theorem dX10_behindSum_113 : decode cX10_behindSum 113 = .ok (.invokevirtual 291, 3) := by decide +kernel
theorem dX10_behindSum_116 : decode cX10_behindSum 116 = .ok (.aload_n 0, 1) := by decide +kernel
theorem dX10_behindSum_117 : decode cX10_behindSum 117 = .ok (.dup, 1) := by decide +kernel
theorem dX10_behindSum_118 : decode cX10_behindSum 118 = .ok (.getfield 242, 3) := by decide +kernel
theorem dX10_behindSum_121 : decode cX10_behindSum 121 = .ok (.iconst 1, 1) := by decide +kernel
theorem dX10_behindSum_122 : decode cX10_behindSum 122 = .ok (.isub, 1) := by decide +kernel
theorem dX10_behindSum_123 : decode cX10_behindSum 123 = .ok (.putfield 242, 3) := by decide +kernel
theorem dX10_behindSum_126 : decode cX10_behindSum 126 = .ok (.aload_n 0, 1) := by decide +kernel
theorem dX10_behindSum_127 : decode cX10_behindSum 127 = .ok (.dup, 1) := by decide +kernel
theorem dX10_behindSum_128 : decode cX10_behindSum 128 = .ok (.getfield 262, 3) := by decide +kernel
theorem dX10_behindSum_131 : decode cX10_behindSum 131 = .ok (.iconst 1, 1) := by decide +kernel
theorem dX10_behindSum_132 : decode cX10_behindSum 132 = .ok (.isub, 1) := by decide +kernel
theorem dX10_behindSum_133 : decode cX10_behindSum 133 = .ok (.putfield 262, 3) := by decide +kernel
theorem dX10_behindSum_136 : decode cX10_behindSum 136 = .ok (.iconst 3, 1) := by decide +kernel
theorem dX10_behindSum_137 : decode cX10_behindSum 137 = .ok (.ireturn, 1) := by decide +kernel
theorem dX10_behindSum_138 : decode cX10_behindSum 138 = .ok (.iload_n 3, 1) := by decide +kernel
theorem dX10_behindSum_139 : decode cX10_behindSum 139 = .ok (.iconst (-1), 1) := by decide +kernel
theorem dX10_behindSum_140 : decode cX10_behindSum 140 = .ok (.if_icmp .ne 9, 3) := by decide +kernel
theorem dX10_behindSum_143 : decode cX10_behindSum 143 = .ok (.iload_n 1, 1) := by decide +kernel
theorem dX10_behindSum_144 : decode cX10_behindSum 144 = .ok (.ifCond .ne 5, 3) := by decide +kernel
theorem dX10_behindSum_147 : decode cX10_behindSum 147 = .ok (.iconst 4, 1) := by decide +kernel
theorem dX10_behindSum_148 : decode cX10_behindSum 148 = .ok (.ireturn, 1) := by decide +kernel
theorem dX10_behindSum_149 : decode cX10_behindSum 149 = .ok (.aload_n 0, 1) := by decide +kernel
theorem dX10_behindSum_150 : decode cX10_behindSum 150 = .ok (.invokevirtual 297, 3) := by decide +kernel
theorem dX10_behindSum_153 : decode cX10_behindSum 153 = .ok (.ifCond .eq 5, 3) := by decide +kernel
theorem dX10_behindSum_156 : decode cX10_behindSum 156 = .ok (.iconst 2, 1) := by decide +kernel
theorem dX10_behindSum_157 : decode cX10_behindSum 157 = .ok (.ireturn, 1) := by decide +kernel
theorem dX10_behindSum_158 : decode cX10_behindSum 158 = .ok (.aload_n 0, 1) := by decide +kernel
theorem dX10_behindSum_159 : decode cX10_behindSum 159 = .ok (.bipush 60, 2) := by decide +kernel
theorem dX10_behindSum_161 : decode cX10_behindSum 161 = .ok (.invokevirtual 271, 3) := by decide +kernel
theorem dX10_behindSum_164 : decode cX10_behindSum 164 = .ok (.ifCond .eq 8, 3) := by decide +kernel
theorem dX10_behindSum_167 : decode cX10_behindSum 167 = .ok (.bipush 24, 2) := by decide +kernel
theorem dX10_behindSum_169 : decode cX10_behindSum 169 = .ok (.goto 19, 3) := by decide +kernel
theorem dX10_behindSum_172 : decode cX10_behindSum 172 = .ok (.aload_n 0, 1) := by decide +kernel
theorem dX10_behindSum_173 : decode cX10_behindSum 173 = .ok (.bipush 62, 2) := by decide +kernel
theorem dX10_behindSum_175 : decode cX10_behindSum 175 = .ok (.invokevirtual 271, 3) := by decide +kernel
theorem dX10_behindSum_178 : decode cX10_behindSum 178 = .ok (.ifCond .eq 8, 3) := by decide +kernel
theorem dX10_behindSum_181 : decode cX10_behindSum 181 = .ok (.bipush 25, 2) := by decide +kernel
theorem dX10_behindSum_183 : decode cX10_behindSum 183 = .ok (.goto 5, 3) := by decide +kernel
theorem dX10_behindSum_186 : decode cX10_behindSum 186 = .ok (.bipush 26, 2) := by decide +kernel
theorem dX10_behindSum_188 : decode cX10_behindSum 188 = .ok (.istore_n 2, 1) := by decide +kernel
theorem dX10_behindSum_189 : decode cX10_behindSum 189 = .ok (.aload_n 0, 1) := by decide +kernel
theorem dX10_behindSum_190 : decode cX10_behindSum 190 = .ok (.iload_n 2, 1) := by decide +kernel
theorem dX10_behindSum_191 : decode cX10_behindSum 191 = .ok (.bipush 26, 2) := by decide +kernel
theorem dX10_behindSum_193 : decode cX10_behindSum 193 = .ok (.if_icmp .ne 12, 3) := by decide +kernel
theorem dX10_behindSum_196 : decode cX10_behindSum 196 = .ok (.aload_n 0, 1) := by decide +kernel
theorem dX10_behindSum_197 : decode cX10_behindSum 197 = .ok (.bipush 61, 2) := by decide +kernel
theorem dX10_behindSum_199 : decode cX10_behindSum 199 = .ok (.invokevirtual 271, 3) := by decide +kernel
theorem dX10_behindSum_202 : decode cX10_behindSum 202 = .ok (.ifCond .eq 7, 3) := by decide +kernel
theorem dX10_behindSum_205 : decode cX10_behindSum 205 = .ok (.iconst 1, 1) := by decide +kernel
theorem dX10_behindSum_206 : decode cX10_behindSum 206 = .ok (.goto 4, 3) := by decide +kernel
theorem dX10_behindSum_209 : decode cX10_behindSum 209 = .ok (.iconst 0, 1) := by decide +kernel
theorem dX10_behindSum_210 : decode cX10_behindSum 210 = .ok (.invokevirtual 235, 3) := by decide +kernel
theorem dX10_behindSum_213 : decode cX10_behindSum 213 = .ok (.aload_n 0, 1) := by decide +kernel
theorem dX10_behindSum_214 : decode cX10_behindSum 214 = .ok (.getfield 200, 3) := by decide +kernel
theorem dX10_behindSum_217 : decode cX10_behindSum 217 = .ok (.ifCond .ne 14, 3) := by decide +kernel
theorem dX10_behindSum_220 : decode cX10_behindSum 220 = .ok (.aload_n 0, 1) := by decide +kernel
theorem dX10_behindSum_221 : decode cX10_behindSum 221 = .ok (.iconst 5, 1) := by decide +kernel
theorem dX10_behindSum_222 : decode cX10_behindSum 222 = .ok (.invokevirtual 291, 3) := by decide +kernel
theorem dX10_behindSum_225 : decode cX10_behindSum 225 = .ok (.aload_n 0, 1) := by decide +kernel
theorem dX10_behindSum_226 : decode cX10_behindSum 226 = .ok (.iload_n 2, 1) := by decide +kernel
theorem dX10_behindSum_227 : decode cX10_behindSum 227 = .ok (.iconst 0, 1) := by decide +kernel
theorem dX10_behindSum_228 : decode cX10_behindSum 228 = .ok (.invokevirtual 265, 3) := by decide +kernel
theorem dX10_behindSum_231 : decode cX10_behindSum 231 = .ok (.iconst 1, 1) := by decide +kernel
theorem dX10_behindSum_232 : decode cX10_behindSum 232 = .ok (.ireturn, 1) := by decide +kernel
theorem dX10_behindTest_0 : decode cX10_behindTest 0 = .ok (.aload_n 0, 1) := by decide +kernel
theorem dX10_behindTest_1 : decode cX10_behindTest 1 = .ok (.ldc2_w 301, 3) := by decide +kernel
theorem dX10_behindTest_4 : decode cX10_behindTest 4 = .ok (.invokevirtual 258, 3) := by decide +kernel
theorem dX10_behindTest_7 : decode cX10_behindTest 7 = .ok (.istore_n 1, 1) := by decide +kernel
theorem dX10_behindTest_8 : decode cX10_behindTest 8 = .ok (.iload_n 1, 1) := by decide +kernel
theorem dX10_behindTest_9 : decode cX10_behindTest 9 = .ok (.ifCond .ne 13, 3) := by decide +kernel
theorem dX10_behindTest_12 : decode cX10_behindTest 12 = .ok (.aload_n 0, 1) := by decide +kernel
theorem dX10_behindTest_13 : decode cX10_behindTest 13 = .ok (.ldc2_w 303, 3) := by decide +kernel
theorem dX10_behindTest_16 : decode cX10_behindTest 16 = .ok (.invokevirtual 258, 3) := by decide +kernel
theorem dX10_behindTest_19 : decode cX10_behindTest 19 = .ok (.ifCond .eq 57, 3) := by decide +kernel
theorem dX10_behindTest_22 : decode cX10_behindTest 22 = .ok (.aload_n 0, 1) := by decide +kernel
theorem dX10_behindTest_23 : decode cX10_behindTest 23 = .ok (.iload_n 1, 1) := by decide +kernel
theorem dX10_behindTest_24 : decode cX10_behindTest 24 = .ok (.ifCond .eq 7, 3) := by decide +kernel
theorem dX10_behindTest_27 : decode cX10_behindTest 27 = .ok (.iconst 2, 1) := by decide +kernel
theorem dX10_behindTest_28 : decode cX10_behindTest 28 = .ok (.goto 4, 3) := by decide +kernel
theorem dX10_behindTest_31 : decode cX10_behindTest 31 = .ok (.iconst 1, 1) := by decide +kernel
theorem dX10_behindTest_32 : decode cX10_behindTest 32 = .ok (.invokevirtual 291, 3) := by decide +kernel
theorem dX10_behindTest_35 : decode cX10_behindTest 35 = .ok (.aload_n 0, 1) := by decide +kernel
theorem dX10_behindTest_36 : decode cX10_behindTest 36 = .ok (.iload_n 1, 1) := by decide +kernel
theorem dX10_behindTest_37 : decode cX10_behindTest 37 = .ok (.ifCond .eq 8, 3) := by decide +kernel
theorem dX10_behindTest_40 : decode cX10_behindTest 40 = .ok (.bipush 28, 2) := by decide +kernel
theorem dX10_behindTest_42 : decode cX10_behindTest 42 = .ok (.goto 5, 3) := by decide +kernel
theorem dX10_behindTest_45 : decode cX10_behindTest 45 = .ok (.bipush 29, 2) := by decide +kernel
theorem dX10_behindTest_47 : decode cX10_behindTest 47 = .ok (.aload_n 0, 1) := by decide +kernel
theorem dX10_behindTest_48 : decode cX10_behindTest 48 = .ok (.getfield 239, 3) := by decide +kernel
theorem dX10_behindTest_51 : decode cX10_behindTest 51 = .ok (.invokevirtual 265, 3) := by decide +kernel
theorem dX10_behindTest_54 : decode cX10_behindTest 54 = .ok (.aload_n 0, 1) := by decide +kernel
theorem dX10_behindTest_55 : decode cX10_behindTest 55 = .ok (.iload_n 1, 1) := by decide +kernel
theorem dX10_behindTest_56 : decode cX10_behindTest 56 = .ok (.ifCond .eq 8, 3) := by decide +kernel
theorem dX10_behindTest_59 : decode cX10_behindTest 59 = .ok (.bipush 28, 2) := by decide +kernel
theorem dX10_behindTest_61 : decode cX10_behindTest 61 = .ok (.goto 5, 3) := by decide +kernel
theorem dX10_behindTest_64 : decode cX10_behindTest 64 = .ok (.bipush 29, 2) := by decide +kernel
theorem dX10_behindTest_66 : decode cX10_behindTest 66 = .ok (.iconst 0, 1) := by decide +kernel
theorem dX10_behindTest_67 : decode cX10_behindTest 67 = .ok (.invokevirtual 248, 3) := by decide +kernel
theorem dX10_behindTest_70 : decode cX10_behindTest 70 = .ok (.aload_n 0, 1) := by decide +kernel
theorem dX10_behindTest_71 : decode cX10_behindTest 71 = .ok (.invokevirtual 204, 3) := by decide +kernel
theorem dX10_behindTest_74 : decode cX10_behindTest 74 = .ok (.iconst 0, 1) := by decide +kernel
theorem dX10_behindTest_75 : decode cX10_behindTest 75 = .ok (.ireturn, 1) := by decide +kernel
theorem dX10_behindTest_76 : decode cX10_behindTest 76 = .ok (.aload_n 0, 1) := by decide +kernel
theorem dX10_behindTest_77 : decode cX10_behindTest 77 = .ok (.invokevirtual 294, 3) := by decide +kernel
theorem dX10_behindTest_80 : decode cX10_behindTest 80 = .ok (.iconst (-1), 1) := by decide +kernel
theorem dX10_behindTest_81 : decode cX10_behindTest 81 = .ok (.if_icmp .ne 5, 3) := by decide +kernel
theorem dX10_behindTest_84 : decode cX10_behindTest 84 = .ok (.iconst 4, 1) := by decide +kernel
theorem dX10_behindTest_85 : decode cX10_behindTest 85 = .ok (.ireturn, 1) := by decide +kernel
theorem dX10_behindTest_86 : decode cX10_behindTest 86 = .ok (.aload_n 0, 1) := by decide +kernel
theorem dX10_behindTest_87 : decode cX10_behindTest 87 = .ok (.aload_n 0, 1) := by decide +kernel
theorem dX10_behindTest_88 : decode cX10_behindTest 88 = .ok (.bipush 41, 2) := by decide +kernel
theorem dX10_behindTest_90 : decode cX10_behindTest 90 = .ok (.invokevirtual 271, 3) := by decide +kernel
theorem dX10_behindTest_93 : decode cX10_behindTest 93 = .ok (.invokevirtual 235, 3) := by decide +kernel
theorem dX10_behindTest_96 : decode cX10_behindTest 96 = .ok (.aload_n 0, 1) := by decide +kernel
theorem dX10_behindTest_97 : decode cX10_behindTest 97 = .ok (.getfield 200, 3) := by decide +kernel
theorem dX10_behindTest_100 : decode cX10_behindTest 100 = .ok (.ifCond .ne 28, 3) := by decide +kernel
theorem dX10_behindTest_103 : decode cX10_behindTest 103 = .ok (.aload_n 0, 1) := by decide +kernel
theorem dX10_behindTest_104 : decode cX10_behindTest 104 = .ok (.iconst 1, 1) := by decide +kernel
theorem dX10_behindTest_105 : decode cX10_behindTest 105 = .ok (.invokevirtual 291, 3) := by decide +kernel
theorem dX10_behindTest_108 : decode cX10_behindTest 108 = .ok (.aload_n 0, 1) := by decide +kernel
theorem dX10_behindTest_109 : decode cX10_behindTest 109 = .ok (.dup, 1) := by decide +kernel
theorem dX10_behindTest_110 : decode cX10_behindTest 110 = .ok (.getfield 242, 3) := by decide +kernel
theorem dX10_behindTest_113 : decode cX10_behindTest 113 = .ok (.iconst 1, 1) := by decide +kernel
theorem dX10_behindTest_114 : decode cX10_behindTest 114 = .ok (.isub, 1) := by decide +kernel
theorem dX10_behindTest_115 : decode cX10_behindTest 115 = .ok (.putfield 242, 3) := by decide +kernel
theorem dX10_behindTest_118 : decode cX10_behindTest 118 = .ok (.aload_n 0, 1) := by decide +kernel
theorem dX10_behindTest_119 : decode cX10_behindTest 119 = .ok (.dup, 1) := by decide +kernel
theorem dX10_behindTest_120 : decode cX10_behindTest 120 = .ok (.getfield 262, 3) := by decide +kernel
theorem dX10_behindTest_123 : decode cX10_behindTest 123 = .ok (.iconst 1, 1) := by decide +kernel
theorem dX10_behindTest_124 : decode cX10_behindTest 124 = .ok (.isub, 1) := by decide +kernel
theorem dX10_behindTest_125 : decode cX10_behindTest 125 = .ok (.putfield 262, 3) := by decide +kernel
theorem dX10_behindTest_128 : decode cX10_behindTest 128 = .ok (.iconst 2, 1) := by decide +kernel
theorem dX10_behindTest_129 : decode cX10_behindTest 129 = .ok (.ireturn, 1) := by decide +kernel
theorem dX10_readExpression_0 : decode cX10_readExpression 0 = .ok (.aload_n 0, 1) := by decide +kernel
theorem dX10_readExpression_1 : decode cX10_readExpression 1 = .ok (.iconst 0, 1) := by decide +kernel
theorem dX10_readExpression_2 : decode cX10_readExpression 2 = .ok (.putfield 242, 3) := by decide +kernel
theorem dX10_readExpression_5 : decode cX10_readExpression 5 = .ok (.aload_n 0, 1) := by decide +kernel
theorem dX10_readExpression_6 : decode cX10_readExpression 6 = .ok (.iconst 0, 1) := by decide +kernel
theorem dX10_readExpression_7 : decode cX10_readExpression 7 = .ok (.putfield 262, 3) := by decide +kernel
theorem dX10_readExpression_10 : decode cX10_readExpression 10 = .ok (.iload_n 1, 1) := by decide +kernel
theorem dX10_readExpression_11 : decode cX10_readExpression 11 = .ok (.ifCond .eq 7, 3) := by decide +kernel
theorem dX10_readExpression_14 : decode cX10_readExpression 14 = .ok (.iconst 0, 1) := by decide +kernel
theorem dX10_readExpression_15 : decode cX10_readExpression 15 = .ok (.goto 4, 3) := by decide +kernel
theorem dX10_readExpression_18 : decode cX10_readExpression 18 = .ok (.iconst 1, 1) := by decide +kernel
theorem dX10_readExpression_19 : decode cX10_readExpression 19 = .ok (.istore_n 2, 1) := by decide +kernel
theorem dX10_readExpression_20 : decode cX10_readExpression 20 = .ok (.aload_n 0, 1) := by decide +kernel
theorem dX10_readExpression_21 : decode cX10_readExpression 21 = .ok (.getfield 200, 3) := by decide +kernel
theorem dX10_readExpression_24 : decode cX10_readExpression 24 = .ok (.ifCond .ne 52, 3) := by decide +kernel
theorem dX10_readExpression_27 : decode cX10_readExpression 27 = .ok (.iload_n 2, 1) := by decide +kernel
theorem dX10_readExpression_28 : decode cX10_readExpression 28 = .ok (.iconst 4, 1) := by decide +kernel
theorem dX10_readExpression_29 : decode cX10_readExpression 29 = .ok (.if_icmp .eq 47, 3) := by decide +kernel
theorem dX10_readExpression_32 : decode cX10_readExpression 32 = .ok (.iload_n 2, 1) := by decide +kernel
theorem dX10_readExpression_33 : decode cX10_readExpression 33 = .ok (.ifCond .ne 10, 3) := by decide +kernel
theorem dX10_readExpression_36 : decode cX10_readExpression 36 = .ok (.aload_n 0, 1) := by decide +kernel
theorem dX10_readExpression_37 : decode cX10_readExpression 37 = .ok (.invokevirtual 305, 3) := by decide +kernel
theorem dX10_readExpression_40 : decode cX10_readExpression 40 = .ok (.goto 32, 3) := by decide +kernel
theorem dX10_readExpression_43 : decode cX10_readExpression 43 = .ok (.iload_n 2, 1) := by decide +kernel
theorem dX10_readExpression_44 : decode cX10_readExpression 44 = .ok (.iconst 1, 1) := by decide +kernel
theorem dX10_readExpression_45 : decode cX10_readExpression 45 = .ok (.if_icmp .ne 10, 3) := by decide +kernel
theorem dX10_readExpression_48 : decode cX10_readExpression 48 = .ok (.aload_n 0, 1) := by decide +kernel
theorem dX10_readExpression_49 : decode cX10_readExpression 49 = .ok (.invokevirtual 288, 3) := by decide +kernel
theorem dX10_readExpression_52 : decode cX10_readExpression 52 = .ok (.goto 20, 3) := by decide +kernel
theorem dX10_readExpression_55 : decode cX10_readExpression 55 = .ok (.iload_n 2, 1) := by decide +kernel
theorem dX10_readExpression_56 : decode cX10_readExpression 56 = .ok (.iconst 3, 1) := by decide +kernel
theorem dX10_readExpression_57 : decode cX10_readExpression 57 = .ok (.if_icmp .ne 11, 3) := by decide +kernel
theorem dX10_readExpression_60 : decode cX10_readExpression 60 = .ok (.aload_n 0, 1) := by decide +kernel
theorem dX10_readExpression_61 : decode cX10_readExpression 61 = .ok (.iload_n 1, 1) := by decide +kernel
theorem dX10_readExpression_62 : decode cX10_readExpression 62 = .ok (.invokevirtual 308, 3) := by decide +kernel
theorem dX10_readExpression_65 : decode cX10_readExpression 65 = .ok (.goto 7, 3) := by decide +kernel
theorem dX10_readExpression_68 : decode cX10_readExpression 68 = .ok (.aload_n 0, 1) := by decide +kernel
theorem dX10_readExpression_69 : decode cX10_readExpression 69 = .ok (.invokevirtual 312, 3) := by decide +kernel
theorem dX10_readExpression_72 : decode cX10_readExpression 72 = .ok (.istore_n 2, 1) := by decide +kernel
theorem dX10_readExpression_73 : decode cX10_readExpression 73 = .ok (.goto (-53), 3) := by decide +kernel
theorem dX10_readExpression_76 : decode cX10_readExpression 76 = .ok (.aload_n 0, 1) := by decide +kernel
theorem dX10_readExpression_77 : decode cX10_readExpression 77 = .ok (.iconst 1, 1) := by decide +kernel
theorem dX10_readExpression_78 : decode cX10_readExpression 78 = .ok (.invokevirtual 291, 3) := by decide +kernel
theorem dX10_readExpression_81 : decode cX10_readExpression 81 = .ok (.return_, 1) := by decide +kernel
theorem dX10_readClause_0 : decode cX10_readClause 0 = .ok (.aload_n 0, 1) := by decide +kernel
theorem dX10_readClause_1 : decode cX10_readClause 1 = .ok (.aload_n 0, 1) := by decide +kernel
theorem dX10_readClause_2 : decode cX10_readClause 2 = .ok (.ldc2_w 315, 3) := by decide +kernel
theorem dX10_readClause_5 : decode cX10_readClause 5 = .ok (.invokevirtual 258, 3) := by decide +kernel
theorem dX10_readClause_8 : decode cX10_readClause 8 = .ok (.ifCond .eq 16, 3) := by decide +kernel
theorem dX10_readClause_11 : decode cX10_readClause 11 = .ok (.aload_n 0, 1) := by decide +kernel
theorem dX10_readClause_12 : decode cX10_readClause 12 = .ok (.getfield 317, 3) := by decide +kernel
theorem dX10_readClause_15 : decode cX10_readClause 15 = .ok (.bipush 12, 2) := by decide +kernel
theorem dX10_readClause_17 : decode cX10_readClause 17 = .ok (.if_icmp .ge 7, 3) := by decide +kernel
theorem dX10_readClause_20 : decode cX10_readClause 20 = .ok (.iconst 1, 1) := by decide +kernel
theorem dX10_readClause_21 : decode cX10_readClause 21 = .ok (.goto 4, 3) := by decide +kernel
theorem dX10_readClause_24 : decode cX10_readClause 24 = .ok (.iconst 0, 1) := by decide +kernel
theorem dX10_readClause_25 : decode cX10_readClause 25 = .ok (.invokevirtual 235, 3) := by decide +kernel
theorem dX10_readClause_28 : decode cX10_readClause 28 = .ok (.aload_n 0, 1) := by decide +kernel
theorem dX10_readClause_29 : decode cX10_readClause 29 = .ok (.getfield 200, 3) := by decide +kernel
theorem dX10_readClause_32 : decode cX10_readClause 32 = .ok (.ifCond .eq 4, 3) := by decide +kernel
theorem dX10_readClause_35 : decode cX10_readClause 35 = .ok (.return_, 1) := by decide +kernel
theorem dX10_readClause_36 : decode cX10_readClause 36 = .ok (.bipush 8, 2) := by decide +kernel
theorem dX10_readClause_38 : decode cX10_readClause 38 = .ok (.aload_n 0, 1) := by decide +kernel
theorem dX10_readClause_39 : decode cX10_readClause 39 = .ok (.getfield 317, 3) := by decide +kernel
theorem dX10_readClause_42 : decode cX10_readClause 42 = .ok (.imul, 1) := by decide +kernel
theorem dX10_readClause_43 : decode cX10_readClause 43 = .ok (.istore_n 1, 1) := by decide +kernel
theorem dX10_readClause_44 : decode cX10_readClause 44 = .ok (.iconst 0, 1) := by decide +kernel
theorem dX10_readClause_45 : decode cX10_readClause 45 = .ok (.istore_n 2, 1) := by decide +kernel
theorem dX10_readClause_46 : decode cX10_readClause 46 = .ok (.iload_n 2, 1) := by decide +kernel
theorem dX10_readClause_47 : decode cX10_readClause 47 = .ok (.bipush 8, 2) := by decide +kernel
theorem dX10_readClause_49 : decode cX10_readClause 49 = .ok (.if_icmp .ge 18, 3) := by decide +kernel
theorem dX10_readClause_52 : decode cX10_readClause 52 = .ok (.aload_n 0, 1) := by decide +kernel
theorem dX10_readClause_53 : decode cX10_readClause 53 = .ok (.getfield 30, 3) := by decide +kernel
theorem dX10_readClause_56 : decode cX10_readClause 56 = .ok (.iload_n 1, 1) := by decide +kernel
theorem dX10_readClause_57 : decode cX10_readClause 57 = .ok (.iload_n 2, 1) := by decide +kernel
theorem dX10_readClause_58 : decode cX10_readClause 58 = .ok (.iadd, 1) := by decide +kernel
theorem dX10_readClause_59 : decode cX10_readClause 59 = .ok (.iconst 0, 1) := by decide +kernel
theorem dX10_readClause_60 : decode cX10_readClause 60 = .ok (.iastore, 1) := by decide +kernel
theorem dX10_readClause_61 : decode cX10_readClause 61 = .ok (.iinc 2 1, 3) := by decide +kernel
theorem dX10_readClause_64 : decode cX10_readClause 64 = .ok (.goto (-18), 3) := by decide +kernel
theorem dX10_readClause_67 : decode cX10_readClause 67 = .ok (.aload_n 0, 1) := by decide +kernel
theorem dX10_readClause_68 : decode cX10_readClause 68 = .ok (.dup, 1) := by decide +kernel
theorem dX10_readClause_69 : decode cX10_readClause 69 = .ok (.getfield 317, 3) := by decide +kernel
theorem dX10_readClause_72 : decode cX10_readClause 72 = .ok (.iconst 1, 1) := by decide +kernel
theorem dX10_readClause_73 : decode cX10_readClause 73 = .ok (.iadd, 1) := by decide +kernel
theorem dX10_readClause_74 : decode cX10_readClause 74 = .ok (.putfield 317, 3) := by decide +kernel
theorem dX10_readClause_77 : decode cX10_readClause 77 = .ok (.aload_n 0, 1) := by decide +kernel
theorem dX10_readClause_78 : decode cX10_readClause 78 = .ok (.getfield 30, 3) := by decide +kernel
theorem dX10_readClause_81 : decode cX10_readClause 81 = .ok (.iload_n 1, 1) := by decide +kernel
theorem dX10_readClause_82 : decode cX10_readClause 82 = .ok (.iconst 3, 1) := by decide +kernel
theorem dX10_readClause_83 : decode cX10_readClause 83 = .ok (.iadd, 1) := by decide +kernel
theorem dX10_readClause_84 : decode cX10_readClause 84 = .ok (.aload_n 0, 1) := by decide +kernel
theorem dX10_readClause_85 : decode cX10_readClause 85 = .ok (.getfield 239, 3) := by decide +kernel
theorem dX10_readClause_88 : decode cX10_readClause 88 = .ok (.iastore, 1) := by decide +kernel
theorem dX10_readClause_89 : decode cX10_readClause 89 = .ok (.aload_n 0, 1) := by decide +kernel
theorem dX10_readClause_90 : decode cX10_readClause 90 = .ok (.iconst 0, 1) := by decide +kernel
theorem dX10_readClause_91 : decode cX10_readClause 91 = .ok (.invokevirtual 320, 3) := by decide +kernel
theorem dX10_readClause_94 : decode cX10_readClause 94 = .ok (.aload_n 0, 1) := by decide +kernel
theorem dX10_readClause_95 : decode cX10_readClause 95 = .ok (.getfield 30, 3) := by decide +kernel
theorem dX10_readClause_98 : decode cX10_readClause 98 = .ok (.iload_n 1, 1) := by decide +kernel
theorem dX10_readClause_99 : decode cX10_readClause 99 = .ok (.iconst 4, 1) := by decide +kernel
theorem dX10_readClause_100 : decode cX10_readClause 100 = .ok (.iadd, 1) := by decide +kernel
theorem dX10_readClause_101 : decode cX10_readClause 101 = .ok (.aload_n 0, 1) := by decide +kernel
theorem dX10_readClause_102 : decode cX10_readClause 102 = .ok (.getfield 239, 3) := by decide +kernel
theorem dX10_readClause_105 : decode cX10_readClause 105 = .ok (.iastore, 1) := by decide +kernel
theorem dX10_readClause_106 : decode cX10_readClause 106 = .ok (.aload_n 0, 1) := by decide +kernel
theorem dX10_readClause_107 : decode cX10_readClause 107 = .ok (.getfield 30, 3) := by decide +kernel
theorem dX10_readClause_110 : decode cX10_readClause 110 = .ok (.iload_n 1, 1) := by decide +kernel
theorem dX10_readClause_111 : decode cX10_readClause 111 = .ok (.iconst 5, 1) := by decide +kernel
theorem dX10_readClause_112 : decode cX10_readClause 112 = .ok (.iadd, 1) := by decide +kernel
theorem dX10_readClause_113 : decode cX10_readClause 113 = .ok (.aload_n 0, 1) := by decide +kernel
theorem dX10_readClause_114 : decode cX10_readClause 114 = .ok (.getfield 239, 3) := by decide +kernel
theorem dX10_readClause_117 : decode cX10_readClause 117 = .ok (.iastore, 1) := by decide +kernel
theorem dX10_readClause_118 : decode cX10_readClause 118 = .ok (.aload_n 0, 1) := by decide +kernel
theorem dX10_readClause_119 : decode cX10_readClause 119 = .ok (.getfield 200, 3) := by decide +kernel
theorem dX10_readClause_122 : decode cX10_readClause 122 = .ok (.ifCond .ne 22, 3) := by decide +kernel
theorem dX10_readClause_125 : decode cX10_readClause 125 = .ok (.aload_n 0, 1) := by decide +kernel
theorem dX10_readClause_126 : decode cX10_readClause 126 = .ok (.ldc2_w 323, 3) := by decide +kernel
theorem dX10_readClause_129 : decode cX10_readClause 129 = .ok (.invokevirtual 258, 3) := by decide +kernel
theorem dX10_readClause_132 : decode cX10_readClause 132 = .ok (.ifCond .eq 12, 3) := by decide +kernel
theorem dX10_readClause_135 : decode cX10_readClause 135 = .ok (.aload_n 0, 1) := by decide +kernel
theorem dX10_readClause_136 : decode cX10_readClause 136 = .ok (.invokevirtual 204, 3) := by decide +kernel
theorem dX10_readClause_139 : decode cX10_readClause 139 = .ok (.aload_n 0, 1) := by decide +kernel
theorem dX10_readClause_140 : decode cX10_readClause 140 = .ok (.iconst 1, 1) := by decide +kernel
theorem dX10_readClause_141 : decode cX10_readClause 141 = .ok (.invokevirtual 320, 3) := by decide +kernel
theorem dX10_readClause_144 : decode cX10_readClause 144 = .ok (.aload_n 0, 1) := by decide +kernel
theorem dX10_readClause_145 : decode cX10_readClause 145 = .ok (.getfield 30, 3) := by decide +kernel
theorem dX10_readClause_148 : decode cX10_readClause 148 = .ok (.iload_n 1, 1) := by decide +kernel
theorem dX10_readClause_149 : decode cX10_readClause 149 = .ok (.bipush 6, 2) := by decide +kernel
theorem dX10_readClause_151 : decode cX10_readClause 151 = .ok (.iadd, 1) := by decide +kernel
theorem dX10_readClause_152 : decode cX10_readClause 152 = .ok (.aload_n 0, 1) := by decide +kernel
theorem dX10_readClause_153 : decode cX10_readClause 153 = .ok (.getfield 239, 3) := by decide +kernel
theorem dX10_readClause_156 : decode cX10_readClause 156 = .ok (.iastore, 1) := by decide +kernel
theorem dX10_readClause_157 : decode cX10_readClause 157 = .ok (.return_, 1) := by decide +kernel
theorem dX10_law_0 : decode cX10_law 0 = .ok (.aload_n 0, 1) := by decide +kernel
theorem dX10_law_1 : decode cX10_law 1 = .ok (.iconst 0, 1) := by decide +kernel
theorem dX10_law_2 : decode cX10_law 2 = .ok (.putfield 103, 3) := by decide +kernel
theorem dX10_law_5 : decode cX10_law 5 = .ok (.aload_n 0, 1) := by decide +kernel
theorem dX10_law_6 : decode cX10_law 6 = .ok (.getfield 13, 3) := by decide +kernel
theorem dX10_law_9 : decode cX10_law 9 = .ok (.iconst 1, 1) := by decide +kernel
theorem dX10_law_10 : decode cX10_law 10 = .ok (.iaload, 1) := by decide +kernel
theorem dX10_law_11 : decode cX10_law 11 = .ok (.bipush 6, 2) := by decide +kernel
theorem dX10_law_13 : decode cX10_law 13 = .ok (.if_icmp .ne 15, 3) := by decide +kernel
theorem dX10_law_16 : decode cX10_law 16 = .ok (.aload_n 0, 1) := by decide +kernel
theorem dX10_law_17 : decode cX10_law 17 = .ok (.iconst 0, 1) := by decide +kernel
theorem dX10_law_18 : decode cX10_law 18 = .ok (.putfield 183, 3) := by decide +kernel
theorem dX10_law_21 : decode cX10_law 21 = .ok (.aload_n 0, 1) := by decide +kernel
theorem dX10_law_22 : decode cX10_law 22 = .ok (.bipush (-5), 2) := by decide +kernel
theorem dX10_law_24 : decode cX10_law 24 = .ok (.invokevirtual 117, 3) := by decide +kernel
theorem dX10_law_27 : decode cX10_law 27 = .ok (.ireturn, 1) := by decide +kernel
theorem dX10_law_28 : decode cX10_law 28 = .ok (.aload_n 0, 1) := by decide +kernel
theorem dX10_law_29 : decode cX10_law 29 = .ok (.invokevirtual 325, 3) := by decide +kernel
theorem dX10_law_32 : decode cX10_law 32 = .ok (.aload_n 0, 1) := by decide +kernel
theorem dX10_law_33 : decode cX10_law 33 = .ok (.iconst 0, 1) := by decide +kernel
theorem dX10_law_34 : decode cX10_law 34 = .ok (.putfield 317, 3) := by decide +kernel
theorem dX10_law_37 : decode cX10_law 37 = .ok (.aload_n 0, 1) := by decide +kernel
theorem dX10_law_38 : decode cX10_law 38 = .ok (.iconst 0, 1) := by decide +kernel
theorem dX10_law_39 : decode cX10_law 39 = .ok (.putfield 239, 3) := by decide +kernel
theorem dX10_law_42 : decode cX10_law 42 = .ok (.aload_n 0, 1) := by decide +kernel
theorem dX10_law_43 : decode cX10_law 43 = .ok (.iconst 0, 1) := by decide +kernel
theorem dX10_law_44 : decode cX10_law 44 = .ok (.putfield 268, 3) := by decide +kernel
theorem dX10_law_47 : decode cX10_law 47 = .ok (.aload_n 0, 1) := by decide +kernel
theorem dX10_law_48 : decode cX10_law 48 = .ok (.invokevirtual 328, 3) := by decide +kernel
theorem dX10_law_51 : decode cX10_law 51 = .ok (.aload_n 0, 1) := by decide +kernel
theorem dX10_law_52 : decode cX10_law 52 = .ok (.getfield 200, 3) := by decide +kernel
theorem dX10_law_55 : decode cX10_law 55 = .ok (.ifCond .ne 23, 3) := by decide +kernel
theorem dX10_law_58 : decode cX10_law 58 = .ok (.aload_n 0, 1) := by decide +kernel
theorem dX10_law_59 : decode cX10_law 59 = .ok (.bipush 59, 2) := by decide +kernel
theorem dX10_law_61 : decode cX10_law 61 = .ok (.invokevirtual 271, 3) := by decide +kernel
theorem dX10_law_64 : decode cX10_law 64 = .ok (.ifCond .eq 14, 3) := by decide +kernel
theorem dX10_law_67 : decode cX10_law 67 = .ok (.aload_n 0, 1) := by decide +kernel
theorem dX10_law_68 : decode cX10_law 68 = .ok (.invokevirtual 204, 3) := by decide +kernel
theorem dX10_law_71 : decode cX10_law 71 = .ok (.aload_n 0, 1) := by decide +kernel
theorem dX10_law_72 : decode cX10_law 72 = .ok (.invokevirtual 328, 3) := by decide +kernel
theorem dX10_law_75 : decode cX10_law 75 = .ok (.goto (-24), 3) := by decide +kernel
theorem dX10_law_78 : decode cX10_law 78 = .ok (.aload_n 0, 1) := by decide +kernel
theorem dX10_law_79 : decode cX10_law 79 = .ok (.getfield 200, 3) := by decide +kernel
theorem dX10_law_82 : decode cX10_law 82 = .ok (.ifCond .ne 15, 3) := by decide +kernel
theorem dX10_law_85 : decode cX10_law 85 = .ok (.aload_n 0, 1) := by decide +kernel
theorem dX10_law_86 : decode cX10_law 86 = .ok (.getfield 220, 3) := by decide +kernel
theorem dX10_law_89 : decode cX10_law 89 = .ok (.ifCond .eq 8, 3) := by decide +kernel
theorem dX10_law_92 : decode cX10_law 92 = .ok (.aload_n 0, 1) := by decide +kernel
theorem dX10_law_93 : decode cX10_law 93 = .ok (.iconst 0, 1) := by decide +kernel
theorem dX10_law_94 : decode cX10_law 94 = .ok (.invokevirtual 235, 3) := by decide +kernel
theorem dX10_law_97 : decode cX10_law 97 = .ok (.aload_n 0, 1) := by decide +kernel
theorem dX10_law_98 : decode cX10_law 98 = .ok (.iconst 0, 1) := by decide +kernel
theorem dX10_law_99 : decode cX10_law 99 = .ok (.putfield 183, 3) := by decide +kernel
theorem dX10_law_102 : decode cX10_law 102 = .ok (.aload_n 0, 1) := by decide +kernel
theorem dX10_law_103 : decode cX10_law 103 = .ok (.getfield 200, 3) := by decide +kernel
theorem dX10_law_106 : decode cX10_law 106 = .ok (.ifCond .eq 10, 3) := by decide +kernel
theorem dX10_law_109 : decode cX10_law 109 = .ok (.aload_n 0, 1) := by decide +kernel
theorem dX10_law_110 : decode cX10_law 110 = .ok (.bipush (-6), 2) := by decide +kernel
theorem dX10_law_112 : decode cX10_law 112 = .ok (.invokevirtual 117, 3) := by decide +kernel
theorem dX10_law_115 : decode cX10_law 115 = .ok (.ireturn, 1) := by decide +kernel
theorem dX10_law_116 : decode cX10_law 116 = .ok (.sipush 430, 3) := by decide +kernel
theorem dX10_law_119 : decode cX10_law 119 = .ok (.sipush 900, 3) := by decide +kernel
theorem dX10_law_122 : decode cX10_law 122 = .ok (.aload_n 0, 1) := by decide +kernel
theorem dX10_law_123 : decode cX10_law 123 = .ok (.getfield 13, 3) := by decide +kernel
theorem dX10_law_126 : decode cX10_law 126 = .ok (.iconst 1, 1) := by decide +kernel
theorem dX10_law_127 : decode cX10_law 127 = .ok (.iaload, 1) := by decide +kernel
theorem dX10_law_128 : decode cX10_law 128 = .ok (.imul, 1) := by decide +kernel
theorem dX10_law_129 : decode cX10_law 129 = .ok (.iadd, 1) := by decide +kernel
theorem dX10_law_130 : decode cX10_law 130 = .ok (.istore_n 1, 1) := by decide +kernel
theorem dX10_law_131 : decode cX10_law 131 = .ok (.aload_n 0, 1) := by decide +kernel
theorem dX10_law_132 : decode cX10_law 132 = .ok (.getfield 13, 3) := by decide +kernel
theorem dX10_law_135 : decode cX10_law 135 = .ok (.iload_n 1, 1) := by decide +kernel
theorem dX10_law_136 : decode cX10_law 136 = .ok (.iconst 1, 1) := by decide +kernel
theorem dX10_law_137 : decode cX10_law 137 = .ok (.iadd, 1) := by decide +kernel
theorem dX10_law_138 : decode cX10_law 138 = .ok (.aload_n 0, 1) := by decide +kernel
theorem dX10_law_139 : decode cX10_law 139 = .ok (.getfield 317, 3) := by decide +kernel
theorem dX10_law_142 : decode cX10_law 142 = .ok (.iastore, 1) := by decide +kernel
theorem dX10_law_143 : decode cX10_law 143 = .ok (.iconst 0, 1) := by decide +kernel
theorem dX10_law_144 : decode cX10_law 144 = .ok (.istore_n 2, 1) := by decide +kernel
theorem dX10_law_145 : decode cX10_law 145 = .ok (.iload_n 2, 1) := by decide +kernel
theorem dX10_law_146 : decode cX10_law 146 = .ok (.bipush 8, 2) := by decide +kernel
theorem dX10_law_148 : decode cX10_law 148 = .ok (.aload_n 0, 1) := by decide +kernel
theorem dX10_law_149 : decode cX10_law 149 = .ok (.getfield 317, 3) := by decide +kernel
theorem dX10_law_152 : decode cX10_law 152 = .ok (.imul, 1) := by decide +kernel
theorem dX10_law_153 : decode cX10_law 153 = .ok (.if_icmp .ge 25, 3) := by decide +kernel
theorem dX10_law_156 : decode cX10_law 156 = .ok (.aload_n 0, 1) := by decide +kernel
theorem dX10_law_157 : decode cX10_law 157 = .ok (.getfield 13, 3) := by decide +kernel
theorem dX10_law_160 : decode cX10_law 160 = .ok (.iload_n 1, 1) := by decide +kernel
theorem dX10_law_161 : decode cX10_law 161 = .ok (.iconst 2, 1) := by decide +kernel
theorem dX10_law_162 : decode cX10_law 162 = .ok (.iadd, 1) := by decide +kernel
theorem dX10_law_163 : decode cX10_law 163 = .ok (.iload_n 2, 1) := by decide +kernel
theorem dX10_law_164 : decode cX10_law 164 = .ok (.iadd, 1) := by decide +kernel
theorem dX10_law_165 : decode cX10_law 165 = .ok (.aload_n 0, 1) := by decide +kernel
theorem dX10_law_166 : decode cX10_law 166 = .ok (.getfield 30, 3) := by decide +kernel
theorem dX10_law_169 : decode cX10_law 169 = .ok (.iload_n 2, 1) := by decide +kernel
theorem dX10_law_170 : decode cX10_law 170 = .ok (.iaload, 1) := by decide +kernel
theorem dX10_law_171 : decode cX10_law 171 = .ok (.iastore, 1) := by decide +kernel
theorem dX10_law_172 : decode cX10_law 172 = .ok (.iinc 2 1, 3) := by decide +kernel
theorem dX10_law_175 : decode cX10_law 175 = .ok (.goto (-30), 3) := by decide +kernel
theorem dX10_law_178 : decode cX10_law 178 = .ok (.iconst 0, 1) := by decide +kernel
theorem dX10_law_179 : decode cX10_law 179 = .ok (.istore_n 2, 1) := by decide +kernel
theorem dX10_law_180 : decode cX10_law 180 = .ok (.iload_n 2, 1) := by decide +kernel
theorem dX10_law_181 : decode cX10_law 181 = .ok (.aload_n 0, 1) := by decide +kernel
theorem dX10_law_182 : decode cX10_law 182 = .ok (.getfield 239, 3) := by decide +kernel
theorem dX10_law_185 : decode cX10_law 185 = .ok (.if_icmp .ge 49, 3) := by decide +kernel
theorem dX10_law_188 : decode cX10_law 188 = .ok (.aload_n 0, 1) := by decide +kernel
theorem dX10_law_189 : decode cX10_law 189 = .ok (.getfield 13, 3) := by decide +kernel
theorem dX10_law_192 : decode cX10_law 192 = .ok (.iload_n 1, 1) := by decide +kernel
theorem dX10_law_193 : decode cX10_law 193 = .ok (.bipush 98, 2) := by decide +kernel
theorem dX10_law_195 : decode cX10_law 195 = .ok (.iadd, 1) := by decide +kernel
theorem dX10_law_196 : decode cX10_law 196 = .ok (.iconst 2, 1) := by decide +kernel
theorem dX10_law_197 : decode cX10_law 197 = .ok (.iload_n 2, 1) := by decide +kernel
theorem dX10_law_198 : decode cX10_law 198 = .ok (.imul, 1) := by decide +kernel
theorem dX10_law_199 : decode cX10_law 199 = .ok (.iadd, 1) := by decide +kernel
theorem dX10_law_200 : decode cX10_law 200 = .ok (.aload_n 0, 1) := by decide +kernel
theorem dX10_law_201 : decode cX10_law 201 = .ok (.getfield 33, 3) := by decide +kernel
theorem dX10_law_204 : decode cX10_law 204 = .ok (.iload_n 2, 1) := by decide +kernel
theorem dX10_law_205 : decode cX10_law 205 = .ok (.iaload, 1) := by decide +kernel
theorem dX10_law_206 : decode cX10_law 206 = .ok (.iastore, 1) := by decide +kernel
theorem dX10_law_207 : decode cX10_law 207 = .ok (.aload_n 0, 1) := by decide +kernel
theorem dX10_law_208 : decode cX10_law 208 = .ok (.getfield 13, 3) := by decide +kernel
theorem dX10_law_211 : decode cX10_law 211 = .ok (.iload_n 1, 1) := by decide +kernel
theorem dX10_law_212 : decode cX10_law 212 = .ok (.bipush 98, 2) := by decide +kernel
theorem dX10_law_214 : decode cX10_law 214 = .ok (.iadd, 1) := by decide +kernel
theorem dX10_law_215 : decode cX10_law 215 = .ok (.iconst 2, 1) := by decide +kernel
theorem dX10_law_216 : decode cX10_law 216 = .ok (.iload_n 2, 1) := by decide +kernel
theorem dX10_law_217 : decode cX10_law 217 = .ok (.imul, 1) := by decide +kernel
theorem dX10_law_218 : decode cX10_law 218 = .ok (.iadd, 1) := by decide +kernel
theorem dX10_law_219 : decode cX10_law 219 = .ok (.iconst 1, 1) := by decide +kernel
theorem dX10_law_220 : decode cX10_law 220 = .ok (.iadd, 1) := by decide +kernel
theorem dX10_law_221 : decode cX10_law 221 = .ok (.aload_n 0, 1) := by decide +kernel
theorem dX10_law_222 : decode cX10_law 222 = .ok (.getfield 36, 3) := by decide +kernel
theorem dX10_law_225 : decode cX10_law 225 = .ok (.iload_n 2, 1) := by decide +kernel
theorem dX10_law_226 : decode cX10_law 226 = .ok (.iaload, 1) := by decide +kernel
theorem dX10_law_227 : decode cX10_law 227 = .ok (.iastore, 1) := by decide +kernel
theorem dX10_law_228 : decode cX10_law 228 = .ok (.iinc 2 1, 3) := by decide +kernel
theorem dX10_law_231 : decode cX10_law 231 = .ok (.goto (-51), 3) := by decide +kernel
theorem dX10_law_234 : decode cX10_law 234 = .ok (.aload_n 0, 1) := by decide +kernel
theorem dX10_law_235 : decode cX10_law 235 = .ok (.getfield 13, 3) := by decide +kernel
theorem dX10_law_238 : decode cX10_law 238 = .ok (.iconst 1, 1) := by decide +kernel
theorem dX10_law_239 : decode cX10_law 239 = .ok (.dup2, 1) := by decide +kernel
theorem dX10_law_240 : decode cX10_law 240 = .ok (.iaload, 1) := by decide +kernel
theorem dX10_law_241 : decode cX10_law 241 = .ok (.iconst 1, 1) := by decide +kernel
theorem dX10_law_242 : decode cX10_law 242 = .ok (.iadd, 1) := by decide +kernel
theorem dX10_law_243 : decode cX10_law 243 = .ok (.iastore, 1) := by decide +kernel
theorem dX10_law_244 : decode cX10_law 244 = .ok (.aload_n 0, 1) := by decide +kernel
theorem dX10_law_245 : decode cX10_law 245 = .ok (.aload_n 0, 1) := by decide +kernel
theorem dX10_law_246 : decode cX10_law 246 = .ok (.getfield 13, 3) := by decide +kernel
theorem dX10_law_249 : decode cX10_law 249 = .ok (.iconst 1, 1) := by decide +kernel
theorem dX10_law_250 : decode cX10_law 250 = .ok (.iaload, 1) := by decide +kernel
theorem dX10_law_251 : decode cX10_law 251 = .ok (.iconst 1, 1) := by decide +kernel
theorem dX10_law_252 : decode cX10_law 252 = .ok (.isub, 1) := by decide +kernel
theorem dX10_law_253 : decode cX10_law 253 = .ok (.invokevirtual 117, 3) := by decide +kernel
theorem dX10_law_256 : decode cX10_law 256 = .ok (.ireturn, 1) := by decide +kernel
theorem dX10_force_0 : decode cX10_force 0 = .ok (.aload_n 0, 1) := by decide +kernel
theorem dX10_force_1 : decode cX10_force 1 = .ok (.iconst 0, 1) := by decide +kernel
theorem dX10_force_2 : decode cX10_force 2 = .ok (.putfield 103, 3) := by decide +kernel
theorem dX10_force_5 : decode cX10_force 5 = .ok (.iload_n 1, 1) := by decide +kernel
theorem dX10_force_6 : decode cX10_force 6 = .ok (.iconst (-1), 1) := by decide +kernel
theorem dX10_force_7 : decode cX10_force 7 = .ok (.if_icmp .eq 21, 3) := by decide +kernel
theorem dX10_force_10 : decode cX10_force 10 = .ok (.iload_n 1, 1) := by decide +kernel
theorem dX10_force_11 : decode cX10_force 11 = .ok (.i2l, 1) := by decide +kernel
theorem dX10_force_12 : decode cX10_force 12 = .ok (.lconst 0, 1) := by decide +kernel
theorem dX10_force_13 : decode cX10_force 13 = .ok (.aload_n 0, 1) := by decide +kernel
theorem dX10_force_14 : decode cX10_force 14 = .ok (.getfield 13, 3) := by decide +kernel
theorem dX10_force_17 : decode cX10_force 17 = .ok (.iconst 1, 1) := by decide +kernel
theorem dX10_force_18 : decode cX10_force 18 = .ok (.iaload, 1) := by decide +kernel
theorem dX10_force_19 : decode cX10_force 19 = .ok (.i2l, 1) := by decide +kernel
theorem dX10_force_20 : decode cX10_force 20 = .ok (.lconst 1, 1) := by decide +kernel
theorem dX10_force_21 : decode cX10_force 21 = .ok (.lsub, 1) := by decide +kernel
theorem dX10_force_22 : decode cX10_force 22 = .ok (.invokestatic 113, 3) := by decide +kernel
theorem dX10_force_25 : decode cX10_force 25 = .ok (.ifCond .eq 12, 3) := by decide +kernel
theorem dX10_force_28 : decode cX10_force 28 = .ok (.aload_n 0, 1) := by decide +kernel
theorem dX10_force_29 : decode cX10_force 29 = .ok (.iconst 2, 1) := by decide +kernel
theorem dX10_force_30 : decode cX10_force 30 = .ok (.iload_n 1, 1) := by decide +kernel
theorem dX10_force_31 : decode cX10_force 31 = .ok (.invokevirtual 168, 3) := by decide +kernel
theorem dX10_force_34 : decode cX10_force 34 = .ok (.goto 9, 3) := by decide +kernel
theorem dX10_force_37 : decode cX10_force 37 = .ok (.aload_n 0, 1) := by decide +kernel
theorem dX10_force_38 : decode cX10_force 38 = .ok (.bipush (-2), 2) := by decide +kernel
theorem dX10_force_40 : decode cX10_force 40 = .ok (.invokevirtual 117, 3) := by decide +kernel
theorem dX10_force_43 : decode cX10_force 43 = .ok (.ireturn, 1) := by decide +kernel
theorem dX10_reckon_0 : decode cX10_reckon 0 = .ok (.iload_n 1, 1) := by decide +kernel
theorem dX10_reckon_1 : decode cX10_reckon 1 = .ok (.tableswitch 112 20 25 #[39, 44, 49, 54, 86, 99], 39) := by decide +kernel
theorem dX10_reckon_40 : decode cX10_reckon 40 = .ok (.lload_n 2, 1) := by decide +kernel
theorem dX10_reckon_41 : decode cX10_reckon 41 = .ok (.lload 4, 2) := by decide +kernel
theorem dX10_reckon_43 : decode cX10_reckon 43 = .ok (.ladd, 1) := by decide +kernel
theorem dX10_reckon_44 : decode cX10_reckon 44 = .ok (.lreturn, 1) := by decide +kernel
theorem dX10_reckon_45 : decode cX10_reckon 45 = .ok (.lload_n 2, 1) := by decide +kernel
theorem dX10_reckon_46 : decode cX10_reckon 46 = .ok (.lload 4, 2) := by decide +kernel
theorem dX10_reckon_48 : decode cX10_reckon 48 = .ok (.lsub, 1) := by decide +kernel
theorem dX10_reckon_49 : decode cX10_reckon 49 = .ok (.lreturn, 1) := by decide +kernel
theorem dX10_reckon_50 : decode cX10_reckon 50 = .ok (.lload_n 2, 1) := by decide +kernel
theorem dX10_reckon_51 : decode cX10_reckon 51 = .ok (.lload 4, 2) := by decide +kernel
theorem dX10_reckon_53 : decode cX10_reckon 53 = .ok (.lmul, 1) := by decide +kernel
theorem dX10_reckon_54 : decode cX10_reckon 54 = .ok (.lreturn, 1) := by decide +kernel
theorem dX10_reckon_55 : decode cX10_reckon 55 = .ok (.aload_n 0, 1) := by decide +kernel
theorem dX10_reckon_56 : decode cX10_reckon 56 = .ok (.lload 4, 2) := by decide +kernel
theorem dX10_reckon_58 : decode cX10_reckon 58 = .ok (.lconst 0, 1) := by decide +kernel
theorem dX10_reckon_59 : decode cX10_reckon 59 = .ok (.lcmp, 1) := by decide +kernel
theorem dX10_reckon_60 : decode cX10_reckon 60 = .ok (.ifCond .ne 7, 3) := by decide +kernel
theorem dX10_reckon_63 : decode cX10_reckon 63 = .ok (.iconst 1, 1) := by decide +kernel
theorem dX10_reckon_64 : decode cX10_reckon 64 = .ok (.goto 4, 3) := by decide +kernel
theorem dX10_reckon_67 : decode cX10_reckon 67 = .ok (.iconst 0, 1) := by decide +kernel
theorem dX10_reckon_68 : decode cX10_reckon 68 = .ok (.putfield 331, 3) := by decide +kernel
theorem dX10_reckon_71 : decode cX10_reckon 71 = .ok (.aload_n 0, 1) := by decide +kernel
theorem dX10_reckon_72 : decode cX10_reckon 72 = .ok (.getfield 331, 3) := by decide +kernel
theorem dX10_reckon_75 : decode cX10_reckon 75 = .ok (.ifCond .eq 7, 3) := by decide +kernel
theorem dX10_reckon_78 : decode cX10_reckon 78 = .ok (.lconst 0, 1) := by decide +kernel
theorem dX10_reckon_79 : decode cX10_reckon 79 = .ok (.goto 7, 3) := by decide +kernel
theorem dX10_reckon_82 : decode cX10_reckon 82 = .ok (.lload_n 2, 1) := by decide +kernel
theorem dX10_reckon_83 : decode cX10_reckon 83 = .ok (.lload 4, 2) := by decide +kernel
theorem dX10_reckon_85 : decode cX10_reckon 85 = .ok (.ldiv, 1) := by decide +kernel
theorem dX10_reckon_86 : decode cX10_reckon 86 = .ok (.lreturn, 1) := by decide +kernel
theorem dX10_reckon_87 : decode cX10_reckon 87 = .ok (.lload_n 2, 1) := by decide +kernel
theorem dX10_reckon_88 : decode cX10_reckon 88 = .ok (.lload 4, 2) := by decide +kernel
theorem dX10_reckon_90 : decode cX10_reckon 90 = .ok (.lcmp, 1) := by decide +kernel
theorem dX10_reckon_91 : decode cX10_reckon 91 = .ok (.ifCond .ge 7, 3) := by decide +kernel
theorem dX10_reckon_94 : decode cX10_reckon 94 = .ok (.lconst 1, 1) := by decide +kernel
theorem dX10_reckon_95 : decode cX10_reckon 95 = .ok (.goto 4, 3) := by decide +kernel
theorem dX10_reckon_98 : decode cX10_reckon 98 = .ok (.lconst 0, 1) := by decide +kernel
theorem dX10_reckon_99 : decode cX10_reckon 99 = .ok (.lreturn, 1) := by decide +kernel
theorem dX10_reckon_100 : decode cX10_reckon 100 = .ok (.lload_n 2, 1) := by decide +kernel
theorem dX10_reckon_101 : decode cX10_reckon 101 = .ok (.lload 4, 2) := by decide +kernel
theorem dX10_reckon_103 : decode cX10_reckon 103 = .ok (.lcmp, 1) := by decide +kernel
theorem dX10_reckon_104 : decode cX10_reckon 104 = .ok (.ifCond .le 7, 3) := by decide +kernel
theorem dX10_reckon_107 : decode cX10_reckon 107 = .ok (.lconst 1, 1) := by decide +kernel
theorem dX10_reckon_108 : decode cX10_reckon 108 = .ok (.goto 4, 3) := by decide +kernel
theorem dX10_reckon_111 : decode cX10_reckon 111 = .ok (.lconst 0, 1) := by decide +kernel
theorem dX10_reckon_112 : decode cX10_reckon 112 = .ok (.lreturn, 1) := by decide +kernel
theorem dX10_reckon_113 : decode cX10_reckon 113 = .ok (.lload_n 2, 1) := by decide +kernel
theorem dX10_reckon_114 : decode cX10_reckon 114 = .ok (.lload 4, 2) := by decide +kernel
theorem dX10_reckon_116 : decode cX10_reckon 116 = .ok (.lcmp, 1) := by decide +kernel
theorem dX10_reckon_117 : decode cX10_reckon 117 = .ok (.ifCond .ne 7, 3) := by decide +kernel
theorem dX10_reckon_120 : decode cX10_reckon 120 = .ok (.lconst 1, 1) := by decide +kernel
theorem dX10_reckon_121 : decode cX10_reckon 121 = .ok (.goto 4, 3) := by decide +kernel
theorem dX10_reckon_124 : decode cX10_reckon 124 = .ok (.lconst 0, 1) := by decide +kernel
theorem dX10_reckon_125 : decode cX10_reckon 125 = .ok (.lreturn, 1) := by decide +kernel
theorem dX10_reckonAll_0 : decode cX10_reckonAll 0 = .ok (.aload_n 0, 1) := by decide +kernel
theorem dX10_reckonAll_1 : decode cX10_reckonAll 1 = .ok (.iconst 0, 1) := by decide +kernel
theorem dX10_reckonAll_2 : decode cX10_reckonAll 2 = .ok (.putfield 331, 3) := by decide +kernel
theorem dX10_reckonAll_5 : decode cX10_reckonAll 5 = .ok (.iconst 0, 1) := by decide +kernel
theorem dX10_reckonAll_6 : decode cX10_reckonAll 6 = .ok (.istore_n 3, 1) := by decide +kernel
theorem dX10_reckonAll_7 : decode cX10_reckonAll 7 = .ok (.iload_n 1, 1) := by decide +kernel
theorem dX10_reckonAll_8 : decode cX10_reckonAll 8 = .ok (.istore 4, 2) := by decide +kernel
theorem dX10_reckonAll_10 : decode cX10_reckonAll 10 = .ok (.iload 4, 2) := by decide +kernel
theorem dX10_reckonAll_12 : decode cX10_reckonAll 12 = .ok (.iload_n 2, 1) := by decide +kernel
theorem dX10_reckonAll_13 : decode cX10_reckonAll 13 = .ok (.if_icmp .ge 232, 3) := by decide +kernel
theorem dX10_reckonAll_16 : decode cX10_reckonAll 16 = .ok (.aload_n 0, 1) := by decide +kernel
theorem dX10_reckonAll_17 : decode cX10_reckonAll 17 = .ok (.getfield 331, 3) := by decide +kernel
theorem dX10_reckonAll_20 : decode cX10_reckonAll 20 = .ok (.ifCond .ne 225, 3) := by decide +kernel
theorem dX10_reckonAll_23 : decode cX10_reckonAll 23 = .ok (.aload_n 0, 1) := by decide +kernel
theorem dX10_reckonAll_24 : decode cX10_reckonAll 24 = .ok (.getfield 13, 3) := by decide +kernel
theorem dX10_reckonAll_27 : decode cX10_reckonAll 27 = .ok (.aload_n 0, 1) := by decide +kernel
theorem dX10_reckonAll_28 : decode cX10_reckonAll 28 = .ok (.getfield 334, 3) := by decide +kernel
theorem dX10_reckonAll_31 : decode cX10_reckonAll 31 = .ok (.bipush 98, 2) := by decide +kernel
theorem dX10_reckonAll_33 : decode cX10_reckonAll 33 = .ok (.iadd, 1) := by decide +kernel
theorem dX10_reckonAll_34 : decode cX10_reckonAll 34 = .ok (.iconst 2, 1) := by decide +kernel
theorem dX10_reckonAll_35 : decode cX10_reckonAll 35 = .ok (.iload 4, 2) := by decide +kernel
theorem dX10_reckonAll_37 : decode cX10_reckonAll 37 = .ok (.imul, 1) := by decide +kernel
theorem dX10_reckonAll_38 : decode cX10_reckonAll 38 = .ok (.iadd, 1) := by decide +kernel
theorem dX10_reckonAll_39 : decode cX10_reckonAll 39 = .ok (.iaload, 1) := by decide +kernel
theorem dX10_reckonAll_40 : decode cX10_reckonAll 40 = .ok (.istore 5, 2) := by decide +kernel
theorem dX10_reckonAll_42 : decode cX10_reckonAll 42 = .ok (.aload_n 0, 1) := by decide +kernel
theorem dX10_reckonAll_43 : decode cX10_reckonAll 43 = .ok (.getfield 13, 3) := by decide +kernel
theorem dX10_reckonAll_46 : decode cX10_reckonAll 46 = .ok (.aload_n 0, 1) := by decide +kernel
theorem dX10_reckonAll_47 : decode cX10_reckonAll 47 = .ok (.getfield 334, 3) := by decide +kernel
theorem dX10_reckonAll_50 : decode cX10_reckonAll 50 = .ok (.bipush 98, 2) := by decide +kernel
theorem dX10_reckonAll_52 : decode cX10_reckonAll 52 = .ok (.iadd, 1) := by decide +kernel
theorem dX10_reckonAll_53 : decode cX10_reckonAll 53 = .ok (.iconst 2, 1) := by decide +kernel
theorem dX10_reckonAll_54 : decode cX10_reckonAll 54 = .ok (.iload 4, 2) := by decide +kernel
theorem dX10_reckonAll_56 : decode cX10_reckonAll 56 = .ok (.imul, 1) := by decide +kernel
theorem dX10_reckonAll_57 : decode cX10_reckonAll 57 = .ok (.iadd, 1) := by decide +kernel
theorem dX10_reckonAll_58 : decode cX10_reckonAll 58 = .ok (.iconst 1, 1) := by decide +kernel
theorem dX10_reckonAll_59 : decode cX10_reckonAll 59 = .ok (.iadd, 1) := by decide +kernel
theorem dX10_reckonAll_60 : decode cX10_reckonAll 60 = .ok (.iaload, 1) := by decide +kernel
theorem dX10_reckonAll_61 : decode cX10_reckonAll 61 = .ok (.istore 6, 2) := by decide +kernel
theorem dX10_reckonAll_63 : decode cX10_reckonAll 63 = .ok (.iinc 4 1, 3) := by decide +kernel
theorem dX10_reckonAll_66 : decode cX10_reckonAll 66 = .ok (.iload 5, 2) := by decide +kernel
theorem dX10_reckonAll_68 : decode cX10_reckonAll 68 = .ok (.bipush 20, 2) := by decide +kernel
theorem dX10_reckonAll_70 : decode cX10_reckonAll 70 = .ok (.if_icmp .ge 33, 3) := by decide +kernel
theorem dX10_reckonAll_73 : decode cX10_reckonAll 73 = .ok (.aload_n 0, 1) := by decide +kernel
theorem dX10_reckonAll_74 : decode cX10_reckonAll 74 = .ok (.getfield 70, 3) := by decide +kernel
theorem dX10_reckonAll_77 : decode cX10_reckonAll 77 = .ok (.iload_n 3, 1) := by decide +kernel
theorem dX10_reckonAll_78 : decode cX10_reckonAll 78 = .ok (.iload 5, 2) := by decide +kernel
theorem dX10_reckonAll_80 : decode cX10_reckonAll 80 = .ok (.ifCond .ne 9, 3) := by decide +kernel
theorem dX10_reckonAll_83 : decode cX10_reckonAll 83 = .ok (.iload 6, 2) := by decide +kernel
theorem dX10_reckonAll_85 : decode cX10_reckonAll 85 = .ok (.i2l, 1) := by decide +kernel
theorem dX10_reckonAll_86 : decode cX10_reckonAll 86 = .ok (.goto 10, 3) := by decide +kernel
theorem dX10_reckonAll_89 : decode cX10_reckonAll 89 = .ok (.aload_n 0, 1) := by decide +kernel
theorem dX10_reckonAll_90 : decode cX10_reckonAll 90 = .ok (.getfield 67, 3) := by decide +kernel
theorem dX10_reckonAll_93 : decode cX10_reckonAll 93 = .ok (.iload 5, 2) := by decide +kernel
theorem dX10_reckonAll_95 : decode cX10_reckonAll 95 = .ok (.laload, 1) := by decide +kernel
theorem dX10_reckonAll_96 : decode cX10_reckonAll 96 = .ok (.lastore, 1) := by decide +kernel
theorem dX10_reckonAll_97 : decode cX10_reckonAll 97 = .ok (.iinc 3 1, 3) := by decide +kernel
theorem dX10_reckonAll_100 : decode cX10_reckonAll 100 = .ok (.goto 142, 3) := by decide +kernel
theorem dX10_reckonAll_103 : decode cX10_reckonAll 103 = .ok (.iload 5, 2) := by decide +kernel
theorem dX10_reckonAll_105 : decode cX10_reckonAll 105 = .ok (.bipush 27, 2) := by decide +kernel
theorem dX10_reckonAll_107 : decode cX10_reckonAll 107 = .ok (.if_icmp .ge 73, 3) := by decide +kernel
theorem dX10_reckonAll_110 : decode cX10_reckonAll 110 = .ok (.iinc 3 (-1), 3) := by decide +kernel
theorem dX10_reckonAll_113 : decode cX10_reckonAll 113 = .ok (.aload_n 0, 1) := by decide +kernel
theorem dX10_reckonAll_114 : decode cX10_reckonAll 114 = .ok (.getfield 70, 3) := by decide +kernel
theorem dX10_reckonAll_117 : decode cX10_reckonAll 117 = .ok (.iload_n 3, 1) := by decide +kernel
theorem dX10_reckonAll_118 : decode cX10_reckonAll 118 = .ok (.iconst 1, 1) := by decide +kernel
theorem dX10_reckonAll_119 : decode cX10_reckonAll 119 = .ok (.isub, 1) := by decide +kernel
theorem dX10_reckonAll_120 : decode cX10_reckonAll 120 = .ok (.aload_n 0, 1) := by decide +kernel
theorem dX10_reckonAll_121 : decode cX10_reckonAll 121 = .ok (.iload 5, 2) := by decide +kernel
theorem dX10_reckonAll_123 : decode cX10_reckonAll 123 = .ok (.aload_n 0, 1) := by decide +kernel
theorem dX10_reckonAll_124 : decode cX10_reckonAll 124 = .ok (.getfield 70, 3) := by decide +kernel
theorem dX10_reckonAll_127 : decode cX10_reckonAll 127 = .ok (.iload_n 3, 1) := by decide +kernel
theorem dX10_reckonAll_128 : decode cX10_reckonAll 128 = .ok (.iconst 1, 1) := by decide +kernel
theorem dX10_reckonAll_129 : decode cX10_reckonAll 129 = .ok (.isub, 1) := by decide +kernel
theorem dX10_reckonAll_130 : decode cX10_reckonAll 130 = .ok (.laload, 1) := by decide +kernel
theorem dX10_reckonAll_131 : decode cX10_reckonAll 131 = .ok (.aload_n 0, 1) := by decide +kernel
theorem dX10_reckonAll_132 : decode cX10_reckonAll 132 = .ok (.getfield 70, 3) := by decide +kernel
theorem dX10_reckonAll_135 : decode cX10_reckonAll 135 = .ok (.iload_n 3, 1) := by decide +kernel
theorem dX10_reckonAll_136 : decode cX10_reckonAll 136 = .ok (.laload, 1) := by decide +kernel
theorem dX10_reckonAll_137 : decode cX10_reckonAll 137 = .ok (.invokevirtual 337, 3) := by decide +kernel
theorem dX10_reckonAll_140 : decode cX10_reckonAll 140 = .ok (.lastore, 1) := by decide +kernel
theorem dX10_reckonAll_141 : decode cX10_reckonAll 141 = .ok (.aload_n 0, 1) := by decide +kernel
theorem dX10_reckonAll_142 : decode cX10_reckonAll 142 = .ok (.aload_n 0, 1) := by decide +kernel
theorem dX10_reckonAll_143 : decode cX10_reckonAll 143 = .ok (.getfield 331, 3) := by decide +kernel
theorem dX10_reckonAll_146 : decode cX10_reckonAll 146 = .ok (.ifCond .ne 23, 3) := by decide +kernel
theorem dX10_reckonAll_149 : decode cX10_reckonAll 149 = .ok (.aload_n 0, 1) := by decide +kernel
theorem dX10_reckonAll_150 : decode cX10_reckonAll 150 = .ok (.getfield 70, 3) := by decide +kernel
theorem dX10_reckonAll_153 : decode cX10_reckonAll 153 = .ok (.iload_n 3, 1) := by decide +kernel
theorem dX10_reckonAll_154 : decode cX10_reckonAll 154 = .ok (.iconst 1, 1) := by decide +kernel
theorem dX10_reckonAll_155 : decode cX10_reckonAll 155 = .ok (.isub, 1) := by decide +kernel
theorem dX10_reckonAll_156 : decode cX10_reckonAll 156 = .ok (.laload, 1) := by decide +kernel
theorem dX10_reckonAll_157 : decode cX10_reckonAll 157 = .ok (.ldc2_w 341, 3) := by decide +kernel
theorem dX10_reckonAll_160 : decode cX10_reckonAll 160 = .ok (.ldc2_w 343, 3) := by decide +kernel
theorem dX10_reckonAll_163 : decode cX10_reckonAll 163 = .ok (.invokestatic 113, 3) := by decide +kernel
theorem dX10_reckonAll_166 : decode cX10_reckonAll 166 = .ok (.ifCond .ne 7, 3) := by decide +kernel
theorem dX10_reckonAll_169 : decode cX10_reckonAll 169 = .ok (.iconst 1, 1) := by decide +kernel
theorem dX10_reckonAll_170 : decode cX10_reckonAll 170 = .ok (.goto 4, 3) := by decide +kernel
theorem dX10_reckonAll_173 : decode cX10_reckonAll 173 = .ok (.iconst 0, 1) := by decide +kernel
theorem dX10_reckonAll_174 : decode cX10_reckonAll 174 = .ok (.putfield 331, 3) := by decide +kernel
theorem dX10_reckonAll_177 : decode cX10_reckonAll 177 = .ok (.goto 65, 3) := by decide +kernel
theorem dX10_reckonAll_180 : decode cX10_reckonAll 180 = .ok (.iload 5, 2) := by decide +kernel
theorem dX10_reckonAll_182 : decode cX10_reckonAll 182 = .ok (.bipush 27, 2) := by decide +kernel
theorem dX10_reckonAll_184 : decode cX10_reckonAll 184 = .ok (.if_icmp .ne 24, 3) := by decide +kernel
theorem dX10_reckonAll_187 : decode cX10_reckonAll 187 = .ok (.aload_n 0, 1) := by decide +kernel
theorem dX10_reckonAll_188 : decode cX10_reckonAll 188 = .ok (.getfield 70, 3) := by decide +kernel
theorem dX10_reckonAll_191 : decode cX10_reckonAll 191 = .ok (.iload_n 3, 1) := by decide +kernel
theorem dX10_reckonAll_192 : decode cX10_reckonAll 192 = .ok (.iconst 1, 1) := by decide +kernel
theorem dX10_reckonAll_193 : decode cX10_reckonAll 193 = .ok (.isub, 1) := by decide +kernel
theorem dX10_reckonAll_194 : decode cX10_reckonAll 194 = .ok (.lconst 1, 1) := by decide +kernel
theorem dX10_reckonAll_195 : decode cX10_reckonAll 195 = .ok (.aload_n 0, 1) := by decide +kernel
theorem dX10_reckonAll_196 : decode cX10_reckonAll 196 = .ok (.getfield 70, 3) := by decide +kernel
theorem dX10_reckonAll_199 : decode cX10_reckonAll 199 = .ok (.iload_n 3, 1) := by decide +kernel
theorem dX10_reckonAll_200 : decode cX10_reckonAll 200 = .ok (.iconst 1, 1) := by decide +kernel
theorem dX10_reckonAll_201 : decode cX10_reckonAll 201 = .ok (.isub, 1) := by decide +kernel
theorem dX10_reckonAll_202 : decode cX10_reckonAll 202 = .ok (.laload, 1) := by decide +kernel
theorem dX10_reckonAll_203 : decode cX10_reckonAll 203 = .ok (.lsub, 1) := by decide +kernel
theorem dX10_reckonAll_204 : decode cX10_reckonAll 204 = .ok (.lastore, 1) := by decide +kernel
theorem dX10_reckonAll_205 : decode cX10_reckonAll 205 = .ok (.goto 37, 3) := by decide +kernel
theorem dX10_reckonAll_208 : decode cX10_reckonAll 208 = .ok (.aload_n 0, 1) := by decide +kernel
theorem dX10_reckonAll_209 : decode cX10_reckonAll 209 = .ok (.getfield 70, 3) := by decide +kernel
theorem dX10_reckonAll_212 : decode cX10_reckonAll 212 = .ok (.iload_n 3, 1) := by decide +kernel
theorem dX10_reckonAll_213 : decode cX10_reckonAll 213 = .ok (.iconst 1, 1) := by decide +kernel
theorem dX10_reckonAll_214 : decode cX10_reckonAll 214 = .ok (.isub, 1) := by decide +kernel
theorem dX10_reckonAll_215 : decode cX10_reckonAll 215 = .ok (.laload, 1) := by decide +kernel
theorem dX10_reckonAll_216 : decode cX10_reckonAll 216 = .ok (.iload 5, 2) := by decide +kernel
theorem dX10_reckonAll_218 : decode cX10_reckonAll 218 = .ok (.bipush 28, 2) := by decide +kernel
theorem dX10_reckonAll_220 : decode cX10_reckonAll 220 = .ok (.if_icmp .ne 7, 3) := by decide +kernel
theorem dX10_reckonAll_223 : decode cX10_reckonAll 223 = .ok (.lconst 0, 1) := by decide +kernel
theorem dX10_reckonAll_224 : decode cX10_reckonAll 224 = .ok (.goto 4, 3) := by decide +kernel
theorem dX10_reckonAll_227 : decode cX10_reckonAll 227 = .ok (.lconst 1, 1) := by decide +kernel
theorem dX10_reckonAll_228 : decode cX10_reckonAll 228 = .ok (.lcmp, 1) := by decide +kernel
theorem dX10_reckonAll_229 : decode cX10_reckonAll 229 = .ok (.ifCond .ne 10, 3) := by decide +kernel
theorem dX10_reckonAll_232 : decode cX10_reckonAll 232 = .ok (.iload 6, 2) := by decide +kernel
theorem dX10_reckonAll_234 : decode cX10_reckonAll 234 = .ok (.istore 4, 2) := by decide +kernel
theorem dX10_reckonAll_236 : decode cX10_reckonAll 236 = .ok (.goto 6, 3) := by decide +kernel
theorem dX10_reckonAll_239 : decode cX10_reckonAll 239 = .ok (.iinc 3 (-1), 3) := by decide +kernel
theorem dX10_reckonAll_242 : decode cX10_reckonAll 242 = .ok (.goto (-232), 3) := by decide +kernel
theorem dX10_reckonAll_245 : decode cX10_reckonAll 245 = .ok (.aload_n 0, 1) := by decide +kernel
theorem dX10_reckonAll_246 : decode cX10_reckonAll 246 = .ok (.iload_n 3, 1) := by decide +kernel
theorem dX10_reckonAll_247 : decode cX10_reckonAll 247 = .ok (.ifCond .le 12, 3) := by decide +kernel
theorem dX10_reckonAll_250 : decode cX10_reckonAll 250 = .ok (.aload_n 0, 1) := by decide +kernel
theorem dX10_reckonAll_251 : decode cX10_reckonAll 251 = .ok (.getfield 70, 3) := by decide +kernel
theorem dX10_reckonAll_254 : decode cX10_reckonAll 254 = .ok (.iconst 0, 1) := by decide +kernel
theorem dX10_reckonAll_255 : decode cX10_reckonAll 255 = .ok (.laload, 1) := by decide +kernel
theorem dX10_reckonAll_256 : decode cX10_reckonAll 256 = .ok (.goto 4, 3) := by decide +kernel
theorem dX10_reckonAll_259 : decode cX10_reckonAll 259 = .ok (.lconst 0, 1) := by decide +kernel
theorem dX10_reckonAll_260 : decode cX10_reckonAll 260 = .ok (.putfield 345, 3) := by decide +kernel
theorem dX10_reckonAll_263 : decode cX10_reckonAll 263 = .ok (.return_, 1) := by decide +kernel
theorem dX10_isSo_0 : decode cX10_isSo 0 = .ok (.aload_n 0, 1) := by decide +kernel
theorem dX10_isSo_1 : decode cX10_isSo 1 = .ok (.getfield 13, 3) := by decide +kernel
theorem dX10_isSo_4 : decode cX10_isSo 4 = .ok (.iload_n 1, 1) := by decide +kernel
theorem dX10_isSo_5 : decode cX10_isSo 5 = .ok (.iconst 5, 1) := by decide +kernel
theorem dX10_isSo_6 : decode cX10_isSo 6 = .ok (.iadd, 1) := by decide +kernel
theorem dX10_isSo_7 : decode cX10_isSo 7 = .ok (.iaload, 1) := by decide +kernel
theorem dX10_isSo_8 : decode cX10_isSo 8 = .ok (.aload_n 0, 1) := by decide +kernel
theorem dX10_isSo_9 : decode cX10_isSo 9 = .ok (.getfield 13, 3) := by decide +kernel
theorem dX10_isSo_12 : decode cX10_isSo 12 = .ok (.iload_n 1, 1) := by decide +kernel
theorem dX10_isSo_13 : decode cX10_isSo 13 = .ok (.bipush 6, 2) := by decide +kernel
theorem dX10_isSo_15 : decode cX10_isSo 15 = .ok (.iadd, 1) := by decide +kernel
theorem dX10_isSo_16 : decode cX10_isSo 16 = .ok (.iaload, 1) := by decide +kernel
theorem dX10_isSo_17 : decode cX10_isSo 17 = .ok (.if_icmp .ge 42, 3) := by decide +kernel
theorem dX10_isSo_20 : decode cX10_isSo 20 = .ok (.aload_n 0, 1) := by decide +kernel
theorem dX10_isSo_21 : decode cX10_isSo 21 = .ok (.aload_n 0, 1) := by decide +kernel
theorem dX10_isSo_22 : decode cX10_isSo 22 = .ok (.getfield 13, 3) := by decide +kernel
theorem dX10_isSo_25 : decode cX10_isSo 25 = .ok (.iload_n 1, 1) := by decide +kernel
theorem dX10_isSo_26 : decode cX10_isSo 26 = .ok (.iconst 5, 1) := by decide +kernel
theorem dX10_isSo_27 : decode cX10_isSo 27 = .ok (.iadd, 1) := by decide +kernel
theorem dX10_isSo_28 : decode cX10_isSo 28 = .ok (.iaload, 1) := by decide +kernel
theorem dX10_isSo_29 : decode cX10_isSo 29 = .ok (.aload_n 0, 1) := by decide +kernel
theorem dX10_isSo_30 : decode cX10_isSo 30 = .ok (.getfield 13, 3) := by decide +kernel
theorem dX10_isSo_33 : decode cX10_isSo 33 = .ok (.iload_n 1, 1) := by decide +kernel
theorem dX10_isSo_34 : decode cX10_isSo 34 = .ok (.bipush 6, 2) := by decide +kernel
theorem dX10_isSo_36 : decode cX10_isSo 36 = .ok (.iadd, 1) := by decide +kernel
theorem dX10_isSo_37 : decode cX10_isSo 37 = .ok (.iaload, 1) := by decide +kernel
theorem dX10_isSo_38 : decode cX10_isSo 38 = .ok (.invokevirtual 348, 3) := by decide +kernel
theorem dX10_isSo_41 : decode cX10_isSo 41 = .ok (.aload_n 0, 1) := by decide +kernel
theorem dX10_isSo_42 : decode cX10_isSo 42 = .ok (.getfield 331, 3) := by decide +kernel
theorem dX10_isSo_45 : decode cX10_isSo 45 = .ok (.ifCond .ne 12, 3) := by decide +kernel
theorem dX10_isSo_48 : decode cX10_isSo 48 = .ok (.aload_n 0, 1) := by decide +kernel
theorem dX10_isSo_49 : decode cX10_isSo 49 = .ok (.getfield 345, 3) := by decide +kernel
theorem dX10_isSo_52 : decode cX10_isSo 52 = .ok (.lconst 0, 1) := by decide +kernel
theorem dX10_isSo_53 : decode cX10_isSo 53 = .ok (.lcmp, 1) := by decide +kernel
theorem dX10_isSo_54 : decode cX10_isSo 54 = .ok (.ifCond .ne 5, 3) := by decide +kernel
theorem dX10_isSo_57 : decode cX10_isSo 57 = .ok (.iconst 0, 1) := by decide +kernel
theorem dX10_isSo_58 : decode cX10_isSo 58 = .ok (.ireturn, 1) := by decide +kernel
theorem dX10_isSo_59 : decode cX10_isSo 59 = .ok (.aload_n 0, 1) := by decide +kernel
theorem dX10_isSo_60 : decode cX10_isSo 60 = .ok (.aload_n 0, 1) := by decide +kernel
theorem dX10_isSo_61 : decode cX10_isSo 61 = .ok (.getfield 13, 3) := by decide +kernel
theorem dX10_isSo_64 : decode cX10_isSo 64 = .ok (.iload_n 1, 1) := by decide +kernel
theorem dX10_isSo_65 : decode cX10_isSo 65 = .ok (.iconst 3, 1) := by decide +kernel
theorem dX10_isSo_66 : decode cX10_isSo 66 = .ok (.iadd, 1) := by decide +kernel
theorem dX10_isSo_67 : decode cX10_isSo 67 = .ok (.iaload, 1) := by decide +kernel
theorem dX10_isSo_68 : decode cX10_isSo 68 = .ok (.aload_n 0, 1) := by decide +kernel
theorem dX10_isSo_69 : decode cX10_isSo 69 = .ok (.getfield 13, 3) := by decide +kernel
theorem dX10_isSo_72 : decode cX10_isSo 72 = .ok (.iload_n 1, 1) := by decide +kernel
theorem dX10_isSo_73 : decode cX10_isSo 73 = .ok (.iconst 4, 1) := by decide +kernel
theorem dX10_isSo_74 : decode cX10_isSo 74 = .ok (.iadd, 1) := by decide +kernel
theorem dX10_isSo_75 : decode cX10_isSo 75 = .ok (.iaload, 1) := by decide +kernel
theorem dX10_isSo_76 : decode cX10_isSo 76 = .ok (.invokevirtual 348, 3) := by decide +kernel
theorem dX10_isSo_79 : decode cX10_isSo 79 = .ok (.aload_n 0, 1) := by decide +kernel
theorem dX10_isSo_80 : decode cX10_isSo 80 = .ok (.aload_n 0, 1) := by decide +kernel
theorem dX10_isSo_81 : decode cX10_isSo 81 = .ok (.getfield 345, 3) := by decide +kernel
theorem dX10_isSo_84 : decode cX10_isSo 84 = .ok (.putfield 351, 3) := by decide +kernel
theorem dX10_isSo_87 : decode cX10_isSo 87 = .ok (.aload_n 0, 1) := by decide +kernel
theorem dX10_isSo_88 : decode cX10_isSo 88 = .ok (.getfield 331, 3) := by decide +kernel
theorem dX10_isSo_91 : decode cX10_isSo 91 = .ok (.ifCond .ne 7, 3) := by decide +kernel
theorem dX10_isSo_94 : decode cX10_isSo 94 = .ok (.iconst 1, 1) := by decide +kernel
theorem dX10_isSo_95 : decode cX10_isSo 95 = .ok (.goto 4, 3) := by decide +kernel
theorem dX10_isSo_98 : decode cX10_isSo 98 = .ok (.iconst 0, 1) := by decide +kernel
theorem dX10_isSo_99 : decode cX10_isSo 99 = .ok (.ireturn, 1) := by decide +kernel
theorem dX10_lay_0 : decode cX10_lay 0 = .ok (.iconst 0, 1) := by decide +kernel
theorem dX10_lay_1 : decode cX10_lay 1 = .ok (.istore_n 2, 1) := by decide +kernel
theorem dX10_lay_2 : decode cX10_lay 2 = .ok (.iload_n 2, 1) := by decide +kernel
theorem dX10_lay_3 : decode cX10_lay 3 = .ok (.bipush 100, 2) := by decide +kernel
theorem dX10_lay_5 : decode cX10_lay 5 = .ok (.if_icmp .ge 95, 3) := by decide +kernel
theorem dX10_lay_8 : decode cX10_lay 8 = .ok (.aload_n 0, 1) := by decide +kernel
theorem dX10_lay_9 : decode cX10_lay 9 = .ok (.iload_n 2, 1) := by decide +kernel
theorem dX10_lay_10 : decode cX10_lay 10 = .ok (.invokevirtual 136, 3) := by decide +kernel
theorem dX10_lay_13 : decode cX10_lay 13 = .ok (.istore_n 3, 1) := by decide +kernel
theorem dX10_lay_14 : decode cX10_lay 14 = .ok (.aload_n 0, 1) := by decide +kernel
theorem dX10_lay_15 : decode cX10_lay 15 = .ok (.getfield 73, 3) := by decide +kernel
theorem dX10_lay_18 : decode cX10_lay 18 = .ok (.iload_n 2, 1) := by decide +kernel
theorem dX10_lay_19 : decode cX10_lay 19 = .ok (.iload_n 3, 1) := by decide +kernel
theorem dX10_lay_20 : decode cX10_lay 20 = .ok (.iconst (-1), 1) := by decide +kernel
theorem dX10_lay_21 : decode cX10_lay 21 = .ok (.if_icmp .eq 24, 3) := by decide +kernel
theorem dX10_lay_24 : decode cX10_lay 24 = .ok (.iload_n 1, 1) := by decide +kernel
theorem dX10_lay_25 : decode cX10_lay 25 = .ok (.iload_n 3, 1) := by decide +kernel
theorem dX10_lay_26 : decode cX10_lay 26 = .ok (.iconst (-1), 1) := by decide +kernel
theorem dX10_lay_27 : decode cX10_lay 27 = .ok (.if_icmp .ne 7, 3) := by decide +kernel
theorem dX10_lay_30 : decode cX10_lay 30 = .ok (.iconst 0, 1) := by decide +kernel
theorem dX10_lay_31 : decode cX10_lay 31 = .ok (.goto 4, 3) := by decide +kernel
theorem dX10_lay_34 : decode cX10_lay 34 = .ok (.iload_n 3, 1) := by decide +kernel
theorem dX10_lay_35 : decode cX10_lay 35 = .ok (.invokestatic 354, 3) := by decide +kernel
theorem dX10_lay_38 : decode cX10_lay 38 = .ok (.ifCond .eq 7, 3) := by decide +kernel
theorem dX10_lay_41 : decode cX10_lay 41 = .ok (.iload_n 3, 1) := by decide +kernel
theorem dX10_lay_42 : decode cX10_lay 42 = .ok (.goto 4, 3) := by decide +kernel
theorem dX10_lay_45 : decode cX10_lay 45 = .ok (.iconst (-1), 1) := by decide +kernel
theorem dX10_lay_46 : decode cX10_lay 46 = .ok (.iastore, 1) := by decide +kernel
theorem dX10_lay_47 : decode cX10_lay 47 = .ok (.aload_n 0, 1) := by decide +kernel
theorem dX10_lay_48 : decode cX10_lay 48 = .ok (.getfield 76, 3) := by decide +kernel
theorem dX10_lay_51 : decode cX10_lay 51 = .ok (.iload_n 2, 1) := by decide +kernel
theorem dX10_lay_52 : decode cX10_lay 52 = .ok (.aload_n 0, 1) := by decide +kernel
theorem dX10_lay_53 : decode cX10_lay 53 = .ok (.getfield 13, 3) := by decide +kernel
theorem dX10_lay_56 : decode cX10_lay 56 = .ok (.bipush 41, 2) := by decide +kernel
theorem dX10_lay_58 : decode cX10_lay 58 = .ok (.iload_n 2, 1) := by decide +kernel
theorem dX10_lay_59 : decode cX10_lay 59 = .ok (.iadd, 1) := by decide +kernel
theorem dX10_lay_60 : decode cX10_lay 60 = .ok (.iaload, 1) := by decide +kernel
theorem dX10_lay_61 : decode cX10_lay 61 = .ok (.iastore, 1) := by decide +kernel
theorem dX10_lay_62 : decode cX10_lay 62 = .ok (.aload_n 0, 1) := by decide +kernel
theorem dX10_lay_63 : decode cX10_lay 63 = .ok (.getfield 79, 3) := by decide +kernel
theorem dX10_lay_66 : decode cX10_lay 66 = .ok (.iload_n 2, 1) := by decide +kernel
theorem dX10_lay_67 : decode cX10_lay 67 = .ok (.aload_n 0, 1) := by decide +kernel
theorem dX10_lay_68 : decode cX10_lay 68 = .ok (.getfield 13, 3) := by decide +kernel
theorem dX10_lay_71 : decode cX10_lay 71 = .ok (.sipush 141, 3) := by decide +kernel
theorem dX10_lay_74 : decode cX10_lay 74 = .ok (.iload_n 2, 1) := by decide +kernel
theorem dX10_lay_75 : decode cX10_lay 75 = .ok (.iadd, 1) := by decide +kernel
theorem dX10_lay_76 : decode cX10_lay 76 = .ok (.iaload, 1) := by decide +kernel
theorem dX10_lay_77 : decode cX10_lay 77 = .ok (.iastore, 1) := by decide +kernel
theorem dX10_lay_78 : decode cX10_lay 78 = .ok (.aload_n 0, 1) := by decide +kernel
theorem dX10_lay_79 : decode cX10_lay 79 = .ok (.getfield 82, 3) := by decide +kernel
theorem dX10_lay_82 : decode cX10_lay 82 = .ok (.iload_n 2, 1) := by decide +kernel
theorem dX10_lay_83 : decode cX10_lay 83 = .ok (.aload_n 0, 1) := by decide +kernel
theorem dX10_lay_84 : decode cX10_lay 84 = .ok (.getfield 13, 3) := by decide +kernel
theorem dX10_lay_87 : decode cX10_lay 87 = .ok (.sipush 241, 3) := by decide +kernel
theorem dX10_lay_90 : decode cX10_lay 90 = .ok (.iload_n 2, 1) := by decide +kernel
theorem dX10_lay_91 : decode cX10_lay 91 = .ok (.iadd, 1) := by decide +kernel
theorem dX10_lay_92 : decode cX10_lay 92 = .ok (.iaload, 1) := by decide +kernel
theorem dX10_lay_93 : decode cX10_lay 93 = .ok (.iastore, 1) := by decide +kernel
theorem dX10_lay_94 : decode cX10_lay 94 = .ok (.iinc 2 1, 3) := by decide +kernel
theorem dX10_lay_97 : decode cX10_lay 97 = .ok (.goto (-95), 3) := by decide +kernel
theorem dX10_lay_100 : decode cX10_lay 100 = .ok (.iconst 0, 1) := by decide +kernel
theorem dX10_lay_101 : decode cX10_lay 101 = .ok (.istore_n 2, 1) := by decide +kernel
theorem dX10_lay_102 : decode cX10_lay 102 = .ok (.iload_n 2, 1) := by decide +kernel
theorem dX10_lay_103 : decode cX10_lay 103 = .ok (.aload_n 0, 1) := by decide +kernel
theorem dX10_lay_104 : decode cX10_lay 104 = .ok (.getfield 13, 3) := by decide +kernel
theorem dX10_lay_107 : decode cX10_lay 107 = .ok (.iconst 0, 1) := by decide +kernel
theorem dX10_lay_108 : decode cX10_lay 108 = .ok (.iaload, 1) := by decide +kernel
theorem dX10_lay_109 : decode cX10_lay 109 = .ok (.if_icmp .ge 21, 3) := by decide +kernel
theorem dX10_lay_112 : decode cX10_lay 112 = .ok (.aload_n 0, 1) := by decide +kernel
theorem dX10_lay_113 : decode cX10_lay 113 = .ok (.getfield 85, 3) := by decide +kernel
theorem dX10_lay_116 : decode cX10_lay 116 = .ok (.iload_n 2, 1) := by decide +kernel
theorem dX10_lay_117 : decode cX10_lay 117 = .ok (.aload_n 0, 1) := by decide +kernel
theorem dX10_lay_118 : decode cX10_lay 118 = .ok (.iload_n 2, 1) := by decide +kernel
theorem dX10_lay_119 : decode cX10_lay 119 = .ok (.iconst 4, 1) := by decide +kernel
theorem dX10_lay_120 : decode cX10_lay 120 = .ok (.invokevirtual 124, 3) := by decide +kernel
theorem dX10_lay_123 : decode cX10_lay 123 = .ok (.iastore, 1) := by decide +kernel
theorem dX10_lay_124 : decode cX10_lay 124 = .ok (.iinc 2 1, 3) := by decide +kernel
theorem dX10_lay_127 : decode cX10_lay 127 = .ok (.goto (-25), 3) := by decide +kernel
theorem dX10_lay_130 : decode cX10_lay 130 = .ok (.return_, 1) := by decide +kernel
theorem dX10_layAll_0 : decode cX10_layAll 0 = .ok (.aload_n 0, 1) := by decide +kernel
theorem dX10_layAll_1 : decode cX10_layAll 1 = .ok (.bipush 63, 2) := by decide +kernel
theorem dX10_layAll_3 : decode cX10_layAll 3 = .ok (.invokevirtual 357, 3) := by decide +kernel
theorem dX10_layAll_6 : decode cX10_layAll 6 = .ok (.return_, 1) := by decide +kernel
theorem dX10_cellAt_0 : decode cX10_cellAt 0 = .ok (.iload_n 0, 1) := by decide +kernel
theorem dX10_cellAt_1 : decode cX10_cellAt 1 = .ok (.bipush 10, 2) := by decide +kernel
theorem dX10_cellAt_3 : decode cX10_cellAt 3 = .ok (.irem, 1) := by decide +kernel
theorem dX10_cellAt_4 : decode cX10_cellAt 4 = .ok (.iload_n 1, 1) := by decide +kernel
theorem dX10_cellAt_5 : decode cX10_cellAt 5 = .ok (.iadd, 1) := by decide +kernel
theorem dX10_cellAt_6 : decode cX10_cellAt 6 = .ok (.istore_n 3, 1) := by decide +kernel
theorem dX10_cellAt_7 : decode cX10_cellAt 7 = .ok (.iload_n 0, 1) := by decide +kernel
theorem dX10_cellAt_8 : decode cX10_cellAt 8 = .ok (.bipush 10, 2) := by decide +kernel
theorem dX10_cellAt_10 : decode cX10_cellAt 10 = .ok (.idiv, 1) := by decide +kernel
theorem dX10_cellAt_11 : decode cX10_cellAt 11 = .ok (.iload_n 2, 1) := by decide +kernel
theorem dX10_cellAt_12 : decode cX10_cellAt 12 = .ok (.iadd, 1) := by decide +kernel
theorem dX10_cellAt_13 : decode cX10_cellAt 13 = .ok (.istore 4, 2) := by decide +kernel
theorem dX10_cellAt_15 : decode cX10_cellAt 15 = .ok (.iload_n 3, 1) := by decide +kernel
theorem dX10_cellAt_16 : decode cX10_cellAt 16 = .ok (.i2l, 1) := by decide +kernel
theorem dX10_cellAt_17 : decode cX10_cellAt 17 = .ok (.lconst 0, 1) := by decide +kernel
theorem dX10_cellAt_18 : decode cX10_cellAt 18 = .ok (.ldc2_w 142, 3) := by decide +kernel
theorem dX10_cellAt_21 : decode cX10_cellAt 21 = .ok (.invokestatic 113, 3) := by decide +kernel
theorem dX10_cellAt_24 : decode cX10_cellAt 24 = .ok (.ifCond .eq 26, 3) := by decide +kernel
theorem dX10_cellAt_27 : decode cX10_cellAt 27 = .ok (.iload 4, 2) := by decide +kernel
theorem dX10_cellAt_29 : decode cX10_cellAt 29 = .ok (.i2l, 1) := by decide +kernel
theorem dX10_cellAt_30 : decode cX10_cellAt 30 = .ok (.lconst 0, 1) := by decide +kernel
theorem dX10_cellAt_31 : decode cX10_cellAt 31 = .ok (.ldc2_w 142, 3) := by decide +kernel
theorem dX10_cellAt_34 : decode cX10_cellAt 34 = .ok (.invokestatic 113, 3) := by decide +kernel
theorem dX10_cellAt_37 : decode cX10_cellAt 37 = .ok (.ifCond .eq 13, 3) := by decide +kernel
theorem dX10_cellAt_40 : decode cX10_cellAt 40 = .ok (.bipush 10, 2) := by decide +kernel
theorem dX10_cellAt_42 : decode cX10_cellAt 42 = .ok (.iload 4, 2) := by decide +kernel
theorem dX10_cellAt_44 : decode cX10_cellAt 44 = .ok (.imul, 1) := by decide +kernel
theorem dX10_cellAt_45 : decode cX10_cellAt 45 = .ok (.iload_n 3, 1) := by decide +kernel
theorem dX10_cellAt_46 : decode cX10_cellAt 46 = .ok (.iadd, 1) := by decide +kernel
theorem dX10_cellAt_47 : decode cX10_cellAt 47 = .ok (.goto 4, 3) := by decide +kernel
theorem dX10_cellAt_50 : decode cX10_cellAt 50 = .ok (.iconst (-1), 1) := by decide +kernel
theorem dX10_cellAt_51 : decode cX10_cellAt 51 = .ok (.ireturn, 1) := by decide +kernel
theorem dX10_upX_0 : decode cX10_upX 0 = .ok (.iload_n 0, 1) := by decide +kernel
theorem dX10_upX_1 : decode cX10_upX 1 = .ok (.iconst 1, 1) := by decide +kernel
theorem dX10_upX_2 : decode cX10_upX 2 = .ok (.if_icmp .ne 7, 3) := by decide +kernel
theorem dX10_upX_5 : decode cX10_upX 5 = .ok (.iconst 1, 1) := by decide +kernel
theorem dX10_upX_6 : decode cX10_upX 6 = .ok (.goto 13, 3) := by decide +kernel
theorem dX10_upX_9 : decode cX10_upX 9 = .ok (.iload_n 0, 1) := by decide +kernel
theorem dX10_upX_10 : decode cX10_upX 10 = .ok (.iconst 3, 1) := by decide +kernel
theorem dX10_upX_11 : decode cX10_upX 11 = .ok (.if_icmp .ne 7, 3) := by decide +kernel
theorem dX10_upX_14 : decode cX10_upX 14 = .ok (.iconst (-1), 1) := by decide +kernel
theorem dX10_upX_15 : decode cX10_upX 15 = .ok (.goto 4, 3) := by decide +kernel
theorem dX10_upX_18 : decode cX10_upX 18 = .ok (.iconst 0, 1) := by decide +kernel
theorem dX10_upX_19 : decode cX10_upX 19 = .ok (.ireturn, 1) := by decide +kernel
theorem dX10_upY_0 : decode cX10_upY 0 = .ok (.iload_n 0, 1) := by decide +kernel
theorem dX10_upY_1 : decode cX10_upY 1 = .ok (.ifCond .ne 7, 3) := by decide +kernel
theorem dX10_upY_4 : decode cX10_upY 4 = .ok (.iconst (-1), 1) := by decide +kernel
theorem dX10_upY_5 : decode cX10_upY 5 = .ok (.goto 13, 3) := by decide +kernel
theorem dX10_upY_8 : decode cX10_upY 8 = .ok (.iload_n 0, 1) := by decide +kernel
theorem dX10_upY_9 : decode cX10_upY 9 = .ok (.iconst 2, 1) := by decide +kernel
theorem dX10_upY_10 : decode cX10_upY 10 = .ok (.if_icmp .ne 7, 3) := by decide +kernel
theorem dX10_upY_13 : decode cX10_upY 13 = .ok (.iconst 1, 1) := by decide +kernel
theorem dX10_upY_14 : decode cX10_upY 14 = .ok (.goto 4, 3) := by decide +kernel
theorem dX10_upY_17 : decode cX10_upY 17 = .ok (.iconst 0, 1) := by decide +kernel
theorem dX10_upY_18 : decode cX10_upY 18 = .ok (.ireturn, 1) := by decide +kernel
theorem dX10_upFrom_0 : decode cX10_upFrom 0 = .ok (.iload_n 0, 1) := by decide +kernel
theorem dX10_upFrom_1 : decode cX10_upFrom 1 = .ok (.iconst (-1), 1) := by decide +kernel
theorem dX10_upFrom_2 : decode cX10_upFrom 2 = .ok (.if_icmp .ne 7, 3) := by decide +kernel
theorem dX10_upFrom_5 : decode cX10_upFrom 5 = .ok (.iconst (-1), 1) := by decide +kernel
theorem dX10_upFrom_6 : decode cX10_upFrom 6 = .ok (.goto 19, 3) := by decide +kernel
theorem dX10_upFrom_9 : decode cX10_upFrom 9 = .ok (.iload_n 0, 1) := by decide +kernel
theorem dX10_upFrom_10 : decode cX10_upFrom 10 = .ok (.iload_n 2, 1) := by decide +kernel
theorem dX10_upFrom_11 : decode cX10_upFrom 11 = .ok (.iload_n 1, 1) := by decide +kernel
theorem dX10_upFrom_12 : decode cX10_upFrom 12 = .ok (.invokestatic 360, 3) := by decide +kernel
theorem dX10_upFrom_15 : decode cX10_upFrom 15 = .ok (.imul, 1) := by decide +kernel
theorem dX10_upFrom_16 : decode cX10_upFrom 16 = .ok (.iload_n 2, 1) := by decide +kernel
theorem dX10_upFrom_17 : decode cX10_upFrom 17 = .ok (.iload_n 1, 1) := by decide +kernel
theorem dX10_upFrom_18 : decode cX10_upFrom 18 = .ok (.invokestatic 363, 3) := by decide +kernel
theorem dX10_upFrom_21 : decode cX10_upFrom 21 = .ok (.imul, 1) := by decide +kernel
theorem dX10_upFrom_22 : decode cX10_upFrom 22 = .ok (.invokestatic 366, 3) := by decide +kernel
theorem dX10_upFrom_25 : decode cX10_upFrom 25 = .ok (.ireturn, 1) := by decide +kernel
theorem dX10_standing_0 : decode cX10_standing 0 = .ok (.iload_n 1, 1) := by decide +kernel
theorem dX10_standing_1 : decode cX10_standing 1 = .ok (.iconst (-1), 1) := by decide +kernel
theorem dX10_standing_2 : decode cX10_standing 2 = .ok (.if_icmp .ne 7, 3) := by decide +kernel
theorem dX10_standing_5 : decode cX10_standing 5 = .ok (.iconst (-1), 1) := by decide +kernel
theorem dX10_standing_6 : decode cX10_standing 6 = .ok (.goto 9, 3) := by decide +kernel
theorem dX10_standing_9 : decode cX10_standing 9 = .ok (.aload_n 0, 1) := by decide +kernel
theorem dX10_standing_10 : decode cX10_standing 10 = .ok (.getfield 73, 3) := by decide +kernel
theorem dX10_standing_13 : decode cX10_standing 13 = .ok (.iload_n 1, 1) := by decide +kernel
theorem dX10_standing_14 : decode cX10_standing 14 = .ok (.iaload, 1) := by decide +kernel
theorem dX10_standing_15 : decode cX10_standing 15 = .ok (.ireturn, 1) := by decide +kernel
theorem dX10_highAt_0 : decode cX10_highAt 0 = .ok (.aload_n 0, 1) := by decide +kernel
theorem dX10_highAt_1 : decode cX10_highAt 1 = .ok (.iload_n 1, 1) := by decide +kernel
theorem dX10_highAt_2 : decode cX10_highAt 2 = .ok (.invokevirtual 370, 3) := by decide +kernel
theorem dX10_highAt_5 : decode cX10_highAt 5 = .ok (.istore_n 2, 1) := by decide +kernel
theorem dX10_highAt_6 : decode cX10_highAt 6 = .ok (.iload_n 2, 1) := by decide +kernel
theorem dX10_highAt_7 : decode cX10_highAt 7 = .ok (.iconst (-1), 1) := by decide +kernel
theorem dX10_highAt_8 : decode cX10_highAt 8 = .ok (.if_icmp .ne 7, 3) := by decide +kernel
theorem dX10_highAt_11 : decode cX10_highAt 11 = .ok (.iconst 0, 1) := by decide +kernel
theorem dX10_highAt_12 : decode cX10_highAt 12 = .ok (.goto 9, 3) := by decide +kernel
theorem dX10_highAt_15 : decode cX10_highAt 15 = .ok (.aload_n 0, 1) := by decide +kernel
theorem dX10_highAt_16 : decode cX10_highAt 16 = .ok (.getfield 85, 3) := by decide +kernel
theorem dX10_highAt_19 : decode cX10_highAt 19 = .ok (.iload_n 2, 1) := by decide +kernel
theorem dX10_highAt_20 : decode cX10_highAt 20 = .ok (.iaload, 1) := by decide +kernel
theorem dX10_highAt_21 : decode cX10_highAt 21 = .ok (.ireturn, 1) := by decide +kernel
theorem dX10_find_0 : decode cX10_find 0 = .ok (.iload_n 1, 1) := by decide +kernel
theorem dX10_find_1 : decode cX10_find 1 = .ok (.iload_n 2, 1) := by decide +kernel
theorem dX10_find_2 : decode cX10_find 2 = .ok (.invokestatic 363, 3) := by decide +kernel
theorem dX10_find_5 : decode cX10_find 5 = .ok (.iload_n 2, 1) := by decide +kernel
theorem dX10_find_6 : decode cX10_find 6 = .ok (.invokestatic 360, 3) := by decide +kernel
theorem dX10_find_9 : decode cX10_find 9 = .ok (.invokestatic 366, 3) := by decide +kernel
theorem dX10_find_12 : decode cX10_find 12 = .ok (.istore_n 3, 1) := by decide +kernel
theorem dX10_find_13 : decode cX10_find 13 = .ok (.iload_n 1, 1) := by decide +kernel
theorem dX10_find_14 : decode cX10_find 14 = .ok (.iload_n 2, 1) := by decide +kernel
theorem dX10_find_15 : decode cX10_find 15 = .ok (.invokestatic 363, 3) := by decide +kernel
theorem dX10_find_18 : decode cX10_find 18 = .ok (.ineg, 1) := by decide +kernel
theorem dX10_find_19 : decode cX10_find 19 = .ok (.iload_n 2, 1) := by decide +kernel
theorem dX10_find_20 : decode cX10_find 20 = .ok (.invokestatic 360, 3) := by decide +kernel
theorem dX10_find_23 : decode cX10_find 23 = .ok (.ineg, 1) := by decide +kernel
theorem dX10_find_24 : decode cX10_find 24 = .ok (.invokestatic 366, 3) := by decide +kernel
theorem dX10_find_27 : decode cX10_find 27 = .ok (.istore 4, 2) := by decide +kernel
theorem dX10_find_29 : decode cX10_find 29 = .ok (.aload_n 0, 1) := by decide +kernel
theorem dX10_find_30 : decode cX10_find 30 = .ok (.iload_n 3, 1) := by decide +kernel
theorem dX10_find_31 : decode cX10_find 31 = .ok (.invokevirtual 370, 3) := by decide +kernel
theorem dX10_find_34 : decode cX10_find 34 = .ok (.istore 5, 2) := by decide +kernel
theorem dX10_find_36 : decode cX10_find 36 = .ok (.aload_n 0, 1) := by decide +kernel
theorem dX10_find_37 : decode cX10_find 37 = .ok (.iload 4, 2) := by decide +kernel
theorem dX10_find_39 : decode cX10_find 39 = .ok (.invokevirtual 370, 3) := by decide +kernel
theorem dX10_find_42 : decode cX10_find 42 = .ok (.istore 6, 2) := by decide +kernel
theorem dX10_find_44 : decode cX10_find 44 = .ok (.aload_n 0, 1) := by decide +kernel
theorem dX10_find_45 : decode cX10_find 45 = .ok (.iload_n 1, 1) := by decide +kernel
theorem dX10_find_46 : decode cX10_find 46 = .ok (.iload_n 2, 1) := by decide +kernel
theorem dX10_find_47 : decode cX10_find 47 = .ok (.iconst (-1), 1) := by decide +kernel
theorem dX10_find_48 : decode cX10_find 48 = .ok (.invokestatic 373, 3) := by decide +kernel
theorem dX10_find_51 : decode cX10_find 51 = .ok (.invokevirtual 370, 3) := by decide +kernel
theorem dX10_find_54 : decode cX10_find 54 = .ok (.istore 7, 2) := by decide +kernel
theorem dX10_find_56 : decode cX10_find 56 = .ok (.aload_n 0, 1) := by decide +kernel
theorem dX10_find_57 : decode cX10_find 57 = .ok (.iconst 0, 1) := by decide +kernel
theorem dX10_find_58 : decode cX10_find 58 = .ok (.putfield 376, 3) := by decide +kernel
theorem dX10_find_61 : decode cX10_find 61 = .ok (.aload_n 0, 1) := by decide +kernel
theorem dX10_find_62 : decode cX10_find 62 = .ok (.iconst (-1), 1) := by decide +kernel
theorem dX10_find_63 : decode cX10_find 63 = .ok (.putfield 379, 3) := by decide +kernel
theorem dX10_find_66 : decode cX10_find 66 = .ok (.aload_n 0, 1) := by decide +kernel
theorem dX10_find_67 : decode cX10_find 67 = .ok (.iconst 0, 1) := by decide +kernel
theorem dX10_find_68 : decode cX10_find 68 = .ok (.putfield 382, 3) := by decide +kernel
theorem dX10_find_71 : decode cX10_find 71 = .ok (.iload 5, 2) := by decide +kernel
theorem dX10_find_73 : decode cX10_find 73 = .ok (.iconst (-1), 1) := by decide +kernel
theorem dX10_find_74 : decode cX10_find 74 = .ok (.if_icmp .eq 77, 3) := by decide +kernel
theorem dX10_find_77 : decode cX10_find 77 = .ok (.iload 6, 2) := by decide +kernel
theorem dX10_find_79 : decode cX10_find 79 = .ok (.iconst (-1), 1) := by decide +kernel
theorem dX10_find_80 : decode cX10_find 80 = .ok (.if_icmp .eq 71, 3) := by decide +kernel
theorem dX10_find_83 : decode cX10_find 83 = .ok (.aload_n 0, 1) := by decide +kernel
theorem dX10_find_84 : decode cX10_find 84 = .ok (.iconst 1, 1) := by decide +kernel
theorem dX10_find_85 : decode cX10_find 85 = .ok (.putfield 376, 3) := by decide +kernel
theorem dX10_find_88 : decode cX10_find 88 = .ok (.iload 5, 2) := by decide +kernel
theorem dX10_find_90 : decode cX10_find 90 = .ok (.iload 6, 2) := by decide +kernel
theorem dX10_find_92 : decode cX10_find 92 = .ok (.if_icmp .ge 8, 3) := by decide +kernel
theorem dX10_find_95 : decode cX10_find 95 = .ok (.iload 5, 2) := by decide +kernel
theorem dX10_find_97 : decode cX10_find 97 = .ok (.goto 5, 3) := by decide +kernel
theorem dX10_find_100 : decode cX10_find 100 = .ok (.iload 6, 2) := by decide +kernel
theorem dX10_find_102 : decode cX10_find 102 = .ok (.istore 8, 2) := by decide +kernel
theorem dX10_find_104 : decode cX10_find 104 = .ok (.iload 5, 2) := by decide +kernel
theorem dX10_find_106 : decode cX10_find 106 = .ok (.iload 6, 2) := by decide +kernel
theorem dX10_find_108 : decode cX10_find 108 = .ok (.if_icmp .ge 8, 3) := by decide +kernel
theorem dX10_find_111 : decode cX10_find 111 = .ok (.iload 6, 2) := by decide +kernel
theorem dX10_find_113 : decode cX10_find 113 = .ok (.goto 5, 3) := by decide +kernel
theorem dX10_find_116 : decode cX10_find 116 = .ok (.iload 5, 2) := by decide +kernel
theorem dX10_find_118 : decode cX10_find 118 = .ok (.istore 9, 2) := by decide +kernel
theorem dX10_find_120 : decode cX10_find 120 = .ok (.aload_n 0, 1) := by decide +kernel
theorem dX10_find_121 : decode cX10_find 121 = .ok (.aload_n 0, 1) := by decide +kernel
theorem dX10_find_122 : decode cX10_find 122 = .ok (.getfield 85, 3) := by decide +kernel
theorem dX10_find_125 : decode cX10_find 125 = .ok (.iload 9, 2) := by decide +kernel
theorem dX10_find_127 : decode cX10_find 127 = .ok (.iaload, 1) := by decide +kernel
theorem dX10_find_128 : decode cX10_find 128 = .ok (.aload_n 0, 1) := by decide +kernel
theorem dX10_find_129 : decode cX10_find 129 = .ok (.getfield 85, 3) := by decide +kernel
theorem dX10_find_132 : decode cX10_find 132 = .ok (.iload 8, 2) := by decide +kernel
theorem dX10_find_134 : decode cX10_find 134 = .ok (.iaload, 1) := by decide +kernel
theorem dX10_find_135 : decode cX10_find 135 = .ok (.if_icmp .le 8, 3) := by decide +kernel
theorem dX10_find_138 : decode cX10_find 138 = .ok (.iload 9, 2) := by decide +kernel
theorem dX10_find_140 : decode cX10_find 140 = .ok (.goto 5, 3) := by decide +kernel
theorem dX10_find_143 : decode cX10_find 143 = .ok (.iload 8, 2) := by decide +kernel
theorem dX10_find_145 : decode cX10_find 145 = .ok (.putfield 379, 3) := by decide +kernel
theorem dX10_find_148 : decode cX10_find 148 = .ok (.goto 142, 3) := by decide +kernel
theorem dX10_find_151 : decode cX10_find 151 = .ok (.iload 7, 2) := by decide +kernel
theorem dX10_find_153 : decode cX10_find 153 = .ok (.iconst (-1), 1) := by decide +kernel
theorem dX10_find_154 : decode cX10_find 154 = .ok (.if_icmp .eq 17, 3) := by decide +kernel
theorem dX10_find_157 : decode cX10_find 157 = .ok (.aload_n 0, 1) := by decide +kernel
theorem dX10_find_158 : decode cX10_find 158 = .ok (.iconst 2, 1) := by decide +kernel
theorem dX10_find_159 : decode cX10_find 159 = .ok (.putfield 376, 3) := by decide +kernel
theorem dX10_find_162 : decode cX10_find 162 = .ok (.aload_n 0, 1) := by decide +kernel
theorem dX10_find_163 : decode cX10_find 163 = .ok (.iload 7, 2) := by decide +kernel
theorem dX10_find_165 : decode cX10_find 165 = .ok (.putfield 379, 3) := by decide +kernel
theorem dX10_find_168 : decode cX10_find 168 = .ok (.goto 122, 3) := by decide +kernel
theorem dX10_find_171 : decode cX10_find 171 = .ok (.iload 5, 2) := by decide +kernel
theorem dX10_find_173 : decode cX10_find 173 = .ok (.iconst (-1), 1) := by decide +kernel
theorem dX10_find_174 : decode cX10_find 174 = .ok (.if_icmp .eq 31, 3) := by decide +kernel
theorem dX10_find_177 : decode cX10_find 177 = .ok (.aload_n 0, 1) := by decide +kernel
theorem dX10_find_178 : decode cX10_find 178 = .ok (.iload_n 3, 1) := by decide +kernel
theorem dX10_find_179 : decode cX10_find 179 = .ok (.iload_n 2, 1) := by decide +kernel
theorem dX10_find_180 : decode cX10_find 180 = .ok (.iconst 1, 1) := by decide +kernel
theorem dX10_find_181 : decode cX10_find 181 = .ok (.invokestatic 373, 3) := by decide +kernel
theorem dX10_find_184 : decode cX10_find 184 = .ok (.invokevirtual 370, 3) := by decide +kernel
theorem dX10_find_187 : decode cX10_find 187 = .ok (.iconst (-1), 1) := by decide +kernel
theorem dX10_find_188 : decode cX10_find 188 = .ok (.if_icmp .ne 17, 3) := by decide +kernel
theorem dX10_find_191 : decode cX10_find 191 = .ok (.aload_n 0, 1) := by decide +kernel
theorem dX10_find_192 : decode cX10_find 192 = .ok (.iconst 3, 1) := by decide +kernel
theorem dX10_find_193 : decode cX10_find 193 = .ok (.putfield 376, 3) := by decide +kernel
theorem dX10_find_196 : decode cX10_find 196 = .ok (.aload_n 0, 1) := by decide +kernel
theorem dX10_find_197 : decode cX10_find 197 = .ok (.iload 5, 2) := by decide +kernel
theorem dX10_find_199 : decode cX10_find 199 = .ok (.putfield 379, 3) := by decide +kernel
theorem dX10_find_202 : decode cX10_find 202 = .ok (.goto 88, 3) := by decide +kernel
theorem dX10_find_205 : decode cX10_find 205 = .ok (.iload 6, 2) := by decide +kernel
theorem dX10_find_207 : decode cX10_find 207 = .ok (.iconst (-1), 1) := by decide +kernel
theorem dX10_find_208 : decode cX10_find 208 = .ok (.if_icmp .eq 32, 3) := by decide +kernel
theorem dX10_find_211 : decode cX10_find 211 = .ok (.aload_n 0, 1) := by decide +kernel
theorem dX10_find_212 : decode cX10_find 212 = .ok (.iload 4, 2) := by decide +kernel
theorem dX10_find_214 : decode cX10_find 214 = .ok (.iload_n 2, 1) := by decide +kernel
theorem dX10_find_215 : decode cX10_find 215 = .ok (.iconst 1, 1) := by decide +kernel
theorem dX10_find_216 : decode cX10_find 216 = .ok (.invokestatic 373, 3) := by decide +kernel
theorem dX10_find_219 : decode cX10_find 219 = .ok (.invokevirtual 370, 3) := by decide +kernel
theorem dX10_find_222 : decode cX10_find 222 = .ok (.iconst (-1), 1) := by decide +kernel
theorem dX10_find_223 : decode cX10_find 223 = .ok (.if_icmp .ne 17, 3) := by decide +kernel
theorem dX10_find_226 : decode cX10_find 226 = .ok (.aload_n 0, 1) := by decide +kernel
theorem dX10_find_227 : decode cX10_find 227 = .ok (.iconst 3, 1) := by decide +kernel
theorem dX10_find_228 : decode cX10_find 228 = .ok (.putfield 376, 3) := by decide +kernel
theorem dX10_find_231 : decode cX10_find 231 = .ok (.aload_n 0, 1) := by decide +kernel
theorem dX10_find_232 : decode cX10_find 232 = .ok (.iload 6, 2) := by decide +kernel
theorem dX10_find_234 : decode cX10_find 234 = .ok (.putfield 379, 3) := by decide +kernel
theorem dX10_find_237 : decode cX10_find 237 = .ok (.goto 53, 3) := by decide +kernel
theorem dX10_find_240 : decode cX10_find 240 = .ok (.iconst 3, 1) := by decide +kernel
theorem dX10_find_241 : decode cX10_find 241 = .ok (.istore 8, 2) := by decide +kernel
theorem dX10_find_243 : decode cX10_find 243 = .ok (.iload 8, 2) := by decide +kernel
theorem dX10_find_245 : decode cX10_find 245 = .ok (.ifCond .le 45, 3) := by decide +kernel
theorem dX10_find_248 : decode cX10_find 248 = .ok (.aload_n 0, 1) := by decide +kernel
theorem dX10_find_249 : decode cX10_find 249 = .ok (.iload_n 1, 1) := by decide +kernel
theorem dX10_find_250 : decode cX10_find 250 = .ok (.iload_n 2, 1) := by decide +kernel
theorem dX10_find_251 : decode cX10_find 251 = .ok (.iload 8, 2) := by decide +kernel
theorem dX10_find_253 : decode cX10_find 253 = .ok (.invokestatic 373, 3) := by decide +kernel
theorem dX10_find_256 : decode cX10_find 256 = .ok (.invokevirtual 370, 3) := by decide +kernel
theorem dX10_find_259 : decode cX10_find 259 = .ok (.istore 9, 2) := by decide +kernel
theorem dX10_find_261 : decode cX10_find 261 = .ok (.iload 9, 2) := by decide +kernel
theorem dX10_find_263 : decode cX10_find 263 = .ok (.iconst (-1), 1) := by decide +kernel
theorem dX10_find_264 : decode cX10_find 264 = .ok (.if_icmp .eq 20, 3) := by decide +kernel
theorem dX10_find_267 : decode cX10_find 267 = .ok (.aload_n 0, 1) := by decide +kernel
theorem dX10_find_268 : decode cX10_find 268 = .ok (.iconst 4, 1) := by decide +kernel
theorem dX10_find_269 : decode cX10_find 269 = .ok (.putfield 376, 3) := by decide +kernel
theorem dX10_find_272 : decode cX10_find 272 = .ok (.aload_n 0, 1) := by decide +kernel
theorem dX10_find_273 : decode cX10_find 273 = .ok (.iload 9, 2) := by decide +kernel
theorem dX10_find_275 : decode cX10_find 275 = .ok (.putfield 379, 3) := by decide +kernel
theorem dX10_find_278 : decode cX10_find 278 = .ok (.aload_n 0, 1) := by decide +kernel
theorem dX10_find_279 : decode cX10_find 279 = .ok (.iload 8, 2) := by decide +kernel
theorem dX10_find_281 : decode cX10_find 281 = .ok (.putfield 382, 3) := by decide +kernel
theorem dX10_find_284 : decode cX10_find 284 = .ok (.iinc 8 (-1), 3) := by decide +kernel
theorem dX10_find_287 : decode cX10_find 287 = .ok (.goto (-44), 3) := by decide +kernel
theorem dX10_find_290 : decode cX10_find 290 = .ok (.iconst 0, 1) := by decide +kernel
theorem dX10_find_291 : decode cX10_find 291 = .ok (.istore 8, 2) := by decide +kernel
theorem dX10_find_293 : decode cX10_find 293 = .ok (.aload_n 0, 1) := by decide +kernel
theorem dX10_find_294 : decode cX10_find 294 = .ok (.aload_n 0, 1) := by decide +kernel
theorem dX10_find_295 : decode cX10_find 295 = .ok (.getfield 76, 3) := by decide +kernel
theorem dX10_find_298 : decode cX10_find 298 = .ok (.iload_n 1, 1) := by decide +kernel
theorem dX10_find_299 : decode cX10_find 299 = .ok (.iaload, 1) := by decide +kernel
theorem dX10_find_300 : decode cX10_find 300 = .ok (.putfield 385, 3) := by decide +kernel
theorem dX10_find_303 : decode cX10_find 303 = .ok (.aload_n 0, 1) := by decide +kernel
theorem dX10_find_304 : decode cX10_find 304 = .ok (.iconst 0, 1) := by decide +kernel
theorem dX10_find_305 : decode cX10_find 305 = .ok (.putfield 388, 3) := by decide +kernel
theorem dX10_find_308 : decode cX10_find 308 = .ok (.iconst 1, 1) := by decide +kernel
theorem dX10_find_309 : decode cX10_find 309 = .ok (.istore 9, 2) := by decide +kernel
theorem dX10_find_311 : decode cX10_find 311 = .ok (.iload 9, 2) := by decide +kernel
theorem dX10_find_313 : decode cX10_find 313 = .ok (.iconst 4, 1) := by decide +kernel
theorem dX10_find_314 : decode cX10_find 314 = .ok (.if_icmp .ge 115, 3) := by decide +kernel
theorem dX10_find_317 : decode cX10_find 317 = .ok (.iload_n 1, 1) := by decide +kernel
theorem dX10_find_318 : decode cX10_find 318 = .ok (.iload_n 2, 1) := by decide +kernel
theorem dX10_find_319 : decode cX10_find 319 = .ok (.iload 9, 2) := by decide +kernel
theorem dX10_find_321 : decode cX10_find 321 = .ok (.invokestatic 373, 3) := by decide +kernel
theorem dX10_find_324 : decode cX10_find 324 = .ok (.istore 10, 2) := by decide +kernel
theorem dX10_find_326 : decode cX10_find 326 = .ok (.aload_n 0, 1) := by decide +kernel
theorem dX10_find_327 : decode cX10_find 327 = .ok (.iload 10, 2) := by decide +kernel
