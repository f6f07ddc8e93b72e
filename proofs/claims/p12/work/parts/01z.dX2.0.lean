theorem dX2_init_0 : decode cX2_init 0 = .ok (.aload_n 0, 1) := by decide +kernel
theorem dX2_init_1 : decode cX2_init 1 = .ok (.invokespecial 3, 3) := by decide +kernel
theorem dX2_init_4 : decode cX2_init 4 = .ok (.aload_n 0, 1) := by decide +kernel
theorem dX2_init_5 : decode cX2_init 5 = .ok (.sipush 401, 3) := by decide +kernel
theorem dX2_init_8 : decode cX2_init 8 = .ok (.newarray .int, 2) := by decide +kernel
theorem dX2_init_10 : decode cX2_init 10 = .ok (.putfield 9, 3) := by decide +kernel
theorem dX2_init_13 : decode cX2_init 13 = .ok (.aload_n 0, 1) := by decide +kernel
theorem dX2_init_14 : decode cX2_init 14 = .ok (.iconst 0, 1) := by decide +kernel
theorem dX2_init_15 : decode cX2_init 15 = .ok (.putfield 15, 3) := by decide +kernel
theorem dX2_init_18 : decode cX2_init 18 = .ok (.aload_n 0, 1) := by decide +kernel
theorem dX2_init_19 : decode cX2_init 19 = .ok (.bipush 25, 2) := by decide +kernel
theorem dX2_init_21 : decode cX2_init 21 = .ok (.newarray .int, 2) := by decide +kernel
theorem dX2_init_23 : decode cX2_init 23 = .ok (.putfield 19, 3) := by decide +kernel
theorem dX2_init_26 : decode cX2_init 26 = .ok (.aload_n 0, 1) := by decide +kernel
theorem dX2_init_27 : decode cX2_init 27 = .ok (.new 22, 3) := by decide +kernel
theorem dX2_init_30 : decode cX2_init 30 = .ok (.dup, 1) := by decide +kernel
theorem dX2_init_31 : decode cX2_init 31 = .ok (.invokespecial 24, 3) := by decide +kernel
theorem dX2_init_34 : decode cX2_init 34 = .ok (.putfield 25, 3) := by decide +kernel
theorem dX2_init_37 : decode cX2_init 37 = .ok (.aload_n 0, 1) := by decide +kernel
theorem dX2_init_38 : decode cX2_init 38 = .ok (.iconst 0, 1) := by decide +kernel
theorem dX2_init_39 : decode cX2_init 39 = .ok (.putfield 29, 3) := by decide +kernel
theorem dX2_init_42 : decode cX2_init 42 = .ok (.aload_n 0, 1) := by decide +kernel
theorem dX2_init_43 : decode cX2_init 43 = .ok (.iconst 0, 1) := by decide +kernel
theorem dX2_init_44 : decode cX2_init 44 = .ok (.putfield 32, 3) := by decide +kernel
theorem dX2_init_47 : decode cX2_init 47 = .ok (.aload_n 0, 1) := by decide +kernel
theorem dX2_init_48 : decode cX2_init 48 = .ok (.iconst 0, 1) := by decide +kernel
theorem dX2_init_49 : decode cX2_init 49 = .ok (.putfield 35, 3) := by decide +kernel
theorem dX2_init_52 : decode cX2_init 52 = .ok (.aload_n 0, 1) := by decide +kernel
theorem dX2_init_53 : decode cX2_init 53 = .ok (.iconst (-1), 1) := by decide +kernel
theorem dX2_init_54 : decode cX2_init 54 = .ok (.putfield 38, 3) := by decide +kernel
theorem dX2_init_57 : decode cX2_init 57 = .ok (.return_, 1) := by decide +kernel
theorem dX2_read_0 : decode cX2_read 0 = .ok (.aload_n 0, 1) := by decide +kernel
theorem dX2_read_1 : decode cX2_read 1 = .ok (.getfield 25, 3) := by decide +kernel
theorem dX2_read_4 : decode cX2_read 4 = .ok (.aload_n 1, 1) := by decide +kernel
theorem dX2_read_5 : decode cX2_read 5 = .ok (.iload_n 2, 1) := by decide +kernel
theorem dX2_read_6 : decode cX2_read 6 = .ok (.invokevirtual 41, 3) := by decide +kernel
theorem dX2_read_9 : decode cX2_read 9 = .ok (.aload_n 0, 1) := by decide +kernel
theorem dX2_read_10 : decode cX2_read 10 = .ok (.iconst 0, 1) := by decide +kernel
theorem dX2_read_11 : decode cX2_read 11 = .ok (.putfield 29, 3) := by decide +kernel
theorem dX2_read_14 : decode cX2_read 14 = .ok (.aload_n 0, 1) := by decide +kernel
theorem dX2_read_15 : decode cX2_read 15 = .ok (.aload_n 0, 1) := by decide +kernel
theorem dX2_read_16 : decode cX2_read 16 = .ok (.getfield 25, 3) := by decide +kernel
theorem dX2_read_19 : decode cX2_read 19 = .ok (.getfield 45, 3) := by decide +kernel
theorem dX2_read_22 : decode cX2_read 22 = .ok (.iconst 0, 1) := by decide +kernel
theorem dX2_read_23 : decode cX2_read 23 = .ok (.iaload, 1) := by decide +kernel
theorem dX2_read_24 : decode cX2_read 24 = .ok (.putfield 32, 3) := by decide +kernel
theorem dX2_read_27 : decode cX2_read 27 = .ok (.aload_n 0, 1) := by decide +kernel
theorem dX2_read_28 : decode cX2_read 28 = .ok (.iconst 0, 1) := by decide +kernel
theorem dX2_read_29 : decode cX2_read 29 = .ok (.putfield 15, 3) := by decide +kernel
theorem dX2_read_32 : decode cX2_read 32 = .ok (.aload_n 0, 1) := by decide +kernel
theorem dX2_read_33 : decode cX2_read 33 = .ok (.iconst 0, 1) := by decide +kernel
theorem dX2_read_34 : decode cX2_read 34 = .ok (.putfield 35, 3) := by decide +kernel
theorem dX2_read_37 : decode cX2_read 37 = .ok (.aload_n 0, 1) := by decide +kernel
theorem dX2_read_38 : decode cX2_read 38 = .ok (.iconst (-1), 1) := by decide +kernel
theorem dX2_read_39 : decode cX2_read 39 = .ok (.putfield 38, 3) := by decide +kernel
theorem dX2_read_42 : decode cX2_read 42 = .ok (.iconst 0, 1) := by decide +kernel
theorem dX2_read_43 : decode cX2_read 43 = .ok (.istore_n 3, 1) := by decide +kernel
theorem dX2_read_44 : decode cX2_read 44 = .ok (.iload_n 3, 1) := by decide +kernel
theorem dX2_read_45 : decode cX2_read 45 = .ok (.bipush 12, 2) := by decide +kernel
theorem dX2_read_47 : decode cX2_read 47 = .ok (.if_icmp .ge 69, 3) := by decide +kernel
theorem dX2_read_50 : decode cX2_read 50 = .ok (.aload_n 0, 1) := by decide +kernel
theorem dX2_read_51 : decode cX2_read 51 = .ok (.iload_n 3, 1) := by decide +kernel
theorem dX2_read_52 : decode cX2_read 52 = .ok (.invokevirtual 48, 3) := by decide +kernel
theorem dX2_read_55 : decode cX2_read 55 = .ok (.ifCond .ne 5, 3) := by decide +kernel
theorem dX2_read_58 : decode cX2_read 58 = .ok (.aconst_null, 1) := by decide +kernel
theorem dX2_read_59 : decode cX2_read 59 = .ok (.areturn, 1) := by decide +kernel
theorem dX2_read_60 : decode cX2_read 60 = .ok (.aload_n 0, 1) := by decide +kernel
theorem dX2_read_61 : decode cX2_read 61 = .ok (.getfield 32, 3) := by decide +kernel
theorem dX2_read_64 : decode cX2_read 64 = .ok (.ifCond .ne 34, 3) := by decide +kernel
theorem dX2_read_67 : decode cX2_read 67 = .ok (.new 52, 3) := by decide +kernel
theorem dX2_read_70 : decode cX2_read 70 = .ok (.dup, 1) := by decide +kernel
theorem dX2_read_71 : decode cX2_read 71 = .ok (.aload_n 0, 1) := by decide +kernel
theorem dX2_read_72 : decode cX2_read 72 = .ok (.getfield 9, 3) := by decide +kernel
theorem dX2_read_75 : decode cX2_read 75 = .ok (.aload_n 0, 1) := by decide +kernel
theorem dX2_read_76 : decode cX2_read 76 = .ok (.getfield 15, 3) := by decide +kernel
theorem dX2_read_79 : decode cX2_read 79 = .ok (.invokestatic 54, 3) := by decide +kernel
theorem dX2_read_82 : decode cX2_read 82 = .ok (.aload_n 0, 1) := by decide +kernel
theorem dX2_read_83 : decode cX2_read 83 = .ok (.getfield 19, 3) := by decide +kernel
theorem dX2_read_86 : decode cX2_read 86 = .ok (.iconst 2, 1) := by decide +kernel
theorem dX2_read_87 : decode cX2_read 87 = .ok (.iload_n 3, 1) := by decide +kernel
theorem dX2_read_88 : decode cX2_read 88 = .ok (.imul, 1) := by decide +kernel
theorem dX2_read_89 : decode cX2_read 89 = .ok (.iconst 3, 1) := by decide +kernel
theorem dX2_read_90 : decode cX2_read 90 = .ok (.iadd, 1) := by decide +kernel
theorem dX2_read_91 : decode cX2_read 91 = .ok (.invokestatic 54, 3) := by decide +kernel
theorem dX2_read_94 : decode cX2_read 94 = .ok (.invokespecial 60, 3) := by decide +kernel
theorem dX2_read_97 : decode cX2_read 97 = .ok (.areturn, 1) := by decide +kernel
theorem dX2_read_98 : decode cX2_read 98 = .ok (.aload_n 0, 1) := by decide +kernel
theorem dX2_read_99 : decode cX2_read 99 = .ok (.sipush 1059, 3) := by decide +kernel
theorem dX2_read_102 : decode cX2_read 102 = .ok (.invokevirtual 63, 3) := by decide +kernel
theorem dX2_read_105 : decode cX2_read 105 = .ok (.ifCond .ne 5, 3) := by decide +kernel
theorem dX2_read_108 : decode cX2_read 108 = .ok (.aconst_null, 1) := by decide +kernel
theorem dX2_read_109 : decode cX2_read 109 = .ok (.areturn, 1) := by decide +kernel
theorem dX2_read_110 : decode cX2_read 110 = .ok (.iinc 3 1, 3) := by decide +kernel
theorem dX2_read_113 : decode cX2_read 113 = .ok (.goto (-69), 3) := by decide +kernel
theorem dX2_read_116 : decode cX2_read 116 = .ok (.aload_n 0, 1) := by decide +kernel
theorem dX2_read_117 : decode cX2_read 117 = .ok (.invokevirtual 66, 3) := by decide +kernel
theorem dX2_read_120 : decode cX2_read 120 = .ok (.pop, 1) := by decide +kernel
theorem dX2_read_121 : decode cX2_read 121 = .ok (.aconst_null, 1) := by decide +kernel
theorem dX2_read_122 : decode cX2_read 122 = .ok (.areturn, 1) := by decide +kernel
theorem dX2_readClause_0 : decode cX2_readClause 0 = .ok (.iload_n 1, 1) := by decide +kernel
theorem dX2_readClause_1 : decode cX2_readClause 1 = .ok (.ifCond .lt 9, 3) := by decide +kernel
theorem dX2_readClause_4 : decode cX2_readClause 4 = .ok (.iload_n 1, 1) := by decide +kernel
theorem dX2_readClause_5 : decode cX2_readClause 5 = .ok (.bipush 12, 2) := by decide +kernel
theorem dX2_readClause_7 : decode cX2_readClause 7 = .ok (.if_icmp .lt 8, 3) := by decide +kernel
theorem dX2_readClause_10 : decode cX2_readClause 10 = .ok (.aload_n 0, 1) := by decide +kernel
theorem dX2_readClause_11 : decode cX2_readClause 11 = .ok (.invokevirtual 66, 3) := by decide +kernel
theorem dX2_readClause_14 : decode cX2_readClause 14 = .ok (.ireturn, 1) := by decide +kernel
theorem dX2_readClause_15 : decode cX2_readClause 15 = .ok (.aload_n 0, 1) := by decide +kernel
theorem dX2_readClause_16 : decode cX2_readClause 16 = .ok (.getfield 19, 3) := by decide +kernel
theorem dX2_readClause_19 : decode cX2_readClause 19 = .ok (.iconst 2, 1) := by decide +kernel
theorem dX2_readClause_20 : decode cX2_readClause 20 = .ok (.iload_n 1, 1) := by decide +kernel
theorem dX2_readClause_21 : decode cX2_readClause 21 = .ok (.imul, 1) := by decide +kernel
theorem dX2_readClause_22 : decode cX2_readClause 22 = .ok (.aload_n 0, 1) := by decide +kernel
theorem dX2_readClause_23 : decode cX2_readClause 23 = .ok (.getfield 15, 3) := by decide +kernel
theorem dX2_readClause_26 : decode cX2_readClause 26 = .ok (.iastore, 1) := by decide +kernel
theorem dX2_readClause_27 : decode cX2_readClause 27 = .ok (.aload_n 0, 1) := by decide +kernel
theorem dX2_readClause_28 : decode cX2_readClause 28 = .ok (.iconst 1, 1) := by decide +kernel
theorem dX2_readClause_29 : decode cX2_readClause 29 = .ok (.invokevirtual 63, 3) := by decide +kernel
theorem dX2_readClause_32 : decode cX2_readClause 32 = .ok (.ifCond .eq 11, 3) := by decide +kernel
theorem dX2_readClause_35 : decode cX2_readClause 35 = .ok (.aload_n 0, 1) := by decide +kernel
theorem dX2_readClause_36 : decode cX2_readClause 36 = .ok (.iconst 0, 1) := by decide +kernel
theorem dX2_readClause_37 : decode cX2_readClause 37 = .ok (.invokevirtual 70, 3) := by decide +kernel
theorem dX2_readClause_40 : decode cX2_readClause 40 = .ok (.ifCond .ne 5, 3) := by decide +kernel
theorem dX2_readClause_43 : decode cX2_readClause 43 = .ok (.iconst 0, 1) := by decide +kernel
theorem dX2_readClause_44 : decode cX2_readClause 44 = .ok (.ireturn, 1) := by decide +kernel
theorem dX2_readClause_45 : decode cX2_readClause 45 = .ok (.aload_n 0, 1) := by decide +kernel
theorem dX2_readClause_46 : decode cX2_readClause 46 = .ok (.getfield 19, 3) := by decide +kernel
theorem dX2_readClause_49 : decode cX2_readClause 49 = .ok (.iconst 2, 1) := by decide +kernel
theorem dX2_readClause_50 : decode cX2_readClause 50 = .ok (.iload_n 1, 1) := by decide +kernel
theorem dX2_readClause_51 : decode cX2_readClause 51 = .ok (.imul, 1) := by decide +kernel
theorem dX2_readClause_52 : decode cX2_readClause 52 = .ok (.iconst 1, 1) := by decide +kernel
theorem dX2_readClause_53 : decode cX2_readClause 53 = .ok (.iadd, 1) := by decide +kernel
theorem dX2_readClause_54 : decode cX2_readClause 54 = .ok (.aload_n 0, 1) := by decide +kernel
theorem dX2_readClause_55 : decode cX2_readClause 55 = .ok (.getfield 15, 3) := by decide +kernel
theorem dX2_readClause_58 : decode cX2_readClause 58 = .ok (.iastore, 1) := by decide +kernel
theorem dX2_readClause_59 : decode cX2_readClause 59 = .ok (.aload_n 0, 1) := by decide +kernel
theorem dX2_readClause_60 : decode cX2_readClause 60 = .ok (.getfield 32, 3) := by decide +kernel
theorem dX2_readClause_63 : decode cX2_readClause 63 = .ok (.iconst 2, 1) := by decide +kernel
theorem dX2_readClause_64 : decode cX2_readClause 64 = .ok (.if_icmp .ne 17, 3) := by decide +kernel
theorem dX2_readClause_67 : decode cX2_readClause 67 = .ok (.aload_n 0, 1) := by decide +kernel
theorem dX2_readClause_68 : decode cX2_readClause 68 = .ok (.invokevirtual 73, 3) := by decide +kernel
theorem dX2_readClause_71 : decode cX2_readClause 71 = .ok (.aload_n 0, 1) := by decide +kernel
theorem dX2_readClause_72 : decode cX2_readClause 72 = .ok (.iconst 0, 1) := by decide +kernel
theorem dX2_readClause_73 : decode cX2_readClause 73 = .ok (.invokevirtual 76, 3) := by decide +kernel
theorem dX2_readClause_76 : decode cX2_readClause 76 = .ok (.ifCond .ne 5, 3) := by decide +kernel
theorem dX2_readClause_79 : decode cX2_readClause 79 = .ok (.iconst 0, 1) := by decide +kernel
theorem dX2_readClause_80 : decode cX2_readClause 80 = .ok (.ireturn, 1) := by decide +kernel
theorem dX2_readClause_81 : decode cX2_readClause 81 = .ok (.aload_n 0, 1) := by decide +kernel
theorem dX2_readClause_82 : decode cX2_readClause 82 = .ok (.getfield 19, 3) := by decide +kernel
theorem dX2_readClause_85 : decode cX2_readClause 85 = .ok (.iconst 2, 1) := by decide +kernel
theorem dX2_readClause_86 : decode cX2_readClause 86 = .ok (.iload_n 1, 1) := by decide +kernel
theorem dX2_readClause_87 : decode cX2_readClause 87 = .ok (.imul, 1) := by decide +kernel
theorem dX2_readClause_88 : decode cX2_readClause 88 = .ok (.iconst 2, 1) := by decide +kernel
theorem dX2_readClause_89 : decode cX2_readClause 89 = .ok (.iadd, 1) := by decide +kernel
theorem dX2_readClause_90 : decode cX2_readClause 90 = .ok (.aload_n 0, 1) := by decide +kernel
theorem dX2_readClause_91 : decode cX2_readClause 91 = .ok (.getfield 15, 3) := by decide +kernel
theorem dX2_readClause_94 : decode cX2_readClause 94 = .ok (.iastore, 1) := by decide +kernel
theorem dX2_readClause_95 : decode cX2_readClause 95 = .ok (.iconst 1, 1) := by decide +kernel
theorem dX2_readClause_96 : decode cX2_readClause 96 = .ok (.ireturn, 1) := by decide +kernel
theorem dX2_readTest_0 : decode cX2_readTest 0 = .ok (.iconst (-1), 1) := by decide +kernel
theorem dX2_readTest_1 : decode cX2_readTest 1 = .ok (.istore_n 2, 1) := by decide +kernel
theorem dX2_readTest_2 : decode cX2_readTest 2 = .ok (.iconst 0, 1) := by decide +kernel
theorem dX2_readTest_3 : decode cX2_readTest 3 = .ok (.istore_n 3, 1) := by decide +kernel
theorem dX2_readTest_4 : decode cX2_readTest 4 = .ok (.iload_n 3, 1) := by decide +kernel
theorem dX2_readTest_5 : decode cX2_readTest 5 = .ok (.sipush 400, 3) := by decide +kernel
theorem dX2_readTest_8 : decode cX2_readTest 8 = .ok (.if_icmp .gt 42, 3) := by decide +kernel
theorem dX2_readTest_11 : decode cX2_readTest 11 = .ok (.aload_n 0, 1) := by decide +kernel
theorem dX2_readTest_12 : decode cX2_readTest 12 = .ok (.iload_n 1, 1) := by decide +kernel
theorem dX2_readTest_13 : decode cX2_readTest 13 = .ok (.invokevirtual 79, 3) := by decide +kernel
theorem dX2_readTest_16 : decode cX2_readTest 16 = .ok (.ifCond .ne 5, 3) := by decide +kernel
theorem dX2_readTest_19 : decode cX2_readTest 19 = .ok (.iconst 0, 1) := by decide +kernel
theorem dX2_readTest_20 : decode cX2_readTest 20 = .ok (.ireturn, 1) := by decide +kernel
theorem dX2_readTest_21 : decode cX2_readTest 21 = .ok (.aload_n 0, 1) := by decide +kernel
theorem dX2_readTest_22 : decode cX2_readTest 22 = .ok (.getfield 32, 3) := by decide +kernel
theorem dX2_readTest_25 : decode cX2_readTest 25 = .ok (.iconst 3, 1) := by decide +kernel
theorem dX2_readTest_26 : decode cX2_readTest 26 = .ok (.if_icmp .eq 6, 3) := by decide +kernel
theorem dX2_readTest_29 : decode cX2_readTest 29 = .ok (.goto 21, 3) := by decide +kernel
theorem dX2_readTest_32 : decode cX2_readTest 32 = .ok (.aload_n 0, 1) := by decide +kernel
theorem dX2_readTest_33 : decode cX2_readTest 33 = .ok (.invokevirtual 73, 3) := by decide +kernel
theorem dX2_readTest_36 : decode cX2_readTest 36 = .ok (.aload_n 0, 1) := by decide +kernel
theorem dX2_readTest_37 : decode cX2_readTest 37 = .ok (.bipush 11, 2) := by decide +kernel
theorem dX2_readTest_39 : decode cX2_readTest 39 = .ok (.iload_n 2, 1) := by decide +kernel
theorem dX2_readTest_40 : decode cX2_readTest 40 = .ok (.invokevirtual 82, 3) := by decide +kernel
theorem dX2_readTest_43 : decode cX2_readTest 43 = .ok (.istore_n 2, 1) := by decide +kernel
theorem dX2_readTest_44 : decode cX2_readTest 44 = .ok (.iinc 3 1, 3) := by decide +kernel
theorem dX2_readTest_47 : decode cX2_readTest 47 = .ok (.goto (-43), 3) := by decide +kernel
theorem dX2_readTest_50 : decode cX2_readTest 50 = .ok (.aload_n 0, 1) := by decide +kernel
theorem dX2_readTest_51 : decode cX2_readTest 51 = .ok (.iload_n 2, 1) := by decide +kernel
theorem dX2_readTest_52 : decode cX2_readTest 52 = .ok (.invokevirtual 86, 3) := by decide +kernel
theorem dX2_readTest_55 : decode cX2_readTest 55 = .ok (.iconst 1, 1) := by decide +kernel
theorem dX2_readTest_56 : decode cX2_readTest 56 = .ok (.ireturn, 1) := by decide +kernel
theorem dX2_readBoth_0 : decode cX2_readBoth 0 = .ok (.iconst (-1), 1) := by decide +kernel
theorem dX2_readBoth_1 : decode cX2_readBoth 1 = .ok (.istore_n 2, 1) := by decide +kernel
theorem dX2_readBoth_2 : decode cX2_readBoth 2 = .ok (.iconst 0, 1) := by decide +kernel
theorem dX2_readBoth_3 : decode cX2_readBoth 3 = .ok (.istore_n 3, 1) := by decide +kernel
theorem dX2_readBoth_4 : decode cX2_readBoth 4 = .ok (.iload_n 3, 1) := by decide +kernel
theorem dX2_readBoth_5 : decode cX2_readBoth 5 = .ok (.sipush 400, 3) := by decide +kernel
theorem dX2_readBoth_8 : decode cX2_readBoth 8 = .ok (.if_icmp .gt 42, 3) := by decide +kernel
theorem dX2_readBoth_11 : decode cX2_readBoth 11 = .ok (.aload_n 0, 1) := by decide +kernel
theorem dX2_readBoth_12 : decode cX2_readBoth 12 = .ok (.iload_n 1, 1) := by decide +kernel
theorem dX2_readBoth_13 : decode cX2_readBoth 13 = .ok (.invokevirtual 90, 3) := by decide +kernel
theorem dX2_readBoth_16 : decode cX2_readBoth 16 = .ok (.ifCond .ne 5, 3) := by decide +kernel
theorem dX2_readBoth_19 : decode cX2_readBoth 19 = .ok (.iconst 0, 1) := by decide +kernel
theorem dX2_readBoth_20 : decode cX2_readBoth 20 = .ok (.ireturn, 1) := by decide +kernel
theorem dX2_readBoth_21 : decode cX2_readBoth 21 = .ok (.aload_n 0, 1) := by decide +kernel
theorem dX2_readBoth_22 : decode cX2_readBoth 22 = .ok (.getfield 32, 3) := by decide +kernel
theorem dX2_readBoth_25 : decode cX2_readBoth 25 = .ok (.iconst 4, 1) := by decide +kernel
theorem dX2_readBoth_26 : decode cX2_readBoth 26 = .ok (.if_icmp .eq 6, 3) := by decide +kernel
theorem dX2_readBoth_29 : decode cX2_readBoth 29 = .ok (.goto 21, 3) := by decide +kernel
theorem dX2_readBoth_32 : decode cX2_readBoth 32 = .ok (.aload_n 0, 1) := by decide +kernel
theorem dX2_readBoth_33 : decode cX2_readBoth 33 = .ok (.invokevirtual 73, 3) := by decide +kernel
theorem dX2_readBoth_36 : decode cX2_readBoth 36 = .ok (.aload_n 0, 1) := by decide +kernel
theorem dX2_readBoth_37 : decode cX2_readBoth 37 = .ok (.bipush 10, 2) := by decide +kernel
theorem dX2_readBoth_39 : decode cX2_readBoth 39 = .ok (.iload_n 2, 1) := by decide +kernel
theorem dX2_readBoth_40 : decode cX2_readBoth 40 = .ok (.invokevirtual 82, 3) := by decide +kernel
theorem dX2_readBoth_43 : decode cX2_readBoth 43 = .ok (.istore_n 2, 1) := by decide +kernel
theorem dX2_readBoth_44 : decode cX2_readBoth 44 = .ok (.iinc 3 1, 3) := by decide +kernel
theorem dX2_readBoth_47 : decode cX2_readBoth 47 = .ok (.goto (-43), 3) := by decide +kernel
theorem dX2_readBoth_50 : decode cX2_readBoth 50 = .ok (.aload_n 0, 1) := by decide +kernel
theorem dX2_readBoth_51 : decode cX2_readBoth 51 = .ok (.iload_n 2, 1) := by decide +kernel
theorem dX2_readBoth_52 : decode cX2_readBoth 52 = .ok (.invokevirtual 86, 3) := by decide +kernel
theorem dX2_readBoth_55 : decode cX2_readBoth 55 = .ok (.iconst 1, 1) := by decide +kernel
theorem dX2_readBoth_56 : decode cX2_readBoth 56 = .ok (.ireturn, 1) := by decide +kernel
theorem dX2_addJump_0 : decode cX2_addJump 0 = .ok (.aload_n 0, 1) := by decide +kernel
theorem dX2_addJump_1 : decode cX2_addJump 1 = .ok (.iload_n 1, 1) := by decide +kernel
theorem dX2_addJump_2 : decode cX2_addJump 2 = .ok (.iload_n 2, 1) := by decide +kernel
theorem dX2_addJump_3 : decode cX2_addJump 3 = .ok (.invokevirtual 93, 3) := by decide +kernel
theorem dX2_addJump_6 : decode cX2_addJump 6 = .ok (.aload_n 0, 1) := by decide +kernel
theorem dX2_addJump_7 : decode cX2_addJump 7 = .ok (.getfield 15, 3) := by decide +kernel
theorem dX2_addJump_10 : decode cX2_addJump 10 = .ok (.iconst 1, 1) := by decide +kernel
theorem dX2_addJump_11 : decode cX2_addJump 11 = .ok (.isub, 1) := by decide +kernel
theorem dX2_addJump_12 : decode cX2_addJump 12 = .ok (.ireturn, 1) := by decide +kernel
theorem dX2_landHere_0 : decode cX2_landHere 0 = .ok (.iload_n 1, 1) := by decide +kernel
theorem dX2_landHere_1 : decode cX2_landHere 1 = .ok (.istore_n 2, 1) := by decide +kernel
theorem dX2_landHere_2 : decode cX2_landHere 2 = .ok (.iconst 0, 1) := by decide +kernel
theorem dX2_landHere_3 : decode cX2_landHere 3 = .ok (.istore_n 3, 1) := by decide +kernel
theorem dX2_landHere_4 : decode cX2_landHere 4 = .ok (.iload_n 3, 1) := by decide +kernel
theorem dX2_landHere_5 : decode cX2_landHere 5 = .ok (.sipush 400, 3) := by decide +kernel
theorem dX2_landHere_8 : decode cX2_landHere 8 = .ok (.if_icmp .gt 56, 3) := by decide +kernel
theorem dX2_landHere_11 : decode cX2_landHere 11 = .ok (.iload_n 2, 1) := by decide +kernel
theorem dX2_landHere_12 : decode cX2_landHere 12 = .ok (.ifCond .lt 52, 3) := by decide +kernel
theorem dX2_landHere_15 : decode cX2_landHere 15 = .ok (.iload_n 2, 1) := by decide +kernel
theorem dX2_landHere_16 : decode cX2_landHere 16 = .ok (.aload_n 0, 1) := by decide +kernel
theorem dX2_landHere_17 : decode cX2_landHere 17 = .ok (.getfield 15, 3) := by decide +kernel
theorem dX2_landHere_20 : decode cX2_landHere 20 = .ok (.if_icmp .ge 44, 3) := by decide +kernel
theorem dX2_landHere_23 : decode cX2_landHere 23 = .ok (.aload_n 0, 1) := by decide +kernel
theorem dX2_landHere_24 : decode cX2_landHere 24 = .ok (.getfield 9, 3) := by decide +kernel
theorem dX2_landHere_27 : decode cX2_landHere 27 = .ok (.iload_n 2, 1) := by decide +kernel
theorem dX2_landHere_28 : decode cX2_landHere 28 = .ok (.iaload, 1) := by decide +kernel
theorem dX2_landHere_29 : decode cX2_landHere 29 = .ok (.iconst 4, 1) := by decide +kernel
theorem dX2_landHere_30 : decode cX2_landHere 30 = .ok (.ishr, 1) := by decide +kernel
theorem dX2_landHere_31 : decode cX2_landHere 31 = .ok (.istore 4, 2) := by decide +kernel
theorem dX2_landHere_33 : decode cX2_landHere 33 = .ok (.aload_n 0, 1) := by decide +kernel
theorem dX2_landHere_34 : decode cX2_landHere 34 = .ok (.getfield 9, 3) := by decide +kernel
theorem dX2_landHere_37 : decode cX2_landHere 37 = .ok (.iload_n 2, 1) := by decide +kernel
theorem dX2_landHere_38 : decode cX2_landHere 38 = .ok (.aload_n 0, 1) := by decide +kernel
theorem dX2_landHere_39 : decode cX2_landHere 39 = .ok (.getfield 9, 3) := by decide +kernel
theorem dX2_landHere_42 : decode cX2_landHere 42 = .ok (.iload_n 2, 1) := by decide +kernel
theorem dX2_landHere_43 : decode cX2_landHere 43 = .ok (.iaload, 1) := by decide +kernel
theorem dX2_landHere_44 : decode cX2_landHere 44 = .ok (.bipush 15, 2) := by decide +kernel
theorem dX2_landHere_46 : decode cX2_landHere 46 = .ok (.iand, 1) := by decide +kernel
theorem dX2_landHere_47 : decode cX2_landHere 47 = .ok (.aload_n 0, 1) := by decide +kernel
theorem dX2_landHere_48 : decode cX2_landHere 48 = .ok (.getfield 15, 3) := by decide +kernel
theorem dX2_landHere_51 : decode cX2_landHere 51 = .ok (.iconst 4, 1) := by decide +kernel
theorem dX2_landHere_52 : decode cX2_landHere 52 = .ok (.ishl, 1) := by decide +kernel
theorem dX2_landHere_53 : decode cX2_landHere 53 = .ok (.ior, 1) := by decide +kernel
theorem dX2_landHere_54 : decode cX2_landHere 54 = .ok (.iastore, 1) := by decide +kernel
theorem dX2_landHere_55 : decode cX2_landHere 55 = .ok (.iload 4, 2) := by decide +kernel
theorem dX2_landHere_57 : decode cX2_landHere 57 = .ok (.istore_n 2, 1) := by decide +kernel
theorem dX2_landHere_58 : decode cX2_landHere 58 = .ok (.iinc 3 1, 3) := by decide +kernel
theorem dX2_landHere_61 : decode cX2_landHere 61 = .ok (.goto (-57), 3) := by decide +kernel
theorem dX2_landHere_64 : decode cX2_landHere 64 = .ok (.return_, 1) := by decide +kernel
theorem dX2_readPlain_0 : decode cX2_readPlain 0 = .ok (.iconst 0, 1) := by decide +kernel
theorem dX2_readPlain_1 : decode cX2_readPlain 1 = .ok (.istore_n 2, 1) := by decide +kernel
theorem dX2_readPlain_2 : decode cX2_readPlain 2 = .ok (.aload_n 0, 1) := by decide +kernel
theorem dX2_readPlain_3 : decode cX2_readPlain 3 = .ok (.getfield 32, 3) := by decide +kernel
theorem dX2_readPlain_6 : decode cX2_readPlain 6 = .ok (.iconst 5, 1) := by decide +kernel
theorem dX2_readPlain_7 : decode cX2_readPlain 7 = .ok (.if_icmp .ne 20, 3) := by decide +kernel
theorem dX2_readPlain_10 : decode cX2_readPlain 10 = .ok (.iload_n 2, 1) := by decide +kernel
theorem dX2_readPlain_11 : decode cX2_readPlain 11 = .ok (.sipush 400, 3) := by decide +kernel
theorem dX2_readPlain_14 : decode cX2_readPlain 14 = .ok (.if_icmp .gt 13, 3) := by decide +kernel
theorem dX2_readPlain_17 : decode cX2_readPlain 17 = .ok (.iinc 2 1, 3) := by decide +kernel
theorem dX2_readPlain_20 : decode cX2_readPlain 20 = .ok (.aload_n 0, 1) := by decide +kernel
theorem dX2_readPlain_21 : decode cX2_readPlain 21 = .ok (.invokevirtual 73, 3) := by decide +kernel
theorem dX2_readPlain_24 : decode cX2_readPlain 24 = .ok (.goto (-22), 3) := by decide +kernel
theorem dX2_readPlain_27 : decode cX2_readPlain 27 = .ok (.aload_n 0, 1) := by decide +kernel
theorem dX2_readPlain_28 : decode cX2_readPlain 28 = .ok (.getfield 32, 3) := by decide +kernel
theorem dX2_readPlain_31 : decode cX2_readPlain 31 = .ok (.sipush 1040, 3) := by decide +kernel
theorem dX2_readPlain_34 : decode cX2_readPlain 34 = .ok (.if_icmp .ne 40, 3) := by decide +kernel
theorem dX2_readPlain_37 : decode cX2_readPlain 37 = .ok (.iload_n 1, 1) := by decide +kernel
theorem dX2_readPlain_38 : decode cX2_readPlain 38 = .ok (.bipush 8, 2) := by decide +kernel
theorem dX2_readPlain_40 : decode cX2_readPlain 40 = .ok (.if_icmp .lt 8, 3) := by decide +kernel
theorem dX2_readPlain_43 : decode cX2_readPlain 43 = .ok (.aload_n 0, 1) := by decide +kernel
theorem dX2_readPlain_44 : decode cX2_readPlain 44 = .ok (.invokevirtual 66, 3) := by decide +kernel
theorem dX2_readPlain_47 : decode cX2_readPlain 47 = .ok (.ireturn, 1) := by decide +kernel
theorem dX2_readPlain_48 : decode cX2_readPlain 48 = .ok (.aload_n 0, 1) := by decide +kernel
theorem dX2_readPlain_49 : decode cX2_readPlain 49 = .ok (.invokevirtual 73, 3) := by decide +kernel
theorem dX2_readPlain_52 : decode cX2_readPlain 52 = .ok (.aload_n 0, 1) := by decide +kernel
theorem dX2_readPlain_53 : decode cX2_readPlain 53 = .ok (.iload_n 1, 1) := by decide +kernel
theorem dX2_readPlain_54 : decode cX2_readPlain 54 = .ok (.iconst 1, 1) := by decide +kernel
theorem dX2_readPlain_55 : decode cX2_readPlain 55 = .ok (.iadd, 1) := by decide +kernel
theorem dX2_readPlain_56 : decode cX2_readPlain 56 = .ok (.invokevirtual 76, 3) := by decide +kernel
theorem dX2_readPlain_59 : decode cX2_readPlain 59 = .ok (.ifCond .eq 13, 3) := by decide +kernel
theorem dX2_readPlain_62 : decode cX2_readPlain 62 = .ok (.aload_n 0, 1) := by decide +kernel
theorem dX2_readPlain_63 : decode cX2_readPlain 63 = .ok (.sipush 1041, 3) := by decide +kernel
theorem dX2_readPlain_66 : decode cX2_readPlain 66 = .ok (.invokevirtual 63, 3) := by decide +kernel
theorem dX2_readPlain_69 : decode cX2_readPlain 69 = .ok (.ifCond .ne 15, 3) := by decide +kernel
theorem dX2_readPlain_72 : decode cX2_readPlain 72 = .ok (.iconst 0, 1) := by decide +kernel
theorem dX2_readPlain_73 : decode cX2_readPlain 73 = .ok (.ireturn, 1) := by decide +kernel
theorem dX2_readPlain_74 : decode cX2_readPlain 74 = .ok (.aload_n 0, 1) := by decide +kernel
theorem dX2_readPlain_75 : decode cX2_readPlain 75 = .ok (.iload_n 1, 1) := by decide +kernel
theorem dX2_readPlain_76 : decode cX2_readPlain 76 = .ok (.invokevirtual 97, 3) := by decide +kernel
theorem dX2_readPlain_79 : decode cX2_readPlain 79 = .ok (.ifCond .ne 5, 3) := by decide +kernel
theorem dX2_readPlain_82 : decode cX2_readPlain 82 = .ok (.iconst 0, 1) := by decide +kernel
theorem dX2_readPlain_83 : decode cX2_readPlain 83 = .ok (.ireturn, 1) := by decide +kernel
theorem dX2_readPlain_84 : decode cX2_readPlain 84 = .ok (.iload_n 2, 1) := by decide +kernel
theorem dX2_readPlain_85 : decode cX2_readPlain 85 = .ok (.iconst 2, 1) := by decide +kernel
theorem dX2_readPlain_86 : decode cX2_readPlain 86 = .ok (.irem, 1) := by decide +kernel
theorem dX2_readPlain_87 : decode cX2_readPlain 87 = .ok (.iconst 1, 1) := by decide +kernel
theorem dX2_readPlain_88 : decode cX2_readPlain 88 = .ok (.if_icmp .ne 10, 3) := by decide +kernel
theorem dX2_readPlain_91 : decode cX2_readPlain 91 = .ok (.aload_n 0, 1) := by decide +kernel
theorem dX2_readPlain_92 : decode cX2_readPlain 92 = .ok (.bipush 9, 2) := by decide +kernel
theorem dX2_readPlain_94 : decode cX2_readPlain 94 = .ok (.iconst 0, 1) := by decide +kernel
theorem dX2_readPlain_95 : decode cX2_readPlain 95 = .ok (.invokevirtual 93, 3) := by decide +kernel
theorem dX2_readPlain_98 : decode cX2_readPlain 98 = .ok (.iconst 1, 1) := by decide +kernel
theorem dX2_readPlain_99 : decode cX2_readPlain 99 = .ok (.ireturn, 1) := by decide +kernel
theorem dX2_readComparison_0 : decode cX2_readComparison 0 = .ok (.aload_n 0, 1) := by decide +kernel
theorem dX2_readComparison_1 : decode cX2_readComparison 1 = .ok (.iload_n 1, 1) := by decide +kernel
theorem dX2_readComparison_2 : decode cX2_readComparison 2 = .ok (.invokevirtual 70, 3) := by decide +kernel
theorem dX2_readComparison_5 : decode cX2_readComparison 5 = .ok (.ifCond .ne 5, 3) := by decide +kernel
theorem dX2_readComparison_8 : decode cX2_readComparison 8 = .ok (.iconst 0, 1) := by decide +kernel
theorem dX2_readComparison_9 : decode cX2_readComparison 9 = .ok (.ireturn, 1) := by decide +kernel
theorem dX2_readComparison_10 : decode cX2_readComparison 10 = .ok (.aload_n 0, 1) := by decide +kernel
theorem dX2_readComparison_11 : decode cX2_readComparison 11 = .ok (.getfield 32, 3) := by decide +kernel
theorem dX2_readComparison_14 : decode cX2_readComparison 14 = .ok (.sipush 1060, 3) := by decide +kernel
theorem dX2_readComparison_17 : decode cX2_readComparison 17 = .ok (.if_icmp .ne 9, 3) := by decide +kernel
theorem dX2_readComparison_20 : decode cX2_readComparison 20 = .ok (.bipush 6, 2) := by decide +kernel
theorem dX2_readComparison_22 : decode cX2_readComparison 22 = .ok (.istore_n 2, 1) := by decide +kernel
theorem dX2_readComparison_23 : decode cX2_readComparison 23 = .ok (.goto 40, 3) := by decide +kernel
theorem dX2_readComparison_26 : decode cX2_readComparison 26 = .ok (.aload_n 0, 1) := by decide +kernel
theorem dX2_readComparison_27 : decode cX2_readComparison 27 = .ok (.getfield 32, 3) := by decide +kernel
theorem dX2_readComparison_30 : decode cX2_readComparison 30 = .ok (.sipush 1062, 3) := by decide +kernel
theorem dX2_readComparison_33 : decode cX2_readComparison 33 = .ok (.if_icmp .ne 9, 3) := by decide +kernel
theorem dX2_readComparison_36 : decode cX2_readComparison 36 = .ok (.bipush 7, 2) := by decide +kernel
theorem dX2_readComparison_38 : decode cX2_readComparison 38 = .ok (.istore_n 2, 1) := by decide +kernel
theorem dX2_readComparison_39 : decode cX2_readComparison 39 = .ok (.goto 24, 3) := by decide +kernel
theorem dX2_readComparison_42 : decode cX2_readComparison 42 = .ok (.aload_n 0, 1) := by decide +kernel
theorem dX2_readComparison_43 : decode cX2_readComparison 43 = .ok (.getfield 32, 3) := by decide +kernel
theorem dX2_readComparison_46 : decode cX2_readComparison 46 = .ok (.sipush 1061, 3) := by decide +kernel
theorem dX2_readComparison_49 : decode cX2_readComparison 49 = .ok (.if_icmp .ne 9, 3) := by decide +kernel
theorem dX2_readComparison_52 : decode cX2_readComparison 52 = .ok (.bipush 8, 2) := by decide +kernel
theorem dX2_readComparison_54 : decode cX2_readComparison 54 = .ok (.istore_n 2, 1) := by decide +kernel
theorem dX2_readComparison_55 : decode cX2_readComparison 55 = .ok (.goto 8, 3) := by decide +kernel
theorem dX2_readComparison_58 : decode cX2_readComparison 58 = .ok (.aload_n 0, 1) := by decide +kernel
theorem dX2_readComparison_59 : decode cX2_readComparison 59 = .ok (.invokevirtual 66, 3) := by decide +kernel
theorem dX2_readComparison_62 : decode cX2_readComparison 62 = .ok (.ireturn, 1) := by decide +kernel
theorem dX2_readComparison_63 : decode cX2_readComparison 63 = .ok (.aload_n 0, 1) := by decide +kernel
theorem dX2_readComparison_64 : decode cX2_readComparison 64 = .ok (.invokevirtual 73, 3) := by decide +kernel
theorem dX2_readComparison_67 : decode cX2_readComparison 67 = .ok (.aload_n 0, 1) := by decide +kernel
theorem dX2_readComparison_68 : decode cX2_readComparison 68 = .ok (.iload_n 1, 1) := by decide +kernel
theorem dX2_readComparison_69 : decode cX2_readComparison 69 = .ok (.invokevirtual 70, 3) := by decide +kernel
theorem dX2_readComparison_72 : decode cX2_readComparison 72 = .ok (.ifCond .ne 5, 3) := by decide +kernel
theorem dX2_readComparison_75 : decode cX2_readComparison 75 = .ok (.iconst 0, 1) := by decide +kernel
theorem dX2_readComparison_76 : decode cX2_readComparison 76 = .ok (.ireturn, 1) := by decide +kernel
theorem dX2_readComparison_77 : decode cX2_readComparison 77 = .ok (.aload_n 0, 1) := by decide +kernel
theorem dX2_readComparison_78 : decode cX2_readComparison 78 = .ok (.iload_n 2, 1) := by decide +kernel
theorem dX2_readComparison_79 : decode cX2_readComparison 79 = .ok (.iconst 0, 1) := by decide +kernel
theorem dX2_readComparison_80 : decode cX2_readComparison 80 = .ok (.invokevirtual 93, 3) := by decide +kernel
theorem dX2_readComparison_83 : decode cX2_readComparison 83 = .ok (.iconst 1, 1) := by decide +kernel
theorem dX2_readComparison_84 : decode cX2_readComparison 84 = .ok (.ireturn, 1) := by decide +kernel
theorem dX2_readSum_0 : decode cX2_readSum 0 = .ok (.aload_n 0, 1) := by decide +kernel
theorem dX2_readSum_1 : decode cX2_readSum 1 = .ok (.iload_n 1, 1) := by decide +kernel
theorem dX2_readSum_2 : decode cX2_readSum 2 = .ok (.invokevirtual 100, 3) := by decide +kernel
theorem dX2_readSum_5 : decode cX2_readSum 5 = .ok (.ifCond .ne 5, 3) := by decide +kernel
theorem dX2_readSum_8 : decode cX2_readSum 8 = .ok (.iconst 0, 1) := by decide +kernel
theorem dX2_readSum_9 : decode cX2_readSum 9 = .ok (.ireturn, 1) := by decide +kernel
theorem dX2_readSum_10 : decode cX2_readSum 10 = .ok (.iconst 0, 1) := by decide +kernel
theorem dX2_readSum_11 : decode cX2_readSum 11 = .ok (.istore_n 2, 1) := by decide +kernel
theorem dX2_readSum_12 : decode cX2_readSum 12 = .ok (.iload_n 2, 1) := by decide +kernel
theorem dX2_readSum_13 : decode cX2_readSum 13 = .ok (.sipush 400, 3) := by decide +kernel
theorem dX2_readSum_16 : decode cX2_readSum 16 = .ok (.if_icmp .gt 65, 3) := by decide +kernel
theorem dX2_readSum_19 : decode cX2_readSum 19 = .ok (.aload_n 0, 1) := by decide +kernel
theorem dX2_readSum_20 : decode cX2_readSum 20 = .ok (.getfield 32, 3) := by decide +kernel
theorem dX2_readSum_23 : decode cX2_readSum 23 = .ok (.sipush 1043, 3) := by decide +kernel
theorem dX2_readSum_26 : decode cX2_readSum 26 = .ok (.if_icmp .eq 13, 3) := by decide +kernel
theorem dX2_readSum_29 : decode cX2_readSum 29 = .ok (.aload_n 0, 1) := by decide +kernel
theorem dX2_readSum_30 : decode cX2_readSum 30 = .ok (.getfield 32, 3) := by decide +kernel
theorem dX2_readSum_33 : decode cX2_readSum 33 = .ok (.sipush 1045, 3) := by decide +kernel
theorem dX2_readSum_36 : decode cX2_readSum 36 = .ok (.if_icmp .ne 45, 3) := by decide +kernel
theorem dX2_readSum_39 : decode cX2_readSum 39 = .ok (.aload_n 0, 1) := by decide +kernel
theorem dX2_readSum_40 : decode cX2_readSum 40 = .ok (.getfield 32, 3) := by decide +kernel
theorem dX2_readSum_43 : decode cX2_readSum 43 = .ok (.sipush 1043, 3) := by decide +kernel
theorem dX2_readSum_46 : decode cX2_readSum 46 = .ok (.if_icmp .ne 7, 3) := by decide +kernel
theorem dX2_readSum_49 : decode cX2_readSum 49 = .ok (.iconst 2, 1) := by decide +kernel
theorem dX2_readSum_50 : decode cX2_readSum 50 = .ok (.goto 4, 3) := by decide +kernel
theorem dX2_readSum_53 : decode cX2_readSum 53 = .ok (.iconst 3, 1) := by decide +kernel
theorem dX2_readSum_54 : decode cX2_readSum 54 = .ok (.istore_n 3, 1) := by decide +kernel
theorem dX2_readSum_55 : decode cX2_readSum 55 = .ok (.aload_n 0, 1) := by decide +kernel
theorem dX2_readSum_56 : decode cX2_readSum 56 = .ok (.invokevirtual 73, 3) := by decide +kernel
theorem dX2_readSum_59 : decode cX2_readSum 59 = .ok (.aload_n 0, 1) := by decide +kernel
theorem dX2_readSum_60 : decode cX2_readSum 60 = .ok (.iload_n 1, 1) := by decide +kernel
theorem dX2_readSum_61 : decode cX2_readSum 61 = .ok (.invokevirtual 100, 3) := by decide +kernel
theorem dX2_readSum_64 : decode cX2_readSum 64 = .ok (.ifCond .ne 5, 3) := by decide +kernel
theorem dX2_readSum_67 : decode cX2_readSum 67 = .ok (.iconst 0, 1) := by decide +kernel
theorem dX2_readSum_68 : decode cX2_readSum 68 = .ok (.ireturn, 1) := by decide +kernel
theorem dX2_readSum_69 : decode cX2_readSum 69 = .ok (.aload_n 0, 1) := by decide +kernel
theorem dX2_readSum_70 : decode cX2_readSum 70 = .ok (.iload_n 3, 1) := by decide +kernel
theorem dX2_readSum_71 : decode cX2_readSum 71 = .ok (.iconst 0, 1) := by decide +kernel
theorem dX2_readSum_72 : decode cX2_readSum 72 = .ok (.invokevirtual 93, 3) := by decide +kernel
theorem dX2_readSum_75 : decode cX2_readSum 75 = .ok (.iinc 2 1, 3) := by decide +kernel
theorem dX2_readSum_78 : decode cX2_readSum 78 = .ok (.goto (-66), 3) := by decide +kernel
theorem dX2_readSum_81 : decode cX2_readSum 81 = .ok (.iconst 1, 1) := by decide +kernel
theorem dX2_readSum_82 : decode cX2_readSum 82 = .ok (.ireturn, 1) := by decide +kernel
theorem dX2_readTerm_0 : decode cX2_readTerm 0 = .ok (.aload_n 0, 1) := by decide +kernel
theorem dX2_readTerm_1 : decode cX2_readTerm 1 = .ok (.iload_n 1, 1) := by decide +kernel
theorem dX2_readTerm_2 : decode cX2_readTerm 2 = .ok (.invokevirtual 103, 3) := by decide +kernel
theorem dX2_readTerm_5 : decode cX2_readTerm 5 = .ok (.ifCond .ne 5, 3) := by decide +kernel
theorem dX2_readTerm_8 : decode cX2_readTerm 8 = .ok (.iconst 0, 1) := by decide +kernel
theorem dX2_readTerm_9 : decode cX2_readTerm 9 = .ok (.ireturn, 1) := by decide +kernel
theorem dX2_readTerm_10 : decode cX2_readTerm 10 = .ok (.iconst 0, 1) := by decide +kernel
theorem dX2_readTerm_11 : decode cX2_readTerm 11 = .ok (.istore_n 2, 1) := by decide +kernel
theorem dX2_readTerm_12 : decode cX2_readTerm 12 = .ok (.iload_n 2, 1) := by decide +kernel
theorem dX2_readTerm_13 : decode cX2_readTerm 13 = .ok (.sipush 400, 3) := by decide +kernel
theorem dX2_readTerm_16 : decode cX2_readTerm 16 = .ok (.if_icmp .gt 65, 3) := by decide +kernel
theorem dX2_readTerm_19 : decode cX2_readTerm 19 = .ok (.aload_n 0, 1) := by decide +kernel
theorem dX2_readTerm_20 : decode cX2_readTerm 20 = .ok (.getfield 32, 3) := by decide +kernel
theorem dX2_readTerm_23 : decode cX2_readTerm 23 = .ok (.sipush 1042, 3) := by decide +kernel
theorem dX2_readTerm_26 : decode cX2_readTerm 26 = .ok (.if_icmp .eq 13, 3) := by decide +kernel
theorem dX2_readTerm_29 : decode cX2_readTerm 29 = .ok (.aload_n 0, 1) := by decide +kernel
theorem dX2_readTerm_30 : decode cX2_readTerm 30 = .ok (.getfield 32, 3) := by decide +kernel
theorem dX2_readTerm_33 : decode cX2_readTerm 33 = .ok (.sipush 1047, 3) := by decide +kernel
theorem dX2_readTerm_36 : decode cX2_readTerm 36 = .ok (.if_icmp .ne 45, 3) := by decide +kernel
theorem dX2_readTerm_39 : decode cX2_readTerm 39 = .ok (.aload_n 0, 1) := by decide +kernel
theorem dX2_readTerm_40 : decode cX2_readTerm 40 = .ok (.getfield 32, 3) := by decide +kernel
theorem dX2_readTerm_43 : decode cX2_readTerm 43 = .ok (.sipush 1042, 3) := by decide +kernel
theorem dX2_readTerm_46 : decode cX2_readTerm 46 = .ok (.if_icmp .ne 7, 3) := by decide +kernel
theorem dX2_readTerm_49 : decode cX2_readTerm 49 = .ok (.iconst 4, 1) := by decide +kernel
theorem dX2_readTerm_50 : decode cX2_readTerm 50 = .ok (.goto 4, 3) := by decide +kernel
theorem dX2_readTerm_53 : decode cX2_readTerm 53 = .ok (.iconst 5, 1) := by decide +kernel
theorem dX2_readTerm_54 : decode cX2_readTerm 54 = .ok (.istore_n 3, 1) := by decide +kernel
theorem dX2_readTerm_55 : decode cX2_readTerm 55 = .ok (.aload_n 0, 1) := by decide +kernel
theorem dX2_readTerm_56 : decode cX2_readTerm 56 = .ok (.invokevirtual 73, 3) := by decide +kernel
theorem dX2_readTerm_59 : decode cX2_readTerm 59 = .ok (.aload_n 0, 1) := by decide +kernel
theorem dX2_readTerm_60 : decode cX2_readTerm 60 = .ok (.iload_n 1, 1) := by decide +kernel
theorem dX2_readTerm_61 : decode cX2_readTerm 61 = .ok (.invokevirtual 103, 3) := by decide +kernel
theorem dX2_readTerm_64 : decode cX2_readTerm 64 = .ok (.ifCond .ne 5, 3) := by decide +kernel
theorem dX2_readTerm_67 : decode cX2_readTerm 67 = .ok (.iconst 0, 1) := by decide +kernel
theorem dX2_readTerm_68 : decode cX2_readTerm 68 = .ok (.ireturn, 1) := by decide +kernel
theorem dX2_readTerm_69 : decode cX2_readTerm 69 = .ok (.aload_n 0, 1) := by decide +kernel
theorem dX2_readTerm_70 : decode cX2_readTerm 70 = .ok (.iload_n 3, 1) := by decide +kernel
theorem dX2_readTerm_71 : decode cX2_readTerm 71 = .ok (.iconst 0, 1) := by decide +kernel
theorem dX2_readTerm_72 : decode cX2_readTerm 72 = .ok (.invokevirtual 93, 3) := by decide +kernel
theorem dX2_readTerm_75 : decode cX2_readTerm 75 = .ok (.iinc 2 1, 3) := by decide +kernel
theorem dX2_readTerm_78 : decode cX2_readTerm 78 = .ok (.goto (-66), 3) := by decide +kernel
theorem dX2_readTerm_81 : decode cX2_readTerm 81 = .ok (.iconst 1, 1) := by decide +kernel
theorem dX2_readTerm_82 : decode cX2_readTerm 82 = .ok (.ireturn, 1) := by decide +kernel
theorem dX2_readPart_0 : decode cX2_readPart 0 = .ok (.aload_n 0, 1) := by decide +kernel
theorem dX2_readPart_1 : decode cX2_readPart 1 = .ok (.getfield 32, 3) := by decide +kernel
theorem dX2_readPart_4 : decode cX2_readPart 4 = .ok (.sipush 1091, 3) := by decide +kernel
theorem dX2_readPart_7 : decode cX2_readPart 7 = .ok (.if_icmp .ne 44, 3) := by decide +kernel
theorem dX2_readPart_10 : decode cX2_readPart 10 = .ok (.iload_n 1, 1) := by decide +kernel
theorem dX2_readPart_11 : decode cX2_readPart 11 = .ok (.bipush 8, 2) := by decide +kernel
theorem dX2_readPart_13 : decode cX2_readPart 13 = .ok (.if_icmp .lt 8, 3) := by decide +kernel
theorem dX2_readPart_16 : decode cX2_readPart 16 = .ok (.aload_n 0, 1) := by decide +kernel
theorem dX2_readPart_17 : decode cX2_readPart 17 = .ok (.invokevirtual 66, 3) := by decide +kernel
theorem dX2_readPart_20 : decode cX2_readPart 20 = .ok (.ireturn, 1) := by decide +kernel
theorem dX2_readPart_21 : decode cX2_readPart 21 = .ok (.aload_n 0, 1) := by decide +kernel
theorem dX2_readPart_22 : decode cX2_readPart 22 = .ok (.invokevirtual 73, 3) := by decide +kernel
theorem dX2_readPart_25 : decode cX2_readPart 25 = .ok (.aload_n 0, 1) := by decide +kernel
theorem dX2_readPart_26 : decode cX2_readPart 26 = .ok (.iload_n 1, 1) := by decide +kernel
theorem dX2_readPart_27 : decode cX2_readPart 27 = .ok (.iconst 1, 1) := by decide +kernel
theorem dX2_readPart_28 : decode cX2_readPart 28 = .ok (.iadd, 1) := by decide +kernel
theorem dX2_readPart_29 : decode cX2_readPart 29 = .ok (.invokevirtual 70, 3) := by decide +kernel
theorem dX2_readPart_32 : decode cX2_readPart 32 = .ok (.ifCond .eq 17, 3) := by decide +kernel
theorem dX2_readPart_35 : decode cX2_readPart 35 = .ok (.aload_n 0, 1) := by decide +kernel
theorem dX2_readPart_36 : decode cX2_readPart 36 = .ok (.sipush 1093, 3) := by decide +kernel
theorem dX2_readPart_39 : decode cX2_readPart 39 = .ok (.invokevirtual 63, 3) := by decide +kernel
theorem dX2_readPart_42 : decode cX2_readPart 42 = .ok (.ifCond .eq 7, 3) := by decide +kernel
theorem dX2_readPart_45 : decode cX2_readPart 45 = .ok (.iconst 1, 1) := by decide +kernel
theorem dX2_readPart_46 : decode cX2_readPart 46 = .ok (.goto 4, 3) := by decide +kernel
theorem dX2_readPart_49 : decode cX2_readPart 49 = .ok (.iconst 0, 1) := by decide +kernel
theorem dX2_readPart_50 : decode cX2_readPart 50 = .ok (.ireturn, 1) := by decide +kernel
theorem dX2_readPart_51 : decode cX2_readPart 51 = .ok (.aload_n 0, 1) := by decide +kernel
theorem dX2_readPart_52 : decode cX2_readPart 52 = .ok (.getfield 32, 3) := by decide +kernel
theorem dX2_readPart_55 : decode cX2_readPart 55 = .ok (.sipush 2000, 3) := by decide +kernel
theorem dX2_readPart_58 : decode cX2_readPart 58 = .ok (.sipush 3000, 3) := by decide +kernel
theorem dX2_readPart_61 : decode cX2_readPart 61 = .ok (.invokestatic 106, 3) := by decide +kernel
theorem dX2_readPart_64 : decode cX2_readPart 64 = .ok (.istore_n 2, 1) := by decide +kernel
theorem dX2_readPart_65 : decode cX2_readPart 65 = .ok (.aload_n 0, 1) := by decide +kernel
theorem dX2_readPart_66 : decode cX2_readPart 66 = .ok (.getfield 32, 3) := by decide +kernel
theorem dX2_readPart_69 : decode cX2_readPart 69 = .ok (.bipush 16, 2) := by decide +kernel
theorem dX2_readPart_71 : decode cX2_readPart 71 = .ok (.if_icmp .lt 16, 3) := by decide +kernel
theorem dX2_readPart_74 : decode cX2_readPart 74 = .ok (.aload_n 0, 1) := by decide +kernel
theorem dX2_readPart_75 : decode cX2_readPart 75 = .ok (.getfield 32, 3) := by decide +kernel
theorem dX2_readPart_78 : decode cX2_readPart 78 = .ok (.bipush 25, 2) := by decide +kernel
theorem dX2_readPart_80 : decode cX2_readPart 80 = .ok (.if_icmp .ge 7, 3) := by decide +kernel
theorem dX2_readPart_83 : decode cX2_readPart 83 = .ok (.iconst 1, 1) := by decide +kernel
theorem dX2_readPart_84 : decode cX2_readPart 84 = .ok (.goto 4, 3) := by decide +kernel
theorem dX2_readPart_87 : decode cX2_readPart 87 = .ok (.iconst 0, 1) := by decide +kernel
theorem dX2_readPart_88 : decode cX2_readPart 88 = .ok (.istore_n 3, 1) := by decide +kernel
theorem dX2_readPart_89 : decode cX2_readPart 89 = .ok (.iload_n 2, 1) := by decide +kernel
theorem dX2_readPart_90 : decode cX2_readPart 90 = .ok (.ifCond .ne 7, 3) := by decide +kernel
theorem dX2_readPart_93 : decode cX2_readPart 93 = .ok (.iload_n 3, 1) := by decide +kernel
theorem dX2_readPart_94 : decode cX2_readPart 94 = .ok (.ifCond .eq 12, 3) := by decide +kernel
theorem dX2_readPart_97 : decode cX2_readPart 97 = .ok (.aload_n 0, 1) := by decide +kernel
theorem dX2_readPart_98 : decode cX2_readPart 98 = .ok (.getfield 35, 3) := by decide +kernel
theorem dX2_readPart_101 : decode cX2_readPart 101 = .ok (.bipush 50, 2) := by decide +kernel
theorem dX2_readPart_103 : decode cX2_readPart 103 = .ok (.if_icmp .lt 8, 3) := by decide +kernel
theorem dX2_readPart_106 : decode cX2_readPart 106 = .ok (.aload_n 0, 1) := by decide +kernel
theorem dX2_readPart_107 : decode cX2_readPart 107 = .ok (.invokevirtual 66, 3) := by decide +kernel
theorem dX2_readPart_110 : decode cX2_readPart 110 = .ok (.ireturn, 1) := by decide +kernel
theorem dX2_readPart_111 : decode cX2_readPart 111 = .ok (.aload_n 0, 1) := by decide +kernel
theorem dX2_readPart_112 : decode cX2_readPart 112 = .ok (.dup, 1) := by decide +kernel
theorem dX2_readPart_113 : decode cX2_readPart 113 = .ok (.getfield 35, 3) := by decide +kernel
theorem dX2_readPart_116 : decode cX2_readPart 116 = .ok (.iconst 1, 1) := by decide +kernel
theorem dX2_readPart_117 : decode cX2_readPart 117 = .ok (.iadd, 1) := by decide +kernel
theorem dX2_readPart_118 : decode cX2_readPart 118 = .ok (.putfield 35, 3) := by decide +kernel
theorem dX2_readPart_121 : decode cX2_readPart 121 = .ok (.aload_n 0, 1) := by decide +kernel
theorem dX2_readPart_122 : decode cX2_readPart 122 = .ok (.iload_n 2, 1) := by decide +kernel
theorem dX2_readPart_123 : decode cX2_readPart 123 = .ok (.ifCond .eq 7, 3) := by decide +kernel
theorem dX2_readPart_126 : decode cX2_readPart 126 = .ok (.iconst 0, 1) := by decide +kernel
theorem dX2_readPart_127 : decode cX2_readPart 127 = .ok (.goto 4, 3) := by decide +kernel
theorem dX2_readPart_130 : decode cX2_readPart 130 = .ok (.iconst 1, 1) := by decide +kernel
theorem dX2_readPart_131 : decode cX2_readPart 131 = .ok (.aload_n 0, 1) := by decide +kernel
theorem dX2_readPart_132 : decode cX2_readPart 132 = .ok (.getfield 32, 3) := by decide +kernel
theorem dX2_readPart_135 : decode cX2_readPart 135 = .ok (.iload_n 2, 1) := by decide +kernel
theorem dX2_readPart_136 : decode cX2_readPart 136 = .ok (.ifCond .eq 9, 3) := by decide +kernel
theorem dX2_readPart_139 : decode cX2_readPart 139 = .ok (.sipush 2000, 3) := by decide +kernel
theorem dX2_readPart_142 : decode cX2_readPart 142 = .ok (.goto 5, 3) := by decide +kernel
theorem dX2_readPart_145 : decode cX2_readPart 145 = .ok (.bipush 16, 2) := by decide +kernel
theorem dX2_readPart_147 : decode cX2_readPart 147 = .ok (.isub, 1) := by decide +kernel
theorem dX2_readPart_148 : decode cX2_readPart 148 = .ok (.invokevirtual 93, 3) := by decide +kernel
theorem dX2_readPart_151 : decode cX2_readPart 151 = .ok (.aload_n 0, 1) := by decide +kernel
theorem dX2_readPart_152 : decode cX2_readPart 152 = .ok (.invokevirtual 73, 3) := by decide +kernel
theorem dX2_readPart_155 : decode cX2_readPart 155 = .ok (.iconst 1, 1) := by decide +kernel
theorem dX2_readPart_156 : decode cX2_readPart 156 = .ok (.ireturn, 1) := by decide +kernel
theorem dX2_pass_0 : decode cX2_pass 0 = .ok (.aload_n 0, 1) := by decide +kernel
theorem dX2_pass_1 : decode cX2_pass 1 = .ok (.getfield 32, 3) := by decide +kernel
theorem dX2_pass_4 : decode cX2_pass 4 = .ok (.iload_n 1, 1) := by decide +kernel
theorem dX2_pass_5 : decode cX2_pass 5 = .ok (.if_icmp .eq 8, 3) := by decide +kernel
theorem dX2_pass_8 : decode cX2_pass 8 = .ok (.aload_n 0, 1) := by decide +kernel
theorem dX2_pass_9 : decode cX2_pass 9 = .ok (.invokevirtual 66, 3) := by decide +kernel
theorem dX2_pass_12 : decode cX2_pass 12 = .ok (.ireturn, 1) := by decide +kernel
theorem dX2_pass_13 : decode cX2_pass 13 = .ok (.aload_n 0, 1) := by decide +kernel
theorem dX2_pass_14 : decode cX2_pass 14 = .ok (.invokevirtual 73, 3) := by decide +kernel
theorem dX2_pass_17 : decode cX2_pass 17 = .ok (.iconst 1, 1) := by decide +kernel
theorem dX2_pass_18 : decode cX2_pass 18 = .ok (.ireturn, 1) := by decide +kernel
theorem dX2_failHere_0 : decode cX2_failHere 0 = .ok (.aload_n 0, 1) := by decide +kernel
theorem dX2_failHere_1 : decode cX2_failHere 1 = .ok (.aload_n 0, 1) := by decide +kernel
theorem dX2_failHere_2 : decode cX2_failHere 2 = .ok (.getfield 25, 3) := by decide +kernel
theorem dX2_failHere_5 : decode cX2_failHere 5 = .ok (.getfield 110, 3) := by decide +kernel
theorem dX2_failHere_8 : decode cX2_failHere 8 = .ok (.aload_n 0, 1) := by decide +kernel
theorem dX2_failHere_9 : decode cX2_failHere 9 = .ok (.getfield 29, 3) := by decide +kernel
theorem dX2_failHere_12 : decode cX2_failHere 12 = .ok (.iaload, 1) := by decide +kernel
theorem dX2_failHere_13 : decode cX2_failHere 13 = .ok (.putfield 38, 3) := by decide +kernel
theorem dX2_failHere_16 : decode cX2_failHere 16 = .ok (.iconst 0, 1) := by decide +kernel
theorem dX2_failHere_17 : decode cX2_failHere 17 = .ok (.ireturn, 1) := by decide +kernel
theorem dX2_add_0 : decode cX2_add 0 = .ok (.aload_n 0, 1) := by decide +kernel
theorem dX2_add_1 : decode cX2_add 1 = .ok (.getfield 15, 3) := by decide +kernel
theorem dX2_add_4 : decode cX2_add 4 = .ok (.aload_n 0, 1) := by decide +kernel
theorem dX2_add_5 : decode cX2_add 5 = .ok (.getfield 9, 3) := by decide +kernel
theorem dX2_add_8 : decode cX2_add 8 = .ok (.arraylength, 1) := by decide +kernel
theorem dX2_add_9 : decode cX2_add 9 = .ok (.if_icmp .ge 27, 3) := by decide +kernel
theorem dX2_add_12 : decode cX2_add 12 = .ok (.aload_n 0, 1) := by decide +kernel
theorem dX2_add_13 : decode cX2_add 13 = .ok (.getfield 9, 3) := by decide +kernel
theorem dX2_add_16 : decode cX2_add 16 = .ok (.aload_n 0, 1) := by decide +kernel
theorem dX2_add_17 : decode cX2_add 17 = .ok (.getfield 15, 3) := by decide +kernel
theorem dX2_add_20 : decode cX2_add 20 = .ok (.iload_n 1, 1) := by decide +kernel
theorem dX2_add_21 : decode cX2_add 21 = .ok (.iload_n 2, 1) := by decide +kernel
theorem dX2_add_22 : decode cX2_add 22 = .ok (.iconst 4, 1) := by decide +kernel
theorem dX2_add_23 : decode cX2_add 23 = .ok (.ishl, 1) := by decide +kernel
theorem dX2_add_24 : decode cX2_add 24 = .ok (.ior, 1) := by decide +kernel
theorem dX2_add_25 : decode cX2_add 25 = .ok (.iastore, 1) := by decide +kernel
theorem dX2_add_26 : decode cX2_add 26 = .ok (.aload_n 0, 1) := by decide +kernel
theorem dX2_add_27 : decode cX2_add 27 = .ok (.dup, 1) := by decide +kernel
theorem dX2_add_28 : decode cX2_add 28 = .ok (.getfield 15, 3) := by decide +kernel
theorem dX2_add_31 : decode cX2_add 31 = .ok (.iconst 1, 1) := by decide +kernel
theorem dX2_add_32 : decode cX2_add 32 = .ok (.iadd, 1) := by decide +kernel
theorem dX2_add_33 : decode cX2_add 33 = .ok (.putfield 15, 3) := by decide +kernel
theorem dX2_add_36 : decode cX2_add 36 = .ok (.return_, 1) := by decide +kernel
theorem dX2_next_0 : decode cX2_next 0 = .ok (.aload_n 0, 1) := by decide +kernel
theorem dX2_next_1 : decode cX2_next 1 = .ok (.aload_n 0, 1) := by decide +kernel
theorem dX2_next_2 : decode cX2_next 2 = .ok (.getfield 29, 3) := by decide +kernel
theorem dX2_next_5 : decode cX2_next 5 = .ok (.iconst 1, 1) := by decide +kernel
theorem dX2_next_6 : decode cX2_next 6 = .ok (.iadd, 1) := by decide +kernel
theorem dX2_next_7 : decode cX2_next 7 = .ok (.aload_n 0, 1) := by decide +kernel
theorem dX2_next_8 : decode cX2_next 8 = .ok (.getfield 25, 3) := by decide +kernel
theorem dX2_next_11 : decode cX2_next 11 = .ok (.getfield 113, 3) := by decide +kernel
theorem dX2_next_14 : decode cX2_next 14 = .ok (.iconst 1, 1) := by decide +kernel
theorem dX2_next_15 : decode cX2_next 15 = .ok (.isub, 1) := by decide +kernel
theorem dX2_next_16 : decode cX2_next 16 = .ok (.invokestatic 116, 3) := by decide +kernel
theorem dX2_next_19 : decode cX2_next 19 = .ok (.putfield 29, 3) := by decide +kernel
theorem dX2_next_22 : decode cX2_next 22 = .ok (.aload_n 0, 1) := by decide +kernel
theorem dX2_next_23 : decode cX2_next 23 = .ok (.aload_n 0, 1) := by decide +kernel
theorem dX2_next_24 : decode cX2_next 24 = .ok (.getfield 25, 3) := by decide +kernel
theorem dX2_next_27 : decode cX2_next 27 = .ok (.getfield 45, 3) := by decide +kernel
theorem dX2_next_30 : decode cX2_next 30 = .ok (.aload_n 0, 1) := by decide +kernel
theorem dX2_next_31 : decode cX2_next 31 = .ok (.getfield 29, 3) := by decide +kernel
theorem dX2_next_34 : decode cX2_next 34 = .ok (.iaload, 1) := by decide +kernel
theorem dX2_next_35 : decode cX2_next 35 = .ok (.putfield 32, 3) := by decide +kernel
theorem dX2_next_38 : decode cX2_next 38 = .ok (.return_, 1) := by decide +kernel
