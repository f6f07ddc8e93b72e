theorem dX9_init_0 : decode cX9_init 0 = .ok (.aload_n 0, 1) := by decide +kernel
theorem dX9_init_1 : decode cX9_init 1 = .ok (.invokespecial 1, 3) := by decide +kernel
theorem dX9_init_4 : decode cX9_init 4 = .ok (.aload_n 0, 1) := by decide +kernel
theorem dX9_init_5 : decode cX9_init 5 = .ok (.new 7, 3) := by decide +kernel
theorem dX9_init_8 : decode cX9_init 8 = .ok (.dup, 1) := by decide +kernel
theorem dX9_init_9 : decode cX9_init 9 = .ok (.invokespecial 9, 3) := by decide +kernel
theorem dX9_init_12 : decode cX9_init 12 = .ok (.putfield 10, 3) := by decide +kernel
theorem dX9_init_15 : decode cX9_init 15 = .ok (.aload_n 0, 1) := by decide +kernel
theorem dX9_init_16 : decode cX9_init 16 = .ok (.iconst 2, 1) := by decide +kernel
theorem dX9_init_17 : decode cX9_init 17 = .ok (.anewarray 7, 3) := by decide +kernel
theorem dX9_init_20 : decode cX9_init 20 = .ok (.putfield 16, 3) := by decide +kernel
theorem dX9_init_23 : decode cX9_init 23 = .ok (.aload_n 0, 1) := by decide +kernel
theorem dX9_init_24 : decode cX9_init 24 = .ok (.new 20, 3) := by decide +kernel
theorem dX9_init_27 : decode cX9_init 27 = .ok (.dup, 1) := by decide +kernel
theorem dX9_init_28 : decode cX9_init 28 = .ok (.invokespecial 22, 3) := by decide +kernel
theorem dX9_init_31 : decode cX9_init 31 = .ok (.putfield 23, 3) := by decide +kernel
theorem dX9_init_34 : decode cX9_init 34 = .ok (.aload_n 0, 1) := by decide +kernel
theorem dX9_init_35 : decode cX9_init 35 = .ok (.new 27, 3) := by decide +kernel
theorem dX9_init_38 : decode cX9_init 38 = .ok (.dup, 1) := by decide +kernel
theorem dX9_init_39 : decode cX9_init 39 = .ok (.invokespecial 29, 3) := by decide +kernel
theorem dX9_init_42 : decode cX9_init 42 = .ok (.putfield 30, 3) := by decide +kernel
theorem dX9_init_45 : decode cX9_init 45 = .ok (.aload_n 0, 1) := by decide +kernel
theorem dX9_init_46 : decode cX9_init 46 = .ok (.new 34, 3) := by decide +kernel
theorem dX9_init_49 : decode cX9_init 49 = .ok (.dup, 1) := by decide +kernel
theorem dX9_init_50 : decode cX9_init 50 = .ok (.invokespecial 36, 3) := by decide +kernel
theorem dX9_init_53 : decode cX9_init 53 = .ok (.putfield 37, 3) := by decide +kernel
theorem dX9_init_56 : decode cX9_init 56 = .ok (.aload_n 0, 1) := by decide +kernel
theorem dX9_init_57 : decode cX9_init 57 = .ok (.bipush 100, 2) := by decide +kernel
theorem dX9_init_59 : decode cX9_init 59 = .ok (.newarray .int, 2) := by decide +kernel
theorem dX9_init_61 : decode cX9_init 61 = .ok (.putfield 41, 3) := by decide +kernel
theorem dX9_init_64 : decode cX9_init 64 = .ok (.aload_n 0, 1) := by decide +kernel
theorem dX9_init_65 : decode cX9_init 65 = .ok (.sipush 400, 3) := by decide +kernel
theorem dX9_init_68 : decode cX9_init 68 = .ok (.newarray .int, 2) := by decide +kernel
theorem dX9_init_70 : decode cX9_init 70 = .ok (.putfield 45, 3) := by decide +kernel
theorem dX9_init_73 : decode cX9_init 73 = .ok (.aload_n 0, 1) := by decide +kernel
theorem dX9_init_74 : decode cX9_init 74 = .ok (.iconst 0, 1) := by decide +kernel
theorem dX9_init_75 : decode cX9_init 75 = .ok (.putfield 48, 3) := by decide +kernel
theorem dX9_init_78 : decode cX9_init 78 = .ok (.aload_n 0, 1) := by decide +kernel
theorem dX9_init_79 : decode cX9_init 79 = .ok (.iconst 0, 1) := by decide +kernel
theorem dX9_init_80 : decode cX9_init 80 = .ok (.putfield 52, 3) := by decide +kernel
theorem dX9_init_83 : decode cX9_init 83 = .ok (.aload_n 0, 1) := by decide +kernel
theorem dX9_init_84 : decode cX9_init 84 = .ok (.iconst (-1), 1) := by decide +kernel
theorem dX9_init_85 : decode cX9_init 85 = .ok (.putfield 55, 3) := by decide +kernel
theorem dX9_init_88 : decode cX9_init 88 = .ok (.aload_n 0, 1) := by decide +kernel
theorem dX9_init_89 : decode cX9_init 89 = .ok (.bipush 24, 2) := by decide +kernel
theorem dX9_init_91 : decode cX9_init 91 = .ok (.newarray .int, 2) := by decide +kernel
theorem dX9_init_93 : decode cX9_init 93 = .ok (.putfield 58, 3) := by decide +kernel
theorem dX9_init_96 : decode cX9_init 96 = .ok (.aload_n 0, 1) := by decide +kernel
theorem dX9_init_97 : decode cX9_init 97 = .ok (.iconst 0, 1) := by decide +kernel
theorem dX9_init_98 : decode cX9_init 98 = .ok (.putfield 61, 3) := by decide +kernel
theorem dX9_init_101 : decode cX9_init 101 = .ok (.aload_n 0, 1) := by decide +kernel
theorem dX9_init_102 : decode cX9_init 102 = .ok (.bipush 7, 2) := by decide +kernel
theorem dX9_init_104 : decode cX9_init 104 = .ok (.newarray .int, 2) := by decide +kernel
theorem dX9_init_106 : decode cX9_init 106 = .ok (.putfield 65, 3) := by decide +kernel
theorem dX9_init_109 : decode cX9_init 109 = .ok (.aload_n 0, 1) := by decide +kernel
theorem dX9_init_110 : decode cX9_init 110 = .ok (.iconst 0, 1) := by decide +kernel
theorem dX9_init_111 : decode cX9_init 111 = .ok (.putfield 68, 3) := by decide +kernel
theorem dX9_init_114 : decode cX9_init 114 = .ok (.return_, 1) := by decide +kernel
theorem dX9_tower_0 : decode cX9_tower 0 = .ok (.aload_n 0, 1) := by decide +kernel
theorem dX9_tower_1 : decode cX9_tower 1 = .ok (.getfield 10, 3) := by decide +kernel
theorem dX9_tower_4 : decode cX9_tower 4 = .ok (.iload_n 1, 1) := by decide +kernel
theorem dX9_tower_5 : decode cX9_tower 5 = .ok (.iload_n 2, 1) := by decide +kernel
theorem dX9_tower_6 : decode cX9_tower 6 = .ok (.iload_n 3, 1) := by decide +kernel
theorem dX9_tower_7 : decode cX9_tower 7 = .ok (.iload 4, 2) := by decide +kernel
theorem dX9_tower_9 : decode cX9_tower 9 = .ok (.iload 5, 2) := by decide +kernel
theorem dX9_tower_11 : decode cX9_tower 11 = .ok (.invokevirtual 71, 3) := by decide +kernel
theorem dX9_tower_14 : decode cX9_tower 14 = .ok (.istore 6, 2) := by decide +kernel
theorem dX9_tower_16 : decode cX9_tower 16 = .ok (.iload 6, 2) := by decide +kernel
theorem dX9_tower_18 : decode cX9_tower 18 = .ok (.ifCond .eq 10, 3) := by decide +kernel
theorem dX9_tower_21 : decode cX9_tower 21 = .ok (.aload_n 0, 1) := by decide +kernel
theorem dX9_tower_22 : decode cX9_tower 22 = .ok (.iload 6, 2) := by decide +kernel
theorem dX9_tower_24 : decode cX9_tower 24 = .ok (.invokevirtual 75, 3) := by decide +kernel
theorem dX9_tower_27 : decode cX9_tower 27 = .ok (.ireturn, 1) := by decide +kernel
theorem dX9_tower_28 : decode cX9_tower 28 = .ok (.aload_n 0, 1) := by decide +kernel
theorem dX9_tower_29 : decode cX9_tower 29 = .ok (.getfield 10, 3) := by decide +kernel
theorem dX9_tower_32 : decode cX9_tower 32 = .ok (.getfield 79, 3) := by decide +kernel
theorem dX9_tower_35 : decode cX9_tower 35 = .ok (.iload_n 1, 1) := by decide +kernel
theorem dX9_tower_36 : decode cX9_tower 36 = .ok (.iload_n 2, 1) := by decide +kernel
theorem dX9_tower_37 : decode cX9_tower 37 = .ok (.iload_n 3, 1) := by decide +kernel
theorem dX9_tower_38 : decode cX9_tower 38 = .ok (.iload 4, 2) := by decide +kernel
theorem dX9_tower_40 : decode cX9_tower 40 = .ok (.iload 5, 2) := by decide +kernel
theorem dX9_tower_42 : decode cX9_tower 42 = .ok (.invokevirtual 83, 3) := by decide +kernel
theorem dX9_tower_45 : decode cX9_tower 45 = .ok (.aload_n 0, 1) := by decide +kernel
theorem dX9_tower_46 : decode cX9_tower 46 = .ok (.aload_n 0, 1) := by decide +kernel
theorem dX9_tower_47 : decode cX9_tower 47 = .ok (.getfield 10, 3) := by decide +kernel
theorem dX9_tower_50 : decode cX9_tower 50 = .ok (.getfield 89, 3) := by decide +kernel
theorem dX9_tower_53 : decode cX9_tower 53 = .ok (.iload_n 1, 1) := by decide +kernel
theorem dX9_tower_54 : decode cX9_tower 54 = .ok (.iload_n 2, 1) := by decide +kernel
theorem dX9_tower_55 : decode cX9_tower 55 = .ok (.iload_n 3, 1) := by decide +kernel
theorem dX9_tower_56 : decode cX9_tower 56 = .ok (.iload 4, 2) := by decide +kernel
theorem dX9_tower_58 : decode cX9_tower 58 = .ok (.invokevirtual 93, 3) := by decide +kernel
theorem dX9_tower_61 : decode cX9_tower 61 = .ok (.invokevirtual 99, 3) := by decide +kernel
theorem dX9_tower_64 : decode cX9_tower 64 = .ok (.ireturn, 1) := by decide +kernel
theorem dX9_high_0 : decode cX9_high 0 = .ok (.iload_n 2, 1) := by decide +kernel
theorem dX9_high_1 : decode cX9_high 1 = .ok (.iconst 1, 1) := by decide +kernel
theorem dX9_high_2 : decode cX9_high 2 = .ok (.bipush 40, 2) := by decide +kernel
theorem dX9_high_4 : decode cX9_high 4 = .ok (.invokestatic 102, 3) := by decide +kernel
theorem dX9_high_7 : decode cX9_high 7 = .ok (.ifCond .ne 9, 3) := by decide +kernel
theorem dX9_high_10 : decode cX9_high 10 = .ok (.aload_n 0, 1) := by decide +kernel
theorem dX9_high_11 : decode cX9_high 11 = .ok (.iconst (-1), 1) := by decide +kernel
theorem dX9_high_12 : decode cX9_high 12 = .ok (.invokevirtual 75, 3) := by decide +kernel
theorem dX9_high_15 : decode cX9_high 15 = .ok (.ireturn, 1) := by decide +kernel
theorem dX9_high_16 : decode cX9_high 16 = .ok (.aload_n 0, 1) := by decide +kernel
theorem dX9_high_17 : decode cX9_high 17 = .ok (.getfield 10, 3) := by decide +kernel
theorem dX9_high_20 : decode cX9_high 20 = .ok (.getfield 89, 3) := by decide +kernel
theorem dX9_high_23 : decode cX9_high 23 = .ok (.iload_n 1, 1) := by decide +kernel
theorem dX9_high_24 : decode cX9_high 24 = .ok (.invokevirtual 106, 3) := by decide +kernel
theorem dX9_high_27 : decode cX9_high 27 = .ok (.ifCond .ne 10, 3) := by decide +kernel
theorem dX9_high_30 : decode cX9_high 30 = .ok (.aload_n 0, 1) := by decide +kernel
theorem dX9_high_31 : decode cX9_high 31 = .ok (.bipush (-2), 2) := by decide +kernel
theorem dX9_high_33 : decode cX9_high 33 = .ok (.invokevirtual 75, 3) := by decide +kernel
theorem dX9_high_36 : decode cX9_high 36 = .ok (.ireturn, 1) := by decide +kernel
theorem dX9_high_37 : decode cX9_high 37 = .ok (.aload_n 0, 1) := by decide +kernel
theorem dX9_high_38 : decode cX9_high 38 = .ok (.getfield 10, 3) := by decide +kernel
theorem dX9_high_41 : decode cX9_high 41 = .ok (.getfield 89, 3) := by decide +kernel
theorem dX9_high_44 : decode cX9_high 44 = .ok (.iload_n 1, 1) := by decide +kernel
theorem dX9_high_45 : decode cX9_high 45 = .ok (.aload_n 0, 1) := by decide +kernel
theorem dX9_high_46 : decode cX9_high 46 = .ok (.getfield 10, 3) := by decide +kernel
theorem dX9_high_49 : decode cX9_high 49 = .ok (.getfield 79, 3) := by decide +kernel
theorem dX9_high_52 : decode cX9_high 52 = .ok (.invokevirtual 110, 3) := by decide +kernel
theorem dX9_high_55 : decode cX9_high 55 = .ok (.istore_n 3, 1) := by decide +kernel
theorem dX9_high_56 : decode cX9_high 56 = .ok (.aload_n 0, 1) := by decide +kernel
theorem dX9_high_57 : decode cX9_high 57 = .ok (.getfield 10, 3) := by decide +kernel
theorem dX9_high_60 : decode cX9_high 60 = .ok (.getfield 89, 3) := by decide +kernel
theorem dX9_high_63 : decode cX9_high 63 = .ok (.iload_n 1, 1) := by decide +kernel
theorem dX9_high_64 : decode cX9_high 64 = .ok (.iload_n 2, 1) := by decide +kernel
theorem dX9_high_65 : decode cX9_high 65 = .ok (.aload_n 0, 1) := by decide +kernel
theorem dX9_high_66 : decode cX9_high 66 = .ok (.getfield 10, 3) := by decide +kernel
theorem dX9_high_69 : decode cX9_high 69 = .ok (.getfield 79, 3) := by decide +kernel
theorem dX9_high_72 : decode cX9_high 72 = .ok (.invokevirtual 114, 3) := by decide +kernel
theorem dX9_high_75 : decode cX9_high 75 = .ok (.aload_n 0, 1) := by decide +kernel
theorem dX9_high_76 : decode cX9_high 76 = .ok (.iload_n 3, 1) := by decide +kernel
theorem dX9_high_77 : decode cX9_high 77 = .ok (.invokevirtual 99, 3) := by decide +kernel
theorem dX9_high_80 : decode cX9_high 80 = .ok (.ireturn, 1) := by decide +kernel
theorem dX9_at_0 : decode cX9_at 0 = .ok (.iload_n 1, 1) := by decide +kernel
theorem dX9_at_1 : decode cX9_at 1 = .ok (.invokestatic 118, 3) := by decide +kernel
theorem dX9_at_4 : decode cX9_at 4 = .ok (.ifCond .eq 17, 3) := by decide +kernel
theorem dX9_at_7 : decode cX9_at 7 = .ok (.aload_n 0, 1) := by decide +kernel
theorem dX9_at_8 : decode cX9_at 8 = .ok (.getfield 10, 3) := by decide +kernel
theorem dX9_at_11 : decode cX9_at 11 = .ok (.getfield 89, 3) := by decide +kernel
theorem dX9_at_14 : decode cX9_at 14 = .ok (.iload_n 1, 1) := by decide +kernel
theorem dX9_at_15 : decode cX9_at 15 = .ok (.invokevirtual 121, 3) := by decide +kernel
theorem dX9_at_18 : decode cX9_at 18 = .ok (.goto 4, 3) := by decide +kernel
theorem dX9_at_21 : decode cX9_at 21 = .ok (.iconst (-1), 1) := by decide +kernel
theorem dX9_at_22 : decode cX9_at 22 = .ok (.ireturn, 1) := by decide +kernel
theorem dX9_put_0 : decode cX9_put 0 = .ok (.iload_n 2, 1) := by decide +kernel
theorem dX9_put_1 : decode cX9_put 1 = .ok (.iconst 2, 1) := by decide +kernel
theorem dX9_put_2 : decode cX9_put 2 = .ok (.if_icmp .ne 7, 3) := by decide +kernel
theorem dX9_put_5 : decode cX9_put 5 = .ok (.iconst 3, 1) := by decide +kernel
theorem dX9_put_6 : decode cX9_put 6 = .ok (.goto 5, 3) := by decide +kernel
theorem dX9_put_9 : decode cX9_put 9 = .ok (.bipush 9, 2) := by decide +kernel
theorem dX9_put_11 : decode cX9_put 11 = .ok (.istore 4, 2) := by decide +kernel
theorem dX9_put_13 : decode cX9_put 13 = .ok (.iload_n 1, 1) := by decide +kernel
theorem dX9_put_14 : decode cX9_put 14 = .ok (.invokestatic 118, 3) := by decide +kernel
theorem dX9_put_17 : decode cX9_put 17 = .ok (.ifCond .eq 22, 3) := by decide +kernel
theorem dX9_put_20 : decode cX9_put 20 = .ok (.iload_n 2, 1) := by decide +kernel
theorem dX9_put_21 : decode cX9_put 21 = .ok (.iconst 0, 1) := by decide +kernel
theorem dX9_put_22 : decode cX9_put 22 = .ok (.iconst 2, 1) := by decide +kernel
theorem dX9_put_23 : decode cX9_put 23 = .ok (.invokestatic 102, 3) := by decide +kernel
theorem dX9_put_26 : decode cX9_put 26 = .ok (.ifCond .eq 13, 3) := by decide +kernel
theorem dX9_put_29 : decode cX9_put 29 = .ok (.iload_n 3, 1) := by decide +kernel
theorem dX9_put_30 : decode cX9_put 30 = .ok (.iconst 0, 1) := by decide +kernel
theorem dX9_put_31 : decode cX9_put 31 = .ok (.iload 4, 2) := by decide +kernel
theorem dX9_put_33 : decode cX9_put 33 = .ok (.invokestatic 102, 3) := by decide +kernel
theorem dX9_put_36 : decode cX9_put 36 = .ok (.ifCond .ne 9, 3) := by decide +kernel
theorem dX9_put_39 : decode cX9_put 39 = .ok (.aload_n 0, 1) := by decide +kernel
theorem dX9_put_40 : decode cX9_put 40 = .ok (.iconst (-1), 1) := by decide +kernel
theorem dX9_put_41 : decode cX9_put 41 = .ok (.invokevirtual 75, 3) := by decide +kernel
theorem dX9_put_44 : decode cX9_put 44 = .ok (.ireturn, 1) := by decide +kernel
theorem dX9_put_45 : decode cX9_put 45 = .ok (.aload_n 0, 1) := by decide +kernel
theorem dX9_put_46 : decode cX9_put 46 = .ok (.getfield 10, 3) := by decide +kernel
theorem dX9_put_49 : decode cX9_put 49 = .ok (.iload_n 1, 1) := by decide +kernel
theorem dX9_put_50 : decode cX9_put 50 = .ok (.invokevirtual 124, 3) := by decide +kernel
theorem dX9_put_53 : decode cX9_put 53 = .ok (.ifCond .ne 10, 3) := by decide +kernel
theorem dX9_put_56 : decode cX9_put 56 = .ok (.aload_n 0, 1) := by decide +kernel
theorem dX9_put_57 : decode cX9_put 57 = .ok (.bipush (-3), 2) := by decide +kernel
theorem dX9_put_59 : decode cX9_put 59 = .ok (.invokevirtual 75, 3) := by decide +kernel
theorem dX9_put_62 : decode cX9_put 62 = .ok (.ireturn, 1) := by decide +kernel
theorem dX9_put_63 : decode cX9_put 63 = .ok (.aload_n 0, 1) := by decide +kernel
theorem dX9_put_64 : decode cX9_put 64 = .ok (.getfield 10, 3) := by decide +kernel
theorem dX9_put_67 : decode cX9_put 67 = .ok (.getfield 79, 3) := by decide +kernel
theorem dX9_put_70 : decode cX9_put 70 = .ok (.iload_n 2, 1) := by decide +kernel
theorem dX9_put_71 : decode cX9_put 71 = .ok (.invokevirtual 127, 3) := by decide +kernel
theorem dX9_put_74 : decode cX9_put 74 = .ok (.astore 5, 2) := by decide +kernel
theorem dX9_put_76 : decode cX9_put 76 = .ok (.iload_n 1, 1) := by decide +kernel
theorem dX9_put_77 : decode cX9_put 77 = .ok (.invokestatic 131, 3) := by decide +kernel
theorem dX9_put_80 : decode cX9_put 80 = .ok (.istore 6, 2) := by decide +kernel
theorem dX9_put_82 : decode cX9_put 82 = .ok (.aload 5, 2) := by decide +kernel
theorem dX9_put_84 : decode cX9_put 84 = .ok (.iload 6, 2) := by decide +kernel
theorem dX9_put_86 : decode cX9_put 86 = .ok (.iaload, 1) := by decide +kernel
theorem dX9_put_87 : decode cX9_put 87 = .ok (.istore 7, 2) := by decide +kernel
theorem dX9_put_89 : decode cX9_put 89 = .ok (.aload 5, 2) := by decide +kernel
theorem dX9_put_91 : decode cX9_put 91 = .ok (.iload 6, 2) := by decide +kernel
theorem dX9_put_93 : decode cX9_put 93 = .ok (.iload_n 3, 1) := by decide +kernel
theorem dX9_put_94 : decode cX9_put 94 = .ok (.iastore, 1) := by decide +kernel
theorem dX9_put_95 : decode cX9_put 95 = .ok (.aload_n 0, 1) := by decide +kernel
theorem dX9_put_96 : decode cX9_put 96 = .ok (.iload 7, 2) := by decide +kernel
theorem dX9_put_98 : decode cX9_put 98 = .ok (.invokevirtual 99, 3) := by decide +kernel
theorem dX9_put_101 : decode cX9_put 101 = .ok (.ireturn, 1) := by decide +kernel
theorem dX9_of_0 : decode cX9_of 0 = .ok (.aload_n 0, 1) := by decide +kernel
theorem dX9_of_1 : decode cX9_of 1 = .ok (.getfield 10, 3) := by decide +kernel
theorem dX9_of_4 : decode cX9_of 4 = .ok (.iload_n 1, 1) := by decide +kernel
theorem dX9_of_5 : decode cX9_of 5 = .ok (.invokevirtual 124, 3) := by decide +kernel
theorem dX9_of_8 : decode cX9_of 8 = .ok (.ifCond .eq 12, 3) := by decide +kernel
theorem dX9_of_11 : decode cX9_of 11 = .ok (.iload_n 2, 1) := by decide +kernel
theorem dX9_of_12 : decode cX9_of 12 = .ok (.iconst 0, 1) := by decide +kernel
theorem dX9_of_13 : decode cX9_of 13 = .ok (.iconst 2, 1) := by decide +kernel
theorem dX9_of_14 : decode cX9_of 14 = .ok (.invokestatic 102, 3) := by decide +kernel
theorem dX9_of_17 : decode cX9_of 17 = .ok (.ifCond .ne 5, 3) := by decide +kernel
theorem dX9_of_20 : decode cX9_of 20 = .ok (.iconst (-1), 1) := by decide +kernel
theorem dX9_of_21 : decode cX9_of 21 = .ok (.ireturn, 1) := by decide +kernel
theorem dX9_of_22 : decode cX9_of 22 = .ok (.aload_n 0, 1) := by decide +kernel
theorem dX9_of_23 : decode cX9_of 23 = .ok (.getfield 10, 3) := by decide +kernel
theorem dX9_of_26 : decode cX9_of 26 = .ok (.getfield 79, 3) := by decide +kernel
theorem dX9_of_29 : decode cX9_of 29 = .ok (.iload_n 2, 1) := by decide +kernel
theorem dX9_of_30 : decode cX9_of 30 = .ok (.invokevirtual 127, 3) := by decide +kernel
theorem dX9_of_33 : decode cX9_of 33 = .ok (.iload_n 1, 1) := by decide +kernel
theorem dX9_of_34 : decode cX9_of 34 = .ok (.invokestatic 131, 3) := by decide +kernel
theorem dX9_of_37 : decode cX9_of 37 = .ok (.iaload, 1) := by decide +kernel
theorem dX9_of_38 : decode cX9_of 38 = .ok (.ireturn, 1) := by decide +kernel
theorem dX9_line_0 : decode cX9_line 0 = .ok (.iload_n 2, 1) := by decide +kernel
theorem dX9_line_1 : decode cX9_line 1 = .ok (.ifCond .ne 8, 3) := by decide +kernel
theorem dX9_line_4 : decode cX9_line 4 = .ok (.bipush 99, 2) := by decide +kernel
theorem dX9_line_6 : decode cX9_line 6 = .ok (.goto 6, 3) := by decide +kernel
theorem dX9_line_9 : decode cX9_line 9 = .ok (.sipush 9999, 3) := by decide +kernel
theorem dX9_line_12 : decode cX9_line 12 = .ok (.istore 4, 2) := by decide +kernel
theorem dX9_line_14 : decode cX9_line 14 = .ok (.iload_n 1, 1) := by decide +kernel
theorem dX9_line_15 : decode cX9_line 15 = .ok (.iconst 1, 1) := by decide +kernel
theorem dX9_line_16 : decode cX9_line 16 = .ok (.iconst 3, 1) := by decide +kernel
theorem dX9_line_17 : decode cX9_line 17 = .ok (.invokestatic 102, 3) := by decide +kernel
theorem dX9_line_20 : decode cX9_line 20 = .ok (.ifCond .eq 22, 3) := by decide +kernel
theorem dX9_line_23 : decode cX9_line 23 = .ok (.iload_n 2, 1) := by decide +kernel
theorem dX9_line_24 : decode cX9_line 24 = .ok (.iconst 0, 1) := by decide +kernel
theorem dX9_line_25 : decode cX9_line 25 = .ok (.iconst 1, 1) := by decide +kernel
theorem dX9_line_26 : decode cX9_line 26 = .ok (.invokestatic 102, 3) := by decide +kernel
theorem dX9_line_29 : decode cX9_line 29 = .ok (.ifCond .eq 13, 3) := by decide +kernel
theorem dX9_line_32 : decode cX9_line 32 = .ok (.iload_n 3, 1) := by decide +kernel
theorem dX9_line_33 : decode cX9_line 33 = .ok (.iconst 0, 1) := by decide +kernel
theorem dX9_line_34 : decode cX9_line 34 = .ok (.iload 4, 2) := by decide +kernel
theorem dX9_line_36 : decode cX9_line 36 = .ok (.invokestatic 102, 3) := by decide +kernel
theorem dX9_line_39 : decode cX9_line 39 = .ok (.ifCond .ne 9, 3) := by decide +kernel
theorem dX9_line_42 : decode cX9_line 42 = .ok (.aload_n 0, 1) := by decide +kernel
theorem dX9_line_43 : decode cX9_line 43 = .ok (.iconst (-1), 1) := by decide +kernel
theorem dX9_line_44 : decode cX9_line 44 = .ok (.invokevirtual 75, 3) := by decide +kernel
theorem dX9_line_47 : decode cX9_line 47 = .ok (.ireturn, 1) := by decide +kernel
theorem dX9_line_48 : decode cX9_line 48 = .ok (.iload_n 2, 1) := by decide +kernel
theorem dX9_line_49 : decode cX9_line 49 = .ok (.ifCond .ne 13, 3) := by decide +kernel
theorem dX9_line_52 : decode cX9_line 52 = .ok (.aload_n 0, 1) := by decide +kernel
theorem dX9_line_53 : decode cX9_line 53 = .ok (.getfield 10, 3) := by decide +kernel
theorem dX9_line_56 : decode cX9_line 56 = .ok (.getfield 134, 3) := by decide +kernel
theorem dX9_line_59 : decode cX9_line 59 = .ok (.goto 10, 3) := by decide +kernel
theorem dX9_line_62 : decode cX9_line 62 = .ok (.aload_n 0, 1) := by decide +kernel
theorem dX9_line_63 : decode cX9_line 63 = .ok (.getfield 10, 3) := by decide +kernel
theorem dX9_line_66 : decode cX9_line 66 = .ok (.getfield 137, 3) := by decide +kernel
theorem dX9_line_69 : decode cX9_line 69 = .ok (.astore 5, 2) := by decide +kernel
theorem dX9_line_71 : decode cX9_line 71 = .ok (.aload 5, 2) := by decide +kernel
theorem dX9_line_73 : decode cX9_line 73 = .ok (.iload_n 1, 1) := by decide +kernel
theorem dX9_line_74 : decode cX9_line 74 = .ok (.iaload, 1) := by decide +kernel
theorem dX9_line_75 : decode cX9_line 75 = .ok (.istore 6, 2) := by decide +kernel
theorem dX9_line_77 : decode cX9_line 77 = .ok (.aload 5, 2) := by decide +kernel
theorem dX9_line_79 : decode cX9_line 79 = .ok (.iload_n 1, 1) := by decide +kernel
theorem dX9_line_80 : decode cX9_line 80 = .ok (.iload_n 3, 1) := by decide +kernel
theorem dX9_line_81 : decode cX9_line 81 = .ok (.iastore, 1) := by decide +kernel
theorem dX9_line_82 : decode cX9_line 82 = .ok (.aload_n 0, 1) := by decide +kernel
theorem dX9_line_83 : decode cX9_line 83 = .ok (.iload 6, 2) := by decide +kernel
theorem dX9_line_85 : decode cX9_line 85 = .ok (.invokevirtual 99, 3) := by decide +kernel
theorem dX9_line_88 : decode cX9_line 88 = .ok (.ireturn, 1) := by decide +kernel
theorem dX9_hours_0 : decode cX9_hours 0 = .ok (.iload_n 1, 1) := by decide +kernel
theorem dX9_hours_1 : decode cX9_hours 1 = .ok (.invokestatic 140, 3) := by decide +kernel
theorem dX9_hours_4 : decode cX9_hours 4 = .ok (.ifCond .eq 21, 3) := by decide +kernel
theorem dX9_hours_7 : decode cX9_hours 7 = .ok (.iload_n 2, 1) := by decide +kernel
theorem dX9_hours_8 : decode cX9_hours 8 = .ok (.invokestatic 143, 3) := by decide +kernel
theorem dX9_hours_11 : decode cX9_hours 11 = .ok (.ifCond .eq 14, 3) := by decide +kernel
theorem dX9_hours_14 : decode cX9_hours 14 = .ok (.iload_n 3, 1) := by decide +kernel
theorem dX9_hours_15 : decode cX9_hours 15 = .ok (.iconst 0, 1) := by decide +kernel
theorem dX9_hours_16 : decode cX9_hours 16 = .ok (.sipush 999, 3) := by decide +kernel
theorem dX9_hours_19 : decode cX9_hours 19 = .ok (.invokestatic 102, 3) := by decide +kernel
theorem dX9_hours_22 : decode cX9_hours 22 = .ok (.ifCond .ne 9, 3) := by decide +kernel
theorem dX9_hours_25 : decode cX9_hours 25 = .ok (.aload_n 0, 1) := by decide +kernel
theorem dX9_hours_26 : decode cX9_hours 26 = .ok (.iconst (-1), 1) := by decide +kernel
theorem dX9_hours_27 : decode cX9_hours 27 = .ok (.invokevirtual 75, 3) := by decide +kernel
theorem dX9_hours_30 : decode cX9_hours 30 = .ok (.ireturn, 1) := by decide +kernel
theorem dX9_hours_31 : decode cX9_hours 31 = .ok (.aload_n 0, 1) := by decide +kernel
theorem dX9_hours_32 : decode cX9_hours 32 = .ok (.aload_n 0, 1) := by decide +kernel
theorem dX9_hours_33 : decode cX9_hours 33 = .ok (.getfield 10, 3) := by decide +kernel
theorem dX9_hours_36 : decode cX9_hours 36 = .ok (.iload_n 1, 1) := by decide +kernel
theorem dX9_hours_37 : decode cX9_hours 37 = .ok (.iload_n 2, 1) := by decide +kernel
theorem dX9_hours_38 : decode cX9_hours 38 = .ok (.iload_n 3, 1) := by decide +kernel
theorem dX9_hours_39 : decode cX9_hours 39 = .ok (.invokevirtual 146, 3) := by decide +kernel
theorem dX9_hours_42 : decode cX9_hours 42 = .ok (.invokevirtual 99, 3) := by decide +kernel
theorem dX9_hours_45 : decode cX9_hours 45 = .ok (.ireturn, 1) := by decide +kernel
theorem dX9_feed_0 : decode cX9_feed 0 = .ok (.aload_n 0, 1) := by decide +kernel
theorem dX9_feed_1 : decode cX9_feed 1 = .ok (.getfield 48, 3) := by decide +kernel
theorem dX9_feed_4 : decode cX9_feed 4 = .ok (.bipush 20, 2) := by decide +kernel
theorem dX9_feed_6 : decode cX9_feed 6 = .ok (.iadd, 1) := by decide +kernel
theorem dX9_feed_7 : decode cX9_feed 7 = .ok (.sipush 400, 3) := by decide +kernel
theorem dX9_feed_10 : decode cX9_feed 10 = .ok (.if_icmp .le 5, 3) := by decide +kernel
theorem dX9_feed_13 : decode cX9_feed 13 = .ok (.iconst (-1), 1) := by decide +kernel
theorem dX9_feed_14 : decode cX9_feed 14 = .ok (.ireturn, 1) := by decide +kernel
theorem dX9_feed_15 : decode cX9_feed 15 = .ok (.aload_n 0, 1) := by decide +kernel
theorem dX9_feed_16 : decode cX9_feed 16 = .ok (.iload_n 1, 1) := by decide +kernel
theorem dX9_feed_17 : decode cX9_feed 17 = .ok (.invokevirtual 150, 3) := by decide +kernel
theorem dX9_feed_20 : decode cX9_feed 20 = .ok (.aload_n 0, 1) := by decide +kernel
theorem dX9_feed_21 : decode cX9_feed 21 = .ok (.iload_n 2, 1) := by decide +kernel
theorem dX9_feed_22 : decode cX9_feed 22 = .ok (.invokevirtual 150, 3) := by decide +kernel
theorem dX9_feed_25 : decode cX9_feed 25 = .ok (.aload_n 0, 1) := by decide +kernel
theorem dX9_feed_26 : decode cX9_feed 26 = .ok (.iload_n 3, 1) := by decide +kernel
theorem dX9_feed_27 : decode cX9_feed 27 = .ok (.invokevirtual 150, 3) := by decide +kernel
theorem dX9_feed_30 : decode cX9_feed 30 = .ok (.aload_n 0, 1) := by decide +kernel
theorem dX9_feed_31 : decode cX9_feed 31 = .ok (.iload 4, 2) := by decide +kernel
theorem dX9_feed_33 : decode cX9_feed 33 = .ok (.invokevirtual 150, 3) := by decide +kernel
theorem dX9_feed_36 : decode cX9_feed 36 = .ok (.aload_n 0, 1) := by decide +kernel
theorem dX9_feed_37 : decode cX9_feed 37 = .ok (.iload 5, 2) := by decide +kernel
theorem dX9_feed_39 : decode cX9_feed 39 = .ok (.invokevirtual 150, 3) := by decide +kernel
theorem dX9_feed_42 : decode cX9_feed 42 = .ok (.aload_n 0, 1) := by decide +kernel
theorem dX9_feed_43 : decode cX9_feed 43 = .ok (.getfield 48, 3) := by decide +kernel
theorem dX9_feed_46 : decode cX9_feed 46 = .ok (.ireturn, 1) := by decide +kernel
theorem dX9_feedOne_0 : decode cX9_feedOne 0 = .ok (.bipush 24, 2) := by decide +kernel
theorem dX9_feedOne_2 : decode cX9_feedOne 2 = .ok (.istore_n 2, 1) := by decide +kernel
theorem dX9_feedOne_3 : decode cX9_feedOne 3 = .ok (.iload_n 2, 1) := by decide +kernel
theorem dX9_feedOne_4 : decode cX9_feedOne 4 = .ok (.ifCond .lt 45, 3) := by decide +kernel
theorem dX9_feedOne_7 : decode cX9_feedOne 7 = .ok (.aload_n 0, 1) := by decide +kernel
theorem dX9_feedOne_8 : decode cX9_feedOne 8 = .ok (.getfield 48, 3) := by decide +kernel
theorem dX9_feedOne_11 : decode cX9_feedOne 11 = .ok (.sipush 400, 3) := by decide +kernel
theorem dX9_feedOne_14 : decode cX9_feedOne 14 = .ok (.if_icmp .ge 35, 3) := by decide +kernel
theorem dX9_feedOne_17 : decode cX9_feedOne 17 = .ok (.aload_n 0, 1) := by decide +kernel
theorem dX9_feedOne_18 : decode cX9_feedOne 18 = .ok (.getfield 45, 3) := by decide +kernel
theorem dX9_feedOne_21 : decode cX9_feedOne 21 = .ok (.aload_n 0, 1) := by decide +kernel
theorem dX9_feedOne_22 : decode cX9_feedOne 22 = .ok (.getfield 48, 3) := by decide +kernel
theorem dX9_feedOne_25 : decode cX9_feedOne 25 = .ok (.iload_n 1, 1) := by decide +kernel
theorem dX9_feedOne_26 : decode cX9_feedOne 26 = .ok (.iload_n 2, 1) := by decide +kernel
theorem dX9_feedOne_27 : decode cX9_feedOne 27 = .ok (.iushr, 1) := by decide +kernel
theorem dX9_feedOne_28 : decode cX9_feedOne 28 = .ok (.sipush 255, 3) := by decide +kernel
theorem dX9_feedOne_31 : decode cX9_feedOne 31 = .ok (.iand, 1) := by decide +kernel
theorem dX9_feedOne_32 : decode cX9_feedOne 32 = .ok (.iastore, 1) := by decide +kernel
theorem dX9_feedOne_33 : decode cX9_feedOne 33 = .ok (.aload_n 0, 1) := by decide +kernel
theorem dX9_feedOne_34 : decode cX9_feedOne 34 = .ok (.dup, 1) := by decide +kernel
theorem dX9_feedOne_35 : decode cX9_feedOne 35 = .ok (.getfield 48, 3) := by decide +kernel
theorem dX9_feedOne_38 : decode cX9_feedOne 38 = .ok (.iconst 1, 1) := by decide +kernel
theorem dX9_feedOne_39 : decode cX9_feedOne 39 = .ok (.iadd, 1) := by decide +kernel
theorem dX9_feedOne_40 : decode cX9_feedOne 40 = .ok (.putfield 48, 3) := by decide +kernel
theorem dX9_feedOne_43 : decode cX9_feedOne 43 = .ok (.iinc 2 (-8), 3) := by decide +kernel
theorem dX9_feedOne_46 : decode cX9_feedOne 46 = .ok (.goto (-43), 3) := by decide +kernel
theorem dX9_feedOne_49 : decode cX9_feedOne 49 = .ok (.return_, 1) := by decide +kernel
theorem dX9_end_0 : decode cX9_end 0 = .ok (.iload_n 1, 1) := by decide +kernel
theorem dX9_end_1 : decode cX9_end 1 = .ok (.iconst 0, 1) := by decide +kernel
theorem dX9_end_2 : decode cX9_end 2 = .ok (.aload_n 0, 1) := by decide +kernel
theorem dX9_end_3 : decode cX9_end 3 = .ok (.getfield 48, 3) := by decide +kernel
theorem dX9_end_6 : decode cX9_end 6 = .ok (.invokestatic 102, 3) := by decide +kernel
theorem dX9_end_9 : decode cX9_end 9 = .ok (.ifCond .ne 5, 3) := by decide +kernel
theorem dX9_end_12 : decode cX9_end 12 = .ok (.iconst (-1), 1) := by decide +kernel
theorem dX9_end_13 : decode cX9_end 13 = .ok (.ireturn, 1) := by decide +kernel
theorem dX9_end_14 : decode cX9_end 14 = .ok (.aload_n 0, 1) := by decide +kernel
theorem dX9_end_15 : decode cX9_end 15 = .ok (.iload_n 1, 1) := by decide +kernel
theorem dX9_end_16 : decode cX9_end 16 = .ok (.putfield 48, 3) := by decide +kernel
theorem dX9_end_19 : decode cX9_end 19 = .ok (.iload_n 1, 1) := by decide +kernel
theorem dX9_end_20 : decode cX9_end 20 = .ok (.ireturn, 1) := by decide +kernel
theorem dX9_row_0 : decode cX9_row 0 = .ok (.aload_n 0, 1) := by decide +kernel
theorem dX9_row_1 : decode cX9_row 1 = .ok (.getfield 48, 3) := by decide +kernel
theorem dX9_row_4 : decode cX9_row 4 = .ok (.ifCond .ne 10, 3) := by decide +kernel
theorem dX9_row_7 : decode cX9_row 7 = .ok (.aload_n 0, 1) := by decide +kernel
theorem dX9_row_8 : decode cX9_row 8 = .ok (.bipush (-6), 2) := by decide +kernel
theorem dX9_row_10 : decode cX9_row 10 = .ok (.invokevirtual 75, 3) := by decide +kernel
theorem dX9_row_13 : decode cX9_row 13 = .ok (.ireturn, 1) := by decide +kernel
theorem dX9_row_14 : decode cX9_row 14 = .ok (.aload_n 0, 1) := by decide +kernel
theorem dX9_row_15 : decode cX9_row 15 = .ok (.getfield 48, 3) := by decide +kernel
theorem dX9_row_18 : decode cX9_row 18 = .ok (.iconst 2, 1) := by decide +kernel
theorem dX9_row_19 : decode cX9_row 19 = .ok (.idiv, 1) := by decide +kernel
theorem dX9_row_20 : decode cX9_row 20 = .ok (.bipush 40, 2) := by decide +kernel
theorem dX9_row_22 : decode cX9_row 22 = .ok (.invokestatic 154, 3) := by decide +kernel
theorem dX9_row_25 : decode cX9_row 25 = .ok (.istore_n 1, 1) := by decide +kernel
theorem dX9_row_26 : decode cX9_row 26 = .ok (.iconst 0, 1) := by decide +kernel
theorem dX9_row_27 : decode cX9_row 27 = .ok (.istore_n 2, 1) := by decide +kernel
theorem dX9_row_28 : decode cX9_row 28 = .ok (.iload_n 2, 1) := by decide +kernel
theorem dX9_row_29 : decode cX9_row 29 = .ok (.iload_n 1, 1) := by decide +kernel
theorem dX9_row_30 : decode cX9_row 30 = .ok (.if_icmp .ge 56, 3) := by decide +kernel
theorem dX9_row_33 : decode cX9_row 33 = .ok (.aload_n 0, 1) := by decide +kernel
theorem dX9_row_34 : decode cX9_row 34 = .ok (.getfield 45, 3) := by decide +kernel
theorem dX9_row_37 : decode cX9_row 37 = .ok (.iconst 2, 1) := by decide +kernel
theorem dX9_row_38 : decode cX9_row 38 = .ok (.iload_n 2, 1) := by decide +kernel
theorem dX9_row_39 : decode cX9_row 39 = .ok (.imul, 1) := by decide +kernel
theorem dX9_row_40 : decode cX9_row 40 = .ok (.iaload, 1) := by decide +kernel
theorem dX9_row_41 : decode cX9_row 41 = .ok (.sipush 256, 3) := by decide +kernel
theorem dX9_row_44 : decode cX9_row 44 = .ok (.imul, 1) := by decide +kernel
theorem dX9_row_45 : decode cX9_row 45 = .ok (.aload_n 0, 1) := by decide +kernel
theorem dX9_row_46 : decode cX9_row 46 = .ok (.getfield 45, 3) := by decide +kernel
theorem dX9_row_49 : decode cX9_row 49 = .ok (.iconst 2, 1) := by decide +kernel
theorem dX9_row_50 : decode cX9_row 50 = .ok (.iload_n 2, 1) := by decide +kernel
theorem dX9_row_51 : decode cX9_row 51 = .ok (.imul, 1) := by decide +kernel
theorem dX9_row_52 : decode cX9_row 52 = .ok (.iconst 1, 1) := by decide +kernel
theorem dX9_row_53 : decode cX9_row 53 = .ok (.iadd, 1) := by decide +kernel
theorem dX9_row_54 : decode cX9_row 54 = .ok (.iaload, 1) := by decide +kernel
theorem dX9_row_55 : decode cX9_row 55 = .ok (.iadd, 1) := by decide +kernel
theorem dX9_row_56 : decode cX9_row 56 = .ok (.istore_n 3, 1) := by decide +kernel
theorem dX9_row_57 : decode cX9_row 57 = .ok (.aload_n 0, 1) := by decide +kernel
theorem dX9_row_58 : decode cX9_row 58 = .ok (.getfield 10, 3) := by decide +kernel
theorem dX9_row_61 : decode cX9_row 61 = .ok (.iload_n 2, 1) := by decide +kernel
theorem dX9_row_62 : decode cX9_row 62 = .ok (.bipush 10, 2) := by decide +kernel
theorem dX9_row_64 : decode cX9_row 64 = .ok (.idiv, 1) := by decide +kernel
theorem dX9_row_65 : decode cX9_row 65 = .ok (.iload_n 2, 1) := by decide +kernel
theorem dX9_row_66 : decode cX9_row 66 = .ok (.bipush 10, 2) := by decide +kernel
theorem dX9_row_68 : decode cX9_row 68 = .ok (.irem, 1) := by decide +kernel
theorem dX9_row_69 : decode cX9_row 69 = .ok (.iload_n 3, 1) := by decide +kernel
theorem dX9_row_70 : decode cX9_row 70 = .ok (.sipush 999, 3) := by decide +kernel
theorem dX9_row_73 : decode cX9_row 73 = .ok (.invokestatic 154, 3) := by decide +kernel
theorem dX9_row_76 : decode cX9_row 76 = .ok (.invokevirtual 146, 3) := by decide +kernel
theorem dX9_row_79 : decode cX9_row 79 = .ok (.pop, 1) := by decide +kernel
theorem dX9_row_80 : decode cX9_row 80 = .ok (.iinc 2 1, 3) := by decide +kernel
theorem dX9_row_83 : decode cX9_row 83 = .ok (.goto (-55), 3) := by decide +kernel
theorem dX9_row_86 : decode cX9_row 86 = .ok (.aload_n 0, 1) := by decide +kernel
theorem dX9_row_87 : decode cX9_row 87 = .ok (.aload_n 0, 1) := by decide +kernel
theorem dX9_row_88 : decode cX9_row 88 = .ok (.getfield 48, 3) := by decide +kernel
theorem dX9_row_91 : decode cX9_row 91 = .ok (.iconst 2, 1) := by decide +kernel
theorem dX9_row_92 : decode cX9_row 92 = .ok (.iload_n 1, 1) := by decide +kernel
theorem dX9_row_93 : decode cX9_row 93 = .ok (.imul, 1) := by decide +kernel
theorem dX9_row_94 : decode cX9_row 94 = .ok (.isub, 1) := by decide +kernel
theorem dX9_row_95 : decode cX9_row 95 = .ok (.putfield 52, 3) := by decide +kernel
theorem dX9_row_98 : decode cX9_row 98 = .ok (.aload_n 0, 1) := by decide +kernel
theorem dX9_row_99 : decode cX9_row 99 = .ok (.iconst 0, 1) := by decide +kernel
theorem dX9_row_100 : decode cX9_row 100 = .ok (.putfield 48, 3) := by decide +kernel
theorem dX9_row_103 : decode cX9_row 103 = .ok (.aload_n 0, 1) := by decide +kernel
theorem dX9_row_104 : decode cX9_row 104 = .ok (.aload_n 0, 1) := by decide +kernel
theorem dX9_row_105 : decode cX9_row 105 = .ok (.getfield 10, 3) := by decide +kernel
theorem dX9_row_108 : decode cX9_row 108 = .ok (.invokevirtual 160, 3) := by decide +kernel
theorem dX9_row_111 : decode cX9_row 111 = .ok (.invokevirtual 99, 3) := by decide +kernel
theorem dX9_row_114 : decode cX9_row 114 = .ok (.ireturn, 1) := by decide +kernel
theorem dX9_torn_0 : decode cX9_torn 0 = .ok (.aload_n 0, 1) := by decide +kernel
theorem dX9_torn_1 : decode cX9_torn 1 = .ok (.getfield 52, 3) := by decide +kernel
theorem dX9_torn_4 : decode cX9_torn 4 = .ok (.ireturn, 1) := by decide +kernel
theorem dX9_law_0 : decode cX9_law 0 = .ok (.aload_n 0, 1) := by decide +kernel
theorem dX9_law_1 : decode cX9_law 1 = .ok (.getfield 48, 3) := by decide +kernel
theorem dX9_law_4 : decode cX9_law 4 = .ok (.istore_n 1, 1) := by decide +kernel
theorem dX9_law_5 : decode cX9_law 5 = .ok (.aload_n 0, 1) := by decide +kernel
theorem dX9_law_6 : decode cX9_law 6 = .ok (.iconst 0, 1) := by decide +kernel
theorem dX9_law_7 : decode cX9_law 7 = .ok (.putfield 48, 3) := by decide +kernel
theorem dX9_law_10 : decode cX9_law 10 = .ok (.aload_n 0, 1) := by decide +kernel
theorem dX9_law_11 : decode cX9_law 11 = .ok (.getfield 10, 3) := by decide +kernel
theorem dX9_law_14 : decode cX9_law 14 = .ok (.getfield 164, 3) := by decide +kernel
theorem dX9_law_17 : decode cX9_law 17 = .ok (.bipush 6, 2) := by decide +kernel
theorem dX9_law_19 : decode cX9_law 19 = .ok (.if_icmp .lt 10, 3) := by decide +kernel
theorem dX9_law_22 : decode cX9_law 22 = .ok (.aload_n 0, 1) := by decide +kernel
theorem dX9_law_23 : decode cX9_law 23 = .ok (.bipush (-5), 2) := by decide +kernel
theorem dX9_law_25 : decode cX9_law 25 = .ok (.invokevirtual 75, 3) := by decide +kernel
theorem dX9_law_28 : decode cX9_law 28 = .ok (.ireturn, 1) := by decide +kernel
theorem dX9_law_29 : decode cX9_law 29 = .ok (.aload_n 0, 1) := by decide +kernel
theorem dX9_law_30 : decode cX9_law 30 = .ok (.getfield 37, 3) := by decide +kernel
theorem dX9_law_33 : decode cX9_law 33 = .ok (.aload_n 0, 1) := by decide +kernel
theorem dX9_law_34 : decode cX9_law 34 = .ok (.getfield 45, 3) := by decide +kernel
theorem dX9_law_37 : decode cX9_law 37 = .ok (.iload_n 1, 1) := by decide +kernel
theorem dX9_law_38 : decode cX9_law 38 = .ok (.invokevirtual 167, 3) := by decide +kernel
theorem dX9_law_41 : decode cX9_law 41 = .ok (.astore_n 2, 1) := by decide +kernel
theorem dX9_law_42 : decode cX9_law 42 = .ok (.aload_n 0, 1) := by decide +kernel
theorem dX9_law_43 : decode cX9_law 43 = .ok (.aload_n 0, 1) := by decide +kernel
theorem dX9_law_44 : decode cX9_law 44 = .ok (.getfield 37, 3) := by decide +kernel
theorem dX9_law_47 : decode cX9_law 47 = .ok (.getfield 171, 3) := by decide +kernel
theorem dX9_law_50 : decode cX9_law 50 = .ok (.putfield 55, 3) := by decide +kernel
theorem dX9_law_53 : decode cX9_law 53 = .ok (.aload_n 2, 1) := by decide +kernel
theorem dX9_law_54 : decode cX9_law 54 = .ok (.ifnonnull 10, 3) := by decide +kernel
theorem dX9_law_57 : decode cX9_law 57 = .ok (.aload_n 0, 1) := by decide +kernel
theorem dX9_law_58 : decode cX9_law 58 = .ok (.bipush (-6), 2) := by decide +kernel
theorem dX9_law_60 : decode cX9_law 60 = .ok (.invokevirtual 75, 3) := by decide +kernel
theorem dX9_law_63 : decode cX9_law 63 = .ok (.ireturn, 1) := by decide +kernel
theorem dX9_law_64 : decode cX9_law 64 = .ok (.aload_n 0, 1) := by decide +kernel
theorem dX9_law_65 : decode cX9_law 65 = .ok (.aload_n 0, 1) := by decide +kernel
theorem dX9_law_66 : decode cX9_law 66 = .ok (.getfield 10, 3) := by decide +kernel
theorem dX9_law_69 : decode cX9_law 69 = .ok (.aload_n 2, 1) := by decide +kernel
theorem dX9_law_70 : decode cX9_law 70 = .ok (.invokevirtual 172, 3) := by decide +kernel
theorem dX9_law_73 : decode cX9_law 73 = .ok (.invokevirtual 99, 3) := by decide +kernel
theorem dX9_law_76 : decode cX9_law 76 = .ok (.ireturn, 1) := by decide +kernel
theorem dX9_fault_0 : decode cX9_fault 0 = .ok (.aload_n 0, 1) := by decide +kernel
theorem dX9_fault_1 : decode cX9_fault 1 = .ok (.getfield 55, 3) := by decide +kernel
theorem dX9_fault_4 : decode cX9_fault 4 = .ok (.ireturn, 1) := by decide +kernel
theorem dX9_force_0 : decode cX9_force 0 = .ok (.iload_n 1, 1) := by decide +kernel
theorem dX9_force_1 : decode cX9_force 1 = .ok (.iconst (-1), 1) := by decide +kernel
theorem dX9_force_2 : decode cX9_force 2 = .ok (.aload_n 0, 1) := by decide +kernel
theorem dX9_force_3 : decode cX9_force 3 = .ok (.getfield 10, 3) := by decide +kernel
theorem dX9_force_6 : decode cX9_force 6 = .ok (.getfield 164, 3) := by decide +kernel
theorem dX9_force_9 : decode cX9_force 9 = .ok (.iconst 1, 1) := by decide +kernel
theorem dX9_force_10 : decode cX9_force 10 = .ok (.isub, 1) := by decide +kernel
theorem dX9_force_11 : decode cX9_force 11 = .ok (.invokestatic 102, 3) := by decide +kernel
theorem dX9_force_14 : decode cX9_force 14 = .ok (.ifCond .ne 10, 3) := by decide +kernel
theorem dX9_force_17 : decode cX9_force 17 = .ok (.aload_n 0, 1) := by decide +kernel
theorem dX9_force_18 : decode cX9_force 18 = .ok (.bipush (-2), 2) := by decide +kernel
theorem dX9_force_20 : decode cX9_force 20 = .ok (.invokevirtual 75, 3) := by decide +kernel
theorem dX9_force_23 : decode cX9_force 23 = .ok (.ireturn, 1) := by decide +kernel
theorem dX9_force_24 : decode cX9_force 24 = .ok (.aload_n 0, 1) := by decide +kernel
theorem dX9_force_25 : decode cX9_force 25 = .ok (.getfield 10, 3) := by decide +kernel
theorem dX9_force_28 : decode cX9_force 28 = .ok (.getfield 176, 3) := by decide +kernel
theorem dX9_force_31 : decode cX9_force 31 = .ok (.istore_n 2, 1) := by decide +kernel
theorem dX9_force_32 : decode cX9_force 32 = .ok (.aload_n 0, 1) := by decide +kernel
theorem dX9_force_33 : decode cX9_force 33 = .ok (.getfield 10, 3) := by decide +kernel
theorem dX9_force_36 : decode cX9_force 36 = .ok (.iload_n 1, 1) := by decide +kernel
theorem dX9_force_37 : decode cX9_force 37 = .ok (.putfield 176, 3) := by decide +kernel
theorem dX9_force_40 : decode cX9_force 40 = .ok (.aload_n 0, 1) := by decide +kernel
theorem dX9_force_41 : decode cX9_force 41 = .ok (.iload_n 2, 1) := by decide +kernel
theorem dX9_force_42 : decode cX9_force 42 = .ok (.invokevirtual 99, 3) := by decide +kernel
theorem dX9_force_45 : decode cX9_force 45 = .ok (.ireturn, 1) := by decide +kernel
theorem dX9_kind_0 : decode cX9_kind 0 = .ok (.aload_n 0, 1) := by decide +kernel
theorem dX9_kind_1 : decode cX9_kind 1 = .ok (.getfield 10, 3) := by decide +kernel
theorem dX9_kind_4 : decode cX9_kind 4 = .ok (.iload_n 1, 1) := by decide +kernel
theorem dX9_kind_5 : decode cX9_kind 5 = .ok (.invokevirtual 124, 3) := by decide +kernel
theorem dX9_kind_8 : decode cX9_kind 8 = .ok (.ifCond .eq 20, 3) := by decide +kernel
theorem dX9_kind_11 : decode cX9_kind 11 = .ok (.iload_n 2, 1) := by decide +kernel
theorem dX9_kind_12 : decode cX9_kind 12 = .ok (.invokestatic 140, 3) := by decide +kernel
theorem dX9_kind_15 : decode cX9_kind 15 = .ok (.ifCond .eq 13, 3) := by decide +kernel
theorem dX9_kind_18 : decode cX9_kind 18 = .ok (.iload_n 3, 1) := by decide +kernel
theorem dX9_kind_19 : decode cX9_kind 19 = .ok (.iconst 0, 1) := by decide +kernel
theorem dX9_kind_20 : decode cX9_kind 20 = .ok (.bipush 6, 2) := by decide +kernel
theorem dX9_kind_22 : decode cX9_kind 22 = .ok (.invokestatic 102, 3) := by decide +kernel
theorem dX9_kind_25 : decode cX9_kind 25 = .ok (.ifCond .ne 5, 3) := by decide +kernel
theorem dX9_kind_28 : decode cX9_kind 28 = .ok (.iconst (-1), 1) := by decide +kernel
theorem dX9_kind_29 : decode cX9_kind 29 = .ok (.ireturn, 1) := by decide +kernel
theorem dX9_kind_30 : decode cX9_kind 30 = .ok (.iload_n 3, 1) := by decide +kernel
theorem dX9_kind_31 : decode cX9_kind 31 = .ok (.bipush 6, 2) := by decide +kernel
theorem dX9_kind_33 : decode cX9_kind 33 = .ok (.if_icmp .ne 27, 3) := by decide +kernel
theorem dX9_kind_36 : decode cX9_kind 36 = .ok (.aload_n 0, 1) := by decide +kernel
theorem dX9_kind_37 : decode cX9_kind 37 = .ok (.getfield 23, 3) := by decide +kernel
theorem dX9_kind_40 : decode cX9_kind 40 = .ok (.aload_n 0, 1) := by decide +kernel
theorem dX9_kind_41 : decode cX9_kind 41 = .ok (.getfield 10, 3) := by decide +kernel
theorem dX9_kind_44 : decode cX9_kind 44 = .ok (.aload_n 0, 1) := by decide +kernel
theorem dX9_kind_45 : decode cX9_kind 45 = .ok (.getfield 10, 3) := by decide +kernel
theorem dX9_kind_48 : decode cX9_kind 48 = .ok (.getfield 79, 3) := by decide +kernel
theorem dX9_kind_51 : decode cX9_kind 51 = .ok (.iload_n 1, 1) := by decide +kernel
theorem dX9_kind_52 : decode cX9_kind 52 = .ok (.invokestatic 131, 3) := by decide +kernel
theorem dX9_kind_55 : decode cX9_kind 55 = .ok (.iload_n 2, 1) := by decide +kernel
theorem dX9_kind_56 : decode cX9_kind 56 = .ok (.invokevirtual 179, 3) := by decide +kernel
theorem dX9_kind_59 : decode cX9_kind 59 = .ok (.ireturn, 1) := by decide +kernel
theorem dX9_kind_60 : decode cX9_kind 60 = .ok (.aload_n 0, 1) := by decide +kernel
theorem dX9_kind_61 : decode cX9_kind 61 = .ok (.getfield 23, 3) := by decide +kernel
theorem dX9_kind_64 : decode cX9_kind 64 = .ok (.aload_n 0, 1) := by decide +kernel
theorem dX9_kind_65 : decode cX9_kind 65 = .ok (.getfield 10, 3) := by decide +kernel
theorem dX9_kind_68 : decode cX9_kind 68 = .ok (.getfield 79, 3) := by decide +kernel
theorem dX9_kind_71 : decode cX9_kind 71 = .ok (.iload_n 1, 1) := by decide +kernel
theorem dX9_kind_72 : decode cX9_kind 72 = .ok (.invokestatic 131, 3) := by decide +kernel
theorem dX9_kind_75 : decode cX9_kind 75 = .ok (.iload_n 2, 1) := by decide +kernel
theorem dX9_kind_76 : decode cX9_kind 76 = .ok (.invokevirtual 183, 3) := by decide +kernel
theorem dX9_kind_79 : decode cX9_kind 79 = .ok (.aload_n 0, 1) := by decide +kernel
theorem dX9_kind_80 : decode cX9_kind 80 = .ok (.getfield 23, 3) := by decide +kernel
theorem dX9_kind_83 : decode cX9_kind 83 = .ok (.getfield 187, 3) := by decide +kernel
theorem dX9_kind_86 : decode cX9_kind 86 = .ok (.iload_n 3, 1) := by decide +kernel
theorem dX9_kind_87 : decode cX9_kind 87 = .ok (.iaload, 1) := by decide +kernel
theorem dX9_kind_88 : decode cX9_kind 88 = .ok (.ireturn, 1) := by decide +kernel
theorem dX9_above_0 : decode cX9_above 0 = .ok (.aload_n 0, 1) := by decide +kernel
theorem dX9_above_1 : decode cX9_above 1 = .ok (.getfield 10, 3) := by decide +kernel
theorem dX9_above_4 : decode cX9_above 4 = .ok (.iload_n 1, 1) := by decide +kernel
theorem dX9_above_5 : decode cX9_above 5 = .ok (.invokevirtual 124, 3) := by decide +kernel
theorem dX9_above_8 : decode cX9_above 8 = .ok (.ifCond .eq 14, 3) := by decide +kernel
theorem dX9_above_11 : decode cX9_above 11 = .ok (.iload_n 2, 1) := by decide +kernel
theorem dX9_above_12 : decode cX9_above 12 = .ok (.iconst 0, 1) := by decide +kernel
theorem dX9_above_13 : decode cX9_above 13 = .ok (.sipush 9999, 3) := by decide +kernel
theorem dX9_above_16 : decode cX9_above 16 = .ok (.invokestatic 102, 3) := by decide +kernel
theorem dX9_above_19 : decode cX9_above 19 = .ok (.ifCond .ne 5, 3) := by decide +kernel
theorem dX9_above_22 : decode cX9_above 22 = .ok (.iconst (-1), 1) := by decide +kernel
theorem dX9_above_23 : decode cX9_above 23 = .ok (.ireturn, 1) := by decide +kernel
theorem dX9_above_24 : decode cX9_above 24 = .ok (.aload_n 0, 1) := by decide +kernel
theorem dX9_above_25 : decode cX9_above 25 = .ok (.getfield 23, 3) := by decide +kernel
theorem dX9_above_28 : decode cX9_above 28 = .ok (.aload_n 0, 1) := by decide +kernel
theorem dX9_above_29 : decode cX9_above 29 = .ok (.getfield 10, 3) := by decide +kernel
theorem dX9_above_32 : decode cX9_above 32 = .ok (.aload_n 0, 1) := by decide +kernel
theorem dX9_above_33 : decode cX9_above 33 = .ok (.getfield 10, 3) := by decide +kernel
theorem dX9_above_36 : decode cX9_above 36 = .ok (.getfield 79, 3) := by decide +kernel
theorem dX9_above_39 : decode cX9_above 39 = .ok (.iload_n 1, 1) := by decide +kernel
theorem dX9_above_40 : decode cX9_above 40 = .ok (.invokestatic 131, 3) := by decide +kernel
theorem dX9_above_43 : decode cX9_above 43 = .ok (.iload_n 2, 1) := by decide +kernel
theorem dX9_above_44 : decode cX9_above 44 = .ok (.invokevirtual 190, 3) := by decide +kernel
theorem dX9_above_47 : decode cX9_above 47 = .ok (.ireturn, 1) := by decide +kernel
theorem dX9_over_0 : decode cX9_over 0 = .ok (.iload_n 1, 1) := by decide +kernel
theorem dX9_over_1 : decode cX9_over 1 = .ok (.iconst (-1), 1) := by decide +kernel
theorem dX9_over_2 : decode cX9_over 2 = .ok (.if_icmp .eq 16, 3) := by decide +kernel
theorem dX9_over_5 : decode cX9_over 5 = .ok (.aload_n 0, 1) := by decide +kernel
theorem dX9_over_6 : decode cX9_over 6 = .ok (.getfield 10, 3) := by decide +kernel
theorem dX9_over_9 : decode cX9_over 9 = .ok (.iload_n 1, 1) := by decide +kernel
theorem dX9_over_10 : decode cX9_over 10 = .ok (.invokevirtual 124, 3) := by decide +kernel
theorem dX9_over_13 : decode cX9_over 13 = .ok (.ifCond .ne 5, 3) := by decide +kernel
theorem dX9_over_16 : decode cX9_over 16 = .ok (.iconst (-1), 1) := by decide +kernel
theorem dX9_over_17 : decode cX9_over 17 = .ok (.ireturn, 1) := by decide +kernel
theorem dX9_over_18 : decode cX9_over 18 = .ok (.aload_n 0, 1) := by decide +kernel
theorem dX9_over_19 : decode cX9_over 19 = .ok (.getfield 23, 3) := by decide +kernel
theorem dX9_over_22 : decode cX9_over 22 = .ok (.aload_n 0, 1) := by decide +kernel
theorem dX9_over_23 : decode cX9_over 23 = .ok (.getfield 10, 3) := by decide +kernel
theorem dX9_over_26 : decode cX9_over 26 = .ok (.aload_n 0, 1) := by decide +kernel
theorem dX9_over_27 : decode cX9_over 27 = .ok (.getfield 10, 3) := by decide +kernel
theorem dX9_over_30 : decode cX9_over 30 = .ok (.getfield 79, 3) := by decide +kernel
theorem dX9_over_33 : decode cX9_over 33 = .ok (.invokevirtual 193, 3) := by decide +kernel
theorem dX9_over_36 : decode cX9_over 36 = .ok (.istore_n 2, 1) := by decide +kernel
theorem dX9_over_37 : decode cX9_over 37 = .ok (.iload_n 1, 1) := by decide +kernel
theorem dX9_over_38 : decode cX9_over 38 = .ok (.iconst (-1), 1) := by decide +kernel
theorem dX9_over_39 : decode cX9_over 39 = .ok (.if_icmp .ne 7, 3) := by decide +kernel
theorem dX9_over_42 : decode cX9_over 42 = .ok (.iload_n 2, 1) := by decide +kernel
theorem dX9_over_43 : decode cX9_over 43 = .ok (.goto 12, 3) := by decide +kernel
theorem dX9_over_46 : decode cX9_over 46 = .ok (.aload_n 0, 1) := by decide +kernel
theorem dX9_over_47 : decode cX9_over 47 = .ok (.getfield 23, 3) := by decide +kernel
theorem dX9_over_50 : decode cX9_over 50 = .ok (.getfield 197, 3) := by decide +kernel
theorem dX9_over_53 : decode cX9_over 53 = .ok (.iload_n 1, 1) := by decide +kernel
theorem dX9_over_54 : decode cX9_over 54 = .ok (.iaload, 1) := by decide +kernel
theorem dX9_over_55 : decode cX9_over 55 = .ok (.ireturn, 1) := by decide +kernel
theorem dX9_bad_0 : decode cX9_bad 0 = .ok (.aload_n 0, 1) := by decide +kernel
theorem dX9_bad_1 : decode cX9_bad 1 = .ok (.getfield 23, 3) := by decide +kernel
theorem dX9_bad_4 : decode cX9_bad 4 = .ok (.aload_n 0, 1) := by decide +kernel
theorem dX9_bad_5 : decode cX9_bad 5 = .ok (.getfield 10, 3) := by decide +kernel
theorem dX9_bad_8 : decode cX9_bad 8 = .ok (.aload_n 0, 1) := by decide +kernel
theorem dX9_bad_9 : decode cX9_bad 9 = .ok (.getfield 10, 3) := by decide +kernel
theorem dX9_bad_12 : decode cX9_bad 12 = .ok (.getfield 79, 3) := by decide +kernel
theorem dX9_bad_15 : decode cX9_bad 15 = .ok (.invokevirtual 193, 3) := by decide +kernel
theorem dX9_bad_18 : decode cX9_bad 18 = .ok (.pop, 1) := by decide +kernel
theorem dX9_bad_19 : decode cX9_bad 19 = .ok (.iconst 0, 1) := by decide +kernel
theorem dX9_bad_20 : decode cX9_bad 20 = .ok (.istore_n 2, 1) := by decide +kernel
theorem dX9_bad_21 : decode cX9_bad 21 = .ok (.iconst 0, 1) := by decide +kernel
theorem dX9_bad_22 : decode cX9_bad 22 = .ok (.istore_n 3, 1) := by decide +kernel
theorem dX9_bad_23 : decode cX9_bad 23 = .ok (.iload_n 3, 1) := by decide +kernel
theorem dX9_bad_24 : decode cX9_bad 24 = .ok (.bipush 100, 2) := by decide +kernel
theorem dX9_bad_26 : decode cX9_bad 26 = .ok (.if_icmp .ge 51, 3) := by decide +kernel
theorem dX9_bad_29 : decode cX9_bad 29 = .ok (.aload_n 0, 1) := by decide +kernel
theorem dX9_bad_30 : decode cX9_bad 30 = .ok (.getfield 23, 3) := by decide +kernel
theorem dX9_bad_33 : decode cX9_bad 33 = .ok (.getfield 197, 3) := by decide +kernel
theorem dX9_bad_36 : decode cX9_bad 36 = .ok (.iload_n 3, 1) := by decide +kernel
theorem dX9_bad_37 : decode cX9_bad 37 = .ok (.iaload, 1) := by decide +kernel
theorem dX9_bad_38 : decode cX9_bad 38 = .ok (.istore 4, 2) := by decide +kernel
theorem dX9_bad_40 : decode cX9_bad 40 = .ok (.aload_n 0, 1) := by decide +kernel
theorem dX9_bad_41 : decode cX9_bad 41 = .ok (.getfield 41, 3) := by decide +kernel
theorem dX9_bad_44 : decode cX9_bad 44 = .ok (.iload_n 3, 1) := by decide +kernel
theorem dX9_bad_45 : decode cX9_bad 45 = .ok (.iload 4, 2) := by decide +kernel
theorem dX9_bad_47 : decode cX9_bad 47 = .ok (.ifCond .le 8, 3) := by decide +kernel
theorem dX9_bad_50 : decode cX9_bad 50 = .ok (.iload 4, 2) := by decide +kernel
theorem dX9_bad_52 : decode cX9_bad 52 = .ok (.goto 5, 3) := by decide +kernel
theorem dX9_bad_55 : decode cX9_bad 55 = .ok (.ldc 200, 2) := by decide +kernel
theorem dX9_bad_57 : decode cX9_bad 57 = .ok (.iastore, 1) := by decide +kernel
theorem dX9_bad_58 : decode cX9_bad 58 = .ok (.iload_n 2, 1) := by decide +kernel
theorem dX9_bad_59 : decode cX9_bad 59 = .ok (.iload 4, 2) := by decide +kernel
theorem dX9_bad_61 : decode cX9_bad 61 = .ok (.ifCond .le 7, 3) := by decide +kernel
theorem dX9_bad_64 : decode cX9_bad 64 = .ok (.iconst 1, 1) := by decide +kernel
theorem dX9_bad_65 : decode cX9_bad 65 = .ok (.goto 4, 3) := by decide +kernel
theorem dX9_bad_68 : decode cX9_bad 68 = .ok (.iconst 0, 1) := by decide +kernel
theorem dX9_bad_69 : decode cX9_bad 69 = .ok (.iadd, 1) := by decide +kernel
theorem dX9_bad_70 : decode cX9_bad 70 = .ok (.istore_n 2, 1) := by decide +kernel
theorem dX9_bad_71 : decode cX9_bad 71 = .ok (.iinc 3 1, 3) := by decide +kernel
theorem dX9_bad_74 : decode cX9_bad 74 = .ok (.goto (-51), 3) := by decide +kernel
theorem dX9_bad_77 : decode cX9_bad 77 = .ok (.iload_n 1, 1) := by decide +kernel
theorem dX9_bad_78 : decode cX9_bad 78 = .ok (.iconst (-1), 1) := by decide +kernel
theorem dX9_bad_79 : decode cX9_bad 79 = .ok (.if_icmp .ne 7, 3) := by decide +kernel
theorem dX9_bad_82 : decode cX9_bad 82 = .ok (.iload_n 2, 1) := by decide +kernel
theorem dX9_bad_83 : decode cX9_bad 83 = .ok (.goto 8, 3) := by decide +kernel
theorem dX9_bad_86 : decode cX9_bad 86 = .ok (.aload_n 0, 1) := by decide +kernel
theorem dX9_bad_87 : decode cX9_bad 87 = .ok (.iload_n 1, 1) := by decide +kernel
theorem dX9_bad_88 : decode cX9_bad 88 = .ok (.invokevirtual 201, 3) := by decide +kernel
theorem dX9_bad_91 : decode cX9_bad 91 = .ok (.ireturn, 1) := by decide +kernel
theorem dX9_greatestKey_0 : decode cX9_greatestKey 0 = .ok (.iconst 0, 1) := by decide +kernel
theorem dX9_greatestKey_1 : decode cX9_greatestKey 1 = .ok (.istore_n 2, 1) := by decide +kernel
theorem dX9_greatestKey_2 : decode cX9_greatestKey 2 = .ok (.iload_n 2, 1) := by decide +kernel
theorem dX9_greatestKey_3 : decode cX9_greatestKey 3 = .ok (.bipush 100, 2) := by decide +kernel
theorem dX9_greatestKey_5 : decode cX9_greatestKey 5 = .ok (.if_icmp .ge 31, 3) := by decide +kernel
theorem dX9_greatestKey_8 : decode cX9_greatestKey 8 = .ok (.aload_n 0, 1) := by decide +kernel
theorem dX9_greatestKey_9 : decode cX9_greatestKey 9 = .ok (.getfield 41, 3) := by decide +kernel
theorem dX9_greatestKey_12 : decode cX9_greatestKey 12 = .ok (.iload_n 2, 1) := by decide +kernel
theorem dX9_greatestKey_13 : decode cX9_greatestKey 13 = .ok (.iaload, 1) := by decide +kernel
theorem dX9_greatestKey_14 : decode cX9_greatestKey 14 = .ok (.ldc 200, 2) := by decide +kernel
theorem dX9_greatestKey_16 : decode cX9_greatestKey 16 = .ok (.if_icmp .eq 14, 3) := by decide +kernel
theorem dX9_greatestKey_19 : decode cX9_greatestKey 19 = .ok (.aload_n 0, 1) := by decide +kernel
theorem dX9_greatestKey_20 : decode cX9_greatestKey 20 = .ok (.iload_n 2, 1) := by decide +kernel
theorem dX9_greatestKey_21 : decode cX9_greatestKey 21 = .ok (.invokevirtual 204, 3) := by decide +kernel
theorem dX9_greatestKey_24 : decode cX9_greatestKey 24 = .ok (.iload_n 1, 1) := by decide +kernel
theorem dX9_greatestKey_25 : decode cX9_greatestKey 25 = .ok (.if_icmp .ne 5, 3) := by decide +kernel
theorem dX9_greatestKey_28 : decode cX9_greatestKey 28 = .ok (.iload_n 2, 1) := by decide +kernel
theorem dX9_greatestKey_29 : decode cX9_greatestKey 29 = .ok (.ireturn, 1) := by decide +kernel
theorem dX9_greatestKey_30 : decode cX9_greatestKey 30 = .ok (.iinc 2 1, 3) := by decide +kernel
theorem dX9_greatestKey_33 : decode cX9_greatestKey 33 = .ok (.goto (-31), 3) := by decide +kernel
theorem dX9_greatestKey_36 : decode cX9_greatestKey 36 = .ok (.iconst (-1), 1) := by decide +kernel
theorem dX9_greatestKey_37 : decode cX9_greatestKey 37 = .ok (.ireturn, 1) := by decide +kernel
theorem dX9_keysAhead_0 : decode cX9_keysAhead 0 = .ok (.iconst 0, 1) := by decide +kernel
theorem dX9_keysAhead_1 : decode cX9_keysAhead 1 = .ok (.istore_n 2, 1) := by decide +kernel
theorem dX9_keysAhead_2 : decode cX9_keysAhead 2 = .ok (.iconst 0, 1) := by decide +kernel
theorem dX9_keysAhead_3 : decode cX9_keysAhead 3 = .ok (.istore_n 3, 1) := by decide +kernel
theorem dX9_keysAhead_4 : decode cX9_keysAhead 4 = .ok (.iload_n 3, 1) := by decide +kernel
theorem dX9_keysAhead_5 : decode cX9_keysAhead 5 = .ok (.bipush 100, 2) := by decide +kernel
theorem dX9_keysAhead_7 : decode cX9_keysAhead 7 = .ok (.if_icmp .ge 47, 3) := by decide +kernel
theorem dX9_keysAhead_10 : decode cX9_keysAhead 10 = .ok (.aload_n 0, 1) := by decide +kernel
theorem dX9_keysAhead_11 : decode cX9_keysAhead 11 = .ok (.getfield 41, 3) := by decide +kernel
theorem dX9_keysAhead_14 : decode cX9_keysAhead 14 = .ok (.iload_n 3, 1) := by decide +kernel
theorem dX9_keysAhead_15 : decode cX9_keysAhead 15 = .ok (.iaload, 1) := by decide +kernel
theorem dX9_keysAhead_16 : decode cX9_keysAhead 16 = .ok (.aload_n 0, 1) := by decide +kernel
theorem dX9_keysAhead_17 : decode cX9_keysAhead 17 = .ok (.getfield 41, 3) := by decide +kernel
theorem dX9_keysAhead_20 : decode cX9_keysAhead 20 = .ok (.iload_n 1, 1) := by decide +kernel
theorem dX9_keysAhead_21 : decode cX9_keysAhead 21 = .ok (.iaload, 1) := by decide +kernel
theorem dX9_keysAhead_22 : decode cX9_keysAhead 22 = .ok (.if_icmp .gt 23, 3) := by decide +kernel
theorem dX9_keysAhead_25 : decode cX9_keysAhead 25 = .ok (.aload_n 0, 1) := by decide +kernel
theorem dX9_keysAhead_26 : decode cX9_keysAhead 26 = .ok (.getfield 41, 3) := by decide +kernel
theorem dX9_keysAhead_29 : decode cX9_keysAhead 29 = .ok (.iload_n 3, 1) := by decide +kernel
theorem dX9_keysAhead_30 : decode cX9_keysAhead 30 = .ok (.iaload, 1) := by decide +kernel
theorem dX9_keysAhead_31 : decode cX9_keysAhead 31 = .ok (.aload_n 0, 1) := by decide +kernel
theorem dX9_keysAhead_32 : decode cX9_keysAhead 32 = .ok (.getfield 41, 3) := by decide +kernel
theorem dX9_keysAhead_35 : decode cX9_keysAhead 35 = .ok (.iload_n 1, 1) := by decide +kernel
theorem dX9_keysAhead_36 : decode cX9_keysAhead 36 = .ok (.iaload, 1) := by decide +kernel
theorem dX9_keysAhead_37 : decode cX9_keysAhead 37 = .ok (.if_icmp .ne 11, 3) := by decide +kernel
theorem dX9_keysAhead_40 : decode cX9_keysAhead 40 = .ok (.iload_n 3, 1) := by decide +kernel
theorem dX9_keysAhead_41 : decode cX9_keysAhead 41 = .ok (.iload_n 1, 1) := by decide +kernel
theorem dX9_keysAhead_42 : decode cX9_keysAhead 42 = .ok (.if_icmp .ge 6, 3) := by decide +kernel
theorem dX9_keysAhead_45 : decode cX9_keysAhead 45 = .ok (.iinc 2 1, 3) := by decide +kernel
theorem dX9_keysAhead_48 : decode cX9_keysAhead 48 = .ok (.iinc 3 1, 3) := by decide +kernel
theorem dX9_keysAhead_51 : decode cX9_keysAhead 51 = .ok (.goto (-47), 3) := by decide +kernel
theorem dX9_keysAhead_54 : decode cX9_keysAhead 54 = .ok (.iload_n 2, 1) := by decide +kernel
theorem dX9_keysAhead_55 : decode cX9_keysAhead 55 = .ok (.ireturn, 1) := by decide +kernel
theorem dX9_kinds_0 : decode cX9_kinds 0 = .ok (.iload_n 1, 1) := by decide +kernel
theorem dX9_kinds_1 : decode cX9_kinds 1 = .ok (.iconst 0, 1) := by decide +kernel
theorem dX9_kinds_2 : decode cX9_kinds 2 = .ok (.iconst 4, 1) := by decide +kernel
theorem dX9_kinds_3 : decode cX9_kinds 3 = .ok (.invokestatic 102, 3) := by decide +kernel
theorem dX9_kinds_6 : decode cX9_kinds 6 = .ok (.ifCond .eq 10, 3) := by decide +kernel
theorem dX9_kinds_9 : decode cX9_kinds 9 = .ok (.iload_n 2, 1) := by decide +kernel
theorem dX9_kinds_10 : decode cX9_kinds 10 = .ok (.invokestatic 140, 3) := by decide +kernel
theorem dX9_kinds_13 : decode cX9_kinds 13 = .ok (.ifCond .ne 5, 3) := by decide +kernel
theorem dX9_kinds_16 : decode cX9_kinds 16 = .ok (.iconst (-1), 1) := by decide +kernel
theorem dX9_kinds_17 : decode cX9_kinds 17 = .ok (.ireturn, 1) := by decide +kernel
theorem dX9_kinds_18 : decode cX9_kinds 18 = .ok (.iconst 0, 1) := by decide +kernel
theorem dX9_kinds_19 : decode cX9_kinds 19 = .ok (.istore_n 3, 1) := by decide +kernel
theorem dX9_kinds_20 : decode cX9_kinds 20 = .ok (.iconst 0, 1) := by decide +kernel
theorem dX9_kinds_21 : decode cX9_kinds 21 = .ok (.istore 4, 2) := by decide +kernel
theorem dX9_kinds_23 : decode cX9_kinds 23 = .ok (.iload 4, 2) := by decide +kernel
theorem dX9_kinds_25 : decode cX9_kinds 25 = .ok (.bipush 100, 2) := by decide +kernel
theorem dX9_kinds_27 : decode cX9_kinds 27 = .ok (.if_icmp .ge 62, 3) := by decide +kernel
theorem dX9_kinds_30 : decode cX9_kinds 30 = .ok (.aload_n 0, 1) := by decide +kernel
theorem dX9_kinds_31 : decode cX9_kinds 31 = .ok (.getfield 10, 3) := by decide +kernel
theorem dX9_kinds_34 : decode cX9_kinds 34 = .ok (.iload 4, 2) := by decide +kernel
theorem dX9_kinds_36 : decode cX9_kinds 36 = .ok (.invokevirtual 124, 3) := by decide +kernel
theorem dX9_kinds_39 : decode cX9_kinds 39 = .ok (.ifCond .eq 44, 3) := by decide +kernel
theorem dX9_kinds_42 : decode cX9_kinds 42 = .ok (.aload_n 0, 1) := by decide +kernel
theorem dX9_kinds_43 : decode cX9_kinds 43 = .ok (.getfield 23, 3) := by decide +kernel
theorem dX9_kinds_46 : decode cX9_kinds 46 = .ok (.aload_n 0, 1) := by decide +kernel
theorem dX9_kinds_47 : decode cX9_kinds 47 = .ok (.getfield 10, 3) := by decide +kernel
theorem dX9_kinds_50 : decode cX9_kinds 50 = .ok (.getfield 79, 3) := by decide +kernel
theorem dX9_kinds_53 : decode cX9_kinds 53 = .ok (.iload 4, 2) := by decide +kernel
theorem dX9_kinds_55 : decode cX9_kinds 55 = .ok (.invokestatic 131, 3) := by decide +kernel
theorem dX9_kinds_58 : decode cX9_kinds 58 = .ok (.iload_n 2, 1) := by decide +kernel
theorem dX9_kinds_59 : decode cX9_kinds 59 = .ok (.invokevirtual 183, 3) := by decide +kernel
theorem dX9_kinds_62 : decode cX9_kinds 62 = .ok (.iload_n 3, 1) := by decide +kernel
theorem dX9_kinds_63 : decode cX9_kinds 63 = .ok (.aload_n 0, 1) := by decide +kernel
theorem dX9_kinds_64 : decode cX9_kinds 64 = .ok (.getfield 23, 3) := by decide +kernel
theorem dX9_kinds_67 : decode cX9_kinds 67 = .ok (.getfield 187, 3) := by decide +kernel
theorem dX9_kinds_70 : decode cX9_kinds 70 = .ok (.iconst 0, 1) := by decide +kernel
theorem dX9_kinds_71 : decode cX9_kinds 71 = .ok (.iaload, 1) := by decide +kernel
theorem dX9_kinds_72 : decode cX9_kinds 72 = .ok (.iload_n 1, 1) := by decide +kernel
theorem dX9_kinds_73 : decode cX9_kinds 73 = .ok (.if_icmp .ne 7, 3) := by decide +kernel
theorem dX9_kinds_76 : decode cX9_kinds 76 = .ok (.iconst 1, 1) := by decide +kernel
theorem dX9_kinds_77 : decode cX9_kinds 77 = .ok (.goto 4, 3) := by decide +kernel
theorem dX9_kinds_80 : decode cX9_kinds 80 = .ok (.iconst 0, 1) := by decide +kernel
theorem dX9_kinds_81 : decode cX9_kinds 81 = .ok (.iadd, 1) := by decide +kernel
theorem dX9_kinds_82 : decode cX9_kinds 82 = .ok (.istore_n 3, 1) := by decide +kernel
theorem dX9_kinds_83 : decode cX9_kinds 83 = .ok (.iinc 4 1, 3) := by decide +kernel
theorem dX9_kinds_86 : decode cX9_kinds 86 = .ok (.goto (-63), 3) := by decide +kernel
theorem dX9_kinds_89 : decode cX9_kinds 89 = .ok (.iload_n 3, 1) := by decide +kernel
theorem dX9_kinds_90 : decode cX9_kinds 90 = .ok (.ireturn, 1) := by decide +kernel
theorem dX9_does_0 : decode cX9_does 0 = .ok (.aload_n 0, 1) := by decide +kernel
theorem dX9_does_1 : decode cX9_does 1 = .ok (.getfield 10, 3) := by decide +kernel
theorem dX9_does_4 : decode cX9_does 4 = .ok (.getfield 89, 3) := by decide +kernel
theorem dX9_does_7 : decode cX9_does 7 = .ok (.iload_n 1, 1) := by decide +kernel
theorem dX9_does_8 : decode cX9_does 8 = .ok (.invokevirtual 106, 3) := by decide +kernel
theorem dX9_does_11 : decode cX9_does 11 = .ok (.ifCond .ne 6, 3) := by decide +kernel
theorem dX9_does_14 : decode cX9_does 14 = .ok (.ldc 207, 2) := by decide +kernel
theorem dX9_does_16 : decode cX9_does 16 = .ok (.ireturn, 1) := by decide +kernel
theorem dX9_does_17 : decode cX9_does 17 = .ok (.aload_n 0, 1) := by decide +kernel
theorem dX9_does_18 : decode cX9_does 18 = .ok (.getfield 30, 3) := by decide +kernel
theorem dX9_does_21 : decode cX9_does 21 = .ok (.getfield 208, 3) := by decide +kernel
theorem dX9_does_24 : decode cX9_does 24 = .ok (.aload_n 0, 1) := by decide +kernel
theorem dX9_does_25 : decode cX9_does 25 = .ok (.getfield 10, 3) := by decide +kernel
theorem dX9_does_28 : decode cX9_does 28 = .ok (.getfield 79, 3) := by decide +kernel
theorem dX9_does_31 : decode cX9_does 31 = .ok (.invokevirtual 209, 3) := by decide +kernel
theorem dX9_does_34 : decode cX9_does 34 = .ok (.aload_n 0, 1) := by decide +kernel
theorem dX9_does_35 : decode cX9_does 35 = .ok (.getfield 10, 3) := by decide +kernel
theorem dX9_does_38 : decode cX9_does 38 = .ok (.getfield 89, 3) := by decide +kernel
theorem dX9_does_41 : decode cX9_does 41 = .ok (.iload_n 1, 1) := by decide +kernel
theorem dX9_does_42 : decode cX9_does 42 = .ok (.iconst 0, 1) := by decide +kernel
theorem dX9_does_43 : decode cX9_does 43 = .ok (.aload_n 0, 1) := by decide +kernel
theorem dX9_does_44 : decode cX9_does 44 = .ok (.getfield 30, 3) := by decide +kernel
theorem dX9_does_47 : decode cX9_does 47 = .ok (.getfield 208, 3) := by decide +kernel
theorem dX9_does_50 : decode cX9_does 50 = .ok (.invokevirtual 114, 3) := by decide +kernel
theorem dX9_does_53 : decode cX9_does 53 = .ok (.aload_n 0, 1) := by decide +kernel
theorem dX9_does_54 : decode cX9_does 54 = .ok (.getfield 23, 3) := by decide +kernel
theorem dX9_does_57 : decode cX9_does 57 = .ok (.aload_n 0, 1) := by decide +kernel
theorem dX9_does_58 : decode cX9_does 58 = .ok (.getfield 10, 3) := by decide +kernel
theorem dX9_does_61 : decode cX9_does 61 = .ok (.aload_n 0, 1) := by decide +kernel
theorem dX9_does_62 : decode cX9_does 62 = .ok (.getfield 10, 3) := by decide +kernel
theorem dX9_does_65 : decode cX9_does 65 = .ok (.getfield 79, 3) := by decide +kernel
theorem dX9_does_68 : decode cX9_does 68 = .ok (.invokevirtual 193, 3) := by decide +kernel
theorem dX9_does_71 : decode cX9_does 71 = .ok (.aload_n 0, 1) := by decide +kernel
theorem dX9_does_72 : decode cX9_does 72 = .ok (.getfield 23, 3) := by decide +kernel
theorem dX9_does_75 : decode cX9_does 75 = .ok (.aload_n 0, 1) := by decide +kernel
theorem dX9_does_76 : decode cX9_does 76 = .ok (.getfield 10, 3) := by decide +kernel
theorem dX9_does_79 : decode cX9_does 79 = .ok (.aload_n 0, 1) := by decide +kernel
theorem dX9_does_80 : decode cX9_does 80 = .ok (.getfield 30, 3) := by decide +kernel
theorem dX9_does_83 : decode cX9_does 83 = .ok (.getfield 208, 3) := by decide +kernel
theorem dX9_does_86 : decode cX9_does 86 = .ok (.invokevirtual 193, 3) := by decide +kernel
theorem dX9_does_89 : decode cX9_does 89 = .ok (.isub, 1) := by decide +kernel
theorem dX9_does_90 : decode cX9_does 90 = .ok (.ireturn, 1) := by decide +kernel
theorem dX9_share_0 : decode cX9_share 0 = .ok (.aload_n 0, 1) := by decide +kernel
theorem dX9_share_1 : decode cX9_share 1 = .ok (.getfield 10, 3) := by decide +kernel
theorem dX9_share_4 : decode cX9_share 4 = .ok (.getfield 89, 3) := by decide +kernel
theorem dX9_share_7 : decode cX9_share 7 = .ok (.iload_n 1, 1) := by decide +kernel
theorem dX9_share_8 : decode cX9_share 8 = .ok (.invokevirtual 106, 3) := by decide +kernel
theorem dX9_share_11 : decode cX9_share 11 = .ok (.ifCond .ne 7, 3) := by decide +kernel
theorem dX9_share_14 : decode cX9_share 14 = .ok (.ldc2_w 213, 3) := by decide +kernel
theorem dX9_share_17 : decode cX9_share 17 = .ok (.lreturn, 1) := by decide +kernel
theorem dX9_share_18 : decode cX9_share 18 = .ok (.aload_n 0, 1) := by decide +kernel
theorem dX9_share_19 : decode cX9_share 19 = .ok (.getfield 30, 3) := by decide +kernel
theorem dX9_share_22 : decode cX9_share 22 = .ok (.aload_n 0, 1) := by decide +kernel
theorem dX9_share_23 : decode cX9_share 23 = .ok (.getfield 10, 3) := by decide +kernel
theorem dX9_share_26 : decode cX9_share 26 = .ok (.aload_n 0, 1) := by decide +kernel
theorem dX9_share_27 : decode cX9_share 27 = .ok (.getfield 23, 3) := by decide +kernel
theorem dX9_share_30 : decode cX9_share 30 = .ok (.invokevirtual 215, 3) := by decide +kernel
theorem dX9_share_33 : decode cX9_share 33 = .ok (.aload_n 0, 1) := by decide +kernel
theorem dX9_share_34 : decode cX9_share 34 = .ok (.getfield 30, 3) := by decide +kernel
theorem dX9_share_37 : decode cX9_share 37 = .ok (.iload_n 1, 1) := by decide +kernel
theorem dX9_share_38 : decode cX9_share 38 = .ok (.aload_n 0, 1) := by decide +kernel
theorem dX9_share_39 : decode cX9_share 39 = .ok (.getfield 10, 3) := by decide +kernel
theorem dX9_share_42 : decode cX9_share 42 = .ok (.getfield 89, 3) := by decide +kernel
theorem dX9_share_45 : decode cX9_share 45 = .ok (.getfield 219, 3) := by decide +kernel
theorem dX9_share_48 : decode cX9_share 48 = .ok (.invokevirtual 222, 3) := by decide +kernel
theorem dX9_share_51 : decode cX9_share 51 = .ok (.lreturn, 1) := by decide +kernel
theorem dX9_ahead_0 : decode cX9_ahead 0 = .ok (.aload_n 0, 1) := by decide +kernel
theorem dX9_ahead_1 : decode cX9_ahead 1 = .ok (.getfield 10, 3) := by decide +kernel
theorem dX9_ahead_4 : decode cX9_ahead 4 = .ok (.iload_n 1, 1) := by decide +kernel
theorem dX9_ahead_5 : decode cX9_ahead 5 = .ok (.iload_n 2, 1) := by decide +kernel
theorem dX9_ahead_6 : decode cX9_ahead 6 = .ok (.iload_n 3, 1) := by decide +kernel
theorem dX9_ahead_7 : decode cX9_ahead 7 = .ok (.iload 4, 2) := by decide +kernel
theorem dX9_ahead_9 : decode cX9_ahead 9 = .ok (.iload 5, 2) := by decide +kernel
theorem dX9_ahead_11 : decode cX9_ahead 11 = .ok (.invokevirtual 71, 3) := by decide +kernel
theorem dX9_ahead_14 : decode cX9_ahead 14 = .ok (.ifCond .eq 5, 3) := by decide +kernel
theorem dX9_ahead_17 : decode cX9_ahead 17 = .ok (.iconst (-1), 1) := by decide +kernel
theorem dX9_ahead_18 : decode cX9_ahead 18 = .ok (.ireturn, 1) := by decide +kernel
theorem dX9_ahead_19 : decode cX9_ahead 19 = .ok (.aload_n 0, 1) := by decide +kernel
theorem dX9_ahead_20 : decode cX9_ahead 20 = .ok (.getfield 30, 3) := by decide +kernel
theorem dX9_ahead_23 : decode cX9_ahead 23 = .ok (.getfield 208, 3) := by decide +kernel
theorem dX9_ahead_26 : decode cX9_ahead 26 = .ok (.aload_n 0, 1) := by decide +kernel
theorem dX9_ahead_27 : decode cX9_ahead 27 = .ok (.getfield 10, 3) := by decide +kernel
theorem dX9_ahead_30 : decode cX9_ahead 30 = .ok (.getfield 79, 3) := by decide +kernel
theorem dX9_ahead_33 : decode cX9_ahead 33 = .ok (.invokevirtual 209, 3) := by decide +kernel
theorem dX9_ahead_36 : decode cX9_ahead 36 = .ok (.aload_n 0, 1) := by decide +kernel
theorem dX9_ahead_37 : decode cX9_ahead 37 = .ok (.getfield 30, 3) := by decide +kernel
theorem dX9_ahead_40 : decode cX9_ahead 40 = .ok (.getfield 208, 3) := by decide +kernel
theorem dX9_ahead_43 : decode cX9_ahead 43 = .ok (.iload_n 1, 1) := by decide +kernel
theorem dX9_ahead_44 : decode cX9_ahead 44 = .ok (.iload_n 2, 1) := by decide +kernel
theorem dX9_ahead_45 : decode cX9_ahead 45 = .ok (.iload_n 3, 1) := by decide +kernel
theorem dX9_ahead_46 : decode cX9_ahead 46 = .ok (.iload 4, 2) := by decide +kernel
theorem dX9_ahead_48 : decode cX9_ahead 48 = .ok (.iload 5, 2) := by decide +kernel
theorem dX9_ahead_50 : decode cX9_ahead 50 = .ok (.invokevirtual 83, 3) := by decide +kernel
theorem dX9_ahead_53 : decode cX9_ahead 53 = .ok (.aload_n 0, 1) := by decide +kernel
theorem dX9_ahead_54 : decode cX9_ahead 54 = .ok (.getfield 23, 3) := by decide +kernel
theorem dX9_ahead_57 : decode cX9_ahead 57 = .ok (.aload_n 0, 1) := by decide +kernel
theorem dX9_ahead_58 : decode cX9_ahead 58 = .ok (.getfield 10, 3) := by decide +kernel
theorem dX9_ahead_61 : decode cX9_ahead 61 = .ok (.aload_n 0, 1) := by decide +kernel
theorem dX9_ahead_62 : decode cX9_ahead 62 = .ok (.getfield 30, 3) := by decide +kernel
theorem dX9_ahead_65 : decode cX9_ahead 65 = .ok (.getfield 208, 3) := by decide +kernel
theorem dX9_ahead_68 : decode cX9_ahead 68 = .ok (.invokevirtual 193, 3) := by decide +kernel
theorem dX9_ahead_71 : decode cX9_ahead 71 = .ok (.ireturn, 1) := by decide +kernel
theorem dX9_site_0 : decode cX9_site 0 = .ok (.iload 4, 2) := by decide +kernel
theorem dX9_site_2 : decode cX9_site 2 = .ok (.iconst 0, 1) := by decide +kernel
theorem dX9_site_3 : decode cX9_site 3 = .ok (.iconst 2, 1) := by decide +kernel
theorem dX9_site_4 : decode cX9_site 4 = .ok (.invokestatic 102, 3) := by decide +kernel
theorem dX9_site_7 : decode cX9_site 7 = .ok (.ifCond .ne 5, 3) := by decide +kernel
theorem dX9_site_10 : decode cX9_site 10 = .ok (.iconst (-1), 1) := by decide +kernel
theorem dX9_site_11 : decode cX9_site 11 = .ok (.ireturn, 1) := by decide +kernel
theorem dX9_site_12 : decode cX9_site 12 = .ok (.aload_n 0, 1) := by decide +kernel
theorem dX9_site_13 : decode cX9_site 13 = .ok (.getfield 30, 3) := by decide +kernel
theorem dX9_site_16 : decode cX9_site 16 = .ok (.aload_n 0, 1) := by decide +kernel
theorem dX9_site_17 : decode cX9_site 17 = .ok (.getfield 10, 3) := by decide +kernel
theorem dX9_site_20 : decode cX9_site 20 = .ok (.aload_n 0, 1) := by decide +kernel
theorem dX9_site_21 : decode cX9_site 21 = .ok (.getfield 23, 3) := by decide +kernel
theorem dX9_site_24 : decode cX9_site 24 = .ok (.iload_n 1, 1) := by decide +kernel
theorem dX9_site_25 : decode cX9_site 25 = .ok (.iload_n 2, 1) := by decide +kernel
theorem dX9_site_26 : decode cX9_site 26 = .ok (.iload_n 3, 1) := by decide +kernel
theorem dX9_site_27 : decode cX9_site 27 = .ok (.invokevirtual 226, 3) := by decide +kernel
theorem dX9_site_30 : decode cX9_site 30 = .ok (.iload 4, 2) := by decide +kernel
theorem dX9_site_32 : decode cX9_site 32 = .ok (.iconst 2, 1) := by decide +kernel
theorem dX9_site_33 : decode cX9_site 33 = .ok (.if_icmp .ne 11, 3) := by decide +kernel
theorem dX9_site_36 : decode cX9_site 36 = .ok (.aload_n 0, 1) := by decide +kernel
theorem dX9_site_37 : decode cX9_site 37 = .ok (.getfield 30, 3) := by decide +kernel
theorem dX9_site_40 : decode cX9_site 40 = .ok (.getfield 230, 3) := by decide +kernel
theorem dX9_site_43 : decode cX9_site 43 = .ok (.ireturn, 1) := by decide +kernel
theorem dX9_site_44 : decode cX9_site 44 = .ok (.iload 4, 2) := by decide +kernel
theorem dX9_site_46 : decode cX9_site 46 = .ok (.ifCond .ne 13, 3) := by decide +kernel
theorem dX9_site_49 : decode cX9_site 49 = .ok (.aload_n 0, 1) := by decide +kernel
theorem dX9_site_50 : decode cX9_site 50 = .ok (.getfield 30, 3) := by decide +kernel
theorem dX9_site_53 : decode cX9_site 53 = .ok (.getfield 233, 3) := by decide +kernel
theorem dX9_site_56 : decode cX9_site 56 = .ok (.goto 10, 3) := by decide +kernel
theorem dX9_site_59 : decode cX9_site 59 = .ok (.aload_n 0, 1) := by decide +kernel
theorem dX9_site_60 : decode cX9_site 60 = .ok (.getfield 30, 3) := by decide +kernel
theorem dX9_site_63 : decode cX9_site 63 = .ok (.getfield 236, 3) := by decide +kernel
theorem dX9_site_66 : decode cX9_site 66 = .ok (.ireturn, 1) := by decide +kernel
theorem dX9_curve_0 : decode cX9_curve 0 = .ok (.aload_n 0, 1) := by decide +kernel
theorem dX9_curve_1 : decode cX9_curve 1 = .ok (.getfield 10, 3) := by decide +kernel
theorem dX9_curve_4 : decode cX9_curve 4 = .ok (.iload_n 1, 1) := by decide +kernel
theorem dX9_curve_5 : decode cX9_curve 5 = .ok (.invokevirtual 124, 3) := by decide +kernel
theorem dX9_curve_8 : decode cX9_curve 8 = .ok (.ifCond .eq 30, 3) := by decide +kernel
theorem dX9_curve_11 : decode cX9_curve 11 = .ok (.iload_n 2, 1) := by decide +kernel
theorem dX9_curve_12 : decode cX9_curve 12 = .ok (.invokestatic 140, 3) := by decide +kernel
theorem dX9_curve_15 : decode cX9_curve 15 = .ok (.ifCond .eq 23, 3) := by decide +kernel
theorem dX9_curve_18 : decode cX9_curve 18 = .ok (.iload_n 3, 1) := by decide +kernel
theorem dX9_curve_19 : decode cX9_curve 19 = .ok (.iconst 0, 1) := by decide +kernel
theorem dX9_curve_20 : decode cX9_curve 20 = .ok (.bipush 9, 2) := by decide +kernel
theorem dX9_curve_22 : decode cX9_curve 22 = .ok (.invokestatic 102, 3) := by decide +kernel
theorem dX9_curve_25 : decode cX9_curve 25 = .ok (.ifCond .eq 13, 3) := by decide +kernel
theorem dX9_curve_28 : decode cX9_curve 28 = .ok (.iload 4, 2) := by decide +kernel
theorem dX9_curve_30 : decode cX9_curve 30 = .ok (.iconst 1, 1) := by decide +kernel
theorem dX9_curve_31 : decode cX9_curve 31 = .ok (.iconst 5, 1) := by decide +kernel
theorem dX9_curve_32 : decode cX9_curve 32 = .ok (.invokestatic 102, 3) := by decide +kernel
theorem dX9_curve_35 : decode cX9_curve 35 = .ok (.ifCond .ne 5, 3) := by decide +kernel
theorem dX9_curve_38 : decode cX9_curve 38 = .ok (.iconst (-1), 1) := by decide +kernel
theorem dX9_curve_39 : decode cX9_curve 39 = .ok (.ireturn, 1) := by decide +kernel
theorem dX9_curve_40 : decode cX9_curve 40 = .ok (.iload_n 1, 1) := by decide +kernel
theorem dX9_curve_41 : decode cX9_curve 41 = .ok (.bipush 10, 2) := by decide +kernel
theorem dX9_curve_43 : decode cX9_curve 43 = .ok (.irem, 1) := by decide +kernel
theorem dX9_curve_44 : decode cX9_curve 44 = .ok (.iload 4, 2) := by decide +kernel
theorem dX9_curve_46 : decode cX9_curve 46 = .ok (.iload_n 2, 1) := by decide +kernel
theorem dX9_curve_47 : decode cX9_curve 47 = .ok (.invokestatic 239, 3) := by decide +kernel
theorem dX9_curve_50 : decode cX9_curve 50 = .ok (.imul, 1) := by decide +kernel
theorem dX9_curve_51 : decode cX9_curve 51 = .ok (.isub, 1) := by decide +kernel
theorem dX9_curve_52 : decode cX9_curve 52 = .ok (.istore 5, 2) := by decide +kernel
theorem dX9_curve_54 : decode cX9_curve 54 = .ok (.iload_n 1, 1) := by decide +kernel
theorem dX9_curve_55 : decode cX9_curve 55 = .ok (.bipush 10, 2) := by decide +kernel
theorem dX9_curve_57 : decode cX9_curve 57 = .ok (.idiv, 1) := by decide +kernel
theorem dX9_curve_58 : decode cX9_curve 58 = .ok (.iload 4, 2) := by decide +kernel
theorem dX9_curve_60 : decode cX9_curve 60 = .ok (.iload_n 2, 1) := by decide +kernel
theorem dX9_curve_61 : decode cX9_curve 61 = .ok (.invokestatic 242, 3) := by decide +kernel
theorem dX9_curve_64 : decode cX9_curve 64 = .ok (.imul, 1) := by decide +kernel
theorem dX9_curve_65 : decode cX9_curve 65 = .ok (.isub, 1) := by decide +kernel
theorem dX9_curve_66 : decode cX9_curve 66 = .ok (.istore 6, 2) := by decide +kernel
theorem dX9_curve_68 : decode cX9_curve 68 = .ok (.iload 5, 2) := by decide +kernel
theorem dX9_curve_70 : decode cX9_curve 70 = .ok (.invokestatic 245, 3) := by decide +kernel
theorem dX9_curve_73 : decode cX9_curve 73 = .ok (.ifCond .eq 29, 3) := by decide +kernel
theorem dX9_curve_76 : decode cX9_curve 76 = .ok (.iload 6, 2) := by decide +kernel
theorem dX9_curve_78 : decode cX9_curve 78 = .ok (.invokestatic 245, 3) := by decide +kernel
theorem dX9_curve_81 : decode cX9_curve 81 = .ok (.ifCond .eq 21, 3) := by decide +kernel
theorem dX9_curve_84 : decode cX9_curve 84 = .ok (.aload_n 0, 1) := by decide +kernel
theorem dX9_curve_85 : decode cX9_curve 85 = .ok (.getfield 10, 3) := by decide +kernel
theorem dX9_curve_88 : decode cX9_curve 88 = .ok (.iload 6, 2) := by decide +kernel
theorem dX9_curve_90 : decode cX9_curve 90 = .ok (.bipush 10, 2) := by decide +kernel
theorem dX9_curve_92 : decode cX9_curve 92 = .ok (.imul, 1) := by decide +kernel
theorem dX9_curve_93 : decode cX9_curve 93 = .ok (.iload 5, 2) := by decide +kernel
theorem dX9_curve_95 : decode cX9_curve 95 = .ok (.iadd, 1) := by decide +kernel
theorem dX9_curve_96 : decode cX9_curve 96 = .ok (.invokevirtual 124, 3) := by decide +kernel
theorem dX9_curve_99 : decode cX9_curve 99 = .ok (.ifCond .ne 5, 3) := by decide +kernel
theorem dX9_curve_102 : decode cX9_curve 102 = .ok (.iconst (-1), 1) := by decide +kernel
theorem dX9_curve_103 : decode cX9_curve 103 = .ok (.ireturn, 1) := by decide +kernel
theorem dX9_curve_104 : decode cX9_curve 104 = .ok (.aload_n 0, 1) := by decide +kernel
theorem dX9_curve_105 : decode cX9_curve 105 = .ok (.getfield 30, 3) := by decide +kernel
theorem dX9_curve_108 : decode cX9_curve 108 = .ok (.getfield 208, 3) := by decide +kernel
theorem dX9_curve_111 : decode cX9_curve 111 = .ok (.aload_n 0, 1) := by decide +kernel
theorem dX9_curve_112 : decode cX9_curve 112 = .ok (.getfield 10, 3) := by decide +kernel
theorem dX9_curve_115 : decode cX9_curve 115 = .ok (.getfield 79, 3) := by decide +kernel
theorem dX9_curve_118 : decode cX9_curve 118 = .ok (.invokevirtual 209, 3) := by decide +kernel
theorem dX9_curve_121 : decode cX9_curve 121 = .ok (.aload_n 0, 1) := by decide +kernel
theorem dX9_curve_122 : decode cX9_curve 122 = .ok (.getfield 30, 3) := by decide +kernel
theorem dX9_curve_125 : decode cX9_curve 125 = .ok (.getfield 208, 3) := by decide +kernel
theorem dX9_curve_128 : decode cX9_curve 128 = .ok (.getfield 248, 3) := by decide +kernel
theorem dX9_curve_131 : decode cX9_curve 131 = .ok (.iload_n 1, 1) := by decide +kernel
theorem dX9_curve_132 : decode cX9_curve 132 = .ok (.invokestatic 131, 3) := by decide +kernel
theorem dX9_curve_135 : decode cX9_curve 135 = .ok (.iload_n 3, 1) := by decide +kernel
theorem dX9_curve_136 : decode cX9_curve 136 = .ok (.iastore, 1) := by decide +kernel
theorem dX9_curve_137 : decode cX9_curve 137 = .ok (.aload_n 0, 1) := by decide +kernel
theorem dX9_curve_138 : decode cX9_curve 138 = .ok (.getfield 23, 3) := by decide +kernel
theorem dX9_curve_141 : decode cX9_curve 141 = .ok (.aload_n 0, 1) := by decide +kernel
theorem dX9_curve_142 : decode cX9_curve 142 = .ok (.getfield 10, 3) := by decide +kernel
theorem dX9_curve_145 : decode cX9_curve 145 = .ok (.aload_n 0, 1) := by decide +kernel
theorem dX9_curve_146 : decode cX9_curve 146 = .ok (.getfield 30, 3) := by decide +kernel
theorem dX9_curve_149 : decode cX9_curve 149 = .ok (.getfield 208, 3) := by decide +kernel
theorem dX9_curve_152 : decode cX9_curve 152 = .ok (.iload 5, 2) := by decide +kernel
theorem dX9_curve_154 : decode cX9_curve 154 = .ok (.iload 6, 2) := by decide +kernel
theorem dX9_curve_156 : decode cX9_curve 156 = .ok (.invokestatic 251, 3) := by decide +kernel
theorem dX9_curve_159 : decode cX9_curve 159 = .ok (.iload_n 2, 1) := by decide +kernel
theorem dX9_curve_160 : decode cX9_curve 160 = .ok (.invokevirtual 179, 3) := by decide +kernel
theorem dX9_curve_163 : decode cX9_curve 163 = .ok (.ireturn, 1) := by decide +kernel
theorem dX9_seat_0 : decode cX9_seat 0 = .ok (.iload_n 1, 1) := by decide +kernel
theorem dX9_seat_1 : decode cX9_seat 1 = .ok (.iconst 1, 1) := by decide +kernel
theorem dX9_seat_2 : decode cX9_seat 2 = .ok (.iconst 3, 1) := by decide +kernel
theorem dX9_seat_3 : decode cX9_seat 3 = .ok (.invokestatic 102, 3) := by decide +kernel
theorem dX9_seat_6 : decode cX9_seat 6 = .ok (.ifCond .ne 5, 3) := by decide +kernel
theorem dX9_seat_9 : decode cX9_seat 9 = .ok (.iconst (-1), 1) := by decide +kernel
theorem dX9_seat_10 : decode cX9_seat 10 = .ok (.ireturn, 1) := by decide +kernel
theorem dX9_seat_11 : decode cX9_seat 11 = .ok (.iconst 0, 1) := by decide +kernel
theorem dX9_seat_12 : decode cX9_seat 12 = .ok (.istore_n 3, 1) := by decide +kernel
theorem dX9_seat_13 : decode cX9_seat 13 = .ok (.iload_n 3, 1) := by decide +kernel
theorem dX9_seat_14 : decode cX9_seat 14 = .ok (.bipush 100, 2) := by decide +kernel
theorem dX9_seat_16 : decode cX9_seat 16 = .ok (.if_icmp .ge 95, 3) := by decide +kernel
theorem dX9_seat_19 : decode cX9_seat 19 = .ok (.iload_n 3, 1) := by decide +kernel
theorem dX9_seat_20 : decode cX9_seat 20 = .ok (.invokestatic 131, 3) := by decide +kernel
theorem dX9_seat_23 : decode cX9_seat 23 = .ok (.istore 4, 2) := by decide +kernel
theorem dX9_seat_25 : decode cX9_seat 25 = .ok (.aload_n 0, 1) := by decide +kernel
theorem dX9_seat_26 : decode cX9_seat 26 = .ok (.getfield 10, 3) := by decide +kernel
theorem dX9_seat_29 : decode cX9_seat 29 = .ok (.iload_n 3, 1) := by decide +kernel
theorem dX9_seat_30 : decode cX9_seat 30 = .ok (.invokevirtual 124, 3) := by decide +kernel
theorem dX9_seat_33 : decode cX9_seat 33 = .ok (.ifCond .eq 23, 3) := by decide +kernel
theorem dX9_seat_36 : decode cX9_seat 36 = .ok (.aload_n 0, 1) := by decide +kernel
theorem dX9_seat_37 : decode cX9_seat 37 = .ok (.getfield 10, 3) := by decide +kernel
theorem dX9_seat_40 : decode cX9_seat 40 = .ok (.getfield 79, 3) := by decide +kernel
theorem dX9_seat_43 : decode cX9_seat 43 = .ok (.getfield 254, 3) := by decide +kernel
theorem dX9_seat_46 : decode cX9_seat 46 = .ok (.iload 4, 2) := by decide +kernel
theorem dX9_seat_48 : decode cX9_seat 48 = .ok (.iaload, 1) := by decide +kernel
theorem dX9_seat_49 : decode cX9_seat 49 = .ok (.ifCond .ne 7, 3) := by decide +kernel
theorem dX9_seat_52 : decode cX9_seat 52 = .ok (.iconst 1, 1) := by decide +kernel
theorem dX9_seat_53 : decode cX9_seat 53 = .ok (.goto 4, 3) := by decide +kernel
theorem dX9_seat_56 : decode cX9_seat 56 = .ok (.iconst 0, 1) := by decide +kernel
theorem dX9_seat_57 : decode cX9_seat 57 = .ok (.istore 5, 2) := by decide +kernel
theorem dX9_seat_59 : decode cX9_seat 59 = .ok (.aload_n 0, 1) := by decide +kernel
theorem dX9_seat_60 : decode cX9_seat 60 = .ok (.getfield 41, 3) := by decide +kernel
theorem dX9_seat_63 : decode cX9_seat 63 = .ok (.iload_n 3, 1) := by decide +kernel
theorem dX9_seat_64 : decode cX9_seat 64 = .ok (.iload 5, 2) := by decide +kernel
theorem dX9_seat_66 : decode cX9_seat 66 = .ok (.ifCond .ne 8, 3) := by decide +kernel
theorem dX9_seat_69 : decode cX9_seat 69 = .ok (.ldc 200, 2) := by decide +kernel
theorem dX9_seat_71 : decode cX9_seat 71 = .ok (.goto 33, 3) := by decide +kernel
theorem dX9_seat_74 : decode cX9_seat 74 = .ok (.aload_n 0, 1) := by decide +kernel
theorem dX9_seat_75 : decode cX9_seat 75 = .ok (.getfield 23, 3) := by decide +kernel
theorem dX9_seat_78 : decode cX9_seat 78 = .ok (.aload_n 0, 1) := by decide +kernel
theorem dX9_seat_79 : decode cX9_seat 79 = .ok (.getfield 10, 3) := by decide +kernel
theorem dX9_seat_82 : decode cX9_seat 82 = .ok (.aload_n 0, 1) := by decide +kernel
theorem dX9_seat_83 : decode cX9_seat 83 = .ok (.getfield 10, 3) := by decide +kernel
theorem dX9_seat_86 : decode cX9_seat 86 = .ok (.getfield 79, 3) := by decide +kernel
theorem dX9_seat_89 : decode cX9_seat 89 = .ok (.iload 4, 2) := by decide +kernel
theorem dX9_seat_91 : decode cX9_seat 91 = .ok (.aload_n 0, 1) := by decide +kernel
theorem dX9_seat_92 : decode cX9_seat 92 = .ok (.getfield 10, 3) := by decide +kernel
theorem dX9_seat_95 : decode cX9_seat 95 = .ok (.getfield 134, 3) := by decide +kernel
theorem dX9_seat_98 : decode cX9_seat 98 = .ok (.iload_n 1, 1) := by decide +kernel
theorem dX9_seat_99 : decode cX9_seat 99 = .ok (.iaload, 1) := by decide +kernel
theorem dX9_seat_100 : decode cX9_seat 100 = .ok (.invokevirtual 190, 3) := by decide +kernel
theorem dX9_seat_103 : decode cX9_seat 103 = .ok (.ineg, 1) := by decide +kernel
theorem dX9_seat_104 : decode cX9_seat 104 = .ok (.iastore, 1) := by decide +kernel
theorem dX9_seat_105 : decode cX9_seat 105 = .ok (.iinc 3 1, 3) := by decide +kernel
theorem dX9_seat_108 : decode cX9_seat 108 = .ok (.goto (-95), 3) := by decide +kernel
theorem dX9_seat_111 : decode cX9_seat 111 = .ok (.aload_n 0, 1) := by decide +kernel
theorem dX9_seat_112 : decode cX9_seat 112 = .ok (.iload_n 2, 1) := by decide +kernel
theorem dX9_seat_113 : decode cX9_seat 113 = .ok (.invokevirtual 201, 3) := by decide +kernel
theorem dX9_seat_116 : decode cX9_seat 116 = .ok (.ireturn, 1) := by decide +kernel
theorem dX9_work_0 : decode cX9_work 0 = .ok (.aload_n 0, 1) := by decide +kernel
theorem dX9_work_1 : decode cX9_work 1 = .ok (.getfield 10, 3) := by decide +kernel
theorem dX9_work_4 : decode cX9_work 4 = .ok (.iload_n 1, 1) := by decide +kernel
theorem dX9_work_5 : decode cX9_work 5 = .ok (.iload_n 2, 1) := by decide +kernel
theorem dX9_work_6 : decode cX9_work 6 = .ok (.iload_n 3, 1) := by decide +kernel
theorem dX9_work_7 : decode cX9_work 7 = .ok (.iload 4, 2) := by decide +kernel
theorem dX9_work_9 : decode cX9_work 9 = .ok (.invokevirtual 257, 3) := by decide +kernel
theorem dX9_work_12 : decode cX9_work 12 = .ok (.istore 5, 2) := by decide +kernel
theorem dX9_work_14 : decode cX9_work 14 = .ok (.iload 5, 2) := by decide +kernel
theorem dX9_work_16 : decode cX9_work 16 = .ok (.ifCond .eq 12, 3) := by decide +kernel
theorem dX9_work_19 : decode cX9_work 19 = .ok (.aload_n 0, 1) := by decide +kernel
theorem dX9_work_20 : decode cX9_work 20 = .ok (.iload 5, 2) := by decide +kernel
theorem dX9_work_22 : decode cX9_work 22 = .ok (.invokevirtual 75, 3) := by decide +kernel
theorem dX9_work_25 : decode cX9_work 25 = .ok (.goto 22, 3) := by decide +kernel
theorem dX9_work_28 : decode cX9_work 28 = .ok (.aload_n 0, 1) := by decide +kernel
theorem dX9_work_29 : decode cX9_work 29 = .ok (.aload_n 0, 1) := by decide +kernel
theorem dX9_work_30 : decode cX9_work 30 = .ok (.getfield 10, 3) := by decide +kernel
theorem dX9_work_33 : decode cX9_work 33 = .ok (.getfield 260, 3) := by decide +kernel
theorem dX9_work_36 : decode cX9_work 36 = .ok (.iload_n 1, 1) := by decide +kernel
theorem dX9_work_37 : decode cX9_work 37 = .ok (.iload_n 2, 1) := by decide +kernel
theorem dX9_work_38 : decode cX9_work 38 = .ok (.iload_n 3, 1) := by decide +kernel
theorem dX9_work_39 : decode cX9_work 39 = .ok (.iload 4, 2) := by decide +kernel
theorem dX9_work_41 : decode cX9_work 41 = .ok (.invokevirtual 264, 3) := by decide +kernel
theorem dX9_work_44 : decode cX9_work 44 = .ok (.invokevirtual 99, 3) := by decide +kernel
theorem dX9_work_47 : decode cX9_work 47 = .ok (.ireturn, 1) := by decide +kernel
theorem dX9_drop_0 : decode cX9_drop 0 = .ok (.iload_n 1, 1) := by decide +kernel
theorem dX9_drop_1 : decode cX9_drop 1 = .ok (.iconst 0, 1) := by decide +kernel
theorem dX9_drop_2 : decode cX9_drop 2 = .ok (.aload_n 0, 1) := by decide +kernel
theorem dX9_drop_3 : decode cX9_drop 3 = .ok (.getfield 10, 3) := by decide +kernel
theorem dX9_drop_6 : decode cX9_drop 6 = .ok (.getfield 260, 3) := by decide +kernel
theorem dX9_drop_9 : decode cX9_drop 9 = .ok (.getfield 267, 3) := by decide +kernel
theorem dX9_drop_12 : decode cX9_drop 12 = .ok (.iconst 1, 1) := by decide +kernel
theorem dX9_drop_13 : decode cX9_drop 13 = .ok (.isub, 1) := by decide +kernel
theorem dX9_drop_14 : decode cX9_drop 14 = .ok (.invokestatic 102, 3) := by decide +kernel
theorem dX9_drop_17 : decode cX9_drop 17 = .ok (.ifCond .ne 10, 3) := by decide +kernel
theorem dX9_drop_20 : decode cX9_drop 20 = .ok (.aload_n 0, 1) := by decide +kernel
theorem dX9_drop_21 : decode cX9_drop 21 = .ok (.bipush (-2), 2) := by decide +kernel
theorem dX9_drop_23 : decode cX9_drop 23 = .ok (.invokevirtual 75, 3) := by decide +kernel
theorem dX9_drop_26 : decode cX9_drop 26 = .ok (.ireturn, 1) := by decide +kernel
theorem dX9_drop_27 : decode cX9_drop 27 = .ok (.aload_n 0, 1) := by decide +kernel
theorem dX9_drop_28 : decode cX9_drop 28 = .ok (.getfield 10, 3) := by decide +kernel
theorem dX9_drop_31 : decode cX9_drop 31 = .ok (.getfield 260, 3) := by decide +kernel
theorem dX9_drop_34 : decode cX9_drop 34 = .ok (.iload_n 1, 1) := by decide +kernel
theorem dX9_drop_35 : decode cX9_drop 35 = .ok (.invokevirtual 268, 3) := by decide +kernel
theorem dX9_drop_38 : decode cX9_drop 38 = .ok (.aload_n 0, 1) := by decide +kernel
theorem dX9_drop_39 : decode cX9_drop 39 = .ok (.aload_n 0, 1) := by decide +kernel
theorem dX9_drop_40 : decode cX9_drop 40 = .ok (.getfield 10, 3) := by decide +kernel
theorem dX9_drop_43 : decode cX9_drop 43 = .ok (.getfield 260, 3) := by decide +kernel
theorem dX9_drop_46 : decode cX9_drop 46 = .ok (.getfield 267, 3) := by decide +kernel
theorem dX9_drop_49 : decode cX9_drop 49 = .ok (.invokevirtual 99, 3) := by decide +kernel
theorem dX9_drop_52 : decode cX9_drop 52 = .ok (.ireturn, 1) := by decide +kernel
theorem dX9_done_0 : decode cX9_done 0 = .ok (.aload_n 0, 1) := by decide +kernel
theorem dX9_done_1 : decode cX9_done 1 = .ok (.getfield 10, 3) := by decide +kernel
theorem dX9_done_4 : decode cX9_done 4 = .ok (.getfield 260, 3) := by decide +kernel
theorem dX9_done_7 : decode cX9_done 7 = .ok (.iload_n 1, 1) := by decide +kernel
theorem dX9_done_8 : decode cX9_done 8 = .ok (.invokevirtual 271, 3) := by decide +kernel
theorem dX9_done_11 : decode cX9_done 11 = .ok (.ifCond .eq 12, 3) := by decide +kernel
theorem dX9_done_14 : decode cX9_done 14 = .ok (.iload_n 2, 1) := by decide +kernel
theorem dX9_done_15 : decode cX9_done 15 = .ok (.iconst 0, 1) := by decide +kernel
theorem dX9_done_16 : decode cX9_done 16 = .ok (.iconst 3, 1) := by decide +kernel
theorem dX9_done_17 : decode cX9_done 17 = .ok (.invokestatic 102, 3) := by decide +kernel
theorem dX9_done_20 : decode cX9_done 20 = .ok (.ifCond .ne 5, 3) := by decide +kernel
theorem dX9_done_23 : decode cX9_done 23 = .ok (.iconst (-1), 1) := by decide +kernel
theorem dX9_done_24 : decode cX9_done 24 = .ok (.ireturn, 1) := by decide +kernel
theorem dX9_done_25 : decode cX9_done 25 = .ok (.iload_n 2, 1) := by decide +kernel
theorem dX9_done_26 : decode cX9_done 26 = .ok (.iconst 3, 1) := by decide +kernel
theorem dX9_done_27 : decode cX9_done 27 = .ok (.if_icmp .ne 15, 3) := by decide +kernel
theorem dX9_done_30 : decode cX9_done 30 = .ok (.aload_n 0, 1) := by decide +kernel
theorem dX9_done_31 : decode cX9_done 31 = .ok (.getfield 10, 3) := by decide +kernel
theorem dX9_done_34 : decode cX9_done 34 = .ok (.getfield 260, 3) := by decide +kernel
theorem dX9_done_37 : decode cX9_done 37 = .ok (.iload_n 1, 1) := by decide +kernel
theorem dX9_done_38 : decode cX9_done 38 = .ok (.invokevirtual 274, 3) := by decide +kernel
theorem dX9_done_41 : decode cX9_done 41 = .ok (.ireturn, 1) := by decide +kernel
theorem dX9_done_42 : decode cX9_done 42 = .ok (.aload_n 0, 1) := by decide +kernel
theorem dX9_done_43 : decode cX9_done 43 = .ok (.getfield 30, 3) := by decide +kernel
theorem dX9_done_46 : decode cX9_done 46 = .ok (.aload_n 0, 1) := by decide +kernel
theorem dX9_done_47 : decode cX9_done 47 = .ok (.getfield 10, 3) := by decide +kernel
theorem dX9_done_50 : decode cX9_done 50 = .ok (.iload_n 1, 1) := by decide +kernel
theorem dX9_done_51 : decode cX9_done 51 = .ok (.invokevirtual 277, 3) := by decide +kernel
theorem dX9_done_54 : decode cX9_done 54 = .ok (.iload_n 2, 1) := by decide +kernel
theorem dX9_done_55 : decode cX9_done 55 = .ok (.ifCond .ne 22, 3) := by decide +kernel
theorem dX9_done_58 : decode cX9_done 58 = .ok (.aload_n 0, 1) := by decide +kernel
theorem dX9_done_59 : decode cX9_done 59 = .ok (.getfield 23, 3) := by decide +kernel
theorem dX9_done_62 : decode cX9_done 62 = .ok (.aload_n 0, 1) := by decide +kernel
theorem dX9_done_63 : decode cX9_done 63 = .ok (.getfield 10, 3) := by decide +kernel
theorem dX9_done_66 : decode cX9_done 66 = .ok (.aload_n 0, 1) := by decide +kernel
theorem dX9_done_67 : decode cX9_done 67 = .ok (.getfield 30, 3) := by decide +kernel
theorem dX9_done_70 : decode cX9_done 70 = .ok (.getfield 208, 3) := by decide +kernel
theorem dX9_done_73 : decode cX9_done 73 = .ok (.invokevirtual 193, 3) := by decide +kernel
theorem dX9_done_76 : decode cX9_done 76 = .ok (.ireturn, 1) := by decide +kernel
theorem dX9_done_77 : decode cX9_done 77 = .ok (.iload_n 2, 1) := by decide +kernel
theorem dX9_done_78 : decode cX9_done 78 = .ok (.iconst 1, 1) := by decide +kernel
theorem dX9_done_79 : decode cX9_done 79 = .ok (.if_icmp .ne 21, 3) := by decide +kernel
theorem dX9_done_82 : decode cX9_done 82 = .ok (.aload_n 0, 1) := by decide +kernel
theorem dX9_done_83 : decode cX9_done 83 = .ok (.getfield 30, 3) := by decide +kernel
theorem dX9_done_86 : decode cX9_done 86 = .ok (.aload_n 0, 1) := by decide +kernel
theorem dX9_done_87 : decode cX9_done 87 = .ok (.getfield 10, 3) := by decide +kernel
theorem dX9_done_90 : decode cX9_done 90 = .ok (.aload_n 0, 1) := by decide +kernel
theorem dX9_done_91 : decode cX9_done 91 = .ok (.getfield 23, 3) := by decide +kernel
theorem dX9_done_94 : decode cX9_done 94 = .ok (.invokevirtual 281, 3) := by decide +kernel
theorem dX9_done_97 : decode cX9_done 97 = .ok (.goto 18, 3) := by decide +kernel
theorem dX9_done_100 : decode cX9_done 100 = .ok (.aload_n 0, 1) := by decide +kernel
theorem dX9_done_101 : decode cX9_done 101 = .ok (.getfield 30, 3) := by decide +kernel
theorem dX9_done_104 : decode cX9_done 104 = .ok (.aload_n 0, 1) := by decide +kernel
theorem dX9_done_105 : decode cX9_done 105 = .ok (.getfield 10, 3) := by decide +kernel
theorem dX9_done_108 : decode cX9_done 108 = .ok (.aload_n 0, 1) := by decide +kernel
theorem dX9_done_109 : decode cX9_done 109 = .ok (.getfield 23, 3) := by decide +kernel
theorem dX9_done_112 : decode cX9_done 112 = .ok (.invokevirtual 285, 3) := by decide +kernel
theorem dX9_done_115 : decode cX9_done 115 = .ok (.ireturn, 1) := by decide +kernel
theorem dX9_least_0 : decode cX9_least 0 = .ok (.iload_n 1, 1) := by decide +kernel
theorem dX9_least_1 : decode cX9_least 1 = .ok (.iconst 0, 1) := by decide +kernel
theorem dX9_least_2 : decode cX9_least 2 = .ok (.iconst 2, 1) := by decide +kernel
theorem dX9_least_3 : decode cX9_least 3 = .ok (.invokestatic 102, 3) := by decide +kernel
theorem dX9_least_6 : decode cX9_least 6 = .ok (.ifCond .ne 5, 3) := by decide +kernel
theorem dX9_least_9 : decode cX9_least 9 = .ok (.iconst (-1), 1) := by decide +kernel
theorem dX9_least_10 : decode cX9_least 10 = .ok (.ireturn, 1) := by decide +kernel
theorem dX9_least_11 : decode cX9_least 11 = .ok (.aload_n 0, 1) := by decide +kernel
theorem dX9_least_12 : decode cX9_least 12 = .ok (.getfield 30, 3) := by decide +kernel
theorem dX9_least_15 : decode cX9_least 15 = .ok (.aload_n 0, 1) := by decide +kernel
theorem dX9_least_16 : decode cX9_least 16 = .ok (.getfield 10, 3) := by decide +kernel
theorem dX9_least_19 : decode cX9_least 19 = .ok (.aload_n 0, 1) := by decide +kernel
theorem dX9_least_20 : decode cX9_least 20 = .ok (.getfield 23, 3) := by decide +kernel
theorem dX9_least_23 : decode cX9_least 23 = .ok (.invokevirtual 288, 3) := by decide +kernel
theorem dX9_least_26 : decode cX9_least 26 = .ok (.iload_n 1, 1) := by decide +kernel
theorem dX9_least_27 : decode cX9_least 27 = .ok (.iconst 1, 1) := by decide +kernel
theorem dX9_least_28 : decode cX9_least 28 = .ok (.if_icmp .ne 11, 3) := by decide +kernel
theorem dX9_least_31 : decode cX9_least 31 = .ok (.aload_n 0, 1) := by decide +kernel
theorem dX9_least_32 : decode cX9_least 32 = .ok (.getfield 30, 3) := by decide +kernel
theorem dX9_least_35 : decode cX9_least 35 = .ok (.getfield 291, 3) := by decide +kernel
theorem dX9_least_38 : decode cX9_least 38 = .ok (.ireturn, 1) := by decide +kernel
theorem dX9_least_39 : decode cX9_least 39 = .ok (.iload_n 1, 1) := by decide +kernel
theorem dX9_least_40 : decode cX9_least 40 = .ok (.ifCond .ne 13, 3) := by decide +kernel
theorem dX9_least_43 : decode cX9_least 43 = .ok (.aload_n 0, 1) := by decide +kernel
theorem dX9_least_44 : decode cX9_least 44 = .ok (.getfield 30, 3) := by decide +kernel
theorem dX9_least_47 : decode cX9_least 47 = .ok (.getfield 294, 3) := by decide +kernel
theorem dX9_least_50 : decode cX9_least 50 = .ok (.goto 10, 3) := by decide +kernel
theorem dX9_least_53 : decode cX9_least 53 = .ok (.aload_n 0, 1) := by decide +kernel
theorem dX9_least_54 : decode cX9_least 54 = .ok (.getfield 30, 3) := by decide +kernel
theorem dX9_least_57 : decode cX9_least 57 = .ok (.getfield 297, 3) := by decide +kernel
theorem dX9_least_60 : decode cX9_least 60 = .ok (.ireturn, 1) := by decide +kernel
theorem dX9_build_0 : decode cX9_build 0 = .ok (.aload_n 0, 1) := by decide +kernel
theorem dX9_build_1 : decode cX9_build 1 = .ok (.getfield 10, 3) := by decide +kernel
theorem dX9_build_4 : decode cX9_build 4 = .ok (.getfield 260, 3) := by decide +kernel
theorem dX9_build_7 : decode cX9_build 7 = .ok (.iload_n 1, 1) := by decide +kernel
theorem dX9_build_8 : decode cX9_build 8 = .ok (.invokevirtual 271, 3) := by decide +kernel
theorem dX9_build_11 : decode cX9_build 11 = .ok (.ifCond .ne 9, 3) := by decide +kernel
theorem dX9_build_14 : decode cX9_build 14 = .ok (.aload_n 0, 1) := by decide +kernel
theorem dX9_build_15 : decode cX9_build 15 = .ok (.iconst (-1), 1) := by decide +kernel
theorem dX9_build_16 : decode cX9_build 16 = .ok (.invokevirtual 75, 3) := by decide +kernel
theorem dX9_build_19 : decode cX9_build 19 = .ok (.ireturn, 1) := by decide +kernel
theorem dX9_build_20 : decode cX9_build 20 = .ok (.iconst 0, 1) := by decide +kernel
theorem dX9_build_21 : decode cX9_build 21 = .ok (.istore_n 2, 1) := by decide +kernel
theorem dX9_build_22 : decode cX9_build 22 = .ok (.iload_n 2, 1) := by decide +kernel
theorem dX9_build_23 : decode cX9_build 23 = .ok (.aload_n 0, 1) := by decide +kernel
theorem dX9_build_24 : decode cX9_build 24 = .ok (.getfield 10, 3) := by decide +kernel
theorem dX9_build_27 : decode cX9_build 27 = .ok (.getfield 260, 3) := by decide +kernel
theorem dX9_build_30 : decode cX9_build 30 = .ok (.getfield 267, 3) := by decide +kernel
theorem dX9_build_33 : decode cX9_build 33 = .ok (.if_icmp .ge 33, 3) := by decide +kernel
theorem dX9_build_36 : decode cX9_build 36 = .ok (.iload_n 1, 1) := by decide +kernel
theorem dX9_build_37 : decode cX9_build 37 = .ok (.iload_n 2, 1) := by decide +kernel
theorem dX9_build_38 : decode cX9_build 38 = .ok (.ishr, 1) := by decide +kernel
theorem dX9_build_39 : decode cX9_build 39 = .ok (.iconst 1, 1) := by decide +kernel
theorem dX9_build_40 : decode cX9_build 40 = .ok (.iand, 1) := by decide +kernel
theorem dX9_build_41 : decode cX9_build 41 = .ok (.iconst 1, 1) := by decide +kernel
theorem dX9_build_42 : decode cX9_build 42 = .ok (.if_icmp .ne 18, 3) := by decide +kernel
theorem dX9_build_45 : decode cX9_build 45 = .ok (.aload_n 0, 1) := by decide +kernel
theorem dX9_build_46 : decode cX9_build 46 = .ok (.getfield 10, 3) := by decide +kernel
theorem dX9_build_49 : decode cX9_build 49 = .ok (.iload_n 2, 1) := by decide +kernel
theorem dX9_build_50 : decode cX9_build 50 = .ok (.aload_n 0, 1) := by decide +kernel
theorem dX9_build_51 : decode cX9_build 51 = .ok (.getfield 10, 3) := by decide +kernel
theorem dX9_build_54 : decode cX9_build 54 = .ok (.getfield 79, 3) := by decide +kernel
theorem dX9_build_57 : decode cX9_build 57 = .ok (.invokevirtual 300, 3) := by decide +kernel
theorem dX9_build_60 : decode cX9_build 60 = .ok (.iinc 2 1, 3) := by decide +kernel
theorem dX9_build_63 : decode cX9_build 63 = .ok (.goto (-41), 3) := by decide +kernel
theorem dX9_build_66 : decode cX9_build 66 = .ok (.bipush 7, 2) := by decide +kernel
theorem dX9_build_68 : decode cX9_build 68 = .ok (.istore_n 2, 1) := by decide +kernel
theorem dX9_build_69 : decode cX9_build 69 = .ok (.iload_n 2, 1) := by decide +kernel
theorem dX9_build_70 : decode cX9_build 70 = .ok (.ifCond .lt 29, 3) := by decide +kernel
theorem dX9_build_73 : decode cX9_build 73 = .ok (.iload_n 1, 1) := by decide +kernel
theorem dX9_build_74 : decode cX9_build 74 = .ok (.iload_n 2, 1) := by decide +kernel
theorem dX9_build_75 : decode cX9_build 75 = .ok (.ishr, 1) := by decide +kernel
theorem dX9_build_76 : decode cX9_build 76 = .ok (.iconst 1, 1) := by decide +kernel
theorem dX9_build_77 : decode cX9_build 77 = .ok (.iand, 1) := by decide +kernel
theorem dX9_build_78 : decode cX9_build 78 = .ok (.iconst 1, 1) := by decide +kernel
theorem dX9_build_79 : decode cX9_build 79 = .ok (.if_icmp .ne 14, 3) := by decide +kernel
theorem dX9_build_82 : decode cX9_build 82 = .ok (.aload_n 0, 1) := by decide +kernel
theorem dX9_build_83 : decode cX9_build 83 = .ok (.getfield 10, 3) := by decide +kernel
theorem dX9_build_86 : decode cX9_build 86 = .ok (.getfield 260, 3) := by decide +kernel
theorem dX9_build_89 : decode cX9_build 89 = .ok (.iload_n 2, 1) := by decide +kernel
theorem dX9_build_90 : decode cX9_build 90 = .ok (.invokevirtual 268, 3) := by decide +kernel
theorem dX9_build_93 : decode cX9_build 93 = .ok (.iinc 2 (-1), 3) := by decide +kernel
theorem dX9_build_96 : decode cX9_build 96 = .ok (.goto (-27), 3) := by decide +kernel
theorem dX9_build_99 : decode cX9_build 99 = .ok (.aload_n 0, 1) := by decide +kernel
theorem dX9_build_100 : decode cX9_build 100 = .ok (.aload_n 0, 1) := by decide +kernel
theorem dX9_build_101 : decode cX9_build 101 = .ok (.getfield 23, 3) := by decide +kernel
theorem dX9_build_104 : decode cX9_build 104 = .ok (.aload_n 0, 1) := by decide +kernel
theorem dX9_build_105 : decode cX9_build 105 = .ok (.getfield 10, 3) := by decide +kernel
theorem dX9_build_108 : decode cX9_build 108 = .ok (.aload_n 0, 1) := by decide +kernel
theorem dX9_build_109 : decode cX9_build 109 = .ok (.getfield 10, 3) := by decide +kernel
theorem dX9_build_112 : decode cX9_build 112 = .ok (.getfield 79, 3) := by decide +kernel
theorem dX9_build_115 : decode cX9_build 115 = .ok (.invokevirtual 193, 3) := by decide +kernel
theorem dX9_build_118 : decode cX9_build 118 = .ok (.invokevirtual 99, 3) := by decide +kernel
theorem dX9_build_121 : decode cX9_build 121 = .ok (.ireturn, 1) := by decide +kernel
theorem dX9_place_0 : decode cX9_place 0 = .ok (.iload_n 1, 1) := by decide +kernel
theorem dX9_place_1 : decode cX9_place 1 = .ok (.invokestatic 118, 3) := by decide +kernel
theorem dX9_place_4 : decode cX9_place 4 = .ok (.ifCond .ne 9, 3) := by decide +kernel
theorem dX9_place_7 : decode cX9_place 7 = .ok (.aload_n 0, 1) := by decide +kernel
theorem dX9_place_8 : decode cX9_place 8 = .ok (.iconst (-1), 1) := by decide +kernel
theorem dX9_place_9 : decode cX9_place 9 = .ok (.invokevirtual 75, 3) := by decide +kernel
theorem dX9_place_12 : decode cX9_place 12 = .ok (.ireturn, 1) := by decide +kernel
theorem dX9_place_13 : decode cX9_place 13 = .ok (.aload_n 0, 1) := by decide +kernel
theorem dX9_place_14 : decode cX9_place 14 = .ok (.getfield 10, 3) := by decide +kernel
theorem dX9_place_17 : decode cX9_place 17 = .ok (.iload_n 1, 1) := by decide +kernel
theorem dX9_place_18 : decode cX9_place 18 = .ok (.invokevirtual 124, 3) := by decide +kernel
theorem dX9_place_21 : decode cX9_place 21 = .ok (.ifCond .eq 14, 3) := by decide +kernel
theorem dX9_place_24 : decode cX9_place 24 = .ok (.aload_n 0, 1) := by decide +kernel
theorem dX9_place_25 : decode cX9_place 25 = .ok (.getfield 10, 3) := by decide +kernel
theorem dX9_place_28 : decode cX9_place 28 = .ok (.iload_n 1, 1) := by decide +kernel
theorem dX9_place_29 : decode cX9_place 29 = .ok (.invokevirtual 304, 3) := by decide +kernel
theorem dX9_place_32 : decode cX9_place 32 = .ok (.ifCond .eq 10, 3) := by decide +kernel
theorem dX9_place_35 : decode cX9_place 35 = .ok (.aload_n 0, 1) := by decide +kernel
theorem dX9_place_36 : decode cX9_place 36 = .ok (.bipush (-3), 2) := by decide +kernel
theorem dX9_place_38 : decode cX9_place 38 = .ok (.invokevirtual 75, 3) := by decide +kernel
theorem dX9_place_41 : decode cX9_place 41 = .ok (.ireturn, 1) := by decide +kernel
theorem dX9_place_42 : decode cX9_place 42 = .ok (.aload_n 0, 1) := by decide +kernel
theorem dX9_place_43 : decode cX9_place 43 = .ok (.getfield 10, 3) := by decide +kernel
theorem dX9_place_46 : decode cX9_place 46 = .ok (.getfield 307, 3) := by decide +kernel
theorem dX9_place_49 : decode cX9_place 49 = .ok (.bipush 12, 2) := by decide +kernel
theorem dX9_place_51 : decode cX9_place 51 = .ok (.if_icmp .lt 10, 3) := by decide +kernel
theorem dX9_place_54 : decode cX9_place 54 = .ok (.aload_n 0, 1) := by decide +kernel
theorem dX9_place_55 : decode cX9_place 55 = .ok (.bipush (-5), 2) := by decide +kernel
theorem dX9_place_57 : decode cX9_place 57 = .ok (.invokevirtual 75, 3) := by decide +kernel
theorem dX9_place_60 : decode cX9_place 60 = .ok (.ireturn, 1) := by decide +kernel
theorem dX9_place_61 : decode cX9_place 61 = .ok (.aload_n 0, 1) := by decide +kernel
theorem dX9_place_62 : decode cX9_place 62 = .ok (.aload_n 0, 1) := by decide +kernel
theorem dX9_place_63 : decode cX9_place 63 = .ok (.getfield 10, 3) := by decide +kernel
theorem dX9_place_66 : decode cX9_place 66 = .ok (.iload_n 1, 1) := by decide +kernel
theorem dX9_place_67 : decode cX9_place 67 = .ok (.invokevirtual 310, 3) := by decide +kernel
theorem dX9_place_70 : decode cX9_place 70 = .ok (.invokevirtual 99, 3) := by decide +kernel
theorem dX9_place_73 : decode cX9_place 73 = .ok (.ireturn, 1) := by decide +kernel
theorem dX9_glass_0 : decode cX9_glass 0 = .ok (.iload_n 1, 1) := by decide +kernel
theorem dX9_glass_1 : decode cX9_glass 1 = .ok (.iconst 0, 1) := by decide +kernel
theorem dX9_glass_2 : decode cX9_glass 2 = .ok (.iconst 2, 1) := by decide +kernel
theorem dX9_glass_3 : decode cX9_glass 3 = .ok (.invokestatic 102, 3) := by decide +kernel
theorem dX9_glass_6 : decode cX9_glass 6 = .ok (.ifCond .ne 5, 3) := by decide +kernel
theorem dX9_glass_9 : decode cX9_glass 9 = .ok (.iconst (-1), 1) := by decide +kernel
theorem dX9_glass_10 : decode cX9_glass 10 = .ok (.ireturn, 1) := by decide +kernel
theorem dX9_glass_11 : decode cX9_glass 11 = .ok (.aload_n 0, 1) := by decide +kernel
theorem dX9_glass_12 : decode cX9_glass 12 = .ok (.invokevirtual 313, 3) := by decide +kernel
theorem dX9_glass_15 : decode cX9_glass 15 = .ok (.istore_n 2, 1) := by decide +kernel
theorem dX9_glass_16 : decode cX9_glass 16 = .ok (.bipush 13, 2) := by decide +kernel
theorem dX9_glass_18 : decode cX9_glass 18 = .ok (.istore_n 3, 1) := by decide +kernel
theorem dX9_glass_19 : decode cX9_glass 19 = .ok (.iconst (-1), 1) := by decide +kernel
theorem dX9_glass_20 : decode cX9_glass 20 = .ok (.istore 4, 2) := by decide +kernel
theorem dX9_glass_22 : decode cX9_glass 22 = .ok (.iconst 0, 1) := by decide +kernel
theorem dX9_glass_23 : decode cX9_glass 23 = .ok (.istore 5, 2) := by decide +kernel
theorem dX9_glass_25 : decode cX9_glass 25 = .ok (.iconst 0, 1) := by decide +kernel
theorem dX9_glass_26 : decode cX9_glass 26 = .ok (.istore 6, 2) := by decide +kernel
theorem dX9_glass_28 : decode cX9_glass 28 = .ok (.iload 6, 2) := by decide +kernel
theorem dX9_glass_30 : decode cX9_glass 30 = .ok (.iconst 1, 1) := by decide +kernel
theorem dX9_glass_31 : decode cX9_glass 31 = .ok (.aload_n 0, 1) := by decide +kernel
theorem dX9_glass_32 : decode cX9_glass 32 = .ok (.getfield 10, 3) := by decide +kernel
theorem dX9_glass_35 : decode cX9_glass 35 = .ok (.getfield 307, 3) := by decide +kernel
theorem dX9_glass_38 : decode cX9_glass 38 = .ok (.ishl, 1) := by decide +kernel
theorem dX9_glass_39 : decode cX9_glass 39 = .ok (.if_icmp .ge 66, 3) := by decide +kernel
theorem dX9_glass_42 : decode cX9_glass 42 = .ok (.iload 6, 2) := by decide +kernel
theorem dX9_glass_44 : decode cX9_glass 44 = .ok (.invokestatic 316, 3) := by decide +kernel
theorem dX9_glass_47 : decode cX9_glass 47 = .ok (.istore 7, 2) := by decide +kernel
theorem dX9_glass_49 : decode cX9_glass 49 = .ok (.iload 7, 2) := by decide +kernel
theorem dX9_glass_51 : decode cX9_glass 51 = .ok (.iload_n 3, 1) := by decide +kernel
theorem dX9_glass_52 : decode cX9_glass 52 = .ok (.if_icmp .gt 47, 3) := by decide +kernel
theorem dX9_glass_55 : decode cX9_glass 55 = .ok (.aload_n 0, 1) := by decide +kernel
theorem dX9_glass_56 : decode cX9_glass 56 = .ok (.iload 6, 2) := by decide +kernel
theorem dX9_glass_58 : decode cX9_glass 58 = .ok (.iload_n 2, 1) := by decide +kernel
theorem dX9_glass_59 : decode cX9_glass 59 = .ok (.invokevirtual 321, 3) := by decide +kernel
theorem dX9_glass_62 : decode cX9_glass 62 = .ok (.ifCond .eq 37, 3) := by decide +kernel
theorem dX9_glass_65 : decode cX9_glass 65 = .ok (.iload 7, 2) := by decide +kernel
theorem dX9_glass_67 : decode cX9_glass 67 = .ok (.iload_n 3, 1) := by decide +kernel
theorem dX9_glass_68 : decode cX9_glass 68 = .ok (.if_icmp .ge 7, 3) := by decide +kernel
theorem dX9_glass_71 : decode cX9_glass 71 = .ok (.iconst 1, 1) := by decide +kernel
theorem dX9_glass_72 : decode cX9_glass 72 = .ok (.goto 7, 3) := by decide +kernel
theorem dX9_glass_75 : decode cX9_glass 75 = .ok (.iload 5, 2) := by decide +kernel
theorem dX9_glass_77 : decode cX9_glass 77 = .ok (.iconst 1, 1) := by decide +kernel
theorem dX9_glass_78 : decode cX9_glass 78 = .ok (.iadd, 1) := by decide +kernel
theorem dX9_glass_79 : decode cX9_glass 79 = .ok (.istore 5, 2) := by decide +kernel
theorem dX9_glass_81 : decode cX9_glass 81 = .ok (.iload 7, 2) := by decide +kernel
theorem dX9_glass_83 : decode cX9_glass 83 = .ok (.iload_n 3, 1) := by decide +kernel
theorem dX9_glass_84 : decode cX9_glass 84 = .ok (.if_icmp .ge 8, 3) := by decide +kernel
theorem dX9_glass_87 : decode cX9_glass 87 = .ok (.iload 6, 2) := by decide +kernel
theorem dX9_glass_89 : decode cX9_glass 89 = .ok (.goto 5, 3) := by decide +kernel
theorem dX9_glass_92 : decode cX9_glass 92 = .ok (.iload 4, 2) := by decide +kernel
theorem dX9_glass_94 : decode cX9_glass 94 = .ok (.istore 4, 2) := by decide +kernel
theorem dX9_glass_96 : decode cX9_glass 96 = .ok (.iload 7, 2) := by decide +kernel
theorem dX9_glass_98 : decode cX9_glass 98 = .ok (.istore_n 3, 1) := by decide +kernel
theorem dX9_glass_99 : decode cX9_glass 99 = .ok (.iinc 6 1, 3) := by decide +kernel
theorem dX9_glass_102 : decode cX9_glass 102 = .ok (.goto (-74), 3) := by decide +kernel
theorem dX9_glass_105 : decode cX9_glass 105 = .ok (.iload_n 1, 1) := by decide +kernel
theorem dX9_glass_106 : decode cX9_glass 106 = .ok (.iconst 2, 1) := by decide +kernel
theorem dX9_glass_107 : decode cX9_glass 107 = .ok (.if_icmp .ne 6, 3) := by decide +kernel
theorem dX9_glass_110 : decode cX9_glass 110 = .ok (.iload 5, 2) := by decide +kernel
theorem dX9_glass_112 : decode cX9_glass 112 = .ok (.ireturn, 1) := by decide +kernel
theorem dX9_glass_113 : decode cX9_glass 113 = .ok (.iload_n 1, 1) := by decide +kernel
theorem dX9_glass_114 : decode cX9_glass 114 = .ok (.iconst 1, 1) := by decide +kernel
theorem dX9_glass_115 : decode cX9_glass 115 = .ok (.if_icmp .eq 9, 3) := by decide +kernel
theorem dX9_glass_118 : decode cX9_glass 118 = .ok (.iload 4, 2) := by decide +kernel
theorem dX9_glass_120 : decode cX9_glass 120 = .ok (.iconst (-1), 1) := by decide +kernel
theorem dX9_glass_121 : decode cX9_glass 121 = .ok (.if_icmp .ne 8, 3) := by decide +kernel
theorem dX9_glass_124 : decode cX9_glass 124 = .ok (.iload 4, 2) := by decide +kernel
theorem dX9_glass_126 : decode cX9_glass 126 = .ok (.goto 4, 3) := by decide +kernel
theorem dX9_glass_129 : decode cX9_glass 129 = .ok (.iload_n 3, 1) := by decide +kernel
theorem dX9_glass_130 : decode cX9_glass 130 = .ok (.ireturn, 1) := by decide +kernel
theorem dX9_gatherWatchers_0 : decode cX9_gatherWatchers 0 = .ok (.aload_n 0, 1) := by decide +kernel
theorem dX9_gatherWatchers_1 : decode cX9_gatherWatchers 1 = .ok (.getfield 23, 3) := by decide +kernel
theorem dX9_gatherWatchers_4 : decode cX9_gatherWatchers 4 = .ok (.aload_n 0, 1) := by decide +kernel
theorem dX9_gatherWatchers_5 : decode cX9_gatherWatchers 5 = .ok (.getfield 10, 3) := by decide +kernel
theorem dX9_gatherWatchers_8 : decode cX9_gatherWatchers 8 = .ok (.aload_n 0, 1) := by decide +kernel
theorem dX9_gatherWatchers_9 : decode cX9_gatherWatchers 9 = .ok (.getfield 10, 3) := by decide +kernel
theorem dX9_gatherWatchers_12 : decode cX9_gatherWatchers 12 = .ok (.getfield 79, 3) := by decide +kernel
theorem dX9_gatherWatchers_15 : decode cX9_gatherWatchers 15 = .ok (.invokevirtual 193, 3) := by decide +kernel
theorem dX9_gatherWatchers_18 : decode cX9_gatherWatchers 18 = .ok (.pop, 1) := by decide +kernel
theorem dX9_gatherWatchers_19 : decode cX9_gatherWatchers 19 = .ok (.iconst 0, 1) := by decide +kernel
theorem dX9_gatherWatchers_20 : decode cX9_gatherWatchers 20 = .ok (.istore_n 1, 1) := by decide +kernel
theorem dX9_gatherWatchers_21 : decode cX9_gatherWatchers 21 = .ok (.iconst 0, 1) := by decide +kernel
theorem dX9_gatherWatchers_22 : decode cX9_gatherWatchers 22 = .ok (.istore_n 2, 1) := by decide +kernel
theorem dX9_gatherWatchers_23 : decode cX9_gatherWatchers 23 = .ok (.iload_n 2, 1) := by decide +kernel
theorem dX9_gatherWatchers_24 : decode cX9_gatherWatchers 24 = .ok (.bipush 100, 2) := by decide +kernel
theorem dX9_gatherWatchers_26 : decode cX9_gatherWatchers 26 = .ok (.if_icmp .ge 38, 3) := by decide +kernel
theorem dX9_gatherWatchers_29 : decode cX9_gatherWatchers 29 = .ok (.aload_n 0, 1) := by decide +kernel
theorem dX9_gatherWatchers_30 : decode cX9_gatherWatchers 30 = .ok (.getfield 23, 3) := by decide +kernel
theorem dX9_gatherWatchers_33 : decode cX9_gatherWatchers 33 = .ok (.getfield 197, 3) := by decide +kernel
theorem dX9_gatherWatchers_36 : decode cX9_gatherWatchers 36 = .ok (.iload_n 2, 1) := by decide +kernel
theorem dX9_gatherWatchers_37 : decode cX9_gatherWatchers 37 = .ok (.iaload, 1) := by decide +kernel
theorem dX9_gatherWatchers_38 : decode cX9_gatherWatchers 38 = .ok (.ifCond .le 20, 3) := by decide +kernel
theorem dX9_gatherWatchers_41 : decode cX9_gatherWatchers 41 = .ok (.aload_n 0, 1) := by decide +kernel
theorem dX9_gatherWatchers_42 : decode cX9_gatherWatchers 42 = .ok (.getfield 41, 3) := by decide +kernel
theorem dX9_gatherWatchers_45 : decode cX9_gatherWatchers 45 = .ok (.iload_n 1, 1) := by decide +kernel
theorem dX9_gatherWatchers_46 : decode cX9_gatherWatchers 46 = .ok (.aload_n 0, 1) := by decide +kernel
theorem dX9_gatherWatchers_47 : decode cX9_gatherWatchers 47 = .ok (.getfield 10, 3) := by decide +kernel
theorem dX9_gatherWatchers_50 : decode cX9_gatherWatchers 50 = .ok (.iload_n 2, 1) := by decide +kernel
theorem dX9_gatherWatchers_51 : decode cX9_gatherWatchers 51 = .ok (.invokevirtual 325, 3) := by decide +kernel
theorem dX9_gatherWatchers_54 : decode cX9_gatherWatchers 54 = .ok (.iastore, 1) := by decide +kernel
theorem dX9_gatherWatchers_55 : decode cX9_gatherWatchers 55 = .ok (.iinc 1 1, 3) := by decide +kernel
theorem dX9_gatherWatchers_58 : decode cX9_gatherWatchers 58 = .ok (.iinc 2 1, 3) := by decide +kernel
theorem dX9_gatherWatchers_61 : decode cX9_gatherWatchers 61 = .ok (.goto (-38), 3) := by decide +kernel
theorem dX9_gatherWatchers_64 : decode cX9_gatherWatchers 64 = .ok (.iload_n 1, 1) := by decide +kernel
theorem dX9_gatherWatchers_65 : decode cX9_gatherWatchers 65 = .ok (.ireturn, 1) := by decide +kernel
theorem dX9_watchesAll_0 : decode cX9_watchesAll 0 = .ok (.iconst 0, 1) := by decide +kernel
theorem dX9_watchesAll_1 : decode cX9_watchesAll 1 = .ok (.istore_n 3, 1) := by decide +kernel
theorem dX9_watchesAll_2 : decode cX9_watchesAll 2 = .ok (.iload_n 3, 1) := by decide +kernel
theorem dX9_watchesAll_3 : decode cX9_watchesAll 3 = .ok (.iload_n 2, 1) := by decide +kernel
theorem dX9_watchesAll_4 : decode cX9_watchesAll 4 = .ok (.if_icmp .ge 28, 3) := by decide +kernel
theorem dX9_watchesAll_7 : decode cX9_watchesAll 7 = .ok (.iload_n 3, 1) := by decide +kernel
theorem dX9_watchesAll_8 : decode cX9_watchesAll 8 = .ok (.bipush 100, 2) := by decide +kernel
theorem dX9_watchesAll_10 : decode cX9_watchesAll 10 = .ok (.if_icmp .ge 22, 3) := by decide +kernel
theorem dX9_watchesAll_13 : decode cX9_watchesAll 13 = .ok (.aload_n 0, 1) := by decide +kernel
theorem dX9_watchesAll_14 : decode cX9_watchesAll 14 = .ok (.getfield 41, 3) := by decide +kernel
theorem dX9_watchesAll_17 : decode cX9_watchesAll 17 = .ok (.iload_n 3, 1) := by decide +kernel
theorem dX9_watchesAll_18 : decode cX9_watchesAll 18 = .ok (.iaload, 1) := by decide +kernel
theorem dX9_watchesAll_19 : decode cX9_watchesAll 19 = .ok (.iload_n 1, 1) := by decide +kernel
theorem dX9_watchesAll_20 : decode cX9_watchesAll 20 = .ok (.iand, 1) := by decide +kernel
theorem dX9_watchesAll_21 : decode cX9_watchesAll 21 = .ok (.ifCond .ne 5, 3) := by decide +kernel
theorem dX9_watchesAll_24 : decode cX9_watchesAll 24 = .ok (.iconst 0, 1) := by decide +kernel
theorem dX9_watchesAll_25 : decode cX9_watchesAll 25 = .ok (.ireturn, 1) := by decide +kernel
theorem dX9_watchesAll_26 : decode cX9_watchesAll 26 = .ok (.iinc 3 1, 3) := by decide +kernel
theorem dX9_watchesAll_29 : decode cX9_watchesAll 29 = .ok (.goto (-27), 3) := by decide +kernel
theorem dX9_watchesAll_32 : decode cX9_watchesAll 32 = .ok (.iconst 1, 1) := by decide +kernel
theorem dX9_watchesAll_33 : decode cX9_watchesAll 33 = .ok (.ireturn, 1) := by decide +kernel
theorem dX9_salt_0 : decode cX9_salt 0 = .ok (.iload_n 2, 1) := by decide +kernel
theorem dX9_salt_1 : decode cX9_salt 1 = .ok (.invokestatic 140, 3) := by decide +kernel
theorem dX9_salt_4 : decode cX9_salt 4 = .ok (.ifCond .eq 14, 3) := by decide +kernel
theorem dX9_salt_7 : decode cX9_salt 7 = .ok (.iload_n 3, 1) := by decide +kernel
theorem dX9_salt_8 : decode cX9_salt 8 = .ok (.iconst 0, 1) := by decide +kernel
