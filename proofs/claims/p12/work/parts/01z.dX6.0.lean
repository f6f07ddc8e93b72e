theorem dX6_init_0 : decode cX6_init 0 = .ok (.aload_n 0, 1) := by decide +kernel
theorem dX6_init_1 : decode cX6_init 1 = .ok (.invokespecial 3, 3) := by decide +kernel
theorem dX6_init_4 : decode cX6_init 4 = .ok (.aload_n 0, 1) := by decide +kernel
theorem dX6_init_5 : decode cX6_init 5 = .ok (.new 9, 3) := by decide +kernel
theorem dX6_init_8 : decode cX6_init 8 = .ok (.dup, 1) := by decide +kernel
theorem dX6_init_9 : decode cX6_init 9 = .ok (.invokespecial 11, 3) := by decide +kernel
theorem dX6_init_12 : decode cX6_init 12 = .ok (.putfield 12, 3) := by decide +kernel
theorem dX6_init_15 : decode cX6_init 15 = .ok (.aload_n 0, 1) := by decide +kernel
theorem dX6_init_16 : decode cX6_init 16 = .ok (.bipush 64, 2) := by decide +kernel
theorem dX6_init_18 : decode cX6_init 18 = .ok (.newarray .int, 2) := by decide +kernel
theorem dX6_init_20 : decode cX6_init 20 = .ok (.putfield 18, 3) := by decide +kernel
theorem dX6_init_23 : decode cX6_init 23 = .ok (.aload_n 0, 1) := by decide +kernel
theorem dX6_init_24 : decode cX6_init 24 = .ok (.iconst 0, 1) := by decide +kernel
theorem dX6_init_25 : decode cX6_init 25 = .ok (.putfield 22, 3) := by decide +kernel
theorem dX6_init_28 : decode cX6_init 28 = .ok (.aload_n 0, 1) := by decide +kernel
theorem dX6_init_29 : decode cX6_init 29 = .ok (.iconst (-1), 1) := by decide +kernel
theorem dX6_init_30 : decode cX6_init 30 = .ok (.putfield 26, 3) := by decide +kernel
theorem dX6_init_33 : decode cX6_init 33 = .ok (.aload_n 0, 1) := by decide +kernel
theorem dX6_init_34 : decode cX6_init 34 = .ok (.iconst (-1), 1) := by decide +kernel
theorem dX6_init_35 : decode cX6_init 35 = .ok (.putfield 30, 3) := by decide +kernel
theorem dX6_init_38 : decode cX6_init 38 = .ok (.aload_n 0, 1) := by decide +kernel
theorem dX6_init_39 : decode cX6_init 39 = .ok (.iconst (-1), 1) := by decide +kernel
theorem dX6_init_40 : decode cX6_init 40 = .ok (.putfield 33, 3) := by decide +kernel
theorem dX6_init_43 : decode cX6_init 43 = .ok (.aload_n 0, 1) := by decide +kernel
theorem dX6_init_44 : decode cX6_init 44 = .ok (.iconst 0, 1) := by decide +kernel
theorem dX6_init_45 : decode cX6_init 45 = .ok (.putfield 36, 3) := by decide +kernel
theorem dX6_init_48 : decode cX6_init 48 = .ok (.aload_n 0, 1) := by decide +kernel
theorem dX6_init_49 : decode cX6_init 49 = .ok (.iconst (-1), 1) := by decide +kernel
theorem dX6_init_50 : decode cX6_init 50 = .ok (.putfield 39, 3) := by decide +kernel
theorem dX6_init_53 : decode cX6_init 53 = .ok (.aload_n 0, 1) := by decide +kernel
theorem dX6_init_54 : decode cX6_init 54 = .ok (.iconst (-1), 1) := by decide +kernel
theorem dX6_init_55 : decode cX6_init 55 = .ok (.putfield 42, 3) := by decide +kernel
theorem dX6_init_58 : decode cX6_init 58 = .ok (.aload_n 0, 1) := by decide +kernel
theorem dX6_init_59 : decode cX6_init 59 = .ok (.iconst 0, 1) := by decide +kernel
theorem dX6_init_60 : decode cX6_init 60 = .ok (.putfield 45, 3) := by decide +kernel
theorem dX6_init_63 : decode cX6_init 63 = .ok (.aload_n 0, 1) := by decide +kernel
theorem dX6_init_64 : decode cX6_init 64 = .ok (.iconst (-1), 1) := by decide +kernel
theorem dX6_init_65 : decode cX6_init 65 = .ok (.putfield 48, 3) := by decide +kernel
theorem dX6_init_68 : decode cX6_init 68 = .ok (.return_, 1) := by decide +kernel
theorem dX6_forget_0 : decode cX6_forget 0 = .ok (.aload_n 0, 1) := by decide +kernel
theorem dX6_forget_1 : decode cX6_forget 1 = .ok (.iconst 0, 1) := by decide +kernel
theorem dX6_forget_2 : decode cX6_forget 2 = .ok (.putfield 22, 3) := by decide +kernel
theorem dX6_forget_5 : decode cX6_forget 5 = .ok (.aload_n 0, 1) := by decide +kernel
theorem dX6_forget_6 : decode cX6_forget 6 = .ok (.iconst 0, 1) := by decide +kernel
theorem dX6_forget_7 : decode cX6_forget 7 = .ok (.putfield 36, 3) := by decide +kernel
theorem dX6_forget_10 : decode cX6_forget 10 = .ok (.aload_n 0, 1) := by decide +kernel
theorem dX6_forget_11 : decode cX6_forget 11 = .ok (.iconst (-1), 1) := by decide +kernel
theorem dX6_forget_12 : decode cX6_forget 12 = .ok (.putfield 48, 3) := by decide +kernel
theorem dX6_forget_15 : decode cX6_forget 15 = .ok (.return_, 1) := by decide +kernel
theorem dX6_learnTowerOvers_0 : decode cX6_learnTowerOvers 0 = .ok (.aload_n 0, 1) := by decide +kernel
theorem dX6_learnTowerOvers_1 : decode cX6_learnTowerOvers 1 = .ok (.getfield 22, 3) := by decide +kernel
theorem dX6_learnTowerOvers_4 : decode cX6_learnTowerOvers 4 = .ok (.ifCond .eq 4, 3) := by decide +kernel
theorem dX6_learnTowerOvers_7 : decode cX6_learnTowerOvers 7 = .ok (.return_, 1) := by decide +kernel
theorem dX6_learnTowerOvers_8 : decode cX6_learnTowerOvers 8 = .ok (.aload_n 0, 1) := by decide +kernel
theorem dX6_learnTowerOvers_9 : decode cX6_learnTowerOvers 9 = .ok (.iconst 1, 1) := by decide +kernel
theorem dX6_learnTowerOvers_10 : decode cX6_learnTowerOvers 10 = .ok (.putfield 22, 3) := by decide +kernel
theorem dX6_learnTowerOvers_13 : decode cX6_learnTowerOvers 13 = .ok (.iconst 0, 1) := by decide +kernel
theorem dX6_learnTowerOvers_14 : decode cX6_learnTowerOvers 14 = .ok (.istore_n 3, 1) := by decide +kernel
theorem dX6_learnTowerOvers_15 : decode cX6_learnTowerOvers 15 = .ok (.iload_n 3, 1) := by decide +kernel
theorem dX6_learnTowerOvers_16 : decode cX6_learnTowerOvers 16 = .ok (.iconst 1, 1) := by decide +kernel
theorem dX6_learnTowerOvers_17 : decode cX6_learnTowerOvers 17 = .ok (.aload_n 1, 1) := by decide +kernel
theorem dX6_learnTowerOvers_18 : decode cX6_learnTowerOvers 18 = .ok (.getfield 51, 3) := by decide +kernel
theorem dX6_learnTowerOvers_21 : decode cX6_learnTowerOvers 21 = .ok (.getfield 57, 3) := by decide +kernel
theorem dX6_learnTowerOvers_24 : decode cX6_learnTowerOvers 24 = .ok (.ishl, 1) := by decide +kernel
theorem dX6_learnTowerOvers_25 : decode cX6_learnTowerOvers 25 = .ok (.if_icmp .ge 85, 3) := by decide +kernel
theorem dX6_learnTowerOvers_28 : decode cX6_learnTowerOvers 28 = .ok (.iload_n 3, 1) := by decide +kernel
theorem dX6_learnTowerOvers_29 : decode cX6_learnTowerOvers 29 = .ok (.bipush 64, 2) := by decide +kernel
theorem dX6_learnTowerOvers_31 : decode cX6_learnTowerOvers 31 = .ok (.if_icmp .ge 79, 3) := by decide +kernel
theorem dX6_learnTowerOvers_34 : decode cX6_learnTowerOvers 34 = .ok (.aload_n 0, 1) := by decide +kernel
theorem dX6_learnTowerOvers_35 : decode cX6_learnTowerOvers 35 = .ok (.getfield 12, 3) := by decide +kernel
theorem dX6_learnTowerOvers_38 : decode cX6_learnTowerOvers 38 = .ok (.aload_n 1, 1) := by decide +kernel
theorem dX6_learnTowerOvers_39 : decode cX6_learnTowerOvers 39 = .ok (.getfield 62, 3) := by decide +kernel
theorem dX6_learnTowerOvers_42 : decode cX6_learnTowerOvers 42 = .ok (.invokevirtual 63, 3) := by decide +kernel
theorem dX6_learnTowerOvers_45 : decode cX6_learnTowerOvers 45 = .ok (.iconst 0, 1) := by decide +kernel
theorem dX6_learnTowerOvers_46 : decode cX6_learnTowerOvers 46 = .ok (.istore 4, 2) := by decide +kernel
theorem dX6_learnTowerOvers_48 : decode cX6_learnTowerOvers 48 = .ok (.iload 4, 2) := by decide +kernel
theorem dX6_learnTowerOvers_50 : decode cX6_learnTowerOvers 50 = .ok (.aload_n 1, 1) := by decide +kernel
theorem dX6_learnTowerOvers_51 : decode cX6_learnTowerOvers 51 = .ok (.getfield 51, 3) := by decide +kernel
theorem dX6_learnTowerOvers_54 : decode cX6_learnTowerOvers 54 = .ok (.getfield 57, 3) := by decide +kernel
theorem dX6_learnTowerOvers_57 : decode cX6_learnTowerOvers 57 = .ok (.if_icmp .ge 32, 3) := by decide +kernel
theorem dX6_learnTowerOvers_60 : decode cX6_learnTowerOvers 60 = .ok (.iload_n 3, 1) := by decide +kernel
theorem dX6_learnTowerOvers_61 : decode cX6_learnTowerOvers 61 = .ok (.iload 4, 2) := by decide +kernel
theorem dX6_learnTowerOvers_63 : decode cX6_learnTowerOvers 63 = .ok (.ishr, 1) := by decide +kernel
theorem dX6_learnTowerOvers_64 : decode cX6_learnTowerOvers 64 = .ok (.iconst 1, 1) := by decide +kernel
theorem dX6_learnTowerOvers_65 : decode cX6_learnTowerOvers 65 = .ok (.iand, 1) := by decide +kernel
theorem dX6_learnTowerOvers_66 : decode cX6_learnTowerOvers 66 = .ok (.ifCond .ne 17, 3) := by decide +kernel
theorem dX6_learnTowerOvers_69 : decode cX6_learnTowerOvers 69 = .ok (.aload_n 1, 1) := by decide +kernel
theorem dX6_learnTowerOvers_70 : decode cX6_learnTowerOvers 70 = .ok (.getfield 51, 3) := by decide +kernel
theorem dX6_learnTowerOvers_73 : decode cX6_learnTowerOvers 73 = .ok (.iload 4, 2) := by decide +kernel
theorem dX6_learnTowerOvers_75 : decode cX6_learnTowerOvers 75 = .ok (.iconst 0, 1) := by decide +kernel
theorem dX6_learnTowerOvers_76 : decode cX6_learnTowerOvers 76 = .ok (.aload_n 0, 1) := by decide +kernel
theorem dX6_learnTowerOvers_77 : decode cX6_learnTowerOvers 77 = .ok (.getfield 12, 3) := by decide +kernel
theorem dX6_learnTowerOvers_80 : decode cX6_learnTowerOvers 80 = .ok (.invokevirtual 67, 3) := by decide +kernel
theorem dX6_learnTowerOvers_83 : decode cX6_learnTowerOvers 83 = .ok (.iinc 4 1, 3) := by decide +kernel
theorem dX6_learnTowerOvers_86 : decode cX6_learnTowerOvers 86 = .ok (.goto (-38), 3) := by decide +kernel
theorem dX6_learnTowerOvers_89 : decode cX6_learnTowerOvers 89 = .ok (.aload_n 0, 1) := by decide +kernel
theorem dX6_learnTowerOvers_90 : decode cX6_learnTowerOvers 90 = .ok (.getfield 18, 3) := by decide +kernel
theorem dX6_learnTowerOvers_93 : decode cX6_learnTowerOvers 93 = .ok (.iload_n 3, 1) := by decide +kernel
theorem dX6_learnTowerOvers_94 : decode cX6_learnTowerOvers 94 = .ok (.aload_n 2, 1) := by decide +kernel
theorem dX6_learnTowerOvers_95 : decode cX6_learnTowerOvers 95 = .ok (.aload_n 1, 1) := by decide +kernel
theorem dX6_learnTowerOvers_96 : decode cX6_learnTowerOvers 96 = .ok (.aload_n 0, 1) := by decide +kernel
theorem dX6_learnTowerOvers_97 : decode cX6_learnTowerOvers 97 = .ok (.getfield 12, 3) := by decide +kernel
theorem dX6_learnTowerOvers_100 : decode cX6_learnTowerOvers 100 = .ok (.invokevirtual 71, 3) := by decide +kernel
theorem dX6_learnTowerOvers_103 : decode cX6_learnTowerOvers 103 = .ok (.iastore, 1) := by decide +kernel
theorem dX6_learnTowerOvers_104 : decode cX6_learnTowerOvers 104 = .ok (.iinc 3 1, 3) := by decide +kernel
theorem dX6_learnTowerOvers_107 : decode cX6_learnTowerOvers 107 = .ok (.goto (-92), 3) := by decide +kernel
theorem dX6_learnTowerOvers_110 : decode cX6_learnTowerOvers 110 = .ok (.return_, 1) := by decide +kernel
theorem dX6_shareOf_0 : decode cX6_shareOf 0 = .ok (.iload_n 2, 1) := by decide +kernel
theorem dX6_shareOf_1 : decode cX6_shareOf 1 = .ok (.iconst 1, 1) := by decide +kernel
theorem dX6_shareOf_2 : decode cX6_shareOf 2 = .ok (.bipush 6, 2) := by decide +kernel
theorem dX6_shareOf_4 : decode cX6_shareOf 4 = .ok (.invokestatic 77, 3) := by decide +kernel
theorem dX6_shareOf_7 : decode cX6_shareOf 7 = .ok (.ifCond .eq 14, 3) := by decide +kernel
theorem dX6_shareOf_10 : decode cX6_shareOf 10 = .ok (.iload_n 1, 1) := by decide +kernel
theorem dX6_shareOf_11 : decode cX6_shareOf 11 = .ok (.iconst 0, 1) := by decide +kernel
theorem dX6_shareOf_12 : decode cX6_shareOf 12 = .ok (.iload_n 2, 1) := by decide +kernel
theorem dX6_shareOf_13 : decode cX6_shareOf 13 = .ok (.iconst 1, 1) := by decide +kernel
theorem dX6_shareOf_14 : decode cX6_shareOf 14 = .ok (.isub, 1) := by decide +kernel
theorem dX6_shareOf_15 : decode cX6_shareOf 15 = .ok (.invokestatic 77, 3) := by decide +kernel
theorem dX6_shareOf_18 : decode cX6_shareOf 18 = .ok (.ifCond .ne 7, 3) := by decide +kernel
theorem dX6_shareOf_21 : decode cX6_shareOf 21 = .ok (.ldc2_w 81, 3) := by decide +kernel
theorem dX6_shareOf_24 : decode cX6_shareOf 24 = .ok (.lreturn, 1) := by decide +kernel
theorem dX6_shareOf_25 : decode cX6_shareOf 25 = .ok (.lconst 0, 1) := by decide +kernel
theorem dX6_shareOf_26 : decode cX6_shareOf 26 = .ok (.lstore_n 3, 1) := by decide +kernel
theorem dX6_shareOf_27 : decode cX6_shareOf 27 = .ok (.iconst 0, 1) := by decide +kernel
theorem dX6_shareOf_28 : decode cX6_shareOf 28 = .ok (.istore 5, 2) := by decide +kernel
theorem dX6_shareOf_30 : decode cX6_shareOf 30 = .ok (.iload 5, 2) := by decide +kernel
theorem dX6_shareOf_32 : decode cX6_shareOf 32 = .ok (.iconst 1, 1) := by decide +kernel
theorem dX6_shareOf_33 : decode cX6_shareOf 33 = .ok (.iload_n 2, 1) := by decide +kernel
theorem dX6_shareOf_34 : decode cX6_shareOf 34 = .ok (.ishl, 1) := by decide +kernel
theorem dX6_shareOf_35 : decode cX6_shareOf 35 = .ok (.if_icmp .ge 72, 3) := by decide +kernel
theorem dX6_shareOf_38 : decode cX6_shareOf 38 = .ok (.iload 5, 2) := by decide +kernel
theorem dX6_shareOf_40 : decode cX6_shareOf 40 = .ok (.iload_n 1, 1) := by decide +kernel
theorem dX6_shareOf_41 : decode cX6_shareOf 41 = .ok (.ishr, 1) := by decide +kernel
theorem dX6_shareOf_42 : decode cX6_shareOf 42 = .ok (.iconst 1, 1) := by decide +kernel
theorem dX6_shareOf_43 : decode cX6_shareOf 43 = .ok (.iand, 1) := by decide +kernel
theorem dX6_shareOf_44 : decode cX6_shareOf 44 = .ok (.ifCond .ne 57, 3) := by decide +kernel
theorem dX6_shareOf_47 : decode cX6_shareOf 47 = .ok (.iload 5, 2) := by decide +kernel
theorem dX6_shareOf_49 : decode cX6_shareOf 49 = .ok (.invokestatic 83, 3) := by decide +kernel
theorem dX6_shareOf_52 : decode cX6_shareOf 52 = .ok (.istore 6, 2) := by decide +kernel
theorem dX6_shareOf_54 : decode cX6_shareOf 54 = .ok (.getstatic 89, 3) := by decide +kernel
theorem dX6_shareOf_57 : decode cX6_shareOf 57 = .ok (.iload 6, 2) := by decide +kernel
theorem dX6_shareOf_59 : decode cX6_shareOf 59 = .ok (.iaload, 1) := by decide +kernel
theorem dX6_shareOf_60 : decode cX6_shareOf 60 = .ok (.i2l, 1) := by decide +kernel
theorem dX6_shareOf_61 : decode cX6_shareOf 61 = .ok (.getstatic 89, 3) := by decide +kernel
theorem dX6_shareOf_64 : decode cX6_shareOf 64 = .ok (.iload_n 2, 1) := by decide +kernel
theorem dX6_shareOf_65 : decode cX6_shareOf 65 = .ok (.iconst 1, 1) := by decide +kernel
theorem dX6_shareOf_66 : decode cX6_shareOf 66 = .ok (.isub, 1) := by decide +kernel
theorem dX6_shareOf_67 : decode cX6_shareOf 67 = .ok (.iload 6, 2) := by decide +kernel
theorem dX6_shareOf_69 : decode cX6_shareOf 69 = .ok (.isub, 1) := by decide +kernel
theorem dX6_shareOf_70 : decode cX6_shareOf 70 = .ok (.iaload, 1) := by decide +kernel
theorem dX6_shareOf_71 : decode cX6_shareOf 71 = .ok (.i2l, 1) := by decide +kernel
theorem dX6_shareOf_72 : decode cX6_shareOf 72 = .ok (.lmul, 1) := by decide +kernel
theorem dX6_shareOf_73 : decode cX6_shareOf 73 = .ok (.lstore 7, 2) := by decide +kernel
theorem dX6_shareOf_75 : decode cX6_shareOf 75 = .ok (.lload_n 3, 1) := by decide +kernel
theorem dX6_shareOf_76 : decode cX6_shareOf 76 = .ok (.lload 7, 2) := by decide +kernel
theorem dX6_shareOf_78 : decode cX6_shareOf 78 = .ok (.aload_n 0, 1) := by decide +kernel
theorem dX6_shareOf_79 : decode cX6_shareOf 79 = .ok (.getfield 18, 3) := by decide +kernel
theorem dX6_shareOf_82 : decode cX6_shareOf 82 = .ok (.iload 5, 2) := by decide +kernel
theorem dX6_shareOf_84 : decode cX6_shareOf 84 = .ok (.iconst 1, 1) := by decide +kernel
theorem dX6_shareOf_85 : decode cX6_shareOf 85 = .ok (.iload_n 1, 1) := by decide +kernel
theorem dX6_shareOf_86 : decode cX6_shareOf 86 = .ok (.ishl, 1) := by decide +kernel
theorem dX6_shareOf_87 : decode cX6_shareOf 87 = .ok (.ior, 1) := by decide +kernel
theorem dX6_shareOf_88 : decode cX6_shareOf 88 = .ok (.iaload, 1) := by decide +kernel
theorem dX6_shareOf_89 : decode cX6_shareOf 89 = .ok (.aload_n 0, 1) := by decide +kernel
theorem dX6_shareOf_90 : decode cX6_shareOf 90 = .ok (.getfield 18, 3) := by decide +kernel
theorem dX6_shareOf_93 : decode cX6_shareOf 93 = .ok (.iload 5, 2) := by decide +kernel
theorem dX6_shareOf_95 : decode cX6_shareOf 95 = .ok (.iaload, 1) := by decide +kernel
theorem dX6_shareOf_96 : decode cX6_shareOf 96 = .ok (.isub, 1) := by decide +kernel
theorem dX6_shareOf_97 : decode cX6_shareOf 97 = .ok (.i2l, 1) := by decide +kernel
theorem dX6_shareOf_98 : decode cX6_shareOf 98 = .ok (.lmul, 1) := by decide +kernel
theorem dX6_shareOf_99 : decode cX6_shareOf 99 = .ok (.ladd, 1) := by decide +kernel
theorem dX6_shareOf_100 : decode cX6_shareOf 100 = .ok (.lstore_n 3, 1) := by decide +kernel
theorem dX6_shareOf_101 : decode cX6_shareOf 101 = .ok (.iinc 5 1, 3) := by decide +kernel
theorem dX6_shareOf_104 : decode cX6_shareOf 104 = .ok (.goto (-74), 3) := by decide +kernel
theorem dX6_shareOf_107 : decode cX6_shareOf 107 = .ok (.lload_n 3, 1) := by decide +kernel
theorem dX6_shareOf_108 : decode cX6_shareOf 108 = .ok (.getstatic 92, 3) := by decide +kernel
theorem dX6_shareOf_111 : decode cX6_shareOf 111 = .ok (.iload_n 2, 1) := by decide +kernel
theorem dX6_shareOf_112 : decode cX6_shareOf 112 = .ok (.iaload, 1) := by decide +kernel
theorem dX6_shareOf_113 : decode cX6_shareOf 113 = .ok (.i2l, 1) := by decide +kernel
theorem dX6_shareOf_114 : decode cX6_shareOf 114 = .ok (.lmul, 1) := by decide +kernel
theorem dX6_shareOf_115 : decode cX6_shareOf 115 = .ok (.lreturn, 1) := by decide +kernel
theorem dX6_findSite_0 : decode cX6_findSite 0 = .ok (.iload_n 3, 1) := by decide +kernel
theorem dX6_findSite_1 : decode cX6_findSite 1 = .ok (.iconst 1, 1) := by decide +kernel
theorem dX6_findSite_2 : decode cX6_findSite 2 = .ok (.iconst 5, 1) := by decide +kernel
theorem dX6_findSite_3 : decode cX6_findSite 3 = .ok (.invokestatic 77, 3) := by decide +kernel
theorem dX6_findSite_6 : decode cX6_findSite 6 = .ok (.ifCond .eq 40, 3) := by decide +kernel
theorem dX6_findSite_9 : decode cX6_findSite 9 = .ok (.iload 4, 2) := by decide +kernel
theorem dX6_findSite_11 : decode cX6_findSite 11 = .ok (.iconst 1, 1) := by decide +kernel
theorem dX6_findSite_12 : decode cX6_findSite 12 = .ok (.iconst 5, 1) := by decide +kernel
theorem dX6_findSite_13 : decode cX6_findSite 13 = .ok (.invokestatic 77, 3) := by decide +kernel
theorem dX6_findSite_16 : decode cX6_findSite 16 = .ok (.ifCond .eq 30, 3) := by decide +kernel
theorem dX6_findSite_19 : decode cX6_findSite 19 = .ok (.iload 5, 2) := by decide +kernel
theorem dX6_findSite_21 : decode cX6_findSite 21 = .ok (.iconst 1, 1) := by decide +kernel
theorem dX6_findSite_22 : decode cX6_findSite 22 = .ok (.bipush 40, 2) := by decide +kernel
theorem dX6_findSite_24 : decode cX6_findSite 24 = .ok (.invokestatic 77, 3) := by decide +kernel
theorem dX6_findSite_27 : decode cX6_findSite 27 = .ok (.ifCond .eq 19, 3) := by decide +kernel
theorem dX6_findSite_30 : decode cX6_findSite 30 = .ok (.iload 5, 2) := by decide +kernel
theorem dX6_findSite_32 : decode cX6_findSite 32 = .ok (.bipush 10, 2) := by decide +kernel
theorem dX6_findSite_34 : decode cX6_findSite 34 = .ok (.imul, 1) := by decide +kernel
theorem dX6_findSite_35 : decode cX6_findSite 35 = .ok (.iload 4, 2) := by decide +kernel
theorem dX6_findSite_37 : decode cX6_findSite 37 = .ok (.iadd, 1) := by decide +kernel
theorem dX6_findSite_38 : decode cX6_findSite 38 = .ok (.bipush 10, 2) := by decide +kernel
theorem dX6_findSite_40 : decode cX6_findSite 40 = .ok (.imul, 1) := by decide +kernel
theorem dX6_findSite_41 : decode cX6_findSite 41 = .ok (.iload_n 3, 1) := by decide +kernel
theorem dX6_findSite_42 : decode cX6_findSite 42 = .ok (.iadd, 1) := by decide +kernel
theorem dX6_findSite_43 : decode cX6_findSite 43 = .ok (.goto 4, 3) := by decide +kernel
theorem dX6_findSite_46 : decode cX6_findSite 46 = .ok (.iconst 0, 1) := by decide +kernel
theorem dX6_findSite_47 : decode cX6_findSite 47 = .ok (.istore 6, 2) := by decide +kernel
theorem dX6_findSite_49 : decode cX6_findSite 49 = .ok (.iload 6, 2) := by decide +kernel
theorem dX6_findSite_51 : decode cX6_findSite 51 = .ok (.aload_n 0, 1) := by decide +kernel
theorem dX6_findSite_52 : decode cX6_findSite 52 = .ok (.getfield 48, 3) := by decide +kernel
theorem dX6_findSite_55 : decode cX6_findSite 55 = .ok (.if_icmp .ne 4, 3) := by decide +kernel
theorem dX6_findSite_58 : decode cX6_findSite 58 = .ok (.return_, 1) := by decide +kernel
theorem dX6_findSite_59 : decode cX6_findSite 59 = .ok (.aload_n 0, 1) := by decide +kernel
theorem dX6_findSite_60 : decode cX6_findSite 60 = .ok (.iload 6, 2) := by decide +kernel
theorem dX6_findSite_62 : decode cX6_findSite 62 = .ok (.putfield 48, 3) := by decide +kernel
theorem dX6_findSite_65 : decode cX6_findSite 65 = .ok (.aload_n 0, 1) := by decide +kernel
theorem dX6_findSite_66 : decode cX6_findSite 66 = .ok (.iconst (-1), 1) := by decide +kernel
theorem dX6_findSite_67 : decode cX6_findSite 67 = .ok (.putfield 39, 3) := by decide +kernel
theorem dX6_findSite_70 : decode cX6_findSite 70 = .ok (.aload_n 0, 1) := by decide +kernel
theorem dX6_findSite_71 : decode cX6_findSite 71 = .ok (.iconst (-1), 1) := by decide +kernel
theorem dX6_findSite_72 : decode cX6_findSite 72 = .ok (.putfield 42, 3) := by decide +kernel
theorem dX6_findSite_75 : decode cX6_findSite 75 = .ok (.aload_n 0, 1) := by decide +kernel
theorem dX6_findSite_76 : decode cX6_findSite 76 = .ok (.iconst 0, 1) := by decide +kernel
theorem dX6_findSite_77 : decode cX6_findSite 77 = .ok (.putfield 45, 3) := by decide +kernel
theorem dX6_findSite_80 : decode cX6_findSite 80 = .ok (.iconst 0, 1) := by decide +kernel
theorem dX6_findSite_81 : decode cX6_findSite 81 = .ok (.istore 7, 2) := by decide +kernel
theorem dX6_findSite_83 : decode cX6_findSite 83 = .ok (.iload 7, 2) := by decide +kernel
theorem dX6_findSite_85 : decode cX6_findSite 85 = .ok (.bipush 100, 2) := by decide +kernel
theorem dX6_findSite_87 : decode cX6_findSite 87 = .ok (.if_icmp .ge 116, 3) := by decide +kernel
theorem dX6_findSite_90 : decode cX6_findSite 90 = .ok (.iload 7, 2) := by decide +kernel
theorem dX6_findSite_92 : decode cX6_findSite 92 = .ok (.bipush 10, 2) := by decide +kernel
theorem dX6_findSite_94 : decode cX6_findSite 94 = .ok (.irem, 1) := by decide +kernel
theorem dX6_findSite_95 : decode cX6_findSite 95 = .ok (.istore 8, 2) := by decide +kernel
theorem dX6_findSite_97 : decode cX6_findSite 97 = .ok (.iload 7, 2) := by decide +kernel
theorem dX6_findSite_99 : decode cX6_findSite 99 = .ok (.bipush 10, 2) := by decide +kernel
theorem dX6_findSite_101 : decode cX6_findSite 101 = .ok (.idiv, 1) := by decide +kernel
theorem dX6_findSite_102 : decode cX6_findSite 102 = .ok (.istore 9, 2) := by decide +kernel
theorem dX6_findSite_104 : decode cX6_findSite 104 = .ok (.aload_n 1, 1) := by decide +kernel
theorem dX6_findSite_105 : decode cX6_findSite 105 = .ok (.iload 8, 2) := by decide +kernel
theorem dX6_findSite_107 : decode cX6_findSite 107 = .ok (.iload 9, 2) := by decide +kernel
theorem dX6_findSite_109 : decode cX6_findSite 109 = .ok (.iload_n 3, 1) := by decide +kernel
theorem dX6_findSite_110 : decode cX6_findSite 110 = .ok (.iload 4, 2) := by decide +kernel
theorem dX6_findSite_112 : decode cX6_findSite 112 = .ok (.iload 5, 2) := by decide +kernel
theorem dX6_findSite_114 : decode cX6_findSite 114 = .ok (.invokevirtual 95, 3) := by decide +kernel
theorem dX6_findSite_117 : decode cX6_findSite 117 = .ok (.ifCond .ne 80, 3) := by decide +kernel
theorem dX6_findSite_120 : decode cX6_findSite 120 = .ok (.aload_n 0, 1) := by decide +kernel
theorem dX6_findSite_121 : decode cX6_findSite 121 = .ok (.dup, 1) := by decide +kernel
theorem dX6_findSite_122 : decode cX6_findSite 122 = .ok (.getfield 45, 3) := by decide +kernel
theorem dX6_findSite_125 : decode cX6_findSite 125 = .ok (.iconst 1, 1) := by decide +kernel
theorem dX6_findSite_126 : decode cX6_findSite 126 = .ok (.iadd, 1) := by decide +kernel
theorem dX6_findSite_127 : decode cX6_findSite 127 = .ok (.putfield 45, 3) := by decide +kernel
theorem dX6_findSite_130 : decode cX6_findSite 130 = .ok (.aload_n 0, 1) := by decide +kernel
theorem dX6_findSite_131 : decode cX6_findSite 131 = .ok (.getfield 12, 3) := by decide +kernel
theorem dX6_findSite_134 : decode cX6_findSite 134 = .ok (.aload_n 1, 1) := by decide +kernel
theorem dX6_findSite_135 : decode cX6_findSite 135 = .ok (.getfield 62, 3) := by decide +kernel
theorem dX6_findSite_138 : decode cX6_findSite 138 = .ok (.invokevirtual 63, 3) := by decide +kernel
theorem dX6_findSite_141 : decode cX6_findSite 141 = .ok (.aload_n 0, 1) := by decide +kernel
theorem dX6_findSite_142 : decode cX6_findSite 142 = .ok (.getfield 12, 3) := by decide +kernel
theorem dX6_findSite_145 : decode cX6_findSite 145 = .ok (.iload 8, 2) := by decide +kernel
theorem dX6_findSite_147 : decode cX6_findSite 147 = .ok (.iload 9, 2) := by decide +kernel
theorem dX6_findSite_149 : decode cX6_findSite 149 = .ok (.iload_n 3, 1) := by decide +kernel
theorem dX6_findSite_150 : decode cX6_findSite 150 = .ok (.iload 4, 2) := by decide +kernel
theorem dX6_findSite_152 : decode cX6_findSite 152 = .ok (.iload 5, 2) := by decide +kernel
theorem dX6_findSite_154 : decode cX6_findSite 154 = .ok (.invokevirtual 99, 3) := by decide +kernel
theorem dX6_findSite_157 : decode cX6_findSite 157 = .ok (.aload_n 2, 1) := by decide +kernel
theorem dX6_findSite_158 : decode cX6_findSite 158 = .ok (.aload_n 1, 1) := by decide +kernel
theorem dX6_findSite_159 : decode cX6_findSite 159 = .ok (.aload_n 0, 1) := by decide +kernel
theorem dX6_findSite_160 : decode cX6_findSite 160 = .ok (.getfield 12, 3) := by decide +kernel
theorem dX6_findSite_163 : decode cX6_findSite 163 = .ok (.invokevirtual 71, 3) := by decide +kernel
theorem dX6_findSite_166 : decode cX6_findSite 166 = .ok (.istore 10, 2) := by decide +kernel
theorem dX6_findSite_168 : decode cX6_findSite 168 = .ok (.aload_n 0, 1) := by decide +kernel
theorem dX6_findSite_169 : decode cX6_findSite 169 = .ok (.getfield 39, 3) := by decide +kernel
theorem dX6_findSite_172 : decode cX6_findSite 172 = .ok (.iconst (-1), 1) := by decide +kernel
theorem dX6_findSite_173 : decode cX6_findSite 173 = .ok (.if_icmp .eq 12, 3) := by decide +kernel
theorem dX6_findSite_176 : decode cX6_findSite 176 = .ok (.iload 10, 2) := by decide +kernel
theorem dX6_findSite_178 : decode cX6_findSite 178 = .ok (.aload_n 0, 1) := by decide +kernel
theorem dX6_findSite_179 : decode cX6_findSite 179 = .ok (.getfield 42, 3) := by decide +kernel
theorem dX6_findSite_182 : decode cX6_findSite 182 = .ok (.if_icmp .ge 15, 3) := by decide +kernel
theorem dX6_findSite_185 : decode cX6_findSite 185 = .ok (.aload_n 0, 1) := by decide +kernel
theorem dX6_findSite_186 : decode cX6_findSite 186 = .ok (.iload 7, 2) := by decide +kernel
theorem dX6_findSite_188 : decode cX6_findSite 188 = .ok (.putfield 39, 3) := by decide +kernel
theorem dX6_findSite_191 : decode cX6_findSite 191 = .ok (.aload_n 0, 1) := by decide +kernel
theorem dX6_findSite_192 : decode cX6_findSite 192 = .ok (.iload 10, 2) := by decide +kernel
theorem dX6_findSite_194 : decode cX6_findSite 194 = .ok (.putfield 42, 3) := by decide +kernel
theorem dX6_findSite_197 : decode cX6_findSite 197 = .ok (.iinc 7 1, 3) := by decide +kernel
theorem dX6_findSite_200 : decode cX6_findSite 200 = .ok (.goto (-117), 3) := by decide +kernel
theorem dX6_findSite_203 : decode cX6_findSite 203 = .ok (.return_, 1) := by decide +kernel
theorem dX6_doWorks_0 : decode cX6_doWorks 0 = .ok (.aload_n 0, 1) := by decide +kernel
theorem dX6_doWorks_1 : decode cX6_doWorks 1 = .ok (.getfield 12, 3) := by decide +kernel
theorem dX6_doWorks_4 : decode cX6_doWorks 4 = .ok (.aload_n 1, 1) := by decide +kernel
theorem dX6_doWorks_5 : decode cX6_doWorks 5 = .ok (.getfield 62, 3) := by decide +kernel
theorem dX6_doWorks_8 : decode cX6_doWorks 8 = .ok (.invokevirtual 63, 3) := by decide +kernel
theorem dX6_doWorks_11 : decode cX6_doWorks 11 = .ok (.iconst 0, 1) := by decide +kernel
theorem dX6_doWorks_12 : decode cX6_doWorks 12 = .ok (.istore_n 3, 1) := by decide +kernel
theorem dX6_doWorks_13 : decode cX6_doWorks 13 = .ok (.iload_n 3, 1) := by decide +kernel
theorem dX6_doWorks_14 : decode cX6_doWorks 14 = .ok (.aload_n 1, 1) := by decide +kernel
theorem dX6_doWorks_15 : decode cX6_doWorks 15 = .ok (.getfield 103, 3) := by decide +kernel
theorem dX6_doWorks_18 : decode cX6_doWorks 18 = .ok (.getfield 107, 3) := by decide +kernel
theorem dX6_doWorks_21 : decode cX6_doWorks 21 = .ok (.if_icmp .ge 27, 3) := by decide +kernel
theorem dX6_doWorks_24 : decode cX6_doWorks 24 = .ok (.iload_n 2, 1) := by decide +kernel
theorem dX6_doWorks_25 : decode cX6_doWorks 25 = .ok (.iload_n 3, 1) := by decide +kernel
theorem dX6_doWorks_26 : decode cX6_doWorks 26 = .ok (.ishr, 1) := by decide +kernel
theorem dX6_doWorks_27 : decode cX6_doWorks 27 = .ok (.iconst 1, 1) := by decide +kernel
theorem dX6_doWorks_28 : decode cX6_doWorks 28 = .ok (.iand, 1) := by decide +kernel
theorem dX6_doWorks_29 : decode cX6_doWorks 29 = .ok (.iconst 1, 1) := by decide +kernel
theorem dX6_doWorks_30 : decode cX6_doWorks 30 = .ok (.if_icmp .ne 12, 3) := by decide +kernel
theorem dX6_doWorks_33 : decode cX6_doWorks 33 = .ok (.aload_n 1, 1) := by decide +kernel
theorem dX6_doWorks_34 : decode cX6_doWorks 34 = .ok (.iload_n 3, 1) := by decide +kernel
theorem dX6_doWorks_35 : decode cX6_doWorks 35 = .ok (.aload_n 0, 1) := by decide +kernel
theorem dX6_doWorks_36 : decode cX6_doWorks 36 = .ok (.getfield 12, 3) := by decide +kernel
theorem dX6_doWorks_39 : decode cX6_doWorks 39 = .ok (.invokevirtual 110, 3) := by decide +kernel
theorem dX6_doWorks_42 : decode cX6_doWorks 42 = .ok (.iinc 3 1, 3) := by decide +kernel
theorem dX6_doWorks_45 : decode cX6_doWorks 45 = .ok (.goto (-32), 3) := by decide +kernel
theorem dX6_doWorks_48 : decode cX6_doWorks 48 = .ok (.return_, 1) := by decide +kernel
theorem dX6_findLeast_0 : decode cX6_findLeast 0 = .ok (.aload_n 0, 1) := by decide +kernel
theorem dX6_findLeast_1 : decode cX6_findLeast 1 = .ok (.getfield 36, 3) := by decide +kernel
theorem dX6_findLeast_4 : decode cX6_findLeast 4 = .ok (.ifCond .eq 4, 3) := by decide +kernel
theorem dX6_findLeast_7 : decode cX6_findLeast 7 = .ok (.return_, 1) := by decide +kernel
theorem dX6_findLeast_8 : decode cX6_findLeast 8 = .ok (.aload_n 0, 1) := by decide +kernel
theorem dX6_findLeast_9 : decode cX6_findLeast 9 = .ok (.iconst 1, 1) := by decide +kernel
theorem dX6_findLeast_10 : decode cX6_findLeast 10 = .ok (.putfield 36, 3) := by decide +kernel
theorem dX6_findLeast_13 : decode cX6_findLeast 13 = .ok (.aload_n 0, 1) := by decide +kernel
theorem dX6_findLeast_14 : decode cX6_findLeast 14 = .ok (.iconst (-1), 1) := by decide +kernel
theorem dX6_findLeast_15 : decode cX6_findLeast 15 = .ok (.putfield 26, 3) := by decide +kernel
theorem dX6_findLeast_18 : decode cX6_findLeast 18 = .ok (.iconst 0, 1) := by decide +kernel
theorem dX6_findLeast_19 : decode cX6_findLeast 19 = .ok (.istore_n 3, 1) := by decide +kernel
theorem dX6_findLeast_20 : decode cX6_findLeast 20 = .ok (.iload_n 3, 1) := by decide +kernel
theorem dX6_findLeast_21 : decode cX6_findLeast 21 = .ok (.iconst 1, 1) := by decide +kernel
theorem dX6_findLeast_22 : decode cX6_findLeast 22 = .ok (.aload_n 1, 1) := by decide +kernel
theorem dX6_findLeast_23 : decode cX6_findLeast 23 = .ok (.getfield 103, 3) := by decide +kernel
theorem dX6_findLeast_26 : decode cX6_findLeast 26 = .ok (.getfield 107, 3) := by decide +kernel
theorem dX6_findLeast_29 : decode cX6_findLeast 29 = .ok (.ishl, 1) := by decide +kernel
theorem dX6_findLeast_30 : decode cX6_findLeast 30 = .ok (.if_icmp .ge 115, 3) := by decide +kernel
theorem dX6_findLeast_33 : decode cX6_findLeast 33 = .ok (.aload_n 1, 1) := by decide +kernel
theorem dX6_findLeast_34 : decode cX6_findLeast 34 = .ok (.getfield 103, 3) := by decide +kernel
theorem dX6_findLeast_37 : decode cX6_findLeast 37 = .ok (.iload_n 3, 1) := by decide +kernel
theorem dX6_findLeast_38 : decode cX6_findLeast 38 = .ok (.invokevirtual 114, 3) := by decide +kernel
theorem dX6_findLeast_41 : decode cX6_findLeast 41 = .ok (.istore 4, 2) := by decide +kernel
theorem dX6_findLeast_43 : decode cX6_findLeast 43 = .ok (.aload_n 0, 1) := by decide +kernel
theorem dX6_findLeast_44 : decode cX6_findLeast 44 = .ok (.getfield 26, 3) := by decide +kernel
theorem dX6_findLeast_47 : decode cX6_findLeast 47 = .ok (.iconst (-1), 1) := by decide +kernel
theorem dX6_findLeast_48 : decode cX6_findLeast 48 = .ok (.if_icmp .eq 22, 3) := by decide +kernel
theorem dX6_findLeast_51 : decode cX6_findLeast 51 = .ok (.aload_n 0, 1) := by decide +kernel
theorem dX6_findLeast_52 : decode cX6_findLeast 52 = .ok (.getfield 33, 3) := by decide +kernel
theorem dX6_findLeast_55 : decode cX6_findLeast 55 = .ok (.ifCond .ne 15, 3) := by decide +kernel
theorem dX6_findLeast_58 : decode cX6_findLeast 58 = .ok (.iload 4, 2) := by decide +kernel
theorem dX6_findLeast_60 : decode cX6_findLeast 60 = .ok (.aload_n 0, 1) := by decide +kernel
theorem dX6_findLeast_61 : decode cX6_findLeast 61 = .ok (.getfield 30, 3) := by decide +kernel
theorem dX6_findLeast_64 : decode cX6_findLeast 64 = .ok (.if_icmp .lt 6, 3) := by decide +kernel
theorem dX6_findLeast_67 : decode cX6_findLeast 67 = .ok (.goto 72, 3) := by decide +kernel
theorem dX6_findLeast_70 : decode cX6_findLeast 70 = .ok (.aload_n 0, 1) := by decide +kernel
theorem dX6_findLeast_71 : decode cX6_findLeast 71 = .ok (.aload_n 1, 1) := by decide +kernel
theorem dX6_findLeast_72 : decode cX6_findLeast 72 = .ok (.iload_n 3, 1) := by decide +kernel
theorem dX6_findLeast_73 : decode cX6_findLeast 73 = .ok (.invokevirtual 117, 3) := by decide +kernel
theorem dX6_findLeast_76 : decode cX6_findLeast 76 = .ok (.aload_n 2, 1) := by decide +kernel
theorem dX6_findLeast_77 : decode cX6_findLeast 77 = .ok (.aload_n 1, 1) := by decide +kernel
theorem dX6_findLeast_78 : decode cX6_findLeast 78 = .ok (.aload_n 0, 1) := by decide +kernel
theorem dX6_findLeast_79 : decode cX6_findLeast 79 = .ok (.getfield 12, 3) := by decide +kernel
theorem dX6_findLeast_82 : decode cX6_findLeast 82 = .ok (.invokevirtual 71, 3) := by decide +kernel
theorem dX6_findLeast_85 : decode cX6_findLeast 85 = .ok (.istore 5, 2) := by decide +kernel
theorem dX6_findLeast_87 : decode cX6_findLeast 87 = .ok (.aload_n 0, 1) := by decide +kernel
theorem dX6_findLeast_88 : decode cX6_findLeast 88 = .ok (.getfield 26, 3) := by decide +kernel
theorem dX6_findLeast_91 : decode cX6_findLeast 91 = .ok (.iconst (-1), 1) := by decide +kernel
theorem dX6_findLeast_92 : decode cX6_findLeast 92 = .ok (.if_icmp .eq 30, 3) := by decide +kernel
theorem dX6_findLeast_95 : decode cX6_findLeast 95 = .ok (.iload 5, 2) := by decide +kernel
theorem dX6_findLeast_97 : decode cX6_findLeast 97 = .ok (.aload_n 0, 1) := by decide +kernel
theorem dX6_findLeast_98 : decode cX6_findLeast 98 = .ok (.getfield 33, 3) := by decide +kernel
theorem dX6_findLeast_101 : decode cX6_findLeast 101 = .ok (.if_icmp .lt 21, 3) := by decide +kernel
theorem dX6_findLeast_104 : decode cX6_findLeast 104 = .ok (.iload 5, 2) := by decide +kernel
theorem dX6_findLeast_106 : decode cX6_findLeast 106 = .ok (.aload_n 0, 1) := by decide +kernel
theorem dX6_findLeast_107 : decode cX6_findLeast 107 = .ok (.getfield 33, 3) := by decide +kernel
theorem dX6_findLeast_110 : decode cX6_findLeast 110 = .ok (.if_icmp .ne 29, 3) := by decide +kernel
theorem dX6_findLeast_113 : decode cX6_findLeast 113 = .ok (.iload 4, 2) := by decide +kernel
theorem dX6_findLeast_115 : decode cX6_findLeast 115 = .ok (.aload_n 0, 1) := by decide +kernel
theorem dX6_findLeast_116 : decode cX6_findLeast 116 = .ok (.getfield 30, 3) := by decide +kernel
theorem dX6_findLeast_119 : decode cX6_findLeast 119 = .ok (.if_icmp .ge 20, 3) := by decide +kernel
theorem dX6_findLeast_122 : decode cX6_findLeast 122 = .ok (.aload_n 0, 1) := by decide +kernel
theorem dX6_findLeast_123 : decode cX6_findLeast 123 = .ok (.iload_n 3, 1) := by decide +kernel
theorem dX6_findLeast_124 : decode cX6_findLeast 124 = .ok (.putfield 26, 3) := by decide +kernel
theorem dX6_findLeast_127 : decode cX6_findLeast 127 = .ok (.aload_n 0, 1) := by decide +kernel
theorem dX6_findLeast_128 : decode cX6_findLeast 128 = .ok (.iload 4, 2) := by decide +kernel
theorem dX6_findLeast_130 : decode cX6_findLeast 130 = .ok (.putfield 30, 3) := by decide +kernel
theorem dX6_findLeast_133 : decode cX6_findLeast 133 = .ok (.aload_n 0, 1) := by decide +kernel
theorem dX6_findLeast_134 : decode cX6_findLeast 134 = .ok (.iload 5, 2) := by decide +kernel
theorem dX6_findLeast_136 : decode cX6_findLeast 136 = .ok (.putfield 33, 3) := by decide +kernel
theorem dX6_findLeast_139 : decode cX6_findLeast 139 = .ok (.iinc 3 1, 3) := by decide +kernel
theorem dX6_findLeast_142 : decode cX6_findLeast 142 = .ok (.goto (-122), 3) := by decide +kernel
theorem dX6_findLeast_145 : decode cX6_findLeast 145 = .ok (.return_, 1) := by decide +kernel
theorem dX6_isHurt_0 : decode cX6_isHurt 0 = .ok (.iload_n 3, 1) := by decide +kernel
theorem dX6_isHurt_1 : decode cX6_isHurt 1 = .ok (.invokestatic 121, 3) := by decide +kernel
theorem dX6_isHurt_4 : decode cX6_isHurt 4 = .ok (.istore 4, 2) := by decide +kernel
theorem dX6_isHurt_6 : decode cX6_isHurt 6 = .ok (.aload_n 0, 1) := by decide +kernel
theorem dX6_isHurt_7 : decode cX6_isHurt 7 = .ok (.getfield 12, 3) := by decide +kernel
theorem dX6_isHurt_10 : decode cX6_isHurt 10 = .ok (.getfield 124, 3) := by decide +kernel
theorem dX6_isHurt_13 : decode cX6_isHurt 13 = .ok (.iload 4, 2) := by decide +kernel
theorem dX6_isHurt_15 : decode cX6_isHurt 15 = .ok (.iaload, 1) := by decide +kernel
theorem dX6_isHurt_16 : decode cX6_isHurt 16 = .ok (.istore 5, 2) := by decide +kernel
theorem dX6_isHurt_18 : decode cX6_isHurt 18 = .ok (.iload 5, 2) := by decide +kernel
theorem dX6_isHurt_20 : decode cX6_isHurt 20 = .ok (.iconst 1, 1) := by decide +kernel
theorem dX6_isHurt_21 : decode cX6_isHurt 21 = .ok (.iconst 3, 1) := by decide +kernel
theorem dX6_isHurt_22 : decode cX6_isHurt 22 = .ok (.invokestatic 77, 3) := by decide +kernel
theorem dX6_isHurt_25 : decode cX6_isHurt 25 = .ok (.ifCond .ne 5, 3) := by decide +kernel
theorem dX6_isHurt_28 : decode cX6_isHurt 28 = .ok (.iconst 0, 1) := by decide +kernel
theorem dX6_isHurt_29 : decode cX6_isHurt 29 = .ok (.ireturn, 1) := by decide +kernel
theorem dX6_isHurt_30 : decode cX6_isHurt 30 = .ok (.aload_n 1, 1) := by decide +kernel
theorem dX6_isHurt_31 : decode cX6_isHurt 31 = .ok (.getfield 127, 3) := by decide +kernel
theorem dX6_isHurt_34 : decode cX6_isHurt 34 = .ok (.iload 5, 2) := by decide +kernel
theorem dX6_isHurt_36 : decode cX6_isHurt 36 = .ok (.iaload, 1) := by decide +kernel
theorem dX6_isHurt_37 : decode cX6_isHurt 37 = .ok (.istore 6, 2) := by decide +kernel
theorem dX6_isHurt_39 : decode cX6_isHurt 39 = .ok (.aload_n 2, 1) := by decide +kernel
theorem dX6_isHurt_40 : decode cX6_isHurt 40 = .ok (.aload_n 1, 1) := by decide +kernel
theorem dX6_isHurt_41 : decode cX6_isHurt 41 = .ok (.aload_n 0, 1) := by decide +kernel
theorem dX6_isHurt_42 : decode cX6_isHurt 42 = .ok (.getfield 12, 3) := by decide +kernel
theorem dX6_isHurt_45 : decode cX6_isHurt 45 = .ok (.iload 4, 2) := by decide +kernel
theorem dX6_isHurt_47 : decode cX6_isHurt 47 = .ok (.iload 6, 2) := by decide +kernel
theorem dX6_isHurt_49 : decode cX6_isHurt 49 = .ok (.invokevirtual 130, 3) := by decide +kernel
theorem dX6_isHurt_52 : decode cX6_isHurt 52 = .ok (.aload_n 2, 1) := by decide +kernel
theorem dX6_isHurt_53 : decode cX6_isHurt 53 = .ok (.aload_n 1, 1) := by decide +kernel
theorem dX6_isHurt_54 : decode cX6_isHurt 54 = .ok (.aload_n 1, 1) := by decide +kernel
theorem dX6_isHurt_55 : decode cX6_isHurt 55 = .ok (.getfield 62, 3) := by decide +kernel
theorem dX6_isHurt_58 : decode cX6_isHurt 58 = .ok (.iload 4, 2) := by decide +kernel
theorem dX6_isHurt_60 : decode cX6_isHurt 60 = .ok (.iload 6, 2) := by decide +kernel
theorem dX6_isHurt_62 : decode cX6_isHurt 62 = .ok (.invokevirtual 130, 3) := by decide +kernel
theorem dX6_isHurt_65 : decode cX6_isHurt 65 = .ok (.if_icmp .le 7, 3) := by decide +kernel
theorem dX6_isHurt_68 : decode cX6_isHurt 68 = .ok (.iconst 1, 1) := by decide +kernel
theorem dX6_isHurt_69 : decode cX6_isHurt 69 = .ok (.goto 4, 3) := by decide +kernel
theorem dX6_isHurt_72 : decode cX6_isHurt 72 = .ok (.iconst 0, 1) := by decide +kernel
theorem dX6_isHurt_73 : decode cX6_isHurt 73 = .ok (.ireturn, 1) := by decide +kernel
theorem dX6_hurtCells_0 : decode cX6_hurtCells 0 = .ok (.iconst 0, 1) := by decide +kernel
theorem dX6_hurtCells_1 : decode cX6_hurtCells 1 = .ok (.istore_n 3, 1) := by decide +kernel
theorem dX6_hurtCells_2 : decode cX6_hurtCells 2 = .ok (.iconst 0, 1) := by decide +kernel
theorem dX6_hurtCells_3 : decode cX6_hurtCells 3 = .ok (.istore 4, 2) := by decide +kernel
theorem dX6_hurtCells_5 : decode cX6_hurtCells 5 = .ok (.iload 4, 2) := by decide +kernel
theorem dX6_hurtCells_7 : decode cX6_hurtCells 7 = .ok (.bipush 100, 2) := by decide +kernel
theorem dX6_hurtCells_9 : decode cX6_hurtCells 9 = .ok (.if_icmp .ge 28, 3) := by decide +kernel
theorem dX6_hurtCells_12 : decode cX6_hurtCells 12 = .ok (.iload_n 3, 1) := by decide +kernel
theorem dX6_hurtCells_13 : decode cX6_hurtCells 13 = .ok (.aload_n 0, 1) := by decide +kernel
theorem dX6_hurtCells_14 : decode cX6_hurtCells 14 = .ok (.aload_n 1, 1) := by decide +kernel
theorem dX6_hurtCells_15 : decode cX6_hurtCells 15 = .ok (.aload_n 2, 1) := by decide +kernel
theorem dX6_hurtCells_16 : decode cX6_hurtCells 16 = .ok (.iload 4, 2) := by decide +kernel
theorem dX6_hurtCells_18 : decode cX6_hurtCells 18 = .ok (.invokevirtual 134, 3) := by decide +kernel
theorem dX6_hurtCells_21 : decode cX6_hurtCells 21 = .ok (.ifCond .eq 7, 3) := by decide +kernel
theorem dX6_hurtCells_24 : decode cX6_hurtCells 24 = .ok (.iconst 1, 1) := by decide +kernel
theorem dX6_hurtCells_25 : decode cX6_hurtCells 25 = .ok (.goto 4, 3) := by decide +kernel
theorem dX6_hurtCells_28 : decode cX6_hurtCells 28 = .ok (.iconst 0, 1) := by decide +kernel
theorem dX6_hurtCells_29 : decode cX6_hurtCells 29 = .ok (.iadd, 1) := by decide +kernel
theorem dX6_hurtCells_30 : decode cX6_hurtCells 30 = .ok (.istore_n 3, 1) := by decide +kernel
theorem dX6_hurtCells_31 : decode cX6_hurtCells 31 = .ok (.iinc 4 1, 3) := by decide +kernel
theorem dX6_hurtCells_34 : decode cX6_hurtCells 34 = .ok (.goto (-29), 3) := by decide +kernel
theorem dX6_hurtCells_37 : decode cX6_hurtCells 37 = .ok (.iload_n 3, 1) := by decide +kernel
theorem dX6_hurtCells_38 : decode cX6_hurtCells 38 = .ok (.ireturn, 1) := by decide +kernel
theorem dX6_lowestHurt_0 : decode cX6_lowestHurt 0 = .ok (.iconst 0, 1) := by decide +kernel
theorem dX6_lowestHurt_1 : decode cX6_lowestHurt 1 = .ok (.istore_n 3, 1) := by decide +kernel
theorem dX6_lowestHurt_2 : decode cX6_lowestHurt 2 = .ok (.iload_n 3, 1) := by decide +kernel
theorem dX6_lowestHurt_3 : decode cX6_lowestHurt 3 = .ok (.bipush 100, 2) := by decide +kernel
theorem dX6_lowestHurt_5 : decode cX6_lowestHurt 5 = .ok (.if_icmp .ge 21, 3) := by decide +kernel
theorem dX6_lowestHurt_8 : decode cX6_lowestHurt 8 = .ok (.aload_n 0, 1) := by decide +kernel
theorem dX6_lowestHurt_9 : decode cX6_lowestHurt 9 = .ok (.aload_n 1, 1) := by decide +kernel
theorem dX6_lowestHurt_10 : decode cX6_lowestHurt 10 = .ok (.aload_n 2, 1) := by decide +kernel
theorem dX6_lowestHurt_11 : decode cX6_lowestHurt 11 = .ok (.iload_n 3, 1) := by decide +kernel
theorem dX6_lowestHurt_12 : decode cX6_lowestHurt 12 = .ok (.invokevirtual 134, 3) := by decide +kernel
theorem dX6_lowestHurt_15 : decode cX6_lowestHurt 15 = .ok (.ifCond .eq 5, 3) := by decide +kernel
theorem dX6_lowestHurt_18 : decode cX6_lowestHurt 18 = .ok (.iload_n 3, 1) := by decide +kernel
theorem dX6_lowestHurt_19 : decode cX6_lowestHurt 19 = .ok (.ireturn, 1) := by decide +kernel
theorem dX6_lowestHurt_20 : decode cX6_lowestHurt 20 = .ok (.iinc 3 1, 3) := by decide +kernel
theorem dX6_lowestHurt_23 : decode cX6_lowestHurt 23 = .ok (.goto (-21), 3) := by decide +kernel
theorem dX6_lowestHurt_26 : decode cX6_lowestHurt 26 = .ok (.iconst (-1), 1) := by decide +kernel
theorem dX6_lowestHurt_27 : decode cX6_lowestHurt 27 = .ok (.ireturn, 1) := by decide +kernel
