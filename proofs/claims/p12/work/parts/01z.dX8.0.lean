theorem dX8_init_0 : decode cX8_init 0 = .ok (.aload_n 0, 1) := by decide +kernel
theorem dX8_init_1 : decode cX8_init 1 = .ok (.invokespecial 3, 3) := by decide +kernel
theorem dX8_init_4 : decode cX8_init 4 = .ok (.aload_n 0, 1) := by decide +kernel
theorem dX8_init_5 : decode cX8_init 5 = .ok (.bipush 8, 2) := by decide +kernel
theorem dX8_init_7 : decode cX8_init 7 = .ok (.newarray .int, 2) := by decide +kernel
theorem dX8_init_9 : decode cX8_init 9 = .ok (.putfield 9, 3) := by decide +kernel
theorem dX8_init_12 : decode cX8_init 12 = .ok (.aload_n 0, 1) := by decide +kernel
theorem dX8_init_13 : decode cX8_init 13 = .ok (.bipush 8, 2) := by decide +kernel
theorem dX8_init_15 : decode cX8_init 15 = .ok (.newarray .int, 2) := by decide +kernel
theorem dX8_init_17 : decode cX8_init 17 = .ok (.putfield 15, 3) := by decide +kernel
theorem dX8_init_20 : decode cX8_init 20 = .ok (.aload_n 0, 1) := by decide +kernel
theorem dX8_init_21 : decode cX8_init 21 = .ok (.bipush 8, 2) := by decide +kernel
theorem dX8_init_23 : decode cX8_init 23 = .ok (.newarray .int, 2) := by decide +kernel
theorem dX8_init_25 : decode cX8_init 25 = .ok (.putfield 18, 3) := by decide +kernel
theorem dX8_init_28 : decode cX8_init 28 = .ok (.aload_n 0, 1) := by decide +kernel
theorem dX8_init_29 : decode cX8_init 29 = .ok (.bipush 8, 2) := by decide +kernel
theorem dX8_init_31 : decode cX8_init 31 = .ok (.newarray .int, 2) := by decide +kernel
theorem dX8_init_33 : decode cX8_init 33 = .ok (.putfield 21, 3) := by decide +kernel
theorem dX8_init_36 : decode cX8_init 36 = .ok (.aload_n 0, 1) := by decide +kernel
theorem dX8_init_37 : decode cX8_init 37 = .ok (.iconst 0, 1) := by decide +kernel
theorem dX8_init_38 : decode cX8_init 38 = .ok (.putfield 24, 3) := by decide +kernel
theorem dX8_init_41 : decode cX8_init 41 = .ok (.return_, 1) := by decide +kernel
theorem dX8_become_0 : decode cX8_become 0 = .ok (.aload_n 1, 1) := by decide +kernel
theorem dX8_become_1 : decode cX8_become 1 = .ok (.getfield 9, 3) := by decide +kernel
theorem dX8_become_4 : decode cX8_become 4 = .ok (.iconst 0, 1) := by decide +kernel
theorem dX8_become_5 : decode cX8_become 5 = .ok (.aload_n 0, 1) := by decide +kernel
theorem dX8_become_6 : decode cX8_become 6 = .ok (.getfield 9, 3) := by decide +kernel
theorem dX8_become_9 : decode cX8_become 9 = .ok (.iconst 0, 1) := by decide +kernel
theorem dX8_become_10 : decode cX8_become 10 = .ok (.bipush 8, 2) := by decide +kernel
theorem dX8_become_12 : decode cX8_become 12 = .ok (.invokestatic 28, 3) := by decide +kernel
theorem dX8_become_15 : decode cX8_become 15 = .ok (.aload_n 1, 1) := by decide +kernel
theorem dX8_become_16 : decode cX8_become 16 = .ok (.getfield 15, 3) := by decide +kernel
theorem dX8_become_19 : decode cX8_become 19 = .ok (.iconst 0, 1) := by decide +kernel
theorem dX8_become_20 : decode cX8_become 20 = .ok (.aload_n 0, 1) := by decide +kernel
theorem dX8_become_21 : decode cX8_become 21 = .ok (.getfield 15, 3) := by decide +kernel
theorem dX8_become_24 : decode cX8_become 24 = .ok (.iconst 0, 1) := by decide +kernel
theorem dX8_become_25 : decode cX8_become 25 = .ok (.bipush 8, 2) := by decide +kernel
theorem dX8_become_27 : decode cX8_become 27 = .ok (.invokestatic 28, 3) := by decide +kernel
theorem dX8_become_30 : decode cX8_become 30 = .ok (.aload_n 1, 1) := by decide +kernel
theorem dX8_become_31 : decode cX8_become 31 = .ok (.getfield 18, 3) := by decide +kernel
theorem dX8_become_34 : decode cX8_become 34 = .ok (.iconst 0, 1) := by decide +kernel
theorem dX8_become_35 : decode cX8_become 35 = .ok (.aload_n 0, 1) := by decide +kernel
theorem dX8_become_36 : decode cX8_become 36 = .ok (.getfield 18, 3) := by decide +kernel
theorem dX8_become_39 : decode cX8_become 39 = .ok (.iconst 0, 1) := by decide +kernel
theorem dX8_become_40 : decode cX8_become 40 = .ok (.bipush 8, 2) := by decide +kernel
theorem dX8_become_42 : decode cX8_become 42 = .ok (.invokestatic 28, 3) := by decide +kernel
theorem dX8_become_45 : decode cX8_become 45 = .ok (.aload_n 1, 1) := by decide +kernel
theorem dX8_become_46 : decode cX8_become 46 = .ok (.getfield 21, 3) := by decide +kernel
theorem dX8_become_49 : decode cX8_become 49 = .ok (.iconst 0, 1) := by decide +kernel
theorem dX8_become_50 : decode cX8_become 50 = .ok (.aload_n 0, 1) := by decide +kernel
theorem dX8_become_51 : decode cX8_become 51 = .ok (.getfield 21, 3) := by decide +kernel
theorem dX8_become_54 : decode cX8_become 54 = .ok (.iconst 0, 1) := by decide +kernel
theorem dX8_become_55 : decode cX8_become 55 = .ok (.bipush 8, 2) := by decide +kernel
theorem dX8_become_57 : decode cX8_become 57 = .ok (.invokestatic 28, 3) := by decide +kernel
theorem dX8_become_60 : decode cX8_become 60 = .ok (.aload_n 0, 1) := by decide +kernel
theorem dX8_become_61 : decode cX8_become 61 = .ok (.aload_n 1, 1) := by decide +kernel
theorem dX8_become_62 : decode cX8_become 62 = .ok (.getfield 24, 3) := by decide +kernel
theorem dX8_become_65 : decode cX8_become 65 = .ok (.putfield 24, 3) := by decide +kernel
theorem dX8_become_68 : decode cX8_become 68 = .ok (.return_, 1) := by decide +kernel
theorem dX8_add_0 : decode cX8_add 0 = .ok (.aload_n 0, 1) := by decide +kernel
theorem dX8_add_1 : decode cX8_add 1 = .ok (.getfield 24, 3) := by decide +kernel
theorem dX8_add_4 : decode cX8_add 4 = .ok (.bipush 8, 2) := by decide +kernel
theorem dX8_add_6 : decode cX8_add 6 = .ok (.if_icmp .lt 5, 3) := by decide +kernel
theorem dX8_add_9 : decode cX8_add 9 = .ok (.iconst (-1), 1) := by decide +kernel
theorem dX8_add_10 : decode cX8_add 10 = .ok (.ireturn, 1) := by decide +kernel
theorem dX8_add_11 : decode cX8_add 11 = .ok (.aload_n 0, 1) := by decide +kernel
theorem dX8_add_12 : decode cX8_add 12 = .ok (.getfield 9, 3) := by decide +kernel
theorem dX8_add_15 : decode cX8_add 15 = .ok (.aload_n 0, 1) := by decide +kernel
theorem dX8_add_16 : decode cX8_add 16 = .ok (.getfield 24, 3) := by decide +kernel
theorem dX8_add_19 : decode cX8_add 19 = .ok (.iload_n 1, 1) := by decide +kernel
theorem dX8_add_20 : decode cX8_add 20 = .ok (.iastore, 1) := by decide +kernel
theorem dX8_add_21 : decode cX8_add 21 = .ok (.aload_n 0, 1) := by decide +kernel
theorem dX8_add_22 : decode cX8_add 22 = .ok (.getfield 15, 3) := by decide +kernel
theorem dX8_add_25 : decode cX8_add 25 = .ok (.aload_n 0, 1) := by decide +kernel
theorem dX8_add_26 : decode cX8_add 26 = .ok (.getfield 24, 3) := by decide +kernel
theorem dX8_add_29 : decode cX8_add 29 = .ok (.iload_n 2, 1) := by decide +kernel
theorem dX8_add_30 : decode cX8_add 30 = .ok (.iastore, 1) := by decide +kernel
theorem dX8_add_31 : decode cX8_add 31 = .ok (.aload_n 0, 1) := by decide +kernel
theorem dX8_add_32 : decode cX8_add 32 = .ok (.getfield 18, 3) := by decide +kernel
theorem dX8_add_35 : decode cX8_add 35 = .ok (.aload_n 0, 1) := by decide +kernel
theorem dX8_add_36 : decode cX8_add 36 = .ok (.getfield 24, 3) := by decide +kernel
theorem dX8_add_39 : decode cX8_add 39 = .ok (.iload_n 3, 1) := by decide +kernel
theorem dX8_add_40 : decode cX8_add 40 = .ok (.iastore, 1) := by decide +kernel
theorem dX8_add_41 : decode cX8_add 41 = .ok (.aload_n 0, 1) := by decide +kernel
theorem dX8_add_42 : decode cX8_add 42 = .ok (.getfield 21, 3) := by decide +kernel
theorem dX8_add_45 : decode cX8_add 45 = .ok (.aload_n 0, 1) := by decide +kernel
theorem dX8_add_46 : decode cX8_add 46 = .ok (.getfield 24, 3) := by decide +kernel
theorem dX8_add_49 : decode cX8_add 49 = .ok (.iload 4, 2) := by decide +kernel
theorem dX8_add_51 : decode cX8_add 51 = .ok (.iastore, 1) := by decide +kernel
theorem dX8_add_52 : decode cX8_add 52 = .ok (.aload_n 0, 1) := by decide +kernel
theorem dX8_add_53 : decode cX8_add 53 = .ok (.dup, 1) := by decide +kernel
theorem dX8_add_54 : decode cX8_add 54 = .ok (.getfield 24, 3) := by decide +kernel
theorem dX8_add_57 : decode cX8_add 57 = .ok (.iconst 1, 1) := by decide +kernel
theorem dX8_add_58 : decode cX8_add 58 = .ok (.iadd, 1) := by decide +kernel
theorem dX8_add_59 : decode cX8_add 59 = .ok (.putfield 24, 3) := by decide +kernel
theorem dX8_add_62 : decode cX8_add 62 = .ok (.aload_n 0, 1) := by decide +kernel
theorem dX8_add_63 : decode cX8_add 63 = .ok (.getfield 24, 3) := by decide +kernel
theorem dX8_add_66 : decode cX8_add 66 = .ok (.iconst 1, 1) := by decide +kernel
theorem dX8_add_67 : decode cX8_add 67 = .ok (.isub, 1) := by decide +kernel
theorem dX8_add_68 : decode cX8_add 68 = .ok (.ireturn, 1) := by decide +kernel
theorem dX8_takeOut_0 : decode cX8_takeOut 0 = .ok (.iload_n 1, 1) := by decide +kernel
theorem dX8_takeOut_1 : decode cX8_takeOut 1 = .ok (.ifCond .lt 11, 3) := by decide +kernel
theorem dX8_takeOut_4 : decode cX8_takeOut 4 = .ok (.iload_n 1, 1) := by decide +kernel
theorem dX8_takeOut_5 : decode cX8_takeOut 5 = .ok (.aload_n 0, 1) := by decide +kernel
theorem dX8_takeOut_6 : decode cX8_takeOut 6 = .ok (.getfield 24, 3) := by decide +kernel
theorem dX8_takeOut_9 : decode cX8_takeOut 9 = .ok (.if_icmp .lt 4, 3) := by decide +kernel
theorem dX8_takeOut_12 : decode cX8_takeOut 12 = .ok (.return_, 1) := by decide +kernel
theorem dX8_takeOut_13 : decode cX8_takeOut 13 = .ok (.iload_n 1, 1) := by decide +kernel
theorem dX8_takeOut_14 : decode cX8_takeOut 14 = .ok (.istore_n 2, 1) := by decide +kernel
theorem dX8_takeOut_15 : decode cX8_takeOut 15 = .ok (.iload_n 2, 1) := by decide +kernel
theorem dX8_takeOut_16 : decode cX8_takeOut 16 = .ok (.iconst 1, 1) := by decide +kernel
theorem dX8_takeOut_17 : decode cX8_takeOut 17 = .ok (.iadd, 1) := by decide +kernel
theorem dX8_takeOut_18 : decode cX8_takeOut 18 = .ok (.aload_n 0, 1) := by decide +kernel
theorem dX8_takeOut_19 : decode cX8_takeOut 19 = .ok (.getfield 24, 3) := by decide +kernel
theorem dX8_takeOut_22 : decode cX8_takeOut 22 = .ok (.if_icmp .ge 65, 3) := by decide +kernel
theorem dX8_takeOut_25 : decode cX8_takeOut 25 = .ok (.aload_n 0, 1) := by decide +kernel
theorem dX8_takeOut_26 : decode cX8_takeOut 26 = .ok (.getfield 9, 3) := by decide +kernel
theorem dX8_takeOut_29 : decode cX8_takeOut 29 = .ok (.iload_n 2, 1) := by decide +kernel
theorem dX8_takeOut_30 : decode cX8_takeOut 30 = .ok (.aload_n 0, 1) := by decide +kernel
theorem dX8_takeOut_31 : decode cX8_takeOut 31 = .ok (.getfield 9, 3) := by decide +kernel
theorem dX8_takeOut_34 : decode cX8_takeOut 34 = .ok (.iload_n 2, 1) := by decide +kernel
theorem dX8_takeOut_35 : decode cX8_takeOut 35 = .ok (.iconst 1, 1) := by decide +kernel
theorem dX8_takeOut_36 : decode cX8_takeOut 36 = .ok (.iadd, 1) := by decide +kernel
theorem dX8_takeOut_37 : decode cX8_takeOut 37 = .ok (.iaload, 1) := by decide +kernel
theorem dX8_takeOut_38 : decode cX8_takeOut 38 = .ok (.iastore, 1) := by decide +kernel
theorem dX8_takeOut_39 : decode cX8_takeOut 39 = .ok (.aload_n 0, 1) := by decide +kernel
theorem dX8_takeOut_40 : decode cX8_takeOut 40 = .ok (.getfield 15, 3) := by decide +kernel
theorem dX8_takeOut_43 : decode cX8_takeOut 43 = .ok (.iload_n 2, 1) := by decide +kernel
theorem dX8_takeOut_44 : decode cX8_takeOut 44 = .ok (.aload_n 0, 1) := by decide +kernel
theorem dX8_takeOut_45 : decode cX8_takeOut 45 = .ok (.getfield 15, 3) := by decide +kernel
theorem dX8_takeOut_48 : decode cX8_takeOut 48 = .ok (.iload_n 2, 1) := by decide +kernel
theorem dX8_takeOut_49 : decode cX8_takeOut 49 = .ok (.iconst 1, 1) := by decide +kernel
theorem dX8_takeOut_50 : decode cX8_takeOut 50 = .ok (.iadd, 1) := by decide +kernel
theorem dX8_takeOut_51 : decode cX8_takeOut 51 = .ok (.iaload, 1) := by decide +kernel
theorem dX8_takeOut_52 : decode cX8_takeOut 52 = .ok (.iastore, 1) := by decide +kernel
theorem dX8_takeOut_53 : decode cX8_takeOut 53 = .ok (.aload_n 0, 1) := by decide +kernel
theorem dX8_takeOut_54 : decode cX8_takeOut 54 = .ok (.getfield 18, 3) := by decide +kernel
theorem dX8_takeOut_57 : decode cX8_takeOut 57 = .ok (.iload_n 2, 1) := by decide +kernel
theorem dX8_takeOut_58 : decode cX8_takeOut 58 = .ok (.aload_n 0, 1) := by decide +kernel
theorem dX8_takeOut_59 : decode cX8_takeOut 59 = .ok (.getfield 18, 3) := by decide +kernel
theorem dX8_takeOut_62 : decode cX8_takeOut 62 = .ok (.iload_n 2, 1) := by decide +kernel
theorem dX8_takeOut_63 : decode cX8_takeOut 63 = .ok (.iconst 1, 1) := by decide +kernel
theorem dX8_takeOut_64 : decode cX8_takeOut 64 = .ok (.iadd, 1) := by decide +kernel
theorem dX8_takeOut_65 : decode cX8_takeOut 65 = .ok (.iaload, 1) := by decide +kernel
theorem dX8_takeOut_66 : decode cX8_takeOut 66 = .ok (.iastore, 1) := by decide +kernel
theorem dX8_takeOut_67 : decode cX8_takeOut 67 = .ok (.aload_n 0, 1) := by decide +kernel
theorem dX8_takeOut_68 : decode cX8_takeOut 68 = .ok (.getfield 21, 3) := by decide +kernel
theorem dX8_takeOut_71 : decode cX8_takeOut 71 = .ok (.iload_n 2, 1) := by decide +kernel
theorem dX8_takeOut_72 : decode cX8_takeOut 72 = .ok (.aload_n 0, 1) := by decide +kernel
theorem dX8_takeOut_73 : decode cX8_takeOut 73 = .ok (.getfield 21, 3) := by decide +kernel
theorem dX8_takeOut_76 : decode cX8_takeOut 76 = .ok (.iload_n 2, 1) := by decide +kernel
theorem dX8_takeOut_77 : decode cX8_takeOut 77 = .ok (.iconst 1, 1) := by decide +kernel
theorem dX8_takeOut_78 : decode cX8_takeOut 78 = .ok (.iadd, 1) := by decide +kernel
theorem dX8_takeOut_79 : decode cX8_takeOut 79 = .ok (.iaload, 1) := by decide +kernel
theorem dX8_takeOut_80 : decode cX8_takeOut 80 = .ok (.iastore, 1) := by decide +kernel
theorem dX8_takeOut_81 : decode cX8_takeOut 81 = .ok (.iinc 2 1, 3) := by decide +kernel
theorem dX8_takeOut_84 : decode cX8_takeOut 84 = .ok (.goto (-69), 3) := by decide +kernel
theorem dX8_takeOut_87 : decode cX8_takeOut 87 = .ok (.aload_n 0, 1) := by decide +kernel
theorem dX8_takeOut_88 : decode cX8_takeOut 88 = .ok (.dup, 1) := by decide +kernel
theorem dX8_takeOut_89 : decode cX8_takeOut 89 = .ok (.getfield 24, 3) := by decide +kernel
theorem dX8_takeOut_92 : decode cX8_takeOut 92 = .ok (.iconst 1, 1) := by decide +kernel
theorem dX8_takeOut_93 : decode cX8_takeOut 93 = .ok (.isub, 1) := by decide +kernel
theorem dX8_takeOut_94 : decode cX8_takeOut 94 = .ok (.putfield 24, 3) := by decide +kernel
theorem dX8_takeOut_97 : decode cX8_takeOut 97 = .ok (.return_, 1) := by decide +kernel
theorem dX8_haveAll_0 : decode cX8_haveAll 0 = .ok (.iload_n 1, 1) := by decide +kernel
theorem dX8_haveAll_1 : decode cX8_haveAll 1 = .ok (.ifCond .lt 17, 3) := by decide +kernel
theorem dX8_haveAll_4 : decode cX8_haveAll 4 = .ok (.iload_n 1, 1) := by decide +kernel
theorem dX8_haveAll_5 : decode cX8_haveAll 5 = .ok (.iconst 1, 1) := by decide +kernel
theorem dX8_haveAll_6 : decode cX8_haveAll 6 = .ok (.aload_n 0, 1) := by decide +kernel
theorem dX8_haveAll_7 : decode cX8_haveAll 7 = .ok (.getfield 24, 3) := by decide +kernel
theorem dX8_haveAll_10 : decode cX8_haveAll 10 = .ok (.ishl, 1) := by decide +kernel
theorem dX8_haveAll_11 : decode cX8_haveAll 11 = .ok (.if_icmp .ge 7, 3) := by decide +kernel
theorem dX8_haveAll_14 : decode cX8_haveAll 14 = .ok (.iconst 1, 1) := by decide +kernel
theorem dX8_haveAll_15 : decode cX8_haveAll 15 = .ok (.goto 4, 3) := by decide +kernel
theorem dX8_haveAll_18 : decode cX8_haveAll 18 = .ok (.iconst 0, 1) := by decide +kernel
theorem dX8_haveAll_19 : decode cX8_haveAll 19 = .ok (.ireturn, 1) := by decide +kernel
theorem dX8_needCell_0 : decode cX8_needCell 0 = .ok (.iconst 0, 1) := by decide +kernel
theorem dX8_needCell_1 : decode cX8_needCell 1 = .ok (.istore_n 2, 1) := by decide +kernel
theorem dX8_needCell_2 : decode cX8_needCell 2 = .ok (.iload_n 2, 1) := by decide +kernel
theorem dX8_needCell_3 : decode cX8_needCell 3 = .ok (.aload_n 0, 1) := by decide +kernel
theorem dX8_needCell_4 : decode cX8_needCell 4 = .ok (.getfield 24, 3) := by decide +kernel
theorem dX8_needCell_7 : decode cX8_needCell 7 = .ok (.if_icmp .ge 53, 3) := by decide +kernel
theorem dX8_needCell_10 : decode cX8_needCell 10 = .ok (.aload_n 0, 1) := by decide +kernel
theorem dX8_needCell_11 : decode cX8_needCell 11 = .ok (.getfield 9, 3) := by decide +kernel
theorem dX8_needCell_14 : decode cX8_needCell 14 = .ok (.iload_n 2, 1) := by decide +kernel
theorem dX8_needCell_15 : decode cX8_needCell 15 = .ok (.iaload, 1) := by decide +kernel
theorem dX8_needCell_16 : decode cX8_needCell 16 = .ok (.iconst 2, 1) := by decide +kernel
theorem dX8_needCell_17 : decode cX8_needCell 17 = .ok (.if_icmp .eq 15, 3) := by decide +kernel
theorem dX8_needCell_20 : decode cX8_needCell 20 = .ok (.aload_n 0, 1) := by decide +kernel
theorem dX8_needCell_21 : decode cX8_needCell 21 = .ok (.getfield 15, 3) := by decide +kernel
theorem dX8_needCell_24 : decode cX8_needCell 24 = .ok (.iload_n 2, 1) := by decide +kernel
theorem dX8_needCell_25 : decode cX8_needCell 25 = .ok (.iaload, 1) := by decide +kernel
theorem dX8_needCell_26 : decode cX8_needCell 26 = .ok (.iload_n 1, 1) := by decide +kernel
theorem dX8_needCell_27 : decode cX8_needCell 27 = .ok (.if_icmp .ne 5, 3) := by decide +kernel
theorem dX8_needCell_30 : decode cX8_needCell 30 = .ok (.iconst 1, 1) := by decide +kernel
theorem dX8_needCell_31 : decode cX8_needCell 31 = .ok (.ireturn, 1) := by decide +kernel
theorem dX8_needCell_32 : decode cX8_needCell 32 = .ok (.aload_n 0, 1) := by decide +kernel
theorem dX8_needCell_33 : decode cX8_needCell 33 = .ok (.getfield 9, 3) := by decide +kernel
theorem dX8_needCell_36 : decode cX8_needCell 36 = .ok (.iload_n 2, 1) := by decide +kernel
theorem dX8_needCell_37 : decode cX8_needCell 37 = .ok (.iaload, 1) := by decide +kernel
theorem dX8_needCell_38 : decode cX8_needCell 38 = .ok (.iconst 3, 1) := by decide +kernel
theorem dX8_needCell_39 : decode cX8_needCell 39 = .ok (.if_icmp .ne 15, 3) := by decide +kernel
theorem dX8_needCell_42 : decode cX8_needCell 42 = .ok (.aload_n 0, 1) := by decide +kernel
theorem dX8_needCell_43 : decode cX8_needCell 43 = .ok (.getfield 18, 3) := by decide +kernel
theorem dX8_needCell_46 : decode cX8_needCell 46 = .ok (.iload_n 2, 1) := by decide +kernel
theorem dX8_needCell_47 : decode cX8_needCell 47 = .ok (.iaload, 1) := by decide +kernel
theorem dX8_needCell_48 : decode cX8_needCell 48 = .ok (.iload_n 1, 1) := by decide +kernel
theorem dX8_needCell_49 : decode cX8_needCell 49 = .ok (.if_icmp .ne 5, 3) := by decide +kernel
theorem dX8_needCell_52 : decode cX8_needCell 52 = .ok (.iconst 1, 1) := by decide +kernel
theorem dX8_needCell_53 : decode cX8_needCell 53 = .ok (.ireturn, 1) := by decide +kernel
theorem dX8_needCell_54 : decode cX8_needCell 54 = .ok (.iinc 2 1, 3) := by decide +kernel
theorem dX8_needCell_57 : decode cX8_needCell 57 = .ok (.goto (-55), 3) := by decide +kernel
theorem dX8_needCell_60 : decode cX8_needCell 60 = .ok (.iconst 0, 1) := by decide +kernel
theorem dX8_needCell_61 : decode cX8_needCell 61 = .ok (.ireturn, 1) := by decide +kernel
theorem dX8_coinOf_0 : decode cX8_coinOf 0 = .ok (.iconst 0, 1) := by decide +kernel
theorem dX8_coinOf_1 : decode cX8_coinOf 1 = .ok (.istore_n 2, 1) := by decide +kernel
theorem dX8_coinOf_2 : decode cX8_coinOf 2 = .ok (.iconst 0, 1) := by decide +kernel
theorem dX8_coinOf_3 : decode cX8_coinOf 3 = .ok (.istore_n 3, 1) := by decide +kernel
theorem dX8_coinOf_4 : decode cX8_coinOf 4 = .ok (.iload_n 3, 1) := by decide +kernel
theorem dX8_coinOf_5 : decode cX8_coinOf 5 = .ok (.aload_n 0, 1) := by decide +kernel
theorem dX8_coinOf_6 : decode cX8_coinOf 6 = .ok (.getfield 24, 3) := by decide +kernel
theorem dX8_coinOf_9 : decode cX8_coinOf 9 = .ok (.if_icmp .ge 24, 3) := by decide +kernel
theorem dX8_coinOf_12 : decode cX8_coinOf 12 = .ok (.iload_n 2, 1) := by decide +kernel
theorem dX8_coinOf_13 : decode cX8_coinOf 13 = .ok (.iload_n 1, 1) := by decide +kernel
theorem dX8_coinOf_14 : decode cX8_coinOf 14 = .ok (.iload_n 3, 1) := by decide +kernel
theorem dX8_coinOf_15 : decode cX8_coinOf 15 = .ok (.ishr, 1) := by decide +kernel
theorem dX8_coinOf_16 : decode cX8_coinOf 16 = .ok (.iconst 1, 1) := by decide +kernel
theorem dX8_coinOf_17 : decode cX8_coinOf 17 = .ok (.iand, 1) := by decide +kernel
theorem dX8_coinOf_18 : decode cX8_coinOf 18 = .ok (.aload_n 0, 1) := by decide +kernel
theorem dX8_coinOf_19 : decode cX8_coinOf 19 = .ok (.getfield 21, 3) := by decide +kernel
theorem dX8_coinOf_22 : decode cX8_coinOf 22 = .ok (.iload_n 3, 1) := by decide +kernel
theorem dX8_coinOf_23 : decode cX8_coinOf 23 = .ok (.iaload, 1) := by decide +kernel
theorem dX8_coinOf_24 : decode cX8_coinOf 24 = .ok (.imul, 1) := by decide +kernel
theorem dX8_coinOf_25 : decode cX8_coinOf 25 = .ok (.iadd, 1) := by decide +kernel
theorem dX8_coinOf_26 : decode cX8_coinOf 26 = .ok (.istore_n 2, 1) := by decide +kernel
theorem dX8_coinOf_27 : decode cX8_coinOf 27 = .ok (.iinc 3 1, 3) := by decide +kernel
theorem dX8_coinOf_30 : decode cX8_coinOf 30 = .ok (.goto (-26), 3) := by decide +kernel
theorem dX8_coinOf_33 : decode cX8_coinOf 33 = .ok (.iload_n 2, 1) := by decide +kernel
theorem dX8_coinOf_34 : decode cX8_coinOf 34 = .ok (.ireturn, 1) := by decide +kernel
