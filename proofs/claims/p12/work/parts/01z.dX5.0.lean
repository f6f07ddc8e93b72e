theorem dX5_init_0 : decode cX5_init 0 = .ok (.aload_n 0, 1) := by decide +kernel
theorem dX5_init_1 : decode cX5_init 1 = .ok (.invokespecial 3, 3) := by decide +kernel
theorem dX5_init_4 : decode cX5_init 4 = .ok (.aload_n 0, 1) := by decide +kernel
theorem dX5_init_5 : decode cX5_init 5 = .ok (.bipush 6, 2) := by decide +kernel
theorem dX5_init_7 : decode cX5_init 7 = .ok (.newarray .int, 2) := by decide +kernel
theorem dX5_init_9 : decode cX5_init 9 = .ok (.putfield 9, 3) := by decide +kernel
theorem dX5_init_12 : decode cX5_init 12 = .ok (.aload_n 0, 1) := by decide +kernel
theorem dX5_init_13 : decode cX5_init 13 = .ok (.bipush 6, 2) := by decide +kernel
theorem dX5_init_15 : decode cX5_init 15 = .ok (.newarray .int, 2) := by decide +kernel
theorem dX5_init_17 : decode cX5_init 17 = .ok (.putfield 15, 3) := by decide +kernel
theorem dX5_init_20 : decode cX5_init 20 = .ok (.aload_n 0, 1) := by decide +kernel
theorem dX5_init_21 : decode cX5_init 21 = .ok (.bipush 6, 2) := by decide +kernel
theorem dX5_init_23 : decode cX5_init 23 = .ok (.newarray .int, 2) := by decide +kernel
theorem dX5_init_25 : decode cX5_init 25 = .ok (.putfield 18, 3) := by decide +kernel
theorem dX5_init_28 : decode cX5_init 28 = .ok (.aload_n 0, 1) := by decide +kernel
theorem dX5_init_29 : decode cX5_init 29 = .ok (.bipush 6, 2) := by decide +kernel
theorem dX5_init_31 : decode cX5_init 31 = .ok (.newarray .int, 2) := by decide +kernel
theorem dX5_init_33 : decode cX5_init 33 = .ok (.putfield 21, 3) := by decide +kernel
theorem dX5_init_36 : decode cX5_init 36 = .ok (.aload_n 0, 1) := by decide +kernel
theorem dX5_init_37 : decode cX5_init 37 = .ok (.iconst 0, 1) := by decide +kernel
theorem dX5_init_38 : decode cX5_init 38 = .ok (.putfield 24, 3) := by decide +kernel
theorem dX5_init_41 : decode cX5_init 41 = .ok (.return_, 1) := by decide +kernel
theorem dX5_become_0 : decode cX5_become 0 = .ok (.aload_n 1, 1) := by decide +kernel
theorem dX5_become_1 : decode cX5_become 1 = .ok (.getfield 9, 3) := by decide +kernel
theorem dX5_become_4 : decode cX5_become 4 = .ok (.iconst 0, 1) := by decide +kernel
theorem dX5_become_5 : decode cX5_become 5 = .ok (.aload_n 0, 1) := by decide +kernel
theorem dX5_become_6 : decode cX5_become 6 = .ok (.getfield 9, 3) := by decide +kernel
theorem dX5_become_9 : decode cX5_become 9 = .ok (.iconst 0, 1) := by decide +kernel
theorem dX5_become_10 : decode cX5_become 10 = .ok (.bipush 6, 2) := by decide +kernel
theorem dX5_become_12 : decode cX5_become 12 = .ok (.invokestatic 28, 3) := by decide +kernel
theorem dX5_become_15 : decode cX5_become 15 = .ok (.aload_n 1, 1) := by decide +kernel
theorem dX5_become_16 : decode cX5_become 16 = .ok (.getfield 15, 3) := by decide +kernel
theorem dX5_become_19 : decode cX5_become 19 = .ok (.iconst 0, 1) := by decide +kernel
theorem dX5_become_20 : decode cX5_become 20 = .ok (.aload_n 0, 1) := by decide +kernel
theorem dX5_become_21 : decode cX5_become 21 = .ok (.getfield 15, 3) := by decide +kernel
theorem dX5_become_24 : decode cX5_become 24 = .ok (.iconst 0, 1) := by decide +kernel
theorem dX5_become_25 : decode cX5_become 25 = .ok (.bipush 6, 2) := by decide +kernel
theorem dX5_become_27 : decode cX5_become 27 = .ok (.invokestatic 28, 3) := by decide +kernel
theorem dX5_become_30 : decode cX5_become 30 = .ok (.aload_n 1, 1) := by decide +kernel
theorem dX5_become_31 : decode cX5_become 31 = .ok (.getfield 18, 3) := by decide +kernel
theorem dX5_become_34 : decode cX5_become 34 = .ok (.iconst 0, 1) := by decide +kernel
theorem dX5_become_35 : decode cX5_become 35 = .ok (.aload_n 0, 1) := by decide +kernel
theorem dX5_become_36 : decode cX5_become 36 = .ok (.getfield 18, 3) := by decide +kernel
theorem dX5_become_39 : decode cX5_become 39 = .ok (.iconst 0, 1) := by decide +kernel
theorem dX5_become_40 : decode cX5_become 40 = .ok (.bipush 6, 2) := by decide +kernel
theorem dX5_become_42 : decode cX5_become 42 = .ok (.invokestatic 28, 3) := by decide +kernel
theorem dX5_become_45 : decode cX5_become 45 = .ok (.aload_n 1, 1) := by decide +kernel
theorem dX5_become_46 : decode cX5_become 46 = .ok (.getfield 21, 3) := by decide +kernel
theorem dX5_become_49 : decode cX5_become 49 = .ok (.iconst 0, 1) := by decide +kernel
theorem dX5_become_50 : decode cX5_become 50 = .ok (.aload_n 0, 1) := by decide +kernel
theorem dX5_become_51 : decode cX5_become 51 = .ok (.getfield 21, 3) := by decide +kernel
theorem dX5_become_54 : decode cX5_become 54 = .ok (.iconst 0, 1) := by decide +kernel
theorem dX5_become_55 : decode cX5_become 55 = .ok (.bipush 6, 2) := by decide +kernel
theorem dX5_become_57 : decode cX5_become 57 = .ok (.invokestatic 28, 3) := by decide +kernel
theorem dX5_become_60 : decode cX5_become 60 = .ok (.aload_n 0, 1) := by decide +kernel
theorem dX5_become_61 : decode cX5_become 61 = .ok (.aload_n 1, 1) := by decide +kernel
theorem dX5_become_62 : decode cX5_become 62 = .ok (.getfield 24, 3) := by decide +kernel
theorem dX5_become_65 : decode cX5_become 65 = .ok (.putfield 24, 3) := by decide +kernel
theorem dX5_become_68 : decode cX5_become 68 = .ok (.return_, 1) := by decide +kernel
theorem dX5_add_0 : decode cX5_add 0 = .ok (.aload_n 0, 1) := by decide +kernel
theorem dX5_add_1 : decode cX5_add 1 = .ok (.getfield 24, 3) := by decide +kernel
theorem dX5_add_4 : decode cX5_add 4 = .ok (.bipush 6, 2) := by decide +kernel
theorem dX5_add_6 : decode cX5_add 6 = .ok (.if_icmp .lt 5, 3) := by decide +kernel
theorem dX5_add_9 : decode cX5_add 9 = .ok (.iconst (-1), 1) := by decide +kernel
theorem dX5_add_10 : decode cX5_add 10 = .ok (.ireturn, 1) := by decide +kernel
theorem dX5_add_11 : decode cX5_add 11 = .ok (.aload_n 0, 1) := by decide +kernel
theorem dX5_add_12 : decode cX5_add 12 = .ok (.getfield 9, 3) := by decide +kernel
theorem dX5_add_15 : decode cX5_add 15 = .ok (.aload_n 0, 1) := by decide +kernel
theorem dX5_add_16 : decode cX5_add 16 = .ok (.getfield 24, 3) := by decide +kernel
theorem dX5_add_19 : decode cX5_add 19 = .ok (.iload_n 1, 1) := by decide +kernel
theorem dX5_add_20 : decode cX5_add 20 = .ok (.iastore, 1) := by decide +kernel
theorem dX5_add_21 : decode cX5_add 21 = .ok (.aload_n 0, 1) := by decide +kernel
theorem dX5_add_22 : decode cX5_add 22 = .ok (.getfield 15, 3) := by decide +kernel
theorem dX5_add_25 : decode cX5_add 25 = .ok (.aload_n 0, 1) := by decide +kernel
theorem dX5_add_26 : decode cX5_add 26 = .ok (.getfield 24, 3) := by decide +kernel
theorem dX5_add_29 : decode cX5_add 29 = .ok (.iload_n 2, 1) := by decide +kernel
theorem dX5_add_30 : decode cX5_add 30 = .ok (.iastore, 1) := by decide +kernel
theorem dX5_add_31 : decode cX5_add 31 = .ok (.aload_n 0, 1) := by decide +kernel
theorem dX5_add_32 : decode cX5_add 32 = .ok (.getfield 18, 3) := by decide +kernel
theorem dX5_add_35 : decode cX5_add 35 = .ok (.aload_n 0, 1) := by decide +kernel
theorem dX5_add_36 : decode cX5_add 36 = .ok (.getfield 24, 3) := by decide +kernel
theorem dX5_add_39 : decode cX5_add 39 = .ok (.iload_n 3, 1) := by decide +kernel
theorem dX5_add_40 : decode cX5_add 40 = .ok (.iastore, 1) := by decide +kernel
theorem dX5_add_41 : decode cX5_add 41 = .ok (.aload_n 0, 1) := by decide +kernel
theorem dX5_add_42 : decode cX5_add 42 = .ok (.getfield 21, 3) := by decide +kernel
theorem dX5_add_45 : decode cX5_add 45 = .ok (.aload_n 0, 1) := by decide +kernel
theorem dX5_add_46 : decode cX5_add 46 = .ok (.getfield 24, 3) := by decide +kernel
theorem dX5_add_49 : decode cX5_add 49 = .ok (.iload 4, 2) := by decide +kernel
theorem dX5_add_51 : decode cX5_add 51 = .ok (.iastore, 1) := by decide +kernel
theorem dX5_add_52 : decode cX5_add 52 = .ok (.aload_n 0, 1) := by decide +kernel
theorem dX5_add_53 : decode cX5_add 53 = .ok (.dup, 1) := by decide +kernel
theorem dX5_add_54 : decode cX5_add 54 = .ok (.getfield 24, 3) := by decide +kernel
theorem dX5_add_57 : decode cX5_add 57 = .ok (.iconst 1, 1) := by decide +kernel
theorem dX5_add_58 : decode cX5_add 58 = .ok (.iadd, 1) := by decide +kernel
theorem dX5_add_59 : decode cX5_add 59 = .ok (.putfield 24, 3) := by decide +kernel
theorem dX5_add_62 : decode cX5_add 62 = .ok (.aload_n 0, 1) := by decide +kernel
theorem dX5_add_63 : decode cX5_add 63 = .ok (.getfield 24, 3) := by decide +kernel
theorem dX5_add_66 : decode cX5_add 66 = .ok (.iconst 1, 1) := by decide +kernel
theorem dX5_add_67 : decode cX5_add 67 = .ok (.isub, 1) := by decide +kernel
theorem dX5_add_68 : decode cX5_add 68 = .ok (.ireturn, 1) := by decide +kernel
theorem dX5_has_0 : decode cX5_has 0 = .ok (.iload_n 1, 1) := by decide +kernel
theorem dX5_has_1 : decode cX5_has 1 = .ok (.ifCond .lt 15, 3) := by decide +kernel
theorem dX5_has_4 : decode cX5_has 4 = .ok (.iload_n 1, 1) := by decide +kernel
theorem dX5_has_5 : decode cX5_has 5 = .ok (.aload_n 0, 1) := by decide +kernel
theorem dX5_has_6 : decode cX5_has 6 = .ok (.getfield 24, 3) := by decide +kernel
theorem dX5_has_9 : decode cX5_has 9 = .ok (.if_icmp .ge 7, 3) := by decide +kernel
theorem dX5_has_12 : decode cX5_has 12 = .ok (.iconst 1, 1) := by decide +kernel
theorem dX5_has_13 : decode cX5_has 13 = .ok (.goto 4, 3) := by decide +kernel
theorem dX5_has_16 : decode cX5_has 16 = .ok (.iconst 0, 1) := by decide +kernel
theorem dX5_has_17 : decode cX5_has 17 = .ok (.ireturn, 1) := by decide +kernel
theorem dX5_in_0 : decode cX5_in 0 = .ok (.iload_n 1, 1) := by decide +kernel
theorem dX5_in_1 : decode cX5_in 1 = .ok (.bipush 10, 2) := by decide +kernel
theorem dX5_in_3 : decode cX5_in 3 = .ok (.irem, 1) := by decide +kernel
theorem dX5_in_4 : decode cX5_in 4 = .ok (.istore_n 2, 1) := by decide +kernel
theorem dX5_in_5 : decode cX5_in 5 = .ok (.iload_n 1, 1) := by decide +kernel
theorem dX5_in_6 : decode cX5_in 6 = .ok (.bipush 10, 2) := by decide +kernel
theorem dX5_in_8 : decode cX5_in 8 = .ok (.idiv, 1) := by decide +kernel
theorem dX5_in_9 : decode cX5_in 9 = .ok (.istore_n 3, 1) := by decide +kernel
theorem dX5_in_10 : decode cX5_in 10 = .ok (.iconst 0, 1) := by decide +kernel
theorem dX5_in_11 : decode cX5_in 11 = .ok (.istore 4, 2) := by decide +kernel
theorem dX5_in_13 : decode cX5_in 13 = .ok (.iload 4, 2) := by decide +kernel
theorem dX5_in_15 : decode cX5_in 15 = .ok (.aload_n 0, 1) := by decide +kernel
theorem dX5_in_16 : decode cX5_in 16 = .ok (.getfield 24, 3) := by decide +kernel
theorem dX5_in_19 : decode cX5_in 19 = .ok (.if_icmp .ge 72, 3) := by decide +kernel
theorem dX5_in_22 : decode cX5_in 22 = .ok (.iload_n 2, 1) := by decide +kernel
theorem dX5_in_23 : decode cX5_in 23 = .ok (.aload_n 0, 1) := by decide +kernel
theorem dX5_in_24 : decode cX5_in 24 = .ok (.getfield 9, 3) := by decide +kernel
theorem dX5_in_27 : decode cX5_in 27 = .ok (.iload 4, 2) := by decide +kernel
theorem dX5_in_29 : decode cX5_in 29 = .ok (.iaload, 1) := by decide +kernel
theorem dX5_in_30 : decode cX5_in 30 = .ok (.if_icmp .lt 55, 3) := by decide +kernel
theorem dX5_in_33 : decode cX5_in 33 = .ok (.iload_n 2, 1) := by decide +kernel
theorem dX5_in_34 : decode cX5_in 34 = .ok (.aload_n 0, 1) := by decide +kernel
theorem dX5_in_35 : decode cX5_in 35 = .ok (.getfield 9, 3) := by decide +kernel
theorem dX5_in_38 : decode cX5_in 38 = .ok (.iload 4, 2) := by decide +kernel
theorem dX5_in_40 : decode cX5_in 40 = .ok (.iaload, 1) := by decide +kernel
theorem dX5_in_41 : decode cX5_in 41 = .ok (.aload_n 0, 1) := by decide +kernel
theorem dX5_in_42 : decode cX5_in 42 = .ok (.getfield 18, 3) := by decide +kernel
theorem dX5_in_45 : decode cX5_in 45 = .ok (.iload 4, 2) := by decide +kernel
theorem dX5_in_47 : decode cX5_in 47 = .ok (.iaload, 1) := by decide +kernel
theorem dX5_in_48 : decode cX5_in 48 = .ok (.iadd, 1) := by decide +kernel
theorem dX5_in_49 : decode cX5_in 49 = .ok (.if_icmp .ge 36, 3) := by decide +kernel
theorem dX5_in_52 : decode cX5_in 52 = .ok (.iload_n 3, 1) := by decide +kernel
theorem dX5_in_53 : decode cX5_in 53 = .ok (.aload_n 0, 1) := by decide +kernel
theorem dX5_in_54 : decode cX5_in 54 = .ok (.getfield 15, 3) := by decide +kernel
theorem dX5_in_57 : decode cX5_in 57 = .ok (.iload 4, 2) := by decide +kernel
theorem dX5_in_59 : decode cX5_in 59 = .ok (.iaload, 1) := by decide +kernel
theorem dX5_in_60 : decode cX5_in 60 = .ok (.if_icmp .lt 25, 3) := by decide +kernel
theorem dX5_in_63 : decode cX5_in 63 = .ok (.iload_n 3, 1) := by decide +kernel
theorem dX5_in_64 : decode cX5_in 64 = .ok (.aload_n 0, 1) := by decide +kernel
theorem dX5_in_65 : decode cX5_in 65 = .ok (.getfield 15, 3) := by decide +kernel
theorem dX5_in_68 : decode cX5_in 68 = .ok (.iload 4, 2) := by decide +kernel
theorem dX5_in_70 : decode cX5_in 70 = .ok (.iaload, 1) := by decide +kernel
theorem dX5_in_71 : decode cX5_in 71 = .ok (.aload_n 0, 1) := by decide +kernel
theorem dX5_in_72 : decode cX5_in 72 = .ok (.getfield 21, 3) := by decide +kernel
theorem dX5_in_75 : decode cX5_in 75 = .ok (.iload 4, 2) := by decide +kernel
theorem dX5_in_77 : decode cX5_in 77 = .ok (.iaload, 1) := by decide +kernel
theorem dX5_in_78 : decode cX5_in 78 = .ok (.iadd, 1) := by decide +kernel
theorem dX5_in_79 : decode cX5_in 79 = .ok (.if_icmp .ge 6, 3) := by decide +kernel
theorem dX5_in_82 : decode cX5_in 82 = .ok (.iload 4, 2) := by decide +kernel
theorem dX5_in_84 : decode cX5_in 84 = .ok (.ireturn, 1) := by decide +kernel
theorem dX5_in_85 : decode cX5_in 85 = .ok (.iinc 4 1, 3) := by decide +kernel
theorem dX5_in_88 : decode cX5_in 88 = .ok (.goto (-75), 3) := by decide +kernel
theorem dX5_in_91 : decode cX5_in 91 = .ok (.iconst (-1), 1) := by decide +kernel
theorem dX5_in_92 : decode cX5_in 92 = .ok (.ireturn, 1) := by decide +kernel
theorem dX5_highOf_0 : decode cX5_highOf 0 = .ok (.aload_n 0, 1) := by decide +kernel
theorem dX5_highOf_1 : decode cX5_highOf 1 = .ok (.iload_n 1, 1) := by decide +kernel
theorem dX5_highOf_2 : decode cX5_highOf 2 = .ok (.invokevirtual 34, 3) := by decide +kernel
theorem dX5_highOf_5 : decode cX5_highOf 5 = .ok (.ifCond .eq 26, 3) := by decide +kernel
theorem dX5_highOf_8 : decode cX5_highOf 8 = .ok (.aload_n 2, 1) := by decide +kernel
theorem dX5_highOf_9 : decode cX5_highOf 9 = .ok (.getfield 38, 3) := by decide +kernel
theorem dX5_highOf_12 : decode cX5_highOf 12 = .ok (.aload_n 0, 1) := by decide +kernel
theorem dX5_highOf_13 : decode cX5_highOf 13 = .ok (.getfield 9, 3) := by decide +kernel
theorem dX5_highOf_16 : decode cX5_highOf 16 = .ok (.iload_n 1, 1) := by decide +kernel
theorem dX5_highOf_17 : decode cX5_highOf 17 = .ok (.iaload, 1) := by decide +kernel
theorem dX5_highOf_18 : decode cX5_highOf 18 = .ok (.aload_n 0, 1) := by decide +kernel
theorem dX5_highOf_19 : decode cX5_highOf 19 = .ok (.getfield 15, 3) := by decide +kernel
theorem dX5_highOf_22 : decode cX5_highOf 22 = .ok (.iload_n 1, 1) := by decide +kernel
theorem dX5_highOf_23 : decode cX5_highOf 23 = .ok (.iaload, 1) := by decide +kernel
theorem dX5_highOf_24 : decode cX5_highOf 24 = .ok (.invokestatic 43, 3) := by decide +kernel
theorem dX5_highOf_27 : decode cX5_highOf 27 = .ok (.iaload, 1) := by decide +kernel
theorem dX5_highOf_28 : decode cX5_highOf 28 = .ok (.goto 4, 3) := by decide +kernel
theorem dX5_highOf_31 : decode cX5_highOf 31 = .ok (.iconst 0, 1) := by decide +kernel
theorem dX5_highOf_32 : decode cX5_highOf 32 = .ok (.ireturn, 1) := by decide +kernel
theorem dX5_makeHigh_0 : decode cX5_makeHigh 0 = .ok (.aload_n 0, 1) := by decide +kernel
theorem dX5_makeHigh_1 : decode cX5_makeHigh 1 = .ok (.iload_n 1, 1) := by decide +kernel
theorem dX5_makeHigh_2 : decode cX5_makeHigh 2 = .ok (.invokevirtual 34, 3) := by decide +kernel
theorem dX5_makeHigh_5 : decode cX5_makeHigh 5 = .ok (.ifCond .eq 32, 3) := by decide +kernel
theorem dX5_makeHigh_8 : decode cX5_makeHigh 8 = .ok (.aload_n 3, 1) := by decide +kernel
theorem dX5_makeHigh_9 : decode cX5_makeHigh 9 = .ok (.aload_n 0, 1) := by decide +kernel
theorem dX5_makeHigh_10 : decode cX5_makeHigh 10 = .ok (.getfield 9, 3) := by decide +kernel
theorem dX5_makeHigh_13 : decode cX5_makeHigh 13 = .ok (.iload_n 1, 1) := by decide +kernel
theorem dX5_makeHigh_14 : decode cX5_makeHigh 14 = .ok (.iaload, 1) := by decide +kernel
theorem dX5_makeHigh_15 : decode cX5_makeHigh 15 = .ok (.aload_n 0, 1) := by decide +kernel
theorem dX5_makeHigh_16 : decode cX5_makeHigh 16 = .ok (.getfield 15, 3) := by decide +kernel
theorem dX5_makeHigh_19 : decode cX5_makeHigh 19 = .ok (.iload_n 1, 1) := by decide +kernel
theorem dX5_makeHigh_20 : decode cX5_makeHigh 20 = .ok (.iaload, 1) := by decide +kernel
theorem dX5_makeHigh_21 : decode cX5_makeHigh 21 = .ok (.aload_n 0, 1) := by decide +kernel
theorem dX5_makeHigh_22 : decode cX5_makeHigh 22 = .ok (.getfield 18, 3) := by decide +kernel
theorem dX5_makeHigh_25 : decode cX5_makeHigh 25 = .ok (.iload_n 1, 1) := by decide +kernel
theorem dX5_makeHigh_26 : decode cX5_makeHigh 26 = .ok (.iaload, 1) := by decide +kernel
theorem dX5_makeHigh_27 : decode cX5_makeHigh 27 = .ok (.aload_n 0, 1) := by decide +kernel
theorem dX5_makeHigh_28 : decode cX5_makeHigh 28 = .ok (.getfield 21, 3) := by decide +kernel
theorem dX5_makeHigh_31 : decode cX5_makeHigh 31 = .ok (.iload_n 1, 1) := by decide +kernel
theorem dX5_makeHigh_32 : decode cX5_makeHigh 32 = .ok (.iaload, 1) := by decide +kernel
theorem dX5_makeHigh_33 : decode cX5_makeHigh 33 = .ok (.iload_n 2, 1) := by decide +kernel
theorem dX5_makeHigh_34 : decode cX5_makeHigh 34 = .ok (.invokevirtual 47, 3) := by decide +kernel
theorem dX5_makeHigh_37 : decode cX5_makeHigh 37 = .ok (.return_, 1) := by decide +kernel
