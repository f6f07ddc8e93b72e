theorem dX4_init_0 : decode cX4_init 0 = .ok (.aload_n 0, 1) := by decide +kernel
theorem dX4_init_1 : decode cX4_init 1 = .ok (.invokespecial 3, 3) := by decide +kernel
theorem dX4_init_4 : decode cX4_init 4 = .ok (.aload_n 0, 1) := by decide +kernel
theorem dX4_init_5 : decode cX4_init 5 = .ok (.sipush 401, 3) := by decide +kernel
theorem dX4_init_8 : decode cX4_init 8 = .ok (.newarray .int, 2) := by decide +kernel
theorem dX4_init_10 : decode cX4_init 10 = .ok (.putfield 9, 3) := by decide +kernel
theorem dX4_init_13 : decode cX4_init 13 = .ok (.aload_n 0, 1) := by decide +kernel
theorem dX4_init_14 : decode cX4_init 14 = .ok (.sipush 401, 3) := by decide +kernel
theorem dX4_init_17 : decode cX4_init 17 = .ok (.newarray .int, 2) := by decide +kernel
theorem dX4_init_19 : decode cX4_init 19 = .ok (.putfield 15, 3) := by decide +kernel
theorem dX4_init_22 : decode cX4_init 22 = .ok (.aload_n 0, 1) := by decide +kernel
theorem dX4_init_23 : decode cX4_init 23 = .ok (.iconst 0, 1) := by decide +kernel
theorem dX4_init_24 : decode cX4_init 24 = .ok (.putfield 18, 3) := by decide +kernel
theorem dX4_init_27 : decode cX4_init 27 = .ok (.aload_n 0, 1) := by decide +kernel
theorem dX4_init_28 : decode cX4_init 28 = .ok (.iconst 0, 1) := by decide +kernel
theorem dX4_init_29 : decode cX4_init 29 = .ok (.newarray .int, 2) := by decide +kernel
theorem dX4_init_31 : decode cX4_init 31 = .ok (.putfield 22, 3) := by decide +kernel
theorem dX4_init_34 : decode cX4_init 34 = .ok (.aload_n 0, 1) := by decide +kernel
theorem dX4_init_35 : decode cX4_init 35 = .ok (.iconst 0, 1) := by decide +kernel
theorem dX4_init_36 : decode cX4_init 36 = .ok (.putfield 25, 3) := by decide +kernel
theorem dX4_init_39 : decode cX4_init 39 = .ok (.return_, 1) := by decide +kernel
theorem dX4_cut_0 : decode cX4_cut 0 = .ok (.aload_n 0, 1) := by decide +kernel
theorem dX4_cut_1 : decode cX4_cut 1 = .ok (.aload_n 1, 1) := by decide +kernel
theorem dX4_cut_2 : decode cX4_cut 2 = .ok (.putfield 22, 3) := by decide +kernel
theorem dX4_cut_5 : decode cX4_cut 5 = .ok (.aload_n 0, 1) := by decide +kernel
theorem dX4_cut_6 : decode cX4_cut 6 = .ok (.iconst 0, 1) := by decide +kernel
theorem dX4_cut_7 : decode cX4_cut 7 = .ok (.iload_n 2, 1) := by decide +kernel
theorem dX4_cut_8 : decode cX4_cut 8 = .ok (.aload_n 1, 1) := by decide +kernel
theorem dX4_cut_9 : decode cX4_cut 9 = .ok (.arraylength, 1) := by decide +kernel
theorem dX4_cut_10 : decode cX4_cut 10 = .ok (.sipush 400, 3) := by decide +kernel
theorem dX4_cut_13 : decode cX4_cut 13 = .ok (.invokestatic 28, 3) := by decide +kernel
theorem dX4_cut_16 : decode cX4_cut 16 = .ok (.invokestatic 28, 3) := by decide +kernel
theorem dX4_cut_19 : decode cX4_cut 19 = .ok (.invokestatic 34, 3) := by decide +kernel
theorem dX4_cut_22 : decode cX4_cut 22 = .ok (.putfield 25, 3) := by decide +kernel
theorem dX4_cut_25 : decode cX4_cut 25 = .ok (.aload_n 0, 1) := by decide +kernel
theorem dX4_cut_26 : decode cX4_cut 26 = .ok (.iconst 0, 1) := by decide +kernel
theorem dX4_cut_27 : decode cX4_cut 27 = .ok (.putfield 18, 3) := by decide +kernel
theorem dX4_cut_30 : decode cX4_cut 30 = .ok (.iconst 0, 1) := by decide +kernel
theorem dX4_cut_31 : decode cX4_cut 31 = .ok (.istore_n 3, 1) := by decide +kernel
theorem dX4_cut_32 : decode cX4_cut 32 = .ok (.iload_n 3, 1) := by decide +kernel
theorem dX4_cut_33 : decode cX4_cut 33 = .ok (.aload_n 0, 1) := by decide +kernel
theorem dX4_cut_34 : decode cX4_cut 34 = .ok (.getfield 25, 3) := by decide +kernel
theorem dX4_cut_37 : decode cX4_cut 37 = .ok (.if_icmp .ge 38, 3) := by decide +kernel
theorem dX4_cut_40 : decode cX4_cut 40 = .ok (.aload_n 0, 1) := by decide +kernel
theorem dX4_cut_41 : decode cX4_cut 41 = .ok (.getfield 22, 3) := by decide +kernel
theorem dX4_cut_44 : decode cX4_cut 44 = .ok (.iload_n 3, 1) := by decide +kernel
theorem dX4_cut_45 : decode cX4_cut 45 = .ok (.iaload, 1) := by decide +kernel
theorem dX4_cut_46 : decode cX4_cut 46 = .ok (.bipush 32, 2) := by decide +kernel
theorem dX4_cut_48 : decode cX4_cut 48 = .ok (.if_icmp .eq 21, 3) := by decide +kernel
theorem dX4_cut_51 : decode cX4_cut 51 = .ok (.aload_n 0, 1) := by decide +kernel
theorem dX4_cut_52 : decode cX4_cut 52 = .ok (.iload_n 3, 1) := by decide +kernel
theorem dX4_cut_53 : decode cX4_cut 53 = .ok (.invokevirtual 37, 3) := by decide +kernel
theorem dX4_cut_56 : decode cX4_cut 56 = .ok (.ifCond .ne 13, 3) := by decide +kernel
theorem dX4_cut_59 : decode cX4_cut 59 = .ok (.aload_n 0, 1) := by decide +kernel
theorem dX4_cut_60 : decode cX4_cut 60 = .ok (.aload_n 0, 1) := by decide +kernel
theorem dX4_cut_61 : decode cX4_cut 61 = .ok (.iload_n 3, 1) := by decide +kernel
theorem dX4_cut_62 : decode cX4_cut 62 = .ok (.invokevirtual 41, 3) := by decide +kernel
theorem dX4_cut_65 : decode cX4_cut 65 = .ok (.iload_n 3, 1) := by decide +kernel
theorem dX4_cut_66 : decode cX4_cut 66 = .ok (.invokevirtual 45, 3) := by decide +kernel
theorem dX4_cut_69 : decode cX4_cut 69 = .ok (.iinc 3 1, 3) := by decide +kernel
theorem dX4_cut_72 : decode cX4_cut 72 = .ok (.goto (-40), 3) := by decide +kernel
theorem dX4_cut_75 : decode cX4_cut 75 = .ok (.aload_n 0, 1) := by decide +kernel
theorem dX4_cut_76 : decode cX4_cut 76 = .ok (.iconst 0, 1) := by decide +kernel
theorem dX4_cut_77 : decode cX4_cut 77 = .ok (.aload_n 0, 1) := by decide +kernel
theorem dX4_cut_78 : decode cX4_cut 78 = .ok (.getfield 25, 3) := by decide +kernel
theorem dX4_cut_81 : decode cX4_cut 81 = .ok (.invokevirtual 45, 3) := by decide +kernel
theorem dX4_cut_84 : decode cX4_cut 84 = .ok (.return_, 1) := by decide +kernel
theorem dX4_add_0 : decode cX4_add 0 = .ok (.aload_n 0, 1) := by decide +kernel
theorem dX4_add_1 : decode cX4_add 1 = .ok (.getfield 18, 3) := by decide +kernel
theorem dX4_add_4 : decode cX4_add 4 = .ok (.aload_n 0, 1) := by decide +kernel
theorem dX4_add_5 : decode cX4_add 5 = .ok (.getfield 9, 3) := by decide +kernel
theorem dX4_add_8 : decode cX4_add 8 = .ok (.arraylength, 1) := by decide +kernel
theorem dX4_add_9 : decode cX4_add 9 = .ok (.if_icmp .ge 33, 3) := by decide +kernel
theorem dX4_add_12 : decode cX4_add 12 = .ok (.aload_n 0, 1) := by decide +kernel
theorem dX4_add_13 : decode cX4_add 13 = .ok (.getfield 9, 3) := by decide +kernel
theorem dX4_add_16 : decode cX4_add 16 = .ok (.aload_n 0, 1) := by decide +kernel
theorem dX4_add_17 : decode cX4_add 17 = .ok (.getfield 18, 3) := by decide +kernel
theorem dX4_add_20 : decode cX4_add 20 = .ok (.iload_n 1, 1) := by decide +kernel
theorem dX4_add_21 : decode cX4_add 21 = .ok (.iastore, 1) := by decide +kernel
theorem dX4_add_22 : decode cX4_add 22 = .ok (.aload_n 0, 1) := by decide +kernel
theorem dX4_add_23 : decode cX4_add 23 = .ok (.getfield 15, 3) := by decide +kernel
theorem dX4_add_26 : decode cX4_add 26 = .ok (.aload_n 0, 1) := by decide +kernel
theorem dX4_add_27 : decode cX4_add 27 = .ok (.getfield 18, 3) := by decide +kernel
theorem dX4_add_30 : decode cX4_add 30 = .ok (.iload_n 2, 1) := by decide +kernel
theorem dX4_add_31 : decode cX4_add 31 = .ok (.iastore, 1) := by decide +kernel
theorem dX4_add_32 : decode cX4_add 32 = .ok (.aload_n 0, 1) := by decide +kernel
theorem dX4_add_33 : decode cX4_add 33 = .ok (.dup, 1) := by decide +kernel
theorem dX4_add_34 : decode cX4_add 34 = .ok (.getfield 18, 3) := by decide +kernel
theorem dX4_add_37 : decode cX4_add 37 = .ok (.iconst 1, 1) := by decide +kernel
theorem dX4_add_38 : decode cX4_add 38 = .ok (.iadd, 1) := by decide +kernel
theorem dX4_add_39 : decode cX4_add 39 = .ok (.putfield 18, 3) := by decide +kernel
theorem dX4_add_42 : decode cX4_add 42 = .ok (.return_, 1) := by decide +kernel
theorem dX4_goesOn_0 : decode cX4_goesOn 0 = .ok (.iload_n 1, 1) := by decide +kernel
theorem dX4_goesOn_1 : decode cX4_goesOn 1 = .ok (.ifCond .le 59, 3) := by decide +kernel
theorem dX4_goesOn_4 : decode cX4_goesOn 4 = .ok (.aload_n 0, 1) := by decide +kernel
theorem dX4_goesOn_5 : decode cX4_goesOn 5 = .ok (.getfield 22, 3) := by decide +kernel
theorem dX4_goesOn_8 : decode cX4_goesOn 8 = .ok (.iload_n 1, 1) := by decide +kernel
theorem dX4_goesOn_9 : decode cX4_goesOn 9 = .ok (.iaload, 1) := by decide +kernel
theorem dX4_goesOn_10 : decode cX4_goesOn 10 = .ok (.invokestatic 49, 3) := by decide +kernel
theorem dX4_goesOn_13 : decode cX4_goesOn 13 = .ok (.ifCond .eq 17, 3) := by decide +kernel
theorem dX4_goesOn_16 : decode cX4_goesOn 16 = .ok (.aload_n 0, 1) := by decide +kernel
theorem dX4_goesOn_17 : decode cX4_goesOn 17 = .ok (.getfield 22, 3) := by decide +kernel
theorem dX4_goesOn_20 : decode cX4_goesOn 20 = .ok (.iload_n 1, 1) := by decide +kernel
theorem dX4_goesOn_21 : decode cX4_goesOn 21 = .ok (.iconst 1, 1) := by decide +kernel
theorem dX4_goesOn_22 : decode cX4_goesOn 22 = .ok (.isub, 1) := by decide +kernel
theorem dX4_goesOn_23 : decode cX4_goesOn 23 = .ok (.iaload, 1) := by decide +kernel
theorem dX4_goesOn_24 : decode cX4_goesOn 24 = .ok (.invokestatic 49, 3) := by decide +kernel
theorem dX4_goesOn_27 : decode cX4_goesOn 27 = .ok (.ifCond .ne 29, 3) := by decide +kernel
theorem dX4_goesOn_30 : decode cX4_goesOn 30 = .ok (.aload_n 0, 1) := by decide +kernel
theorem dX4_goesOn_31 : decode cX4_goesOn 31 = .ok (.getfield 22, 3) := by decide +kernel
theorem dX4_goesOn_34 : decode cX4_goesOn 34 = .ok (.iload_n 1, 1) := by decide +kernel
theorem dX4_goesOn_35 : decode cX4_goesOn 35 = .ok (.iaload, 1) := by decide +kernel
theorem dX4_goesOn_36 : decode cX4_goesOn 36 = .ok (.invokestatic 52, 3) := by decide +kernel
theorem dX4_goesOn_39 : decode cX4_goesOn 39 = .ok (.ifCond .eq 21, 3) := by decide +kernel
theorem dX4_goesOn_42 : decode cX4_goesOn 42 = .ok (.aload_n 0, 1) := by decide +kernel
theorem dX4_goesOn_43 : decode cX4_goesOn 43 = .ok (.getfield 22, 3) := by decide +kernel
theorem dX4_goesOn_46 : decode cX4_goesOn 46 = .ok (.iload_n 1, 1) := by decide +kernel
theorem dX4_goesOn_47 : decode cX4_goesOn 47 = .ok (.iconst 1, 1) := by decide +kernel
theorem dX4_goesOn_48 : decode cX4_goesOn 48 = .ok (.isub, 1) := by decide +kernel
theorem dX4_goesOn_49 : decode cX4_goesOn 49 = .ok (.iaload, 1) := by decide +kernel
theorem dX4_goesOn_50 : decode cX4_goesOn 50 = .ok (.invokestatic 52, 3) := by decide +kernel
theorem dX4_goesOn_53 : decode cX4_goesOn 53 = .ok (.ifCond .eq 7, 3) := by decide +kernel
theorem dX4_goesOn_56 : decode cX4_goesOn 56 = .ok (.iconst 1, 1) := by decide +kernel
theorem dX4_goesOn_57 : decode cX4_goesOn 57 = .ok (.goto 4, 3) := by decide +kernel
theorem dX4_goesOn_60 : decode cX4_goesOn 60 = .ok (.iconst 0, 1) := by decide +kernel
theorem dX4_goesOn_61 : decode cX4_goesOn 61 = .ok (.ireturn, 1) := by decide +kernel
theorem dX4_sortFrom_0 : decode cX4_sortFrom 0 = .ok (.aload_n 0, 1) := by decide +kernel
theorem dX4_sortFrom_1 : decode cX4_sortFrom 1 = .ok (.getfield 22, 3) := by decide +kernel
theorem dX4_sortFrom_4 : decode cX4_sortFrom 4 = .ok (.iload_n 1, 1) := by decide +kernel
theorem dX4_sortFrom_5 : decode cX4_sortFrom 5 = .ok (.iaload, 1) := by decide +kernel
theorem dX4_sortFrom_6 : decode cX4_sortFrom 6 = .ok (.invokestatic 49, 3) := by decide +kernel
theorem dX4_sortFrom_9 : decode cX4_sortFrom 9 = .ok (.ifCond .eq 9, 3) := by decide +kernel
theorem dX4_sortFrom_12 : decode cX4_sortFrom 12 = .ok (.aload_n 0, 1) := by decide +kernel
theorem dX4_sortFrom_13 : decode cX4_sortFrom 13 = .ok (.iload_n 1, 1) := by decide +kernel
theorem dX4_sortFrom_14 : decode cX4_sortFrom 14 = .ok (.invokevirtual 55, 3) := by decide +kernel
theorem dX4_sortFrom_17 : decode cX4_sortFrom 17 = .ok (.ireturn, 1) := by decide +kernel
theorem dX4_sortFrom_18 : decode cX4_sortFrom 18 = .ok (.aload_n 0, 1) := by decide +kernel
theorem dX4_sortFrom_19 : decode cX4_sortFrom 19 = .ok (.getfield 22, 3) := by decide +kernel
theorem dX4_sortFrom_22 : decode cX4_sortFrom 22 = .ok (.iload_n 1, 1) := by decide +kernel
theorem dX4_sortFrom_23 : decode cX4_sortFrom 23 = .ok (.iaload, 1) := by decide +kernel
theorem dX4_sortFrom_24 : decode cX4_sortFrom 24 = .ok (.invokestatic 52, 3) := by decide +kernel
theorem dX4_sortFrom_27 : decode cX4_sortFrom 27 = .ok (.ifCond .eq 11, 3) := by decide +kernel
theorem dX4_sortFrom_30 : decode cX4_sortFrom 30 = .ok (.aload_n 0, 1) := by decide +kernel
theorem dX4_sortFrom_31 : decode cX4_sortFrom 31 = .ok (.iload_n 1, 1) := by decide +kernel
theorem dX4_sortFrom_32 : decode cX4_sortFrom 32 = .ok (.invokevirtual 58, 3) := by decide +kernel
theorem dX4_sortFrom_35 : decode cX4_sortFrom 35 = .ok (.goto 13, 3) := by decide +kernel
theorem dX4_sortFrom_38 : decode cX4_sortFrom 38 = .ok (.sipush 1000, 3) := by decide +kernel
theorem dX4_sortFrom_41 : decode cX4_sortFrom 41 = .ok (.aload_n 0, 1) := by decide +kernel
theorem dX4_sortFrom_42 : decode cX4_sortFrom 42 = .ok (.getfield 22, 3) := by decide +kernel
theorem dX4_sortFrom_45 : decode cX4_sortFrom 45 = .ok (.iload_n 1, 1) := by decide +kernel
theorem dX4_sortFrom_46 : decode cX4_sortFrom 46 = .ok (.iaload, 1) := by decide +kernel
theorem dX4_sortFrom_47 : decode cX4_sortFrom 47 = .ok (.iadd, 1) := by decide +kernel
theorem dX4_sortFrom_48 : decode cX4_sortFrom 48 = .ok (.ireturn, 1) := by decide +kernel
theorem dX4_numberFrom_0 : decode cX4_numberFrom 0 = .ok (.iconst 0, 1) := by decide +kernel
theorem dX4_numberFrom_1 : decode cX4_numberFrom 1 = .ok (.istore_n 2, 1) := by decide +kernel
theorem dX4_numberFrom_2 : decode cX4_numberFrom 2 = .ok (.iload_n 1, 1) := by decide +kernel
theorem dX4_numberFrom_3 : decode cX4_numberFrom 3 = .ok (.istore_n 3, 1) := by decide +kernel
theorem dX4_numberFrom_4 : decode cX4_numberFrom 4 = .ok (.iload_n 3, 1) := by decide +kernel
theorem dX4_numberFrom_5 : decode cX4_numberFrom 5 = .ok (.aload_n 0, 1) := by decide +kernel
theorem dX4_numberFrom_6 : decode cX4_numberFrom 6 = .ok (.getfield 25, 3) := by decide +kernel
theorem dX4_numberFrom_9 : decode cX4_numberFrom 9 = .ok (.if_icmp .ge 42, 3) := by decide +kernel
theorem dX4_numberFrom_12 : decode cX4_numberFrom 12 = .ok (.aload_n 0, 1) := by decide +kernel
theorem dX4_numberFrom_13 : decode cX4_numberFrom 13 = .ok (.getfield 22, 3) := by decide +kernel
theorem dX4_numberFrom_16 : decode cX4_numberFrom 16 = .ok (.iload_n 3, 1) := by decide +kernel
theorem dX4_numberFrom_17 : decode cX4_numberFrom 17 = .ok (.iaload, 1) := by decide +kernel
theorem dX4_numberFrom_18 : decode cX4_numberFrom 18 = .ok (.invokestatic 52, 3) := by decide +kernel
theorem dX4_numberFrom_21 : decode cX4_numberFrom 21 = .ok (.ifCond .eq 30, 3) := by decide +kernel
theorem dX4_numberFrom_24 : decode cX4_numberFrom 24 = .ok (.sipush 1001, 3) := by decide +kernel
theorem dX4_numberFrom_27 : decode cX4_numberFrom 27 = .ok (.iload_n 2, 1) := by decide +kernel
theorem dX4_numberFrom_28 : decode cX4_numberFrom 28 = .ok (.bipush 10, 2) := by decide +kernel
theorem dX4_numberFrom_30 : decode cX4_numberFrom 30 = .ok (.imul, 1) := by decide +kernel
theorem dX4_numberFrom_31 : decode cX4_numberFrom 31 = .ok (.aload_n 0, 1) := by decide +kernel
theorem dX4_numberFrom_32 : decode cX4_numberFrom 32 = .ok (.getfield 22, 3) := by decide +kernel
theorem dX4_numberFrom_35 : decode cX4_numberFrom 35 = .ok (.iload_n 3, 1) := by decide +kernel
theorem dX4_numberFrom_36 : decode cX4_numberFrom 36 = .ok (.iaload, 1) := by decide +kernel
theorem dX4_numberFrom_37 : decode cX4_numberFrom 37 = .ok (.iadd, 1) := by decide +kernel
theorem dX4_numberFrom_38 : decode cX4_numberFrom 38 = .ok (.bipush 48, 2) := by decide +kernel
theorem dX4_numberFrom_40 : decode cX4_numberFrom 40 = .ok (.isub, 1) := by decide +kernel
theorem dX4_numberFrom_41 : decode cX4_numberFrom 41 = .ok (.invokestatic 28, 3) := by decide +kernel
theorem dX4_numberFrom_44 : decode cX4_numberFrom 44 = .ok (.istore_n 2, 1) := by decide +kernel
theorem dX4_numberFrom_45 : decode cX4_numberFrom 45 = .ok (.iinc 3 1, 3) := by decide +kernel
theorem dX4_numberFrom_48 : decode cX4_numberFrom 48 = .ok (.goto (-44), 3) := by decide +kernel
theorem dX4_numberFrom_51 : decode cX4_numberFrom 51 = .ok (.sipush 2000, 3) := by decide +kernel
theorem dX4_numberFrom_54 : decode cX4_numberFrom 54 = .ok (.iload_n 2, 1) := by decide +kernel
theorem dX4_numberFrom_55 : decode cX4_numberFrom 55 = .ok (.iadd, 1) := by decide +kernel
theorem dX4_numberFrom_56 : decode cX4_numberFrom 56 = .ok (.ireturn, 1) := by decide +kernel
theorem dX4_wordFrom_0 : decode cX4_wordFrom 0 = .ok (.aload_n 0, 1) := by decide +kernel
theorem dX4_wordFrom_1 : decode cX4_wordFrom 1 = .ok (.ldc 61, 2) := by decide +kernel
theorem dX4_wordFrom_3 : decode cX4_wordFrom 3 = .ok (.iload_n 1, 1) := by decide +kernel
theorem dX4_wordFrom_4 : decode cX4_wordFrom 4 = .ok (.invokevirtual 63, 3) := by decide +kernel
theorem dX4_wordFrom_7 : decode cX4_wordFrom 7 = .ok (.ifCond .eq 7, 3) := by decide +kernel
theorem dX4_wordFrom_10 : decode cX4_wordFrom 10 = .ok (.iconst 1, 1) := by decide +kernel
theorem dX4_wordFrom_11 : decode cX4_wordFrom 11 = .ok (.goto 196, 3) := by decide +kernel
theorem dX4_wordFrom_14 : decode cX4_wordFrom 14 = .ok (.aload_n 0, 1) := by decide +kernel
theorem dX4_wordFrom_15 : decode cX4_wordFrom 15 = .ok (.ldc 67, 2) := by decide +kernel
theorem dX4_wordFrom_17 : decode cX4_wordFrom 17 = .ok (.iload_n 1, 1) := by decide +kernel
theorem dX4_wordFrom_18 : decode cX4_wordFrom 18 = .ok (.invokevirtual 63, 3) := by decide +kernel
theorem dX4_wordFrom_21 : decode cX4_wordFrom 21 = .ok (.ifCond .eq 7, 3) := by decide +kernel
theorem dX4_wordFrom_24 : decode cX4_wordFrom 24 = .ok (.iconst 2, 1) := by decide +kernel
theorem dX4_wordFrom_25 : decode cX4_wordFrom 25 = .ok (.goto 182, 3) := by decide +kernel
theorem dX4_wordFrom_28 : decode cX4_wordFrom 28 = .ok (.aload_n 0, 1) := by decide +kernel
theorem dX4_wordFrom_29 : decode cX4_wordFrom 29 = .ok (.ldc 69, 2) := by decide +kernel
theorem dX4_wordFrom_31 : decode cX4_wordFrom 31 = .ok (.iload_n 1, 1) := by decide +kernel
theorem dX4_wordFrom_32 : decode cX4_wordFrom 32 = .ok (.invokevirtual 63, 3) := by decide +kernel
theorem dX4_wordFrom_35 : decode cX4_wordFrom 35 = .ok (.ifCond .eq 7, 3) := by decide +kernel
theorem dX4_wordFrom_38 : decode cX4_wordFrom 38 = .ok (.iconst 3, 1) := by decide +kernel
theorem dX4_wordFrom_39 : decode cX4_wordFrom 39 = .ok (.goto 168, 3) := by decide +kernel
theorem dX4_wordFrom_42 : decode cX4_wordFrom 42 = .ok (.aload_n 0, 1) := by decide +kernel
theorem dX4_wordFrom_43 : decode cX4_wordFrom 43 = .ok (.ldc 71, 2) := by decide +kernel
theorem dX4_wordFrom_45 : decode cX4_wordFrom 45 = .ok (.iload_n 1, 1) := by decide +kernel
theorem dX4_wordFrom_46 : decode cX4_wordFrom 46 = .ok (.invokevirtual 63, 3) := by decide +kernel
theorem dX4_wordFrom_49 : decode cX4_wordFrom 49 = .ok (.ifCond .eq 7, 3) := by decide +kernel
theorem dX4_wordFrom_52 : decode cX4_wordFrom 52 = .ok (.iconst 4, 1) := by decide +kernel
theorem dX4_wordFrom_53 : decode cX4_wordFrom 53 = .ok (.goto 154, 3) := by decide +kernel
theorem dX4_wordFrom_56 : decode cX4_wordFrom 56 = .ok (.aload_n 0, 1) := by decide +kernel
theorem dX4_wordFrom_57 : decode cX4_wordFrom 57 = .ok (.ldc 73, 2) := by decide +kernel
theorem dX4_wordFrom_59 : decode cX4_wordFrom 59 = .ok (.iload_n 1, 1) := by decide +kernel
theorem dX4_wordFrom_60 : decode cX4_wordFrom 60 = .ok (.invokevirtual 63, 3) := by decide +kernel
theorem dX4_wordFrom_63 : decode cX4_wordFrom 63 = .ok (.ifCond .eq 7, 3) := by decide +kernel
theorem dX4_wordFrom_66 : decode cX4_wordFrom 66 = .ok (.iconst 5, 1) := by decide +kernel
theorem dX4_wordFrom_67 : decode cX4_wordFrom 67 = .ok (.goto 140, 3) := by decide +kernel
theorem dX4_wordFrom_70 : decode cX4_wordFrom 70 = .ok (.aload_n 0, 1) := by decide +kernel
theorem dX4_wordFrom_71 : decode cX4_wordFrom 71 = .ok (.ldc 75, 2) := by decide +kernel
theorem dX4_wordFrom_73 : decode cX4_wordFrom 73 = .ok (.iload_n 1, 1) := by decide +kernel
theorem dX4_wordFrom_74 : decode cX4_wordFrom 74 = .ok (.invokevirtual 63, 3) := by decide +kernel
theorem dX4_wordFrom_77 : decode cX4_wordFrom 77 = .ok (.ifCond .eq 8, 3) := by decide +kernel
theorem dX4_wordFrom_80 : decode cX4_wordFrom 80 = .ok (.bipush 16, 2) := by decide +kernel
theorem dX4_wordFrom_82 : decode cX4_wordFrom 82 = .ok (.goto 125, 3) := by decide +kernel
theorem dX4_wordFrom_85 : decode cX4_wordFrom 85 = .ok (.aload_n 0, 1) := by decide +kernel
theorem dX4_wordFrom_86 : decode cX4_wordFrom 86 = .ok (.ldc 77, 2) := by decide +kernel
theorem dX4_wordFrom_88 : decode cX4_wordFrom 88 = .ok (.iload_n 1, 1) := by decide +kernel
theorem dX4_wordFrom_89 : decode cX4_wordFrom 89 = .ok (.invokevirtual 63, 3) := by decide +kernel
theorem dX4_wordFrom_92 : decode cX4_wordFrom 92 = .ok (.ifCond .eq 8, 3) := by decide +kernel
theorem dX4_wordFrom_95 : decode cX4_wordFrom 95 = .ok (.bipush 17, 2) := by decide +kernel
theorem dX4_wordFrom_97 : decode cX4_wordFrom 97 = .ok (.goto 110, 3) := by decide +kernel
theorem dX4_wordFrom_100 : decode cX4_wordFrom 100 = .ok (.aload_n 0, 1) := by decide +kernel
theorem dX4_wordFrom_101 : decode cX4_wordFrom 101 = .ok (.ldc 79, 2) := by decide +kernel
theorem dX4_wordFrom_103 : decode cX4_wordFrom 103 = .ok (.iload_n 1, 1) := by decide +kernel
theorem dX4_wordFrom_104 : decode cX4_wordFrom 104 = .ok (.invokevirtual 63, 3) := by decide +kernel
theorem dX4_wordFrom_107 : decode cX4_wordFrom 107 = .ok (.ifCond .eq 8, 3) := by decide +kernel
theorem dX4_wordFrom_110 : decode cX4_wordFrom 110 = .ok (.bipush 18, 2) := by decide +kernel
theorem dX4_wordFrom_112 : decode cX4_wordFrom 112 = .ok (.goto 95, 3) := by decide +kernel
theorem dX4_wordFrom_115 : decode cX4_wordFrom 115 = .ok (.aload_n 0, 1) := by decide +kernel
theorem dX4_wordFrom_116 : decode cX4_wordFrom 116 = .ok (.ldc 81, 2) := by decide +kernel
theorem dX4_wordFrom_118 : decode cX4_wordFrom 118 = .ok (.iload_n 1, 1) := by decide +kernel
theorem dX4_wordFrom_119 : decode cX4_wordFrom 119 = .ok (.invokevirtual 63, 3) := by decide +kernel
theorem dX4_wordFrom_122 : decode cX4_wordFrom 122 = .ok (.ifCond .eq 8, 3) := by decide +kernel
theorem dX4_wordFrom_125 : decode cX4_wordFrom 125 = .ok (.bipush 19, 2) := by decide +kernel
theorem dX4_wordFrom_127 : decode cX4_wordFrom 127 = .ok (.goto 80, 3) := by decide +kernel
theorem dX4_wordFrom_130 : decode cX4_wordFrom 130 = .ok (.aload_n 0, 1) := by decide +kernel
theorem dX4_wordFrom_131 : decode cX4_wordFrom 131 = .ok (.ldc 83, 2) := by decide +kernel
theorem dX4_wordFrom_133 : decode cX4_wordFrom 133 = .ok (.iload_n 1, 1) := by decide +kernel
theorem dX4_wordFrom_134 : decode cX4_wordFrom 134 = .ok (.invokevirtual 63, 3) := by decide +kernel
theorem dX4_wordFrom_137 : decode cX4_wordFrom 137 = .ok (.ifCond .eq 8, 3) := by decide +kernel
theorem dX4_wordFrom_140 : decode cX4_wordFrom 140 = .ok (.bipush 20, 2) := by decide +kernel
theorem dX4_wordFrom_142 : decode cX4_wordFrom 142 = .ok (.goto 65, 3) := by decide +kernel
theorem dX4_wordFrom_145 : decode cX4_wordFrom 145 = .ok (.aload_n 0, 1) := by decide +kernel
theorem dX4_wordFrom_146 : decode cX4_wordFrom 146 = .ok (.ldc 85, 2) := by decide +kernel
theorem dX4_wordFrom_148 : decode cX4_wordFrom 148 = .ok (.iload_n 1, 1) := by decide +kernel
theorem dX4_wordFrom_149 : decode cX4_wordFrom 149 = .ok (.invokevirtual 63, 3) := by decide +kernel
theorem dX4_wordFrom_152 : decode cX4_wordFrom 152 = .ok (.ifCond .eq 8, 3) := by decide +kernel
theorem dX4_wordFrom_155 : decode cX4_wordFrom 155 = .ok (.bipush 21, 2) := by decide +kernel
theorem dX4_wordFrom_157 : decode cX4_wordFrom 157 = .ok (.goto 50, 3) := by decide +kernel
theorem dX4_wordFrom_160 : decode cX4_wordFrom 160 = .ok (.aload_n 0, 1) := by decide +kernel
theorem dX4_wordFrom_161 : decode cX4_wordFrom 161 = .ok (.ldc 87, 2) := by decide +kernel
theorem dX4_wordFrom_163 : decode cX4_wordFrom 163 = .ok (.iload_n 1, 1) := by decide +kernel
theorem dX4_wordFrom_164 : decode cX4_wordFrom 164 = .ok (.invokevirtual 63, 3) := by decide +kernel
theorem dX4_wordFrom_167 : decode cX4_wordFrom 167 = .ok (.ifCond .eq 8, 3) := by decide +kernel
theorem dX4_wordFrom_170 : decode cX4_wordFrom 170 = .ok (.bipush 22, 2) := by decide +kernel
theorem dX4_wordFrom_172 : decode cX4_wordFrom 172 = .ok (.goto 35, 3) := by decide +kernel
theorem dX4_wordFrom_175 : decode cX4_wordFrom 175 = .ok (.aload_n 0, 1) := by decide +kernel
theorem dX4_wordFrom_176 : decode cX4_wordFrom 176 = .ok (.ldc 89, 2) := by decide +kernel
theorem dX4_wordFrom_178 : decode cX4_wordFrom 178 = .ok (.iload_n 1, 1) := by decide +kernel
theorem dX4_wordFrom_179 : decode cX4_wordFrom 179 = .ok (.invokevirtual 63, 3) := by decide +kernel
theorem dX4_wordFrom_182 : decode cX4_wordFrom 182 = .ok (.ifCond .eq 8, 3) := by decide +kernel
theorem dX4_wordFrom_185 : decode cX4_wordFrom 185 = .ok (.bipush 23, 2) := by decide +kernel
theorem dX4_wordFrom_187 : decode cX4_wordFrom 187 = .ok (.goto 20, 3) := by decide +kernel
theorem dX4_wordFrom_190 : decode cX4_wordFrom 190 = .ok (.aload_n 0, 1) := by decide +kernel
theorem dX4_wordFrom_191 : decode cX4_wordFrom 191 = .ok (.ldc 91, 2) := by decide +kernel
theorem dX4_wordFrom_193 : decode cX4_wordFrom 193 = .ok (.iload_n 1, 1) := by decide +kernel
theorem dX4_wordFrom_194 : decode cX4_wordFrom 194 = .ok (.invokevirtual 63, 3) := by decide +kernel
theorem dX4_wordFrom_197 : decode cX4_wordFrom 197 = .ok (.ifCond .eq 8, 3) := by decide +kernel
theorem dX4_wordFrom_200 : decode cX4_wordFrom 200 = .ok (.bipush 24, 2) := by decide +kernel
theorem dX4_wordFrom_202 : decode cX4_wordFrom 202 = .ok (.goto 5, 3) := by decide +kernel
theorem dX4_wordFrom_205 : decode cX4_wordFrom 205 = .ok (.bipush 6, 2) := by decide +kernel
theorem dX4_wordFrom_207 : decode cX4_wordFrom 207 = .ok (.ireturn, 1) := by decide +kernel
theorem dX4_spells_0 : decode cX4_spells 0 = .ok (.iload_n 2, 1) := by decide +kernel
theorem dX4_spells_1 : decode cX4_spells 1 = .ok (.aload_n 1, 1) := by decide +kernel
theorem dX4_spells_2 : decode cX4_spells 2 = .ok (.invokevirtual 93, 3) := by decide +kernel
theorem dX4_spells_5 : decode cX4_spells 5 = .ok (.iadd, 1) := by decide +kernel
theorem dX4_spells_6 : decode cX4_spells 6 = .ok (.istore_n 3, 1) := by decide +kernel
theorem dX4_spells_7 : decode cX4_spells 7 = .ok (.iload_n 3, 1) := by decide +kernel
theorem dX4_spells_8 : decode cX4_spells 8 = .ok (.aload_n 0, 1) := by decide +kernel
theorem dX4_spells_9 : decode cX4_spells 9 = .ok (.getfield 25, 3) := by decide +kernel
theorem dX4_spells_12 : decode cX4_spells 12 = .ok (.if_icmp .gt 23, 3) := by decide +kernel
theorem dX4_spells_15 : decode cX4_spells 15 = .ok (.iload_n 3, 1) := by decide +kernel
theorem dX4_spells_16 : decode cX4_spells 16 = .ok (.aload_n 0, 1) := by decide +kernel
theorem dX4_spells_17 : decode cX4_spells 17 = .ok (.getfield 25, 3) := by decide +kernel
theorem dX4_spells_20 : decode cX4_spells 20 = .ok (.if_icmp .ge 17, 3) := by decide +kernel
theorem dX4_spells_23 : decode cX4_spells 23 = .ok (.aload_n 0, 1) := by decide +kernel
theorem dX4_spells_24 : decode cX4_spells 24 = .ok (.getfield 22, 3) := by decide +kernel
theorem dX4_spells_27 : decode cX4_spells 27 = .ok (.iload_n 3, 1) := by decide +kernel
theorem dX4_spells_28 : decode cX4_spells 28 = .ok (.iaload, 1) := by decide +kernel
theorem dX4_spells_29 : decode cX4_spells 29 = .ok (.invokestatic 49, 3) := by decide +kernel
theorem dX4_spells_32 : decode cX4_spells 32 = .ok (.ifCond .eq 5, 3) := by decide +kernel
theorem dX4_spells_35 : decode cX4_spells 35 = .ok (.iconst 0, 1) := by decide +kernel
theorem dX4_spells_36 : decode cX4_spells 36 = .ok (.ireturn, 1) := by decide +kernel
theorem dX4_spells_37 : decode cX4_spells 37 = .ok (.iconst 0, 1) := by decide +kernel
theorem dX4_spells_38 : decode cX4_spells 38 = .ok (.istore 4, 2) := by decide +kernel
theorem dX4_spells_40 : decode cX4_spells 40 = .ok (.iload 4, 2) := by decide +kernel
theorem dX4_spells_42 : decode cX4_spells 42 = .ok (.aload_n 1, 1) := by decide +kernel
theorem dX4_spells_43 : decode cX4_spells 43 = .ok (.invokevirtual 93, 3) := by decide +kernel
theorem dX4_spells_46 : decode cX4_spells 46 = .ok (.if_icmp .ge 29, 3) := by decide +kernel
theorem dX4_spells_49 : decode cX4_spells 49 = .ok (.aload_n 0, 1) := by decide +kernel
theorem dX4_spells_50 : decode cX4_spells 50 = .ok (.getfield 22, 3) := by decide +kernel
theorem dX4_spells_53 : decode cX4_spells 53 = .ok (.iload_n 2, 1) := by decide +kernel
theorem dX4_spells_54 : decode cX4_spells 54 = .ok (.iload 4, 2) := by decide +kernel
theorem dX4_spells_56 : decode cX4_spells 56 = .ok (.iadd, 1) := by decide +kernel
theorem dX4_spells_57 : decode cX4_spells 57 = .ok (.iaload, 1) := by decide +kernel
theorem dX4_spells_58 : decode cX4_spells 58 = .ok (.aload_n 1, 1) := by decide +kernel
theorem dX4_spells_59 : decode cX4_spells 59 = .ok (.iload 4, 2) := by decide +kernel
theorem dX4_spells_61 : decode cX4_spells 61 = .ok (.invokevirtual 98, 3) := by decide +kernel
theorem dX4_spells_64 : decode cX4_spells 64 = .ok (.if_icmp .eq 5, 3) := by decide +kernel
theorem dX4_spells_67 : decode cX4_spells 67 = .ok (.iconst 0, 1) := by decide +kernel
theorem dX4_spells_68 : decode cX4_spells 68 = .ok (.ireturn, 1) := by decide +kernel
theorem dX4_spells_69 : decode cX4_spells 69 = .ok (.iinc 4 1, 3) := by decide +kernel
theorem dX4_spells_72 : decode cX4_spells 72 = .ok (.goto (-32), 3) := by decide +kernel
theorem dX4_spells_75 : decode cX4_spells 75 = .ok (.iconst 1, 1) := by decide +kernel
theorem dX4_spells_76 : decode cX4_spells 76 = .ok (.ireturn, 1) := by decide +kernel
theorem dX4_isLetter_0 : decode cX4_isLetter 0 = .ok (.iload_n 0, 1) := by decide +kernel
theorem dX4_isLetter_1 : decode cX4_isLetter 1 = .ok (.bipush 97, 2) := by decide +kernel
theorem dX4_isLetter_3 : decode cX4_isLetter 3 = .ok (.if_icmp .lt 13, 3) := by decide +kernel
theorem dX4_isLetter_6 : decode cX4_isLetter 6 = .ok (.iload_n 0, 1) := by decide +kernel
theorem dX4_isLetter_7 : decode cX4_isLetter 7 = .ok (.bipush 122, 2) := by decide +kernel
theorem dX4_isLetter_9 : decode cX4_isLetter 9 = .ok (.if_icmp .gt 7, 3) := by decide +kernel
theorem dX4_isLetter_12 : decode cX4_isLetter 12 = .ok (.iconst 1, 1) := by decide +kernel
theorem dX4_isLetter_13 : decode cX4_isLetter 13 = .ok (.goto 4, 3) := by decide +kernel
theorem dX4_isLetter_16 : decode cX4_isLetter 16 = .ok (.iconst 0, 1) := by decide +kernel
theorem dX4_isLetter_17 : decode cX4_isLetter 17 = .ok (.ireturn, 1) := by decide +kernel
theorem dX4_isDigit_0 : decode cX4_isDigit 0 = .ok (.iload_n 0, 1) := by decide +kernel
theorem dX4_isDigit_1 : decode cX4_isDigit 1 = .ok (.bipush 48, 2) := by decide +kernel
theorem dX4_isDigit_3 : decode cX4_isDigit 3 = .ok (.if_icmp .lt 13, 3) := by decide +kernel
theorem dX4_isDigit_6 : decode cX4_isDigit 6 = .ok (.iload_n 0, 1) := by decide +kernel
theorem dX4_isDigit_7 : decode cX4_isDigit 7 = .ok (.bipush 57, 2) := by decide +kernel
theorem dX4_isDigit_9 : decode cX4_isDigit 9 = .ok (.if_icmp .gt 7, 3) := by decide +kernel
theorem dX4_isDigit_12 : decode cX4_isDigit 12 = .ok (.iconst 1, 1) := by decide +kernel
theorem dX4_isDigit_13 : decode cX4_isDigit 13 = .ok (.goto 4, 3) := by decide +kernel
theorem dX4_isDigit_16 : decode cX4_isDigit 16 = .ok (.iconst 0, 1) := by decide +kernel
theorem dX4_isDigit_17 : decode cX4_isDigit 17 = .ok (.ireturn, 1) := by decide +kernel
