theorem dX0_init_0 : decode cX0_init 0 = .ok (.aload_n 0, 1) := by decide +kernel
theorem dX0_init_1 : decode cX0_init 1 = .ok (.invokespecial 3, 3) := by decide +kernel
theorem dX0_init_4 : decode cX0_init 4 = .ok (.aload_n 0, 1) := by decide +kernel
theorem dX0_init_5 : decode cX0_init 5 = .ok (.sipush 256, 3) := by decide +kernel
theorem dX0_init_8 : decode cX0_init 8 = .ok (.newarray .int, 2) := by decide +kernel
theorem dX0_init_10 : decode cX0_init 10 = .ok (.putfield 9, 3) := by decide +kernel
theorem dX0_init_13 : decode cX0_init 13 = .ok (.aload_n 0, 1) := by decide +kernel
theorem dX0_init_14 : decode cX0_init 14 = .ok (.sipush 256, 3) := by decide +kernel
theorem dX0_init_17 : decode cX0_init 17 = .ok (.newarray .int, 2) := by decide +kernel
theorem dX0_init_19 : decode cX0_init 19 = .ok (.putfield 15, 3) := by decide +kernel
theorem dX0_init_22 : decode cX0_init 22 = .ok (.aload_n 0, 1) := by decide +kernel
theorem dX0_init_23 : decode cX0_init 23 = .ok (.sipush 256, 3) := by decide +kernel
theorem dX0_init_26 : decode cX0_init 26 = .ok (.newarray .int, 2) := by decide +kernel
theorem dX0_init_28 : decode cX0_init 28 = .ok (.putfield 18, 3) := by decide +kernel
theorem dX0_init_31 : decode cX0_init 31 = .ok (.aload_n 0, 1) := by decide +kernel
theorem dX0_init_32 : decode cX0_init 32 = .ok (.sipush 256, 3) := by decide +kernel
theorem dX0_init_35 : decode cX0_init 35 = .ok (.newarray .int, 2) := by decide +kernel
theorem dX0_init_37 : decode cX0_init 37 = .ok (.putfield 21, 3) := by decide +kernel
theorem dX0_init_40 : decode cX0_init 40 = .ok (.return_, 1) := by decide +kernel
theorem dX0_become_0 : decode cX0_become 0 = .ok (.aload_n 1, 1) := by decide +kernel
theorem dX0_become_1 : decode cX0_become 1 = .ok (.getfield 9, 3) := by decide +kernel
theorem dX0_become_4 : decode cX0_become 4 = .ok (.iconst 0, 1) := by decide +kernel
theorem dX0_become_5 : decode cX0_become 5 = .ok (.aload_n 0, 1) := by decide +kernel
theorem dX0_become_6 : decode cX0_become 6 = .ok (.getfield 9, 3) := by decide +kernel
theorem dX0_become_9 : decode cX0_become 9 = .ok (.iconst 0, 1) := by decide +kernel
theorem dX0_become_10 : decode cX0_become 10 = .ok (.sipush 256, 3) := by decide +kernel
theorem dX0_become_13 : decode cX0_become 13 = .ok (.invokestatic 24, 3) := by decide +kernel
theorem dX0_become_16 : decode cX0_become 16 = .ok (.aload_n 1, 1) := by decide +kernel
theorem dX0_become_17 : decode cX0_become 17 = .ok (.getfield 15, 3) := by decide +kernel
theorem dX0_become_20 : decode cX0_become 20 = .ok (.iconst 0, 1) := by decide +kernel
theorem dX0_become_21 : decode cX0_become 21 = .ok (.aload_n 0, 1) := by decide +kernel
theorem dX0_become_22 : decode cX0_become 22 = .ok (.getfield 15, 3) := by decide +kernel
theorem dX0_become_25 : decode cX0_become 25 = .ok (.iconst 0, 1) := by decide +kernel
theorem dX0_become_26 : decode cX0_become 26 = .ok (.sipush 256, 3) := by decide +kernel
theorem dX0_become_29 : decode cX0_become 29 = .ok (.invokestatic 24, 3) := by decide +kernel
theorem dX0_become_32 : decode cX0_become 32 = .ok (.aload_n 1, 1) := by decide +kernel
theorem dX0_become_33 : decode cX0_become 33 = .ok (.getfield 18, 3) := by decide +kernel
theorem dX0_become_36 : decode cX0_become 36 = .ok (.iconst 0, 1) := by decide +kernel
theorem dX0_become_37 : decode cX0_become 37 = .ok (.aload_n 0, 1) := by decide +kernel
theorem dX0_become_38 : decode cX0_become 38 = .ok (.getfield 18, 3) := by decide +kernel
theorem dX0_become_41 : decode cX0_become 41 = .ok (.iconst 0, 1) := by decide +kernel
theorem dX0_become_42 : decode cX0_become 42 = .ok (.sipush 256, 3) := by decide +kernel
theorem dX0_become_45 : decode cX0_become 45 = .ok (.invokestatic 24, 3) := by decide +kernel
theorem dX0_become_48 : decode cX0_become 48 = .ok (.aload_n 1, 1) := by decide +kernel
theorem dX0_become_49 : decode cX0_become 49 = .ok (.getfield 21, 3) := by decide +kernel
theorem dX0_become_52 : decode cX0_become 52 = .ok (.iconst 0, 1) := by decide +kernel
theorem dX0_become_53 : decode cX0_become 53 = .ok (.aload_n 0, 1) := by decide +kernel
theorem dX0_become_54 : decode cX0_become 54 = .ok (.getfield 21, 3) := by decide +kernel
theorem dX0_become_57 : decode cX0_become 57 = .ok (.iconst 0, 1) := by decide +kernel
theorem dX0_become_58 : decode cX0_become 58 = .ok (.sipush 256, 3) := by decide +kernel
theorem dX0_become_61 : decode cX0_become 61 = .ok (.invokestatic 24, 3) := by decide +kernel
theorem dX0_become_64 : decode cX0_become 64 = .ok (.return_, 1) := by decide +kernel
theorem dX0_stand_0 : decode cX0_stand 0 = .ok (.iload_n 2, 1) := by decide +kernel
theorem dX0_stand_1 : decode cX0_stand 1 = .ok (.iconst 0, 1) := by decide +kernel
theorem dX0_stand_2 : decode cX0_stand 2 = .ok (.invokestatic 30, 3) := by decide +kernel
theorem dX0_stand_5 : decode cX0_stand 5 = .ok (.istore 6, 2) := by decide +kernel
theorem dX0_stand_7 : decode cX0_stand 7 = .ok (.iload 6, 2) := by decide +kernel
theorem dX0_stand_9 : decode cX0_stand 9 = .ok (.iload_n 2, 1) := by decide +kernel
theorem dX0_stand_10 : decode cX0_stand 10 = .ok (.iload 4, 2) := by decide +kernel
theorem dX0_stand_12 : decode cX0_stand 12 = .ok (.iadd, 1) := by decide +kernel
theorem dX0_stand_13 : decode cX0_stand 13 = .ok (.if_icmp .ge 86, 3) := by decide +kernel
theorem dX0_stand_16 : decode cX0_stand 16 = .ok (.iload 6, 2) := by decide +kernel
theorem dX0_stand_18 : decode cX0_stand 18 = .ok (.bipush 10, 2) := by decide +kernel
theorem dX0_stand_20 : decode cX0_stand 20 = .ok (.if_icmp .ge 79, 3) := by decide +kernel
theorem dX0_stand_23 : decode cX0_stand 23 = .ok (.iload_n 1, 1) := by decide +kernel
theorem dX0_stand_24 : decode cX0_stand 24 = .ok (.iconst 0, 1) := by decide +kernel
theorem dX0_stand_25 : decode cX0_stand 25 = .ok (.invokestatic 30, 3) := by decide +kernel
theorem dX0_stand_28 : decode cX0_stand 28 = .ok (.istore 7, 2) := by decide +kernel
theorem dX0_stand_30 : decode cX0_stand 30 = .ok (.iload 7, 2) := by decide +kernel
theorem dX0_stand_32 : decode cX0_stand 32 = .ok (.iload_n 1, 1) := by decide +kernel
theorem dX0_stand_33 : decode cX0_stand 33 = .ok (.iload_n 3, 1) := by decide +kernel
theorem dX0_stand_34 : decode cX0_stand 34 = .ok (.iadd, 1) := by decide +kernel
theorem dX0_stand_35 : decode cX0_stand 35 = .ok (.if_icmp .ge 58, 3) := by decide +kernel
theorem dX0_stand_38 : decode cX0_stand 38 = .ok (.iload 7, 2) := by decide +kernel
theorem dX0_stand_40 : decode cX0_stand 40 = .ok (.bipush 10, 2) := by decide +kernel
theorem dX0_stand_42 : decode cX0_stand 42 = .ok (.if_icmp .ge 51, 3) := by decide +kernel
theorem dX0_stand_45 : decode cX0_stand 45 = .ok (.iload 7, 2) := by decide +kernel
theorem dX0_stand_47 : decode cX0_stand 47 = .ok (.iload 6, 2) := by decide +kernel
theorem dX0_stand_49 : decode cX0_stand 49 = .ok (.invokestatic 36, 3) := by decide +kernel
theorem dX0_stand_52 : decode cX0_stand 52 = .ok (.istore 8, 2) := by decide +kernel
theorem dX0_stand_54 : decode cX0_stand 54 = .ok (.aload_n 0, 1) := by decide +kernel
theorem dX0_stand_55 : decode cX0_stand 55 = .ok (.getfield 9, 3) := by decide +kernel
theorem dX0_stand_58 : decode cX0_stand 58 = .ok (.iload 8, 2) := by decide +kernel
theorem dX0_stand_60 : decode cX0_stand 60 = .ok (.iload 5, 2) := by decide +kernel
theorem dX0_stand_62 : decode cX0_stand 62 = .ok (.iastore, 1) := by decide +kernel
theorem dX0_stand_63 : decode cX0_stand 63 = .ok (.aload_n 0, 1) := by decide +kernel
theorem dX0_stand_64 : decode cX0_stand 64 = .ok (.getfield 15, 3) := by decide +kernel
theorem dX0_stand_67 : decode cX0_stand 67 = .ok (.iload 8, 2) := by decide +kernel
theorem dX0_stand_69 : decode cX0_stand 69 = .ok (.iconst 0, 1) := by decide +kernel
theorem dX0_stand_70 : decode cX0_stand 70 = .ok (.iastore, 1) := by decide +kernel
theorem dX0_stand_71 : decode cX0_stand 71 = .ok (.aload_n 0, 1) := by decide +kernel
theorem dX0_stand_72 : decode cX0_stand 72 = .ok (.getfield 18, 3) := by decide +kernel
theorem dX0_stand_75 : decode cX0_stand 75 = .ok (.iload 8, 2) := by decide +kernel
theorem dX0_stand_77 : decode cX0_stand 77 = .ok (.iconst 0, 1) := by decide +kernel
theorem dX0_stand_78 : decode cX0_stand 78 = .ok (.iastore, 1) := by decide +kernel
theorem dX0_stand_79 : decode cX0_stand 79 = .ok (.aload_n 0, 1) := by decide +kernel
theorem dX0_stand_80 : decode cX0_stand 80 = .ok (.getfield 21, 3) := by decide +kernel
theorem dX0_stand_83 : decode cX0_stand 83 = .ok (.iload 8, 2) := by decide +kernel
theorem dX0_stand_85 : decode cX0_stand 85 = .ok (.iconst 0, 1) := by decide +kernel
theorem dX0_stand_86 : decode cX0_stand 86 = .ok (.iastore, 1) := by decide +kernel
theorem dX0_stand_87 : decode cX0_stand 87 = .ok (.iinc 7 1, 3) := by decide +kernel
theorem dX0_stand_90 : decode cX0_stand 90 = .ok (.goto (-60), 3) := by decide +kernel
theorem dX0_stand_93 : decode cX0_stand 93 = .ok (.iinc 6 1, 3) := by decide +kernel
theorem dX0_stand_96 : decode cX0_stand 96 = .ok (.goto (-89), 3) := by decide +kernel
theorem dX0_stand_99 : decode cX0_stand 99 = .ok (.return_, 1) := by decide +kernel
theorem dX0_rowOf_0 : decode cX0_rowOf 0 = .ok (.iload_n 1, 1) := by decide +kernel
theorem dX0_rowOf_1 : decode cX0_rowOf 1 = .ok (.ifCond .ne 10, 3) := by decide +kernel
theorem dX0_rowOf_4 : decode cX0_rowOf 4 = .ok (.aload_n 0, 1) := by decide +kernel
theorem dX0_rowOf_5 : decode cX0_rowOf 5 = .ok (.getfield 15, 3) := by decide +kernel
theorem dX0_rowOf_8 : decode cX0_rowOf 8 = .ok (.goto 19, 3) := by decide +kernel
theorem dX0_rowOf_11 : decode cX0_rowOf 11 = .ok (.iload_n 1, 1) := by decide +kernel
theorem dX0_rowOf_12 : decode cX0_rowOf 12 = .ok (.iconst 1, 1) := by decide +kernel
theorem dX0_rowOf_13 : decode cX0_rowOf 13 = .ok (.if_icmp .ne 10, 3) := by decide +kernel
theorem dX0_rowOf_16 : decode cX0_rowOf 16 = .ok (.aload_n 0, 1) := by decide +kernel
theorem dX0_rowOf_17 : decode cX0_rowOf 17 = .ok (.getfield 18, 3) := by decide +kernel
theorem dX0_rowOf_20 : decode cX0_rowOf 20 = .ok (.goto 7, 3) := by decide +kernel
theorem dX0_rowOf_23 : decode cX0_rowOf 23 = .ok (.aload_n 0, 1) := by decide +kernel
theorem dX0_rowOf_24 : decode cX0_rowOf 24 = .ok (.getfield 21, 3) := by decide +kernel
theorem dX0_rowOf_27 : decode cX0_rowOf 27 = .ok (.areturn, 1) := by decide +kernel
