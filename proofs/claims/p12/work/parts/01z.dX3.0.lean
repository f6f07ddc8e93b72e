theorem dX3_init_0 : decode cX3_init 0 = .ok (.aload_n 0, 1) := by decide +kernel
theorem dX3_init_1 : decode cX3_init 1 = .ok (.invokespecial 3, 3) := by decide +kernel
theorem dX3_init_4 : decode cX3_init 4 = .ok (.aload_n 0, 1) := by decide +kernel
theorem dX3_init_5 : decode cX3_init 5 = .ok (.new 9, 3) := by decide +kernel
theorem dX3_init_8 : decode cX3_init 8 = .ok (.dup, 1) := by decide +kernel
theorem dX3_init_9 : decode cX3_init 9 = .ok (.invokespecial 11, 3) := by decide +kernel
theorem dX3_init_12 : decode cX3_init 12 = .ok (.putfield 12, 3) := by decide +kernel
theorem dX3_init_15 : decode cX3_init 15 = .ok (.aload_n 0, 1) := by decide +kernel
theorem dX3_init_16 : decode cX3_init 16 = .ok (.new 18, 3) := by decide +kernel
theorem dX3_init_19 : decode cX3_init 19 = .ok (.dup, 1) := by decide +kernel
theorem dX3_init_20 : decode cX3_init 20 = .ok (.invokespecial 20, 3) := by decide +kernel
theorem dX3_init_23 : decode cX3_init 23 = .ok (.putfield 21, 3) := by decide +kernel
theorem dX3_init_26 : decode cX3_init 26 = .ok (.aload_n 0, 1) := by decide +kernel
theorem dX3_init_27 : decode cX3_init 27 = .ok (.new 25, 3) := by decide +kernel
theorem dX3_init_30 : decode cX3_init 30 = .ok (.dup, 1) := by decide +kernel
theorem dX3_init_31 : decode cX3_init 31 = .ok (.invokespecial 27, 3) := by decide +kernel
theorem dX3_init_34 : decode cX3_init 34 = .ok (.putfield 28, 3) := by decide +kernel
theorem dX3_init_37 : decode cX3_init 37 = .ok (.aload_n 0, 1) := by decide +kernel
theorem dX3_init_38 : decode cX3_init 38 = .ok (.iconst 4, 1) := by decide +kernel
theorem dX3_init_39 : decode cX3_init 39 = .ok (.newarray .int, 2) := by decide +kernel
theorem dX3_init_41 : decode cX3_init 41 = .ok (.dup, 1) := by decide +kernel
theorem dX3_init_42 : decode cX3_init 42 = .ok (.iconst 0, 1) := by decide +kernel
theorem dX3_init_43 : decode cX3_init 43 = .ok (.iconst 0, 1) := by decide +kernel
theorem dX3_init_44 : decode cX3_init 44 = .ok (.iastore, 1) := by decide +kernel
theorem dX3_init_45 : decode cX3_init 45 = .ok (.dup, 1) := by decide +kernel
theorem dX3_init_46 : decode cX3_init 46 = .ok (.iconst 1, 1) := by decide +kernel
theorem dX3_init_47 : decode cX3_init 47 = .ok (.bipush 99, 2) := by decide +kernel
theorem dX3_init_49 : decode cX3_init 49 = .ok (.iastore, 1) := by decide +kernel
theorem dX3_init_50 : decode cX3_init 50 = .ok (.dup, 1) := by decide +kernel
theorem dX3_init_51 : decode cX3_init 51 = .ok (.iconst 2, 1) := by decide +kernel
theorem dX3_init_52 : decode cX3_init 52 = .ok (.bipush 99, 2) := by decide +kernel
theorem dX3_init_54 : decode cX3_init 54 = .ok (.iastore, 1) := by decide +kernel
theorem dX3_init_55 : decode cX3_init 55 = .ok (.dup, 1) := by decide +kernel
theorem dX3_init_56 : decode cX3_init 56 = .ok (.iconst 3, 1) := by decide +kernel
theorem dX3_init_57 : decode cX3_init 57 = .ok (.bipush 99, 2) := by decide +kernel
theorem dX3_init_59 : decode cX3_init 59 = .ok (.iastore, 1) := by decide +kernel
theorem dX3_init_60 : decode cX3_init 60 = .ok (.putfield 32, 3) := by decide +kernel
theorem dX3_init_63 : decode cX3_init 63 = .ok (.aload_n 0, 1) := by decide +kernel
theorem dX3_init_64 : decode cX3_init 64 = .ok (.iconst 4, 1) := by decide +kernel
theorem dX3_init_65 : decode cX3_init 65 = .ok (.newarray .int, 2) := by decide +kernel
theorem dX3_init_67 : decode cX3_init 67 = .ok (.putfield 36, 3) := by decide +kernel
theorem dX3_init_70 : decode cX3_init 70 = .ok (.aload_n 0, 1) := by decide +kernel
theorem dX3_init_71 : decode cX3_init 71 = .ok (.bipush 40, 2) := by decide +kernel
theorem dX3_init_73 : decode cX3_init 73 = .ok (.newarray .int, 2) := by decide +kernel
theorem dX3_init_75 : decode cX3_init 75 = .ok (.putfield 39, 3) := by decide +kernel
theorem dX3_init_78 : decode cX3_init 78 = .ok (.aload_n 0, 1) := by decide +kernel
theorem dX3_init_79 : decode cX3_init 79 = .ok (.iconst 4, 1) := by decide +kernel
theorem dX3_init_80 : decode cX3_init 80 = .ok (.newarray .int, 2) := by decide +kernel
theorem dX3_init_82 : decode cX3_init 82 = .ok (.putfield 42, 3) := by decide +kernel
theorem dX3_init_85 : decode cX3_init 85 = .ok (.aload_n 0, 1) := by decide +kernel
theorem dX3_init_86 : decode cX3_init 86 = .ok (.bipush 6, 2) := by decide +kernel
theorem dX3_init_88 : decode cX3_init 88 = .ok (.anewarray 45, 3) := by decide +kernel
theorem dX3_init_91 : decode cX3_init 91 = .ok (.putfield 47, 3) := by decide +kernel
theorem dX3_init_94 : decode cX3_init 94 = .ok (.aload_n 0, 1) := by decide +kernel
theorem dX3_init_95 : decode cX3_init 95 = .ok (.iconst 0, 1) := by decide +kernel
theorem dX3_init_96 : decode cX3_init 96 = .ok (.putfield 51, 3) := by decide +kernel
theorem dX3_init_99 : decode cX3_init 99 = .ok (.aload_n 0, 1) := by decide +kernel
theorem dX3_init_100 : decode cX3_init 100 = .ok (.iconst (-1), 1) := by decide +kernel
theorem dX3_init_101 : decode cX3_init 101 = .ok (.putfield 55, 3) := by decide +kernel
theorem dX3_init_104 : decode cX3_init 104 = .ok (.aload_n 0, 1) := by decide +kernel
theorem dX3_init_105 : decode cX3_init 105 = .ok (.bipush 12, 2) := by decide +kernel
theorem dX3_init_107 : decode cX3_init 107 = .ok (.newarray .int, 2) := by decide +kernel
theorem dX3_init_109 : decode cX3_init 109 = .ok (.putfield 58, 3) := by decide +kernel
theorem dX3_init_112 : decode cX3_init 112 = .ok (.aload_n 0, 1) := by decide +kernel
theorem dX3_init_113 : decode cX3_init 113 = .ok (.iconst 0, 1) := by decide +kernel
theorem dX3_init_114 : decode cX3_init 114 = .ok (.putfield 61, 3) := by decide +kernel
theorem dX3_init_117 : decode cX3_init 117 = .ok (.return_, 1) := by decide +kernel
theorem dX3_become_0 : decode cX3_become 0 = .ok (.aload_n 0, 1) := by decide +kernel
theorem dX3_become_1 : decode cX3_become 1 = .ok (.getfield 12, 3) := by decide +kernel
theorem dX3_become_4 : decode cX3_become 4 = .ok (.aload_n 1, 1) := by decide +kernel
theorem dX3_become_5 : decode cX3_become 5 = .ok (.getfield 12, 3) := by decide +kernel
theorem dX3_become_8 : decode cX3_become 8 = .ok (.invokevirtual 64, 3) := by decide +kernel
theorem dX3_become_11 : decode cX3_become 11 = .ok (.aload_n 0, 1) := by decide +kernel
theorem dX3_become_12 : decode cX3_become 12 = .ok (.getfield 21, 3) := by decide +kernel
theorem dX3_become_15 : decode cX3_become 15 = .ok (.aload_n 1, 1) := by decide +kernel
theorem dX3_become_16 : decode cX3_become 16 = .ok (.getfield 21, 3) := by decide +kernel
theorem dX3_become_19 : decode cX3_become 19 = .ok (.invokevirtual 68, 3) := by decide +kernel
theorem dX3_become_22 : decode cX3_become 22 = .ok (.aload_n 0, 1) := by decide +kernel
theorem dX3_become_23 : decode cX3_become 23 = .ok (.getfield 28, 3) := by decide +kernel
theorem dX3_become_26 : decode cX3_become 26 = .ok (.aload_n 1, 1) := by decide +kernel
theorem dX3_become_27 : decode cX3_become 27 = .ok (.getfield 28, 3) := by decide +kernel
theorem dX3_become_30 : decode cX3_become 30 = .ok (.invokevirtual 71, 3) := by decide +kernel
theorem dX3_become_33 : decode cX3_become 33 = .ok (.aload_n 1, 1) := by decide +kernel
theorem dX3_become_34 : decode cX3_become 34 = .ok (.getfield 32, 3) := by decide +kernel
theorem dX3_become_37 : decode cX3_become 37 = .ok (.iconst 0, 1) := by decide +kernel
theorem dX3_become_38 : decode cX3_become 38 = .ok (.aload_n 0, 1) := by decide +kernel
theorem dX3_become_39 : decode cX3_become 39 = .ok (.getfield 32, 3) := by decide +kernel
theorem dX3_become_42 : decode cX3_become 42 = .ok (.iconst 0, 1) := by decide +kernel
theorem dX3_become_43 : decode cX3_become 43 = .ok (.iconst 4, 1) := by decide +kernel
theorem dX3_become_44 : decode cX3_become 44 = .ok (.invokestatic 74, 3) := by decide +kernel
theorem dX3_become_47 : decode cX3_become 47 = .ok (.aload_n 1, 1) := by decide +kernel
theorem dX3_become_48 : decode cX3_become 48 = .ok (.getfield 36, 3) := by decide +kernel
theorem dX3_become_51 : decode cX3_become 51 = .ok (.iconst 0, 1) := by decide +kernel
theorem dX3_become_52 : decode cX3_become 52 = .ok (.aload_n 0, 1) := by decide +kernel
theorem dX3_become_53 : decode cX3_become 53 = .ok (.getfield 36, 3) := by decide +kernel
theorem dX3_become_56 : decode cX3_become 56 = .ok (.iconst 0, 1) := by decide +kernel
theorem dX3_become_57 : decode cX3_become 57 = .ok (.iconst 4, 1) := by decide +kernel
theorem dX3_become_58 : decode cX3_become 58 = .ok (.invokestatic 74, 3) := by decide +kernel
theorem dX3_become_61 : decode cX3_become 61 = .ok (.aload_n 1, 1) := by decide +kernel
theorem dX3_become_62 : decode cX3_become 62 = .ok (.getfield 39, 3) := by decide +kernel
theorem dX3_become_65 : decode cX3_become 65 = .ok (.iconst 0, 1) := by decide +kernel
theorem dX3_become_66 : decode cX3_become 66 = .ok (.aload_n 0, 1) := by decide +kernel
theorem dX3_become_67 : decode cX3_become 67 = .ok (.getfield 39, 3) := by decide +kernel
theorem dX3_become_70 : decode cX3_become 70 = .ok (.iconst 0, 1) := by decide +kernel
theorem dX3_become_71 : decode cX3_become 71 = .ok (.bipush 40, 2) := by decide +kernel
theorem dX3_become_73 : decode cX3_become 73 = .ok (.invokestatic 74, 3) := by decide +kernel
theorem dX3_become_76 : decode cX3_become 76 = .ok (.aload_n 1, 1) := by decide +kernel
theorem dX3_become_77 : decode cX3_become 77 = .ok (.getfield 42, 3) := by decide +kernel
theorem dX3_become_80 : decode cX3_become 80 = .ok (.iconst 0, 1) := by decide +kernel
theorem dX3_become_81 : decode cX3_become 81 = .ok (.aload_n 0, 1) := by decide +kernel
theorem dX3_become_82 : decode cX3_become 82 = .ok (.getfield 42, 3) := by decide +kernel
theorem dX3_become_85 : decode cX3_become 85 = .ok (.iconst 0, 1) := by decide +kernel
theorem dX3_become_86 : decode cX3_become 86 = .ok (.iconst 4, 1) := by decide +kernel
theorem dX3_become_87 : decode cX3_become 87 = .ok (.invokestatic 74, 3) := by decide +kernel
theorem dX3_become_90 : decode cX3_become 90 = .ok (.iconst 0, 1) := by decide +kernel
theorem dX3_become_91 : decode cX3_become 91 = .ok (.istore_n 2, 1) := by decide +kernel
theorem dX3_become_92 : decode cX3_become 92 = .ok (.iload_n 2, 1) := by decide +kernel
theorem dX3_become_93 : decode cX3_become 93 = .ok (.bipush 6, 2) := by decide +kernel
theorem dX3_become_95 : decode cX3_become 95 = .ok (.if_icmp .ge 21, 3) := by decide +kernel
theorem dX3_become_98 : decode cX3_become 98 = .ok (.aload_n 0, 1) := by decide +kernel
theorem dX3_become_99 : decode cX3_become 99 = .ok (.getfield 47, 3) := by decide +kernel
theorem dX3_become_102 : decode cX3_become 102 = .ok (.iload_n 2, 1) := by decide +kernel
theorem dX3_become_103 : decode cX3_become 103 = .ok (.aload_n 1, 1) := by decide +kernel
theorem dX3_become_104 : decode cX3_become 104 = .ok (.getfield 47, 3) := by decide +kernel
theorem dX3_become_107 : decode cX3_become 107 = .ok (.iload_n 2, 1) := by decide +kernel
theorem dX3_become_108 : decode cX3_become 108 = .ok (.aaload, 1) := by decide +kernel
theorem dX3_become_109 : decode cX3_become 109 = .ok (.aastore, 1) := by decide +kernel
theorem dX3_become_110 : decode cX3_become 110 = .ok (.iinc 2 1, 3) := by decide +kernel
theorem dX3_become_113 : decode cX3_become 113 = .ok (.goto (-21), 3) := by decide +kernel
theorem dX3_become_116 : decode cX3_become 116 = .ok (.aload_n 0, 1) := by decide +kernel
theorem dX3_become_117 : decode cX3_become 117 = .ok (.aload_n 1, 1) := by decide +kernel
theorem dX3_become_118 : decode cX3_become 118 = .ok (.getfield 51, 3) := by decide +kernel
theorem dX3_become_121 : decode cX3_become 121 = .ok (.putfield 51, 3) := by decide +kernel
theorem dX3_become_124 : decode cX3_become 124 = .ok (.aload_n 0, 1) := by decide +kernel
theorem dX3_become_125 : decode cX3_become 125 = .ok (.aload_n 1, 1) := by decide +kernel
theorem dX3_become_126 : decode cX3_become 126 = .ok (.getfield 55, 3) := by decide +kernel
theorem dX3_become_129 : decode cX3_become 129 = .ok (.putfield 55, 3) := by decide +kernel
theorem dX3_become_132 : decode cX3_become 132 = .ok (.aload_n 1, 1) := by decide +kernel
theorem dX3_become_133 : decode cX3_become 133 = .ok (.getfield 58, 3) := by decide +kernel
theorem dX3_become_136 : decode cX3_become 136 = .ok (.iconst 0, 1) := by decide +kernel
theorem dX3_become_137 : decode cX3_become 137 = .ok (.aload_n 0, 1) := by decide +kernel
theorem dX3_become_138 : decode cX3_become 138 = .ok (.getfield 58, 3) := by decide +kernel
theorem dX3_become_141 : decode cX3_become 141 = .ok (.iconst 0, 1) := by decide +kernel
theorem dX3_become_142 : decode cX3_become 142 = .ok (.bipush 12, 2) := by decide +kernel
theorem dX3_become_144 : decode cX3_become 144 = .ok (.invokestatic 74, 3) := by decide +kernel
theorem dX3_become_147 : decode cX3_become 147 = .ok (.aload_n 0, 1) := by decide +kernel
theorem dX3_become_148 : decode cX3_become 148 = .ok (.aload_n 1, 1) := by decide +kernel
theorem dX3_become_149 : decode cX3_become 149 = .ok (.getfield 61, 3) := by decide +kernel
theorem dX3_become_152 : decode cX3_become 152 = .ok (.putfield 61, 3) := by decide +kernel
theorem dX3_become_155 : decode cX3_become 155 = .ok (.return_, 1) := by decide +kernel
theorem dX3_isGround_0 : decode cX3_isGround 0 = .ok (.iload_n 1, 1) := by decide +kernel
theorem dX3_isGround_1 : decode cX3_isGround 1 = .ok (.invokestatic 80, 3) := by decide +kernel
theorem dX3_isGround_4 : decode cX3_isGround 4 = .ok (.ifCond .eq 22, 3) := by decide +kernel
theorem dX3_isGround_7 : decode cX3_isGround 7 = .ok (.aload_n 0, 1) := by decide +kernel
theorem dX3_isGround_8 : decode cX3_isGround 8 = .ok (.getfield 12, 3) := by decide +kernel
theorem dX3_isGround_11 : decode cX3_isGround 11 = .ok (.getfield 84, 3) := by decide +kernel
theorem dX3_isGround_14 : decode cX3_isGround 14 = .ok (.iload_n 1, 1) := by decide +kernel
theorem dX3_isGround_15 : decode cX3_isGround 15 = .ok (.invokestatic 87, 3) := by decide +kernel
theorem dX3_isGround_18 : decode cX3_isGround 18 = .ok (.iaload, 1) := by decide +kernel
theorem dX3_isGround_19 : decode cX3_isGround 19 = .ok (.ifCond .ne 7, 3) := by decide +kernel
theorem dX3_isGround_22 : decode cX3_isGround 22 = .ok (.iconst 1, 1) := by decide +kernel
theorem dX3_isGround_23 : decode cX3_isGround 23 = .ok (.goto 4, 3) := by decide +kernel
theorem dX3_isGround_26 : decode cX3_isGround 26 = .ok (.iconst 0, 1) := by decide +kernel
theorem dX3_isGround_27 : decode cX3_isGround 27 = .ok (.ireturn, 1) := by decide +kernel
theorem dX3_groundCells_0 : decode cX3_groundCells 0 = .ok (.iconst 0, 1) := by decide +kernel
theorem dX3_groundCells_1 : decode cX3_groundCells 1 = .ok (.istore_n 1, 1) := by decide +kernel
theorem dX3_groundCells_2 : decode cX3_groundCells 2 = .ok (.iconst 0, 1) := by decide +kernel
theorem dX3_groundCells_3 : decode cX3_groundCells 3 = .ok (.istore_n 2, 1) := by decide +kernel
theorem dX3_groundCells_4 : decode cX3_groundCells 4 = .ok (.iload_n 2, 1) := by decide +kernel
theorem dX3_groundCells_5 : decode cX3_groundCells 5 = .ok (.bipush 100, 2) := by decide +kernel
theorem dX3_groundCells_7 : decode cX3_groundCells 7 = .ok (.if_icmp .ge 25, 3) := by decide +kernel
theorem dX3_groundCells_10 : decode cX3_groundCells 10 = .ok (.iload_n 1, 1) := by decide +kernel
theorem dX3_groundCells_11 : decode cX3_groundCells 11 = .ok (.aload_n 0, 1) := by decide +kernel
theorem dX3_groundCells_12 : decode cX3_groundCells 12 = .ok (.iload_n 2, 1) := by decide +kernel
theorem dX3_groundCells_13 : decode cX3_groundCells 13 = .ok (.invokevirtual 91, 3) := by decide +kernel
theorem dX3_groundCells_16 : decode cX3_groundCells 16 = .ok (.ifCond .eq 7, 3) := by decide +kernel
theorem dX3_groundCells_19 : decode cX3_groundCells 19 = .ok (.iconst 1, 1) := by decide +kernel
theorem dX3_groundCells_20 : decode cX3_groundCells 20 = .ok (.goto 4, 3) := by decide +kernel
theorem dX3_groundCells_23 : decode cX3_groundCells 23 = .ok (.iconst 0, 1) := by decide +kernel
theorem dX3_groundCells_24 : decode cX3_groundCells 24 = .ok (.iadd, 1) := by decide +kernel
theorem dX3_groundCells_25 : decode cX3_groundCells 25 = .ok (.istore_n 1, 1) := by decide +kernel
theorem dX3_groundCells_26 : decode cX3_groundCells 26 = .ok (.iinc 2 1, 3) := by decide +kernel
theorem dX3_groundCells_29 : decode cX3_groundCells 29 = .ok (.goto (-25), 3) := by decide +kernel
theorem dX3_groundCells_32 : decode cX3_groundCells 32 = .ok (.iload_n 1, 1) := by decide +kernel
theorem dX3_groundCells_33 : decode cX3_groundCells 33 = .ok (.ireturn, 1) := by decide +kernel
theorem dX3_whyNoTower_0 : decode cX3_whyNoTower 0 = .ok (.iload_n 1, 1) := by decide +kernel
theorem dX3_whyNoTower_1 : decode cX3_whyNoTower 1 = .ok (.invokestatic 94, 3) := by decide +kernel
theorem dX3_whyNoTower_4 : decode cX3_whyNoTower 4 = .ok (.ifCond .eq 57, 3) := by decide +kernel
theorem dX3_whyNoTower_7 : decode cX3_whyNoTower 7 = .ok (.iload_n 2, 1) := by decide +kernel
theorem dX3_whyNoTower_8 : decode cX3_whyNoTower 8 = .ok (.invokestatic 94, 3) := by decide +kernel
theorem dX3_whyNoTower_11 : decode cX3_whyNoTower 11 = .ok (.ifCond .eq 50, 3) := by decide +kernel
theorem dX3_whyNoTower_14 : decode cX3_whyNoTower 14 = .ok (.iload_n 3, 1) := by decide +kernel
theorem dX3_whyNoTower_15 : decode cX3_whyNoTower 15 = .ok (.iconst 1, 1) := by decide +kernel
theorem dX3_whyNoTower_16 : decode cX3_whyNoTower 16 = .ok (.iconst 5, 1) := by decide +kernel
theorem dX3_whyNoTower_17 : decode cX3_whyNoTower 17 = .ok (.invokestatic 97, 3) := by decide +kernel
theorem dX3_whyNoTower_20 : decode cX3_whyNoTower 20 = .ok (.ifCond .eq 41, 3) := by decide +kernel
theorem dX3_whyNoTower_23 : decode cX3_whyNoTower 23 = .ok (.iload 4, 2) := by decide +kernel
theorem dX3_whyNoTower_25 : decode cX3_whyNoTower 25 = .ok (.iconst 1, 1) := by decide +kernel
theorem dX3_whyNoTower_26 : decode cX3_whyNoTower 26 = .ok (.iconst 5, 1) := by decide +kernel
theorem dX3_whyNoTower_27 : decode cX3_whyNoTower 27 = .ok (.invokestatic 97, 3) := by decide +kernel
theorem dX3_whyNoTower_30 : decode cX3_whyNoTower 30 = .ok (.ifCond .eq 31, 3) := by decide +kernel
theorem dX3_whyNoTower_33 : decode cX3_whyNoTower 33 = .ok (.iload 5, 2) := by decide +kernel
theorem dX3_whyNoTower_35 : decode cX3_whyNoTower 35 = .ok (.iconst 1, 1) := by decide +kernel
theorem dX3_whyNoTower_36 : decode cX3_whyNoTower 36 = .ok (.bipush 40, 2) := by decide +kernel
theorem dX3_whyNoTower_38 : decode cX3_whyNoTower 38 = .ok (.invokestatic 97, 3) := by decide +kernel
theorem dX3_whyNoTower_41 : decode cX3_whyNoTower 41 = .ok (.ifCond .eq 20, 3) := by decide +kernel
theorem dX3_whyNoTower_44 : decode cX3_whyNoTower 44 = .ok (.iload_n 1, 1) := by decide +kernel
theorem dX3_whyNoTower_45 : decode cX3_whyNoTower 45 = .ok (.iload_n 3, 1) := by decide +kernel
theorem dX3_whyNoTower_46 : decode cX3_whyNoTower 46 = .ok (.iadd, 1) := by decide +kernel
theorem dX3_whyNoTower_47 : decode cX3_whyNoTower 47 = .ok (.bipush 10, 2) := by decide +kernel
theorem dX3_whyNoTower_49 : decode cX3_whyNoTower 49 = .ok (.if_icmp .gt 12, 3) := by decide +kernel
theorem dX3_whyNoTower_52 : decode cX3_whyNoTower 52 = .ok (.iload_n 2, 1) := by decide +kernel
theorem dX3_whyNoTower_53 : decode cX3_whyNoTower 53 = .ok (.iload 4, 2) := by decide +kernel
theorem dX3_whyNoTower_55 : decode cX3_whyNoTower 55 = .ok (.iadd, 1) := by decide +kernel
theorem dX3_whyNoTower_56 : decode cX3_whyNoTower 56 = .ok (.bipush 10, 2) := by decide +kernel
theorem dX3_whyNoTower_58 : decode cX3_whyNoTower 58 = .ok (.if_icmp .le 5, 3) := by decide +kernel
theorem dX3_whyNoTower_61 : decode cX3_whyNoTower 61 = .ok (.iconst (-1), 1) := by decide +kernel
theorem dX3_whyNoTower_62 : decode cX3_whyNoTower 62 = .ok (.ireturn, 1) := by decide +kernel
theorem dX3_whyNoTower_63 : decode cX3_whyNoTower 63 = .ok (.iload_n 2, 1) := by decide +kernel
theorem dX3_whyNoTower_64 : decode cX3_whyNoTower 64 = .ok (.istore 6, 2) := by decide +kernel
theorem dX3_whyNoTower_66 : decode cX3_whyNoTower 66 = .ok (.iload 6, 2) := by decide +kernel
theorem dX3_whyNoTower_68 : decode cX3_whyNoTower 68 = .ok (.iload_n 2, 1) := by decide +kernel
theorem dX3_whyNoTower_69 : decode cX3_whyNoTower 69 = .ok (.iload 4, 2) := by decide +kernel
theorem dX3_whyNoTower_71 : decode cX3_whyNoTower 71 = .ok (.iadd, 1) := by decide +kernel
theorem dX3_whyNoTower_72 : decode cX3_whyNoTower 72 = .ok (.if_icmp .ge 69, 3) := by decide +kernel
theorem dX3_whyNoTower_75 : decode cX3_whyNoTower 75 = .ok (.iload_n 1, 1) := by decide +kernel
theorem dX3_whyNoTower_76 : decode cX3_whyNoTower 76 = .ok (.istore 7, 2) := by decide +kernel
theorem dX3_whyNoTower_78 : decode cX3_whyNoTower 78 = .ok (.iload 7, 2) := by decide +kernel
theorem dX3_whyNoTower_80 : decode cX3_whyNoTower 80 = .ok (.iload_n 1, 1) := by decide +kernel
theorem dX3_whyNoTower_81 : decode cX3_whyNoTower 81 = .ok (.iload_n 3, 1) := by decide +kernel
theorem dX3_whyNoTower_82 : decode cX3_whyNoTower 82 = .ok (.iadd, 1) := by decide +kernel
theorem dX3_whyNoTower_83 : decode cX3_whyNoTower 83 = .ok (.if_icmp .ge 52, 3) := by decide +kernel
theorem dX3_whyNoTower_86 : decode cX3_whyNoTower 86 = .ok (.iload 6, 2) := by decide +kernel
theorem dX3_whyNoTower_88 : decode cX3_whyNoTower 88 = .ok (.bipush 10, 2) := by decide +kernel
theorem dX3_whyNoTower_90 : decode cX3_whyNoTower 90 = .ok (.imul, 1) := by decide +kernel
theorem dX3_whyNoTower_91 : decode cX3_whyNoTower 91 = .ok (.iload 7, 2) := by decide +kernel
theorem dX3_whyNoTower_93 : decode cX3_whyNoTower 93 = .ok (.iadd, 1) := by decide +kernel
theorem dX3_whyNoTower_94 : decode cX3_whyNoTower 94 = .ok (.istore 8, 2) := by decide +kernel
theorem dX3_whyNoTower_96 : decode cX3_whyNoTower 96 = .ok (.aload_n 0, 1) := by decide +kernel
theorem dX3_whyNoTower_97 : decode cX3_whyNoTower 97 = .ok (.iload 8, 2) := by decide +kernel
theorem dX3_whyNoTower_99 : decode cX3_whyNoTower 99 = .ok (.invokevirtual 91, 3) := by decide +kernel
theorem dX3_whyNoTower_102 : decode cX3_whyNoTower 102 = .ok (.ifCond .eq 24, 3) := by decide +kernel
theorem dX3_whyNoTower_105 : decode cX3_whyNoTower 105 = .ok (.aload_n 0, 1) := by decide +kernel
theorem dX3_whyNoTower_106 : decode cX3_whyNoTower 106 = .ok (.iload 8, 2) := by decide +kernel
theorem dX3_whyNoTower_108 : decode cX3_whyNoTower 108 = .ok (.invokevirtual 101, 3) := by decide +kernel
theorem dX3_whyNoTower_111 : decode cX3_whyNoTower 111 = .ok (.ifCond .ne 15, 3) := by decide +kernel
theorem dX3_whyNoTower_114 : decode cX3_whyNoTower 114 = .ok (.aload_n 0, 1) := by decide +kernel
theorem dX3_whyNoTower_115 : decode cX3_whyNoTower 115 = .ok (.getfield 28, 3) := by decide +kernel
theorem dX3_whyNoTower_118 : decode cX3_whyNoTower 118 = .ok (.iload 8, 2) := by decide +kernel
theorem dX3_whyNoTower_120 : decode cX3_whyNoTower 120 = .ok (.invokevirtual 104, 3) := by decide +kernel
theorem dX3_whyNoTower_123 : decode cX3_whyNoTower 123 = .ok (.ifCond .eq 6, 3) := by decide +kernel
theorem dX3_whyNoTower_126 : decode cX3_whyNoTower 126 = .ok (.bipush (-3), 2) := by decide +kernel
theorem dX3_whyNoTower_128 : decode cX3_whyNoTower 128 = .ok (.ireturn, 1) := by decide +kernel
theorem dX3_whyNoTower_129 : decode cX3_whyNoTower 129 = .ok (.iinc 7 1, 3) := by decide +kernel
theorem dX3_whyNoTower_132 : decode cX3_whyNoTower 132 = .ok (.goto (-54), 3) := by decide +kernel
theorem dX3_whyNoTower_135 : decode cX3_whyNoTower 135 = .ok (.iinc 6 1, 3) := by decide +kernel
theorem dX3_whyNoTower_138 : decode cX3_whyNoTower 138 = .ok (.goto (-72), 3) := by decide +kernel
theorem dX3_whyNoTower_141 : decode cX3_whyNoTower 141 = .ok (.aload_n 0, 1) := by decide +kernel
theorem dX3_whyNoTower_142 : decode cX3_whyNoTower 142 = .ok (.getfield 21, 3) := by decide +kernel
theorem dX3_whyNoTower_145 : decode cX3_whyNoTower 145 = .ok (.getfield 107, 3) := by decide +kernel
theorem dX3_whyNoTower_148 : decode cX3_whyNoTower 148 = .ok (.bipush 6, 2) := by decide +kernel
theorem dX3_whyNoTower_150 : decode cX3_whyNoTower 150 = .ok (.if_icmp .lt 8, 3) := by decide +kernel
theorem dX3_whyNoTower_153 : decode cX3_whyNoTower 153 = .ok (.bipush (-5), 2) := by decide +kernel
theorem dX3_whyNoTower_155 : decode cX3_whyNoTower 155 = .ok (.goto 4, 3) := by decide +kernel
theorem dX3_whyNoTower_158 : decode cX3_whyNoTower 158 = .ok (.iconst 0, 1) := by decide +kernel
theorem dX3_whyNoTower_159 : decode cX3_whyNoTower 159 = .ok (.ireturn, 1) := by decide +kernel
theorem dX3_whyNoWork_0 : decode cX3_whyNoWork 0 = .ok (.iload_n 1, 1) := by decide +kernel
theorem dX3_whyNoWork_1 : decode cX3_whyNoWork 1 = .ok (.iconst 0, 1) := by decide +kernel
theorem dX3_whyNoWork_2 : decode cX3_whyNoWork 2 = .ok (.iconst 3, 1) := by decide +kernel
theorem dX3_whyNoWork_3 : decode cX3_whyNoWork 3 = .ok (.invokestatic 97, 3) := by decide +kernel
theorem dX3_whyNoWork_6 : decode cX3_whyNoWork 6 = .ok (.ifCond .eq 15, 3) := by decide +kernel
theorem dX3_whyNoWork_9 : decode cX3_whyNoWork 9 = .ok (.iload 4, 2) := by decide +kernel
theorem dX3_whyNoWork_11 : decode cX3_whyNoWork 11 = .ok (.iconst 0, 1) := by decide +kernel
theorem dX3_whyNoWork_12 : decode cX3_whyNoWork 12 = .ok (.sipush 999, 3) := by decide +kernel
theorem dX3_whyNoWork_15 : decode cX3_whyNoWork 15 = .ok (.invokestatic 97, 3) := by decide +kernel
theorem dX3_whyNoWork_18 : decode cX3_whyNoWork 18 = .ok (.ifCond .ne 5, 3) := by decide +kernel
theorem dX3_whyNoWork_21 : decode cX3_whyNoWork 21 = .ok (.iconst (-1), 1) := by decide +kernel
theorem dX3_whyNoWork_22 : decode cX3_whyNoWork 22 = .ok (.ireturn, 1) := by decide +kernel
theorem dX3_whyNoWork_23 : decode cX3_whyNoWork 23 = .ok (.iload_n 1, 1) := by decide +kernel
theorem dX3_whyNoWork_24 : decode cX3_whyNoWork 24 = .ok (.iconst 3, 1) := by decide +kernel
theorem dX3_whyNoWork_25 : decode cX3_whyNoWork 25 = .ok (.if_icmp .ne 7, 3) := by decide +kernel
theorem dX3_whyNoWork_28 : decode cX3_whyNoWork 28 = .ok (.iconst 1, 1) := by decide +kernel
theorem dX3_whyNoWork_29 : decode cX3_whyNoWork 29 = .ok (.goto 4, 3) := by decide +kernel
theorem dX3_whyNoWork_32 : decode cX3_whyNoWork 32 = .ok (.iconst 0, 1) := by decide +kernel
theorem dX3_whyNoWork_33 : decode cX3_whyNoWork 33 = .ok (.istore 5, 2) := by decide +kernel
theorem dX3_whyNoWork_35 : decode cX3_whyNoWork 35 = .ok (.iload 5, 2) := by decide +kernel
theorem dX3_whyNoWork_37 : decode cX3_whyNoWork 37 = .ok (.ifCond .eq 18, 3) := by decide +kernel
theorem dX3_whyNoWork_40 : decode cX3_whyNoWork 40 = .ok (.iload_n 3, 1) := by decide +kernel
theorem dX3_whyNoWork_41 : decode cX3_whyNoWork 41 = .ok (.invokestatic 80, 3) := by decide +kernel
theorem dX3_whyNoWork_44 : decode cX3_whyNoWork 44 = .ok (.ifCond .eq 21, 3) := by decide +kernel
theorem dX3_whyNoWork_47 : decode cX3_whyNoWork 47 = .ok (.iload_n 2, 1) := by decide +kernel
theorem dX3_whyNoWork_48 : decode cX3_whyNoWork 48 = .ok (.iload_n 3, 1) := by decide +kernel
theorem dX3_whyNoWork_49 : decode cX3_whyNoWork 49 = .ok (.if_icmp .ne 18, 3) := by decide +kernel
theorem dX3_whyNoWork_52 : decode cX3_whyNoWork 52 = .ok (.goto 13, 3) := by decide +kernel
theorem dX3_whyNoWork_55 : decode cX3_whyNoWork 55 = .ok (.iload_n 3, 1) := by decide +kernel
theorem dX3_whyNoWork_56 : decode cX3_whyNoWork 56 = .ok (.iconst 1, 1) := by decide +kernel
theorem dX3_whyNoWork_57 : decode cX3_whyNoWork 57 = .ok (.bipush 9, 2) := by decide +kernel
theorem dX3_whyNoWork_59 : decode cX3_whyNoWork 59 = .ok (.invokestatic 97, 3) := by decide +kernel
theorem dX3_whyNoWork_62 : decode cX3_whyNoWork 62 = .ok (.ifCond .ne 5, 3) := by decide +kernel
theorem dX3_whyNoWork_65 : decode cX3_whyNoWork 65 = .ok (.iconst (-1), 1) := by decide +kernel
theorem dX3_whyNoWork_66 : decode cX3_whyNoWork 66 = .ok (.ireturn, 1) := by decide +kernel
theorem dX3_whyNoWork_67 : decode cX3_whyNoWork 67 = .ok (.iload_n 1, 1) := by decide +kernel
theorem dX3_whyNoWork_68 : decode cX3_whyNoWork 68 = .ok (.iconst 2, 1) := by decide +kernel
theorem dX3_whyNoWork_69 : decode cX3_whyNoWork 69 = .ok (.if_icmp .ne 17, 3) := by decide +kernel
theorem dX3_whyNoWork_72 : decode cX3_whyNoWork 72 = .ok (.aload_n 0, 1) := by decide +kernel
theorem dX3_whyNoWork_73 : decode cX3_whyNoWork 73 = .ok (.getfield 21, 3) := by decide +kernel
theorem dX3_whyNoWork_76 : decode cX3_whyNoWork 76 = .ok (.iload_n 2, 1) := by decide +kernel
theorem dX3_whyNoWork_77 : decode cX3_whyNoWork 77 = .ok (.invokevirtual 110, 3) := by decide +kernel
theorem dX3_whyNoWork_80 : decode cX3_whyNoWork 80 = .ok (.ifCond .ne 39, 3) := by decide +kernel
theorem dX3_whyNoWork_83 : decode cX3_whyNoWork 83 = .ok (.bipush (-2), 2) := by decide +kernel
theorem dX3_whyNoWork_85 : decode cX3_whyNoWork 85 = .ok (.ireturn, 1) := by decide +kernel
theorem dX3_whyNoWork_86 : decode cX3_whyNoWork 86 = .ok (.iload_n 2, 1) := by decide +kernel
theorem dX3_whyNoWork_87 : decode cX3_whyNoWork 87 = .ok (.invokestatic 80, 3) := by decide +kernel
theorem dX3_whyNoWork_90 : decode cX3_whyNoWork 90 = .ok (.ifCond .ne 5, 3) := by decide +kernel
theorem dX3_whyNoWork_93 : decode cX3_whyNoWork 93 = .ok (.iconst (-1), 1) := by decide +kernel
theorem dX3_whyNoWork_94 : decode cX3_whyNoWork 94 = .ok (.ireturn, 1) := by decide +kernel
theorem dX3_whyNoWork_95 : decode cX3_whyNoWork 95 = .ok (.aload_n 0, 1) := by decide +kernel
theorem dX3_whyNoWork_96 : decode cX3_whyNoWork 96 = .ok (.iload_n 2, 1) := by decide +kernel
theorem dX3_whyNoWork_97 : decode cX3_whyNoWork 97 = .ok (.invokevirtual 91, 3) := by decide +kernel
theorem dX3_whyNoWork_100 : decode cX3_whyNoWork 100 = .ok (.ifCond .eq 16, 3) := by decide +kernel
theorem dX3_whyNoWork_103 : decode cX3_whyNoWork 103 = .ok (.iload 5, 2) := by decide +kernel
theorem dX3_whyNoWork_105 : decode cX3_whyNoWork 105 = .ok (.ifCond .eq 14, 3) := by decide +kernel
theorem dX3_whyNoWork_108 : decode cX3_whyNoWork 108 = .ok (.aload_n 0, 1) := by decide +kernel
theorem dX3_whyNoWork_109 : decode cX3_whyNoWork 109 = .ok (.iload_n 3, 1) := by decide +kernel
theorem dX3_whyNoWork_110 : decode cX3_whyNoWork 110 = .ok (.invokevirtual 91, 3) := by decide +kernel
theorem dX3_whyNoWork_113 : decode cX3_whyNoWork 113 = .ok (.ifCond .ne 6, 3) := by decide +kernel
theorem dX3_whyNoWork_116 : decode cX3_whyNoWork 116 = .ok (.bipush (-3), 2) := by decide +kernel
theorem dX3_whyNoWork_118 : decode cX3_whyNoWork 118 = .ok (.ireturn, 1) := by decide +kernel
theorem dX3_whyNoWork_119 : decode cX3_whyNoWork 119 = .ok (.aload_n 0, 1) := by decide +kernel
theorem dX3_whyNoWork_120 : decode cX3_whyNoWork 120 = .ok (.getfield 28, 3) := by decide +kernel
theorem dX3_whyNoWork_123 : decode cX3_whyNoWork 123 = .ok (.getfield 113, 3) := by decide +kernel
theorem dX3_whyNoWork_126 : decode cX3_whyNoWork 126 = .ok (.bipush 8, 2) := by decide +kernel
theorem dX3_whyNoWork_128 : decode cX3_whyNoWork 128 = .ok (.if_icmp .lt 8, 3) := by decide +kernel
theorem dX3_whyNoWork_131 : decode cX3_whyNoWork 131 = .ok (.bipush (-5), 2) := by decide +kernel
theorem dX3_whyNoWork_133 : decode cX3_whyNoWork 133 = .ok (.goto 4, 3) := by decide +kernel
theorem dX3_whyNoWork_136 : decode cX3_whyNoWork 136 = .ok (.iconst 0, 1) := by decide +kernel
theorem dX3_whyNoWork_137 : decode cX3_whyNoWork 137 = .ok (.ireturn, 1) := by decide +kernel
theorem dX3_doWork_0 : decode cX3_doWork 0 = .ok (.iload_n 1, 1) := by decide +kernel
theorem dX3_doWork_1 : decode cX3_doWork 1 = .ok (.iconst 0, 1) := by decide +kernel
theorem dX3_doWork_2 : decode cX3_doWork 2 = .ok (.aload_n 0, 1) := by decide +kernel
theorem dX3_doWork_3 : decode cX3_doWork 3 = .ok (.getfield 28, 3) := by decide +kernel
theorem dX3_doWork_6 : decode cX3_doWork 6 = .ok (.getfield 113, 3) := by decide +kernel
theorem dX3_doWork_9 : decode cX3_doWork 9 = .ok (.iconst 1, 1) := by decide +kernel
theorem dX3_doWork_10 : decode cX3_doWork 10 = .ok (.isub, 1) := by decide +kernel
theorem dX3_doWork_11 : decode cX3_doWork 11 = .ok (.invokestatic 97, 3) := by decide +kernel
theorem dX3_doWork_14 : decode cX3_doWork 14 = .ok (.ifCond .ne 4, 3) := by decide +kernel
theorem dX3_doWork_17 : decode cX3_doWork 17 = .ok (.return_, 1) := by decide +kernel
theorem dX3_doWork_18 : decode cX3_doWork 18 = .ok (.aload_n 0, 1) := by decide +kernel
theorem dX3_doWork_19 : decode cX3_doWork 19 = .ok (.getfield 28, 3) := by decide +kernel
theorem dX3_doWork_22 : decode cX3_doWork 22 = .ok (.getfield 114, 3) := by decide +kernel
theorem dX3_doWork_25 : decode cX3_doWork 25 = .ok (.iload_n 1, 1) := by decide +kernel
theorem dX3_doWork_26 : decode cX3_doWork 26 = .ok (.iaload, 1) := by decide +kernel
theorem dX3_doWork_27 : decode cX3_doWork 27 = .ok (.istore_n 3, 1) := by decide +kernel
theorem dX3_doWork_28 : decode cX3_doWork 28 = .ok (.aload_n 0, 1) := by decide +kernel
theorem dX3_doWork_29 : decode cX3_doWork 29 = .ok (.getfield 28, 3) := by decide +kernel
theorem dX3_doWork_32 : decode cX3_doWork 32 = .ok (.getfield 117, 3) := by decide +kernel
theorem dX3_doWork_35 : decode cX3_doWork 35 = .ok (.iload_n 1, 1) := by decide +kernel
theorem dX3_doWork_36 : decode cX3_doWork 36 = .ok (.iaload, 1) := by decide +kernel
theorem dX3_doWork_37 : decode cX3_doWork 37 = .ok (.istore 4, 2) := by decide +kernel
theorem dX3_doWork_39 : decode cX3_doWork 39 = .ok (.aload_n 0, 1) := by decide +kernel
theorem dX3_doWork_40 : decode cX3_doWork 40 = .ok (.getfield 28, 3) := by decide +kernel
theorem dX3_doWork_43 : decode cX3_doWork 43 = .ok (.getfield 120, 3) := by decide +kernel
theorem dX3_doWork_46 : decode cX3_doWork 46 = .ok (.iload_n 1, 1) := by decide +kernel
theorem dX3_doWork_47 : decode cX3_doWork 47 = .ok (.iaload, 1) := by decide +kernel
theorem dX3_doWork_48 : decode cX3_doWork 48 = .ok (.iconst 2, 1) := by decide +kernel
theorem dX3_doWork_49 : decode cX3_doWork 49 = .ok (.if_icmp .ne 29, 3) := by decide +kernel
theorem dX3_doWork_52 : decode cX3_doWork 52 = .ok (.aload_n 0, 1) := by decide +kernel
theorem dX3_doWork_53 : decode cX3_doWork 53 = .ok (.getfield 21, 3) := by decide +kernel
theorem dX3_doWork_56 : decode cX3_doWork 56 = .ok (.iload_n 3, 1) := by decide +kernel
theorem dX3_doWork_57 : decode cX3_doWork 57 = .ok (.iconst 1, 1) := by decide +kernel
theorem dX3_doWork_58 : decode cX3_doWork 58 = .ok (.aload_n 0, 1) := by decide +kernel
theorem dX3_doWork_59 : decode cX3_doWork 59 = .ok (.getfield 21, 3) := by decide +kernel
theorem dX3_doWork_62 : decode cX3_doWork 62 = .ok (.iload_n 3, 1) := by decide +kernel
theorem dX3_doWork_63 : decode cX3_doWork 63 = .ok (.aload_n 2, 1) := by decide +kernel
theorem dX3_doWork_64 : decode cX3_doWork 64 = .ok (.invokevirtual 123, 3) := by decide +kernel
theorem dX3_doWork_67 : decode cX3_doWork 67 = .ok (.iload 4, 2) := by decide +kernel
theorem dX3_doWork_69 : decode cX3_doWork 69 = .ok (.isub, 1) := by decide +kernel
theorem dX3_doWork_70 : decode cX3_doWork 70 = .ok (.invokestatic 127, 3) := by decide +kernel
theorem dX3_doWork_73 : decode cX3_doWork 73 = .ok (.aload_n 2, 1) := by decide +kernel
theorem dX3_doWork_74 : decode cX3_doWork 74 = .ok (.invokevirtual 133, 3) := by decide +kernel
theorem dX3_doWork_77 : decode cX3_doWork 77 = .ok (.return_, 1) := by decide +kernel
theorem dX3_doWork_78 : decode cX3_doWork 78 = .ok (.iload_n 3, 1) := by decide +kernel
theorem dX3_doWork_79 : decode cX3_doWork 79 = .ok (.invokestatic 80, 3) := by decide +kernel
theorem dX3_doWork_82 : decode cX3_doWork 82 = .ok (.ifCond .eq 15, 3) := by decide +kernel
theorem dX3_doWork_85 : decode cX3_doWork 85 = .ok (.aload_n 2, 1) := by decide +kernel
theorem dX3_doWork_86 : decode cX3_doWork 86 = .ok (.getfield 84, 3) := by decide +kernel
theorem dX3_doWork_89 : decode cX3_doWork 89 = .ok (.iload_n 3, 1) := by decide +kernel
theorem dX3_doWork_90 : decode cX3_doWork 90 = .ok (.invokestatic 87, 3) := by decide +kernel
theorem dX3_doWork_93 : decode cX3_doWork 93 = .ok (.iaload, 1) := by decide +kernel
theorem dX3_doWork_94 : decode cX3_doWork 94 = .ok (.ifCond .eq 4, 3) := by decide +kernel
theorem dX3_doWork_97 : decode cX3_doWork 97 = .ok (.return_, 1) := by decide +kernel
theorem dX3_doWork_98 : decode cX3_doWork 98 = .ok (.iload_n 3, 1) := by decide +kernel
theorem dX3_doWork_99 : decode cX3_doWork 99 = .ok (.invokestatic 87, 3) := by decide +kernel
theorem dX3_doWork_102 : decode cX3_doWork 102 = .ok (.istore 5, 2) := by decide +kernel
theorem dX3_doWork_104 : decode cX3_doWork 104 = .ok (.aload_n 0, 1) := by decide +kernel
theorem dX3_doWork_105 : decode cX3_doWork 105 = .ok (.getfield 28, 3) := by decide +kernel
theorem dX3_doWork_108 : decode cX3_doWork 108 = .ok (.getfield 120, 3) := by decide +kernel
theorem dX3_doWork_111 : decode cX3_doWork 111 = .ok (.iload_n 1, 1) := by decide +kernel
theorem dX3_doWork_112 : decode cX3_doWork 112 = .ok (.iaload, 1) := by decide +kernel
theorem dX3_doWork_113 : decode cX3_doWork 113 = .ok (.ifCond .ne 28, 3) := by decide +kernel
theorem dX3_doWork_116 : decode cX3_doWork 116 = .ok (.aload_n 2, 1) := by decide +kernel
theorem dX3_doWork_117 : decode cX3_doWork 117 = .ok (.getfield 137, 3) := by decide +kernel
theorem dX3_doWork_120 : decode cX3_doWork 120 = .ok (.iload 5, 2) := by decide +kernel
theorem dX3_doWork_122 : decode cX3_doWork 122 = .ok (.bipush 9, 2) := by decide +kernel
theorem dX3_doWork_124 : decode cX3_doWork 124 = .ok (.aload_n 2, 1) := by decide +kernel
theorem dX3_doWork_125 : decode cX3_doWork 125 = .ok (.getfield 137, 3) := by decide +kernel
theorem dX3_doWork_128 : decode cX3_doWork 128 = .ok (.iload 5, 2) := by decide +kernel
theorem dX3_doWork_130 : decode cX3_doWork 130 = .ok (.iaload, 1) := by decide +kernel
theorem dX3_doWork_131 : decode cX3_doWork 131 = .ok (.iload 4, 2) := by decide +kernel
theorem dX3_doWork_133 : decode cX3_doWork 133 = .ok (.iadd, 1) := by decide +kernel
theorem dX3_doWork_134 : decode cX3_doWork 134 = .ok (.invokestatic 140, 3) := by decide +kernel
theorem dX3_doWork_137 : decode cX3_doWork 137 = .ok (.iastore, 1) := by decide +kernel
theorem dX3_doWork_138 : decode cX3_doWork 138 = .ok (.goto 88, 3) := by decide +kernel
theorem dX3_doWork_141 : decode cX3_doWork 141 = .ok (.aload_n 0, 1) := by decide +kernel
theorem dX3_doWork_142 : decode cX3_doWork 142 = .ok (.getfield 28, 3) := by decide +kernel
theorem dX3_doWork_145 : decode cX3_doWork 145 = .ok (.getfield 120, 3) := by decide +kernel
theorem dX3_doWork_148 : decode cX3_doWork 148 = .ok (.iload_n 1, 1) := by decide +kernel
theorem dX3_doWork_149 : decode cX3_doWork 149 = .ok (.iaload, 1) := by decide +kernel
theorem dX3_doWork_150 : decode cX3_doWork 150 = .ok (.iconst 1, 1) := by decide +kernel
theorem dX3_doWork_151 : decode cX3_doWork 151 = .ok (.if_icmp .ne 25, 3) := by decide +kernel
theorem dX3_doWork_154 : decode cX3_doWork 154 = .ok (.aload_n 2, 1) := by decide +kernel
theorem dX3_doWork_155 : decode cX3_doWork 155 = .ok (.getfield 143, 3) := by decide +kernel
theorem dX3_doWork_158 : decode cX3_doWork 158 = .ok (.iload 5, 2) := by decide +kernel
theorem dX3_doWork_160 : decode cX3_doWork 160 = .ok (.aload_n 2, 1) := by decide +kernel
theorem dX3_doWork_161 : decode cX3_doWork 161 = .ok (.getfield 143, 3) := by decide +kernel
theorem dX3_doWork_164 : decode cX3_doWork 164 = .ok (.iload 5, 2) := by decide +kernel
theorem dX3_doWork_166 : decode cX3_doWork 166 = .ok (.iaload, 1) := by decide +kernel
theorem dX3_doWork_167 : decode cX3_doWork 167 = .ok (.iload 4, 2) := by decide +kernel
theorem dX3_doWork_169 : decode cX3_doWork 169 = .ok (.invokestatic 127, 3) := by decide +kernel
theorem dX3_doWork_172 : decode cX3_doWork 172 = .ok (.iastore, 1) := by decide +kernel
theorem dX3_doWork_173 : decode cX3_doWork 173 = .ok (.goto 53, 3) := by decide +kernel
theorem dX3_doWork_176 : decode cX3_doWork 176 = .ok (.iload 4, 2) := by decide +kernel
theorem dX3_doWork_178 : decode cX3_doWork 178 = .ok (.invokestatic 80, 3) := by decide +kernel
theorem dX3_doWork_181 : decode cX3_doWork 181 = .ok (.ifCond .eq 45, 3) := by decide +kernel
theorem dX3_doWork_184 : decode cX3_doWork 184 = .ok (.aload_n 2, 1) := by decide +kernel
theorem dX3_doWork_185 : decode cX3_doWork 185 = .ok (.getfield 84, 3) := by decide +kernel
theorem dX3_doWork_188 : decode cX3_doWork 188 = .ok (.iload 4, 2) := by decide +kernel
theorem dX3_doWork_190 : decode cX3_doWork 190 = .ok (.invokestatic 87, 3) := by decide +kernel
theorem dX3_doWork_193 : decode cX3_doWork 193 = .ok (.iaload, 1) := by decide +kernel
theorem dX3_doWork_194 : decode cX3_doWork 194 = .ok (.ifCond .ne 32, 3) := by decide +kernel
theorem dX3_doWork_197 : decode cX3_doWork 197 = .ok (.aload_n 2, 1) := by decide +kernel
theorem dX3_doWork_198 : decode cX3_doWork 198 = .ok (.getfield 146, 3) := by decide +kernel
theorem dX3_doWork_201 : decode cX3_doWork 201 = .ok (.iload 5, 2) := by decide +kernel
theorem dX3_doWork_203 : decode cX3_doWork 203 = .ok (.iaload, 1) := by decide +kernel
theorem dX3_doWork_204 : decode cX3_doWork 204 = .ok (.istore 6, 2) := by decide +kernel
theorem dX3_doWork_206 : decode cX3_doWork 206 = .ok (.aload_n 2, 1) := by decide +kernel
theorem dX3_doWork_207 : decode cX3_doWork 207 = .ok (.getfield 146, 3) := by decide +kernel
theorem dX3_doWork_210 : decode cX3_doWork 210 = .ok (.iload 5, 2) := by decide +kernel
theorem dX3_doWork_212 : decode cX3_doWork 212 = .ok (.iconst 0, 1) := by decide +kernel
theorem dX3_doWork_213 : decode cX3_doWork 213 = .ok (.iastore, 1) := by decide +kernel
theorem dX3_doWork_214 : decode cX3_doWork 214 = .ok (.aload_n 2, 1) := by decide +kernel
theorem dX3_doWork_215 : decode cX3_doWork 215 = .ok (.getfield 146, 3) := by decide +kernel
theorem dX3_doWork_218 : decode cX3_doWork 218 = .ok (.iload 4, 2) := by decide +kernel
theorem dX3_doWork_220 : decode cX3_doWork 220 = .ok (.invokestatic 87, 3) := by decide +kernel
theorem dX3_doWork_223 : decode cX3_doWork 223 = .ok (.iload 6, 2) := by decide +kernel
theorem dX3_doWork_225 : decode cX3_doWork 225 = .ok (.iastore, 1) := by decide +kernel
theorem dX3_doWork_226 : decode cX3_doWork 226 = .ok (.return_, 1) := by decide +kernel
theorem dX3_setHours_0 : decode cX3_setHours 0 = .ok (.iload_n 1, 1) := by decide +kernel
theorem dX3_setHours_1 : decode cX3_setHours 1 = .ok (.invokestatic 149, 3) := by decide +kernel
theorem dX3_setHours_4 : decode cX3_setHours 4 = .ok (.ifCond .eq 10, 3) := by decide +kernel
theorem dX3_setHours_7 : decode cX3_setHours 7 = .ok (.iload_n 2, 1) := by decide +kernel
theorem dX3_setHours_8 : decode cX3_setHours 8 = .ok (.invokestatic 152, 3) := by decide +kernel
theorem dX3_setHours_11 : decode cX3_setHours 11 = .ok (.ifCond .ne 5, 3) := by decide +kernel
theorem dX3_setHours_14 : decode cX3_setHours 14 = .ok (.iconst (-1), 1) := by decide +kernel
theorem dX3_setHours_15 : decode cX3_setHours 15 = .ok (.ireturn, 1) := by decide +kernel
theorem dX3_setHours_16 : decode cX3_setHours 16 = .ok (.aload_n 0, 1) := by decide +kernel
theorem dX3_setHours_17 : decode cX3_setHours 17 = .ok (.getfield 39, 3) := by decide +kernel
theorem dX3_setHours_20 : decode cX3_setHours 20 = .ok (.iload_n 1, 1) := by decide +kernel
theorem dX3_setHours_21 : decode cX3_setHours 21 = .ok (.bipush 10, 2) := by decide +kernel
theorem dX3_setHours_23 : decode cX3_setHours 23 = .ok (.imul, 1) := by decide +kernel
theorem dX3_setHours_24 : decode cX3_setHours 24 = .ok (.iload_n 2, 1) := by decide +kernel
theorem dX3_setHours_25 : decode cX3_setHours 25 = .ok (.iadd, 1) := by decide +kernel
theorem dX3_setHours_26 : decode cX3_setHours 26 = .ok (.iaload, 1) := by decide +kernel
theorem dX3_setHours_27 : decode cX3_setHours 27 = .ok (.istore 4, 2) := by decide +kernel
theorem dX3_setHours_29 : decode cX3_setHours 29 = .ok (.aload_n 0, 1) := by decide +kernel
theorem dX3_setHours_30 : decode cX3_setHours 30 = .ok (.getfield 39, 3) := by decide +kernel
theorem dX3_setHours_33 : decode cX3_setHours 33 = .ok (.iload_n 1, 1) := by decide +kernel
theorem dX3_setHours_34 : decode cX3_setHours 34 = .ok (.bipush 10, 2) := by decide +kernel
theorem dX3_setHours_36 : decode cX3_setHours 36 = .ok (.imul, 1) := by decide +kernel
theorem dX3_setHours_37 : decode cX3_setHours 37 = .ok (.iload_n 2, 1) := by decide +kernel
theorem dX3_setHours_38 : decode cX3_setHours 38 = .ok (.iadd, 1) := by decide +kernel
theorem dX3_setHours_39 : decode cX3_setHours 39 = .ok (.iload_n 3, 1) := by decide +kernel
theorem dX3_setHours_40 : decode cX3_setHours 40 = .ok (.iastore, 1) := by decide +kernel
theorem dX3_setHours_41 : decode cX3_setHours 41 = .ok (.aload_n 0, 1) := by decide +kernel
theorem dX3_setHours_42 : decode cX3_setHours 42 = .ok (.getfield 42, 3) := by decide +kernel
theorem dX3_setHours_45 : decode cX3_setHours 45 = .ok (.iload_n 1, 1) := by decide +kernel
theorem dX3_setHours_46 : decode cX3_setHours 46 = .ok (.dup2, 1) := by decide +kernel
theorem dX3_setHours_47 : decode cX3_setHours 47 = .ok (.iaload, 1) := by decide +kernel
theorem dX3_setHours_48 : decode cX3_setHours 48 = .ok (.iload_n 3, 1) := by decide +kernel
theorem dX3_setHours_49 : decode cX3_setHours 49 = .ok (.iload 4, 2) := by decide +kernel
theorem dX3_setHours_51 : decode cX3_setHours 51 = .ok (.isub, 1) := by decide +kernel
theorem dX3_setHours_52 : decode cX3_setHours 52 = .ok (.iadd, 1) := by decide +kernel
theorem dX3_setHours_53 : decode cX3_setHours 53 = .ok (.iastore, 1) := by decide +kernel
theorem dX3_setHours_54 : decode cX3_setHours 54 = .ok (.iload 4, 2) := by decide +kernel
theorem dX3_setHours_56 : decode cX3_setHours 56 = .ok (.ireturn, 1) := by decide +kernel
theorem dX3_allHours_0 : decode cX3_allHours 0 = .ok (.aload_n 0, 1) := by decide +kernel
theorem dX3_allHours_1 : decode cX3_allHours 1 = .ok (.getfield 42, 3) := by decide +kernel
theorem dX3_allHours_4 : decode cX3_allHours 4 = .ok (.iconst 0, 1) := by decide +kernel
theorem dX3_allHours_5 : decode cX3_allHours 5 = .ok (.iaload, 1) := by decide +kernel
theorem dX3_allHours_6 : decode cX3_allHours 6 = .ok (.aload_n 0, 1) := by decide +kernel
theorem dX3_allHours_7 : decode cX3_allHours 7 = .ok (.getfield 42, 3) := by decide +kernel
theorem dX3_allHours_10 : decode cX3_allHours 10 = .ok (.iconst 1, 1) := by decide +kernel
theorem dX3_allHours_11 : decode cX3_allHours 11 = .ok (.iaload, 1) := by decide +kernel
theorem dX3_allHours_12 : decode cX3_allHours 12 = .ok (.iadd, 1) := by decide +kernel
theorem dX3_allHours_13 : decode cX3_allHours 13 = .ok (.aload_n 0, 1) := by decide +kernel
theorem dX3_allHours_14 : decode cX3_allHours 14 = .ok (.getfield 42, 3) := by decide +kernel
theorem dX3_allHours_17 : decode cX3_allHours 17 = .ok (.iconst 2, 1) := by decide +kernel
theorem dX3_allHours_18 : decode cX3_allHours 18 = .ok (.iaload, 1) := by decide +kernel
theorem dX3_allHours_19 : decode cX3_allHours 19 = .ok (.iadd, 1) := by decide +kernel
theorem dX3_allHours_20 : decode cX3_allHours 20 = .ok (.aload_n 0, 1) := by decide +kernel
theorem dX3_allHours_21 : decode cX3_allHours 21 = .ok (.getfield 42, 3) := by decide +kernel
theorem dX3_allHours_24 : decode cX3_allHours 24 = .ok (.iconst 3, 1) := by decide +kernel
theorem dX3_allHours_25 : decode cX3_allHours 25 = .ok (.iaload, 1) := by decide +kernel
theorem dX3_allHours_26 : decode cX3_allHours 26 = .ok (.iadd, 1) := by decide +kernel
theorem dX3_allHours_27 : decode cX3_allHours 27 = .ok (.ireturn, 1) := by decide +kernel
theorem dX3_hourOf_0 : decode cX3_hourOf 0 = .ok (.iload_n 1, 1) := by decide +kernel
theorem dX3_hourOf_1 : decode cX3_hourOf 1 = .ok (.istore_n 2, 1) := by decide +kernel
theorem dX3_hourOf_2 : decode cX3_hourOf 2 = .ok (.iconst 0, 1) := by decide +kernel
theorem dX3_hourOf_3 : decode cX3_hourOf 3 = .ok (.istore_n 3, 1) := by decide +kernel
theorem dX3_hourOf_4 : decode cX3_hourOf 4 = .ok (.iload_n 3, 1) := by decide +kernel
theorem dX3_hourOf_5 : decode cX3_hourOf 5 = .ok (.bipush 40, 2) := by decide +kernel
theorem dX3_hourOf_7 : decode cX3_hourOf 7 = .ok (.if_icmp .ge 30, 3) := by decide +kernel
theorem dX3_hourOf_10 : decode cX3_hourOf 10 = .ok (.iload_n 2, 1) := by decide +kernel
theorem dX3_hourOf_11 : decode cX3_hourOf 11 = .ok (.aload_n 0, 1) := by decide +kernel
theorem dX3_hourOf_12 : decode cX3_hourOf 12 = .ok (.getfield 39, 3) := by decide +kernel
theorem dX3_hourOf_15 : decode cX3_hourOf 15 = .ok (.iload_n 3, 1) := by decide +kernel
theorem dX3_hourOf_16 : decode cX3_hourOf 16 = .ok (.iaload, 1) := by decide +kernel
theorem dX3_hourOf_17 : decode cX3_hourOf 17 = .ok (.if_icmp .ge 5, 3) := by decide +kernel
theorem dX3_hourOf_20 : decode cX3_hourOf 20 = .ok (.iload_n 3, 1) := by decide +kernel
theorem dX3_hourOf_21 : decode cX3_hourOf 21 = .ok (.ireturn, 1) := by decide +kernel
theorem dX3_hourOf_22 : decode cX3_hourOf 22 = .ok (.iload_n 2, 1) := by decide +kernel
theorem dX3_hourOf_23 : decode cX3_hourOf 23 = .ok (.aload_n 0, 1) := by decide +kernel
theorem dX3_hourOf_24 : decode cX3_hourOf 24 = .ok (.getfield 39, 3) := by decide +kernel
theorem dX3_hourOf_27 : decode cX3_hourOf 27 = .ok (.iload_n 3, 1) := by decide +kernel
theorem dX3_hourOf_28 : decode cX3_hourOf 28 = .ok (.iaload, 1) := by decide +kernel
theorem dX3_hourOf_29 : decode cX3_hourOf 29 = .ok (.isub, 1) := by decide +kernel
theorem dX3_hourOf_30 : decode cX3_hourOf 30 = .ok (.istore_n 2, 1) := by decide +kernel
theorem dX3_hourOf_31 : decode cX3_hourOf 31 = .ok (.iinc 3 1, 3) := by decide +kernel
theorem dX3_hourOf_34 : decode cX3_hourOf 34 = .ok (.goto (-30), 3) := by decide +kernel
theorem dX3_hourOf_37 : decode cX3_hourOf 37 = .ok (.iconst 0, 1) := by decide +kernel
theorem dX3_hourOf_38 : decode cX3_hourOf 38 = .ok (.ireturn, 1) := by decide +kernel
theorem dX3_addLaw_0 : decode cX3_addLaw 0 = .ok (.aload_n 0, 1) := by decide +kernel
theorem dX3_addLaw_1 : decode cX3_addLaw 1 = .ok (.getfield 51, 3) := by decide +kernel
theorem dX3_addLaw_4 : decode cX3_addLaw 4 = .ok (.bipush 6, 2) := by decide +kernel
theorem dX3_addLaw_6 : decode cX3_addLaw 6 = .ok (.if_icmp .lt 5, 3) := by decide +kernel
theorem dX3_addLaw_9 : decode cX3_addLaw 9 = .ok (.iconst (-1), 1) := by decide +kernel
theorem dX3_addLaw_10 : decode cX3_addLaw 10 = .ok (.ireturn, 1) := by decide +kernel
theorem dX3_addLaw_11 : decode cX3_addLaw 11 = .ok (.aload_n 0, 1) := by decide +kernel
theorem dX3_addLaw_12 : decode cX3_addLaw 12 = .ok (.getfield 47, 3) := by decide +kernel
theorem dX3_addLaw_15 : decode cX3_addLaw 15 = .ok (.aload_n 0, 1) := by decide +kernel
theorem dX3_addLaw_16 : decode cX3_addLaw 16 = .ok (.getfield 51, 3) := by decide +kernel
theorem dX3_addLaw_19 : decode cX3_addLaw 19 = .ok (.aload_n 1, 1) := by decide +kernel
theorem dX3_addLaw_20 : decode cX3_addLaw 20 = .ok (.aastore, 1) := by decide +kernel
theorem dX3_addLaw_21 : decode cX3_addLaw 21 = .ok (.aload_n 0, 1) := by decide +kernel
theorem dX3_addLaw_22 : decode cX3_addLaw 22 = .ok (.dup, 1) := by decide +kernel
theorem dX3_addLaw_23 : decode cX3_addLaw 23 = .ok (.getfield 51, 3) := by decide +kernel
theorem dX3_addLaw_26 : decode cX3_addLaw 26 = .ok (.iconst 1, 1) := by decide +kernel
theorem dX3_addLaw_27 : decode cX3_addLaw 27 = .ok (.iadd, 1) := by decide +kernel
theorem dX3_addLaw_28 : decode cX3_addLaw 28 = .ok (.putfield 51, 3) := by decide +kernel
theorem dX3_addLaw_31 : decode cX3_addLaw 31 = .ok (.aload_n 0, 1) := by decide +kernel
theorem dX3_addLaw_32 : decode cX3_addLaw 32 = .ok (.getfield 51, 3) := by decide +kernel
theorem dX3_addLaw_35 : decode cX3_addLaw 35 = .ok (.iconst 1, 1) := by decide +kernel
theorem dX3_addLaw_36 : decode cX3_addLaw 36 = .ok (.isub, 1) := by decide +kernel
theorem dX3_addLaw_37 : decode cX3_addLaw 37 = .ok (.ireturn, 1) := by decide +kernel
theorem dX3_lawInForce_0 : decode cX3_lawInForce 0 = .ok (.aload_n 0, 1) := by decide +kernel
theorem dX3_lawInForce_1 : decode cX3_lawInForce 1 = .ok (.getfield 55, 3) := by decide +kernel
theorem dX3_lawInForce_4 : decode cX3_lawInForce 4 = .ok (.iconst 0, 1) := by decide +kernel
theorem dX3_lawInForce_5 : decode cX3_lawInForce 5 = .ok (.iconst 5, 1) := by decide +kernel
theorem dX3_lawInForce_6 : decode cX3_lawInForce 6 = .ok (.invokestatic 97, 3) := by decide +kernel
theorem dX3_lawInForce_9 : decode cX3_lawInForce 9 = .ok (.ifCond .eq 15, 3) := by decide +kernel
theorem dX3_lawInForce_12 : decode cX3_lawInForce 12 = .ok (.aload_n 0, 1) := by decide +kernel
theorem dX3_lawInForce_13 : decode cX3_lawInForce 13 = .ok (.getfield 47, 3) := by decide +kernel
theorem dX3_lawInForce_16 : decode cX3_lawInForce 16 = .ok (.aload_n 0, 1) := by decide +kernel
theorem dX3_lawInForce_17 : decode cX3_lawInForce 17 = .ok (.getfield 55, 3) := by decide +kernel
theorem dX3_lawInForce_20 : decode cX3_lawInForce 20 = .ok (.aaload, 1) := by decide +kernel
theorem dX3_lawInForce_21 : decode cX3_lawInForce 21 = .ok (.goto 4, 3) := by decide +kernel
theorem dX3_lawInForce_24 : decode cX3_lawInForce 24 = .ok (.aconst_null, 1) := by decide +kernel
theorem dX3_lawInForce_25 : decode cX3_lawInForce 25 = .ok (.areturn, 1) := by decide +kernel
theorem dX3_addPlace_0 : decode cX3_addPlace 0 = .ok (.aload_n 0, 1) := by decide +kernel
theorem dX3_addPlace_1 : decode cX3_addPlace 1 = .ok (.getfield 61, 3) := by decide +kernel
theorem dX3_addPlace_4 : decode cX3_addPlace 4 = .ok (.bipush 12, 2) := by decide +kernel
theorem dX3_addPlace_6 : decode cX3_addPlace 6 = .ok (.if_icmp .lt 5, 3) := by decide +kernel
theorem dX3_addPlace_9 : decode cX3_addPlace 9 = .ok (.iconst (-1), 1) := by decide +kernel
theorem dX3_addPlace_10 : decode cX3_addPlace 10 = .ok (.ireturn, 1) := by decide +kernel
theorem dX3_addPlace_11 : decode cX3_addPlace 11 = .ok (.aload_n 0, 1) := by decide +kernel
theorem dX3_addPlace_12 : decode cX3_addPlace 12 = .ok (.getfield 58, 3) := by decide +kernel
theorem dX3_addPlace_15 : decode cX3_addPlace 15 = .ok (.aload_n 0, 1) := by decide +kernel
theorem dX3_addPlace_16 : decode cX3_addPlace 16 = .ok (.getfield 61, 3) := by decide +kernel
theorem dX3_addPlace_19 : decode cX3_addPlace 19 = .ok (.iload_n 1, 1) := by decide +kernel
theorem dX3_addPlace_20 : decode cX3_addPlace 20 = .ok (.iastore, 1) := by decide +kernel
theorem dX3_addPlace_21 : decode cX3_addPlace 21 = .ok (.aload_n 0, 1) := by decide +kernel
theorem dX3_addPlace_22 : decode cX3_addPlace 22 = .ok (.dup, 1) := by decide +kernel
theorem dX3_addPlace_23 : decode cX3_addPlace 23 = .ok (.getfield 61, 3) := by decide +kernel
theorem dX3_addPlace_26 : decode cX3_addPlace 26 = .ok (.iconst 1, 1) := by decide +kernel
theorem dX3_addPlace_27 : decode cX3_addPlace 27 = .ok (.iadd, 1) := by decide +kernel
theorem dX3_addPlace_28 : decode cX3_addPlace 28 = .ok (.putfield 61, 3) := by decide +kernel
theorem dX3_addPlace_31 : decode cX3_addPlace 31 = .ok (.aload_n 0, 1) := by decide +kernel
theorem dX3_addPlace_32 : decode cX3_addPlace 32 = .ok (.getfield 61, 3) := by decide +kernel
theorem dX3_addPlace_35 : decode cX3_addPlace 35 = .ok (.iconst 1, 1) := by decide +kernel
theorem dX3_addPlace_36 : decode cX3_addPlace 36 = .ok (.isub, 1) := by decide +kernel
theorem dX3_addPlace_37 : decode cX3_addPlace 37 = .ok (.ireturn, 1) := by decide +kernel
theorem dX3_hasPlaceIn_0 : decode cX3_hasPlaceIn 0 = .ok (.iconst 0, 1) := by decide +kernel
theorem dX3_hasPlaceIn_1 : decode cX3_hasPlaceIn 1 = .ok (.istore_n 2, 1) := by decide +kernel
theorem dX3_hasPlaceIn_2 : decode cX3_hasPlaceIn 2 = .ok (.iload_n 2, 1) := by decide +kernel
theorem dX3_hasPlaceIn_3 : decode cX3_hasPlaceIn 3 = .ok (.aload_n 0, 1) := by decide +kernel
theorem dX3_hasPlaceIn_4 : decode cX3_hasPlaceIn 4 = .ok (.getfield 61, 3) := by decide +kernel
theorem dX3_hasPlaceIn_7 : decode cX3_hasPlaceIn 7 = .ok (.if_icmp .ge 21, 3) := by decide +kernel
theorem dX3_hasPlaceIn_10 : decode cX3_hasPlaceIn 10 = .ok (.aload_n 0, 1) := by decide +kernel
theorem dX3_hasPlaceIn_11 : decode cX3_hasPlaceIn 11 = .ok (.getfield 58, 3) := by decide +kernel
theorem dX3_hasPlaceIn_14 : decode cX3_hasPlaceIn 14 = .ok (.iload_n 2, 1) := by decide +kernel
theorem dX3_hasPlaceIn_15 : decode cX3_hasPlaceIn 15 = .ok (.iaload, 1) := by decide +kernel
theorem dX3_hasPlaceIn_16 : decode cX3_hasPlaceIn 16 = .ok (.iload_n 1, 1) := by decide +kernel
theorem dX3_hasPlaceIn_17 : decode cX3_hasPlaceIn 17 = .ok (.if_icmp .ne 5, 3) := by decide +kernel
theorem dX3_hasPlaceIn_20 : decode cX3_hasPlaceIn 20 = .ok (.iconst 1, 1) := by decide +kernel
theorem dX3_hasPlaceIn_21 : decode cX3_hasPlaceIn 21 = .ok (.ireturn, 1) := by decide +kernel
theorem dX3_hasPlaceIn_22 : decode cX3_hasPlaceIn 22 = .ok (.iinc 2 1, 3) := by decide +kernel
theorem dX3_hasPlaceIn_25 : decode cX3_hasPlaceIn 25 = .ok (.goto (-23), 3) := by decide +kernel
theorem dX3_hasPlaceIn_28 : decode cX3_hasPlaceIn 28 = .ok (.iconst 0, 1) := by decide +kernel
theorem dX3_hasPlaceIn_29 : decode cX3_hasPlaceIn 29 = .ok (.ireturn, 1) := by decide +kernel
theorem dX3_watchers_0 : decode cX3_watchers 0 = .ok (.iconst 0, 1) := by decide +kernel
theorem dX3_watchers_1 : decode cX3_watchers 1 = .ok (.istore_n 2, 1) := by decide +kernel
theorem dX3_watchers_2 : decode cX3_watchers 2 = .ok (.iconst 0, 1) := by decide +kernel
theorem dX3_watchers_3 : decode cX3_watchers 3 = .ok (.istore_n 3, 1) := by decide +kernel
theorem dX3_watchers_4 : decode cX3_watchers 4 = .ok (.iload_n 3, 1) := by decide +kernel
theorem dX3_watchers_5 : decode cX3_watchers 5 = .ok (.aload_n 0, 1) := by decide +kernel
theorem dX3_watchers_6 : decode cX3_watchers 6 = .ok (.getfield 61, 3) := by decide +kernel
theorem dX3_watchers_9 : decode cX3_watchers 9 = .ok (.if_icmp .ge 62, 3) := by decide +kernel
theorem dX3_watchers_12 : decode cX3_watchers 12 = .ok (.aload_n 0, 1) := by decide +kernel
theorem dX3_watchers_13 : decode cX3_watchers 13 = .ok (.getfield 58, 3) := by decide +kernel
theorem dX3_watchers_16 : decode cX3_watchers 16 = .ok (.iload_n 3, 1) := by decide +kernel
theorem dX3_watchers_17 : decode cX3_watchers 17 = .ok (.iaload, 1) := by decide +kernel
theorem dX3_watchers_18 : decode cX3_watchers 18 = .ok (.bipush 10, 2) := by decide +kernel
theorem dX3_watchers_20 : decode cX3_watchers 20 = .ok (.irem, 1) := by decide +kernel
theorem dX3_watchers_21 : decode cX3_watchers 21 = .ok (.iload_n 1, 1) := by decide +kernel
theorem dX3_watchers_22 : decode cX3_watchers 22 = .ok (.bipush 10, 2) := by decide +kernel
theorem dX3_watchers_24 : decode cX3_watchers 24 = .ok (.irem, 1) := by decide +kernel
theorem dX3_watchers_25 : decode cX3_watchers 25 = .ok (.isub, 1) := by decide +kernel
theorem dX3_watchers_26 : decode cX3_watchers 26 = .ok (.invokestatic 155, 3) := by decide +kernel
theorem dX3_watchers_29 : decode cX3_watchers 29 = .ok (.aload_n 0, 1) := by decide +kernel
theorem dX3_watchers_30 : decode cX3_watchers 30 = .ok (.getfield 58, 3) := by decide +kernel
theorem dX3_watchers_33 : decode cX3_watchers 33 = .ok (.iload_n 3, 1) := by decide +kernel
theorem dX3_watchers_34 : decode cX3_watchers 34 = .ok (.iaload, 1) := by decide +kernel
theorem dX3_watchers_35 : decode cX3_watchers 35 = .ok (.bipush 10, 2) := by decide +kernel
theorem dX3_watchers_37 : decode cX3_watchers 37 = .ok (.idiv, 1) := by decide +kernel
theorem dX3_watchers_38 : decode cX3_watchers 38 = .ok (.iload_n 1, 1) := by decide +kernel
theorem dX3_watchers_39 : decode cX3_watchers 39 = .ok (.bipush 10, 2) := by decide +kernel
theorem dX3_watchers_41 : decode cX3_watchers 41 = .ok (.idiv, 1) := by decide +kernel
theorem dX3_watchers_42 : decode cX3_watchers 42 = .ok (.isub, 1) := by decide +kernel
theorem dX3_watchers_43 : decode cX3_watchers 43 = .ok (.invokestatic 155, 3) := by decide +kernel
theorem dX3_watchers_46 : decode cX3_watchers 46 = .ok (.iadd, 1) := by decide +kernel
theorem dX3_watchers_47 : decode cX3_watchers 47 = .ok (.istore 4, 2) := by decide +kernel
theorem dX3_watchers_49 : decode cX3_watchers 49 = .ok (.iload_n 2, 1) := by decide +kernel
theorem dX3_watchers_50 : decode cX3_watchers 50 = .ok (.iload 4, 2) := by decide +kernel
theorem dX3_watchers_52 : decode cX3_watchers 52 = .ok (.iconst 3, 1) := by decide +kernel
theorem dX3_watchers_53 : decode cX3_watchers 53 = .ok (.if_icmp .gt 9, 3) := by decide +kernel
theorem dX3_watchers_56 : decode cX3_watchers 56 = .ok (.iconst 1, 1) := by decide +kernel
theorem dX3_watchers_57 : decode cX3_watchers 57 = .ok (.iload_n 3, 1) := by decide +kernel
theorem dX3_watchers_58 : decode cX3_watchers 58 = .ok (.ishl, 1) := by decide +kernel
theorem dX3_watchers_59 : decode cX3_watchers 59 = .ok (.goto 4, 3) := by decide +kernel
theorem dX3_watchers_62 : decode cX3_watchers 62 = .ok (.iconst 0, 1) := by decide +kernel
theorem dX3_watchers_63 : decode cX3_watchers 63 = .ok (.ior, 1) := by decide +kernel
theorem dX3_watchers_64 : decode cX3_watchers 64 = .ok (.istore_n 2, 1) := by decide +kernel
theorem dX3_watchers_65 : decode cX3_watchers 65 = .ok (.iinc 3 1, 3) := by decide +kernel
theorem dX3_watchers_68 : decode cX3_watchers 68 = .ok (.goto (-64), 3) := by decide +kernel
theorem dX3_watchers_71 : decode cX3_watchers 71 = .ok (.iload_n 2, 1) := by decide +kernel
theorem dX3_watchers_72 : decode cX3_watchers 72 = .ok (.ireturn, 1) := by decide +kernel
