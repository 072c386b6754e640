theorem dX0_init_0 : decode cX0_init 0 = .ok (.aload_n 0, 1) := by decide +kernel
theorem dX0_init_1 : decode cX0_init 1 = .ok (.invokespecial 3, 3) := by decide +kernel
theorem dX0_init_4 : decode cX0_init 4 = .ok (.aload_n 0, 1) := by decide +kernel
theorem dX0_init_5 : decode cX0_init 5 = .ok (.iconst 0, 1) := by decide +kernel
theorem dX0_init_6 : decode cX0_init 6 = .ok (.putfield 9, 3) := by decide +kernel
theorem dX0_init_9 : decode cX0_init 9 = .ok (.aload_n 0, 1) := by decide +kernel
theorem dX0_init_10 : decode cX0_init 10 = .ok (.iconst 1, 1) := by decide +kernel
theorem dX0_init_11 : decode cX0_init 11 = .ok (.putfield 15, 3) := by decide +kernel
theorem dX0_init_14 : decode cX0_init 14 = .ok (.aload_n 0, 1) := by decide +kernel
theorem dX0_init_15 : decode cX0_init 15 = .ok (.bipush 48, 2) := by decide +kernel
theorem dX0_init_17 : decode cX0_init 17 = .ok (.newarray .int, 2) := by decide +kernel
theorem dX0_init_19 : decode cX0_init 19 = .ok (.putfield 18, 3) := by decide +kernel
theorem dX0_init_22 : decode cX0_init 22 = .ok (.aload_n 0, 1) := by decide +kernel
theorem dX0_init_23 : decode cX0_init 23 = .ok (.bipush 72, 2) := by decide +kernel
theorem dX0_init_25 : decode cX0_init 25 = .ok (.newarray .int, 2) := by decide +kernel
theorem dX0_init_27 : decode cX0_init 27 = .ok (.putfield 22, 3) := by decide +kernel
theorem dX0_init_30 : decode cX0_init 30 = .ok (.aload_n 0, 1) := by decide +kernel
theorem dX0_init_31 : decode cX0_init 31 = .ok (.iconst 0, 1) := by decide +kernel
theorem dX0_init_32 : decode cX0_init 32 = .ok (.putfield 25, 3) := by decide +kernel
theorem dX0_init_35 : decode cX0_init 35 = .ok (.aload_n 0, 1) := by decide +kernel
theorem dX0_init_36 : decode cX0_init 36 = .ok (.bipush 8, 2) := by decide +kernel
theorem dX0_init_38 : decode cX0_init 38 = .ok (.newarray .int, 2) := by decide +kernel
theorem dX0_init_40 : decode cX0_init 40 = .ok (.putfield 28, 3) := by decide +kernel
theorem dX0_init_43 : decode cX0_init 43 = .ok (.aload_n 0, 1) := by decide +kernel
theorem dX0_init_44 : decode cX0_init 44 = .ok (.bipush 6, 2) := by decide +kernel
theorem dX0_init_46 : decode cX0_init 46 = .ok (.newarray .int, 2) := by decide +kernel
theorem dX0_init_48 : decode cX0_init 48 = .ok (.putfield 31, 3) := by decide +kernel
theorem dX0_init_51 : decode cX0_init 51 = .ok (.aload_n 0, 1) := by decide +kernel
theorem dX0_init_52 : decode cX0_init 52 = .ok (.aload_n 1, 1) := by decide +kernel
theorem dX0_init_53 : decode cX0_init 53 = .ok (.putfield 34, 3) := by decide +kernel
theorem dX0_init_56 : decode cX0_init 56 = .ok (.return_, 1) := by decide +kernel
theorem dX0_copyFrom_0 : decode cX0_copyFrom 0 = .ok (.aload_n 0, 1) := by decide +kernel
theorem dX0_copyFrom_1 : decode cX0_copyFrom 1 = .ok (.aload_n 1, 1) := by decide +kernel
theorem dX0_copyFrom_2 : decode cX0_copyFrom 2 = .ok (.getfield 9, 3) := by decide +kernel
theorem dX0_copyFrom_5 : decode cX0_copyFrom 5 = .ok (.putfield 9, 3) := by decide +kernel
theorem dX0_copyFrom_8 : decode cX0_copyFrom 8 = .ok (.aload_n 0, 1) := by decide +kernel
theorem dX0_copyFrom_9 : decode cX0_copyFrom 9 = .ok (.aload_n 1, 1) := by decide +kernel
theorem dX0_copyFrom_10 : decode cX0_copyFrom 10 = .ok (.getfield 15, 3) := by decide +kernel
theorem dX0_copyFrom_13 : decode cX0_copyFrom 13 = .ok (.putfield 15, 3) := by decide +kernel
theorem dX0_copyFrom_16 : decode cX0_copyFrom 16 = .ok (.aload_n 0, 1) := by decide +kernel
theorem dX0_copyFrom_17 : decode cX0_copyFrom 17 = .ok (.aload_n 1, 1) := by decide +kernel
theorem dX0_copyFrom_18 : decode cX0_copyFrom 18 = .ok (.getfield 25, 3) := by decide +kernel
theorem dX0_copyFrom_21 : decode cX0_copyFrom 21 = .ok (.putfield 25, 3) := by decide +kernel
theorem dX0_copyFrom_24 : decode cX0_copyFrom 24 = .ok (.aload_n 1, 1) := by decide +kernel
theorem dX0_copyFrom_25 : decode cX0_copyFrom 25 = .ok (.getfield 18, 3) := by decide +kernel
theorem dX0_copyFrom_28 : decode cX0_copyFrom 28 = .ok (.iconst 0, 1) := by decide +kernel
theorem dX0_copyFrom_29 : decode cX0_copyFrom 29 = .ok (.aload_n 0, 1) := by decide +kernel
theorem dX0_copyFrom_30 : decode cX0_copyFrom 30 = .ok (.getfield 18, 3) := by decide +kernel
theorem dX0_copyFrom_33 : decode cX0_copyFrom 33 = .ok (.iconst 0, 1) := by decide +kernel
theorem dX0_copyFrom_34 : decode cX0_copyFrom 34 = .ok (.bipush 48, 2) := by decide +kernel
theorem dX0_copyFrom_36 : decode cX0_copyFrom 36 = .ok (.invokestatic 38, 3) := by decide +kernel
theorem dX0_copyFrom_39 : decode cX0_copyFrom 39 = .ok (.aload_n 1, 1) := by decide +kernel
theorem dX0_copyFrom_40 : decode cX0_copyFrom 40 = .ok (.getfield 22, 3) := by decide +kernel
theorem dX0_copyFrom_43 : decode cX0_copyFrom 43 = .ok (.iconst 0, 1) := by decide +kernel
theorem dX0_copyFrom_44 : decode cX0_copyFrom 44 = .ok (.aload_n 0, 1) := by decide +kernel
theorem dX0_copyFrom_45 : decode cX0_copyFrom 45 = .ok (.getfield 22, 3) := by decide +kernel
theorem dX0_copyFrom_48 : decode cX0_copyFrom 48 = .ok (.iconst 0, 1) := by decide +kernel
theorem dX0_copyFrom_49 : decode cX0_copyFrom 49 = .ok (.bipush 72, 2) := by decide +kernel
theorem dX0_copyFrom_51 : decode cX0_copyFrom 51 = .ok (.invokestatic 38, 3) := by decide +kernel
theorem dX0_copyFrom_54 : decode cX0_copyFrom 54 = .ok (.aload_n 1, 1) := by decide +kernel
theorem dX0_copyFrom_55 : decode cX0_copyFrom 55 = .ok (.getfield 28, 3) := by decide +kernel
theorem dX0_copyFrom_58 : decode cX0_copyFrom 58 = .ok (.iconst 0, 1) := by decide +kernel
theorem dX0_copyFrom_59 : decode cX0_copyFrom 59 = .ok (.aload_n 0, 1) := by decide +kernel
theorem dX0_copyFrom_60 : decode cX0_copyFrom 60 = .ok (.getfield 28, 3) := by decide +kernel
theorem dX0_copyFrom_63 : decode cX0_copyFrom 63 = .ok (.iconst 0, 1) := by decide +kernel
theorem dX0_copyFrom_64 : decode cX0_copyFrom 64 = .ok (.bipush 8, 2) := by decide +kernel
theorem dX0_copyFrom_66 : decode cX0_copyFrom 66 = .ok (.invokestatic 38, 3) := by decide +kernel
theorem dX0_copyFrom_69 : decode cX0_copyFrom 69 = .ok (.return_, 1) := by decide +kernel
theorem dX0_start_0 : decode cX0_start 0 = .ok (.aload_n 0, 1) := by decide +kernel
theorem dX0_start_1 : decode cX0_start 1 = .ok (.iload_n 1, 1) := by decide +kernel
theorem dX0_start_2 : decode cX0_start 2 = .ok (.putfield 9, 3) := by decide +kernel
theorem dX0_start_5 : decode cX0_start 5 = .ok (.aload_n 0, 1) := by decide +kernel
theorem dX0_start_6 : decode cX0_start 6 = .ok (.iload_n 2, 1) := by decide +kernel
theorem dX0_start_7 : decode cX0_start 7 = .ok (.putfield 15, 3) := by decide +kernel
theorem dX0_start_10 : decode cX0_start 10 = .ok (.aload_n 0, 1) := by decide +kernel
theorem dX0_start_11 : decode cX0_start 11 = .ok (.iconst 0, 1) := by decide +kernel
theorem dX0_start_12 : decode cX0_start 12 = .ok (.putfield 25, 3) := by decide +kernel
theorem dX0_start_15 : decode cX0_start 15 = .ok (.iconst 0, 1) := by decide +kernel
theorem dX0_start_16 : decode cX0_start 16 = .ok (.istore 4, 2) := by decide +kernel
theorem dX0_start_18 : decode cX0_start 18 = .ok (.iload 4, 2) := by decide +kernel
theorem dX0_start_20 : decode cX0_start 20 = .ok (.bipush 7, 2) := by decide +kernel
theorem dX0_start_22 : decode cX0_start 22 = .ok (.if_icmp .gt 17, 3) := by decide +kernel
theorem dX0_start_25 : decode cX0_start 25 = .ok (.aload_n 0, 1) := by decide +kernel
theorem dX0_start_26 : decode cX0_start 26 = .ok (.getfield 28, 3) := by decide +kernel
theorem dX0_start_29 : decode cX0_start 29 = .ok (.iload 4, 2) := by decide +kernel
theorem dX0_start_31 : decode cX0_start 31 = .ok (.iconst 0, 1) := by decide +kernel
theorem dX0_start_32 : decode cX0_start 32 = .ok (.iastore, 1) := by decide +kernel
theorem dX0_start_33 : decode cX0_start 33 = .ok (.iinc 4 1, 3) := by decide +kernel
theorem dX0_start_36 : decode cX0_start 36 = .ok (.goto (-18), 3) := by decide +kernel
theorem dX0_start_39 : decode cX0_start 39 = .ok (.iconst 0, 1) := by decide +kernel
theorem dX0_start_40 : decode cX0_start 40 = .ok (.istore 4, 2) := by decide +kernel
theorem dX0_start_42 : decode cX0_start 42 = .ok (.iload 4, 2) := by decide +kernel
theorem dX0_start_44 : decode cX0_start 44 = .ok (.bipush 6, 2) := by decide +kernel
theorem dX0_start_46 : decode cX0_start 46 = .ok (.if_icmp .ge 95, 3) := by decide +kernel
theorem dX0_start_49 : decode cX0_start 49 = .ok (.aload_n 0, 1) := by decide +kernel
theorem dX0_start_50 : decode cX0_start 50 = .ok (.iload 4, 2) := by decide +kernel
theorem dX0_start_52 : decode cX0_start 52 = .ok (.iconst 0, 1) := by decide +kernel
theorem dX0_start_53 : decode cX0_start 53 = .ok (.iconst 0, 1) := by decide +kernel
theorem dX0_start_54 : decode cX0_start 54 = .ok (.invokevirtual 44, 3) := by decide +kernel
theorem dX0_start_57 : decode cX0_start 57 = .ok (.aload_n 0, 1) := by decide +kernel
theorem dX0_start_58 : decode cX0_start 58 = .ok (.iload 4, 2) := by decide +kernel
theorem dX0_start_60 : decode cX0_start 60 = .ok (.iconst 1, 1) := by decide +kernel
theorem dX0_start_61 : decode cX0_start 61 = .ok (.aload_n 0, 1) := by decide +kernel
theorem dX0_start_62 : decode cX0_start 62 = .ok (.getfield 34, 3) := by decide +kernel
theorem dX0_start_65 : decode cX0_start 65 = .ok (.iload 4, 2) := by decide +kernel
theorem dX0_start_67 : decode cX0_start 67 = .ok (.invokevirtual 48, 3) := by decide +kernel
theorem dX0_start_70 : decode cX0_start 70 = .ok (.invokevirtual 44, 3) := by decide +kernel
theorem dX0_start_73 : decode cX0_start 73 = .ok (.aload_n 0, 1) := by decide +kernel
theorem dX0_start_74 : decode cX0_start 74 = .ok (.iload 4, 2) := by decide +kernel
theorem dX0_start_76 : decode cX0_start 76 = .ok (.iconst 2, 1) := by decide +kernel
theorem dX0_start_77 : decode cX0_start 77 = .ok (.iconst (-1), 1) := by decide +kernel
theorem dX0_start_78 : decode cX0_start 78 = .ok (.invokevirtual 44, 3) := by decide +kernel
theorem dX0_start_81 : decode cX0_start 81 = .ok (.aload_n 0, 1) := by decide +kernel
theorem dX0_start_82 : decode cX0_start 82 = .ok (.iload 4, 2) := by decide +kernel
theorem dX0_start_84 : decode cX0_start 84 = .ok (.iconst 3, 1) := by decide +kernel
theorem dX0_start_85 : decode cX0_start 85 = .ok (.iconst (-1), 1) := by decide +kernel
theorem dX0_start_86 : decode cX0_start 86 = .ok (.invokevirtual 44, 3) := by decide +kernel
theorem dX0_start_89 : decode cX0_start 89 = .ok (.aload_n 0, 1) := by decide +kernel
theorem dX0_start_90 : decode cX0_start 90 = .ok (.iload 4, 2) := by decide +kernel
theorem dX0_start_92 : decode cX0_start 92 = .ok (.iconst 4, 1) := by decide +kernel
theorem dX0_start_93 : decode cX0_start 93 = .ok (.iconst (-1), 1) := by decide +kernel
theorem dX0_start_94 : decode cX0_start 94 = .ok (.invokevirtual 44, 3) := by decide +kernel
theorem dX0_start_97 : decode cX0_start 97 = .ok (.aload_n 0, 1) := by decide +kernel
theorem dX0_start_98 : decode cX0_start 98 = .ok (.iload 4, 2) := by decide +kernel
theorem dX0_start_100 : decode cX0_start 100 = .ok (.iconst 5, 1) := by decide +kernel
theorem dX0_start_101 : decode cX0_start 101 = .ok (.iconst 0, 1) := by decide +kernel
theorem dX0_start_102 : decode cX0_start 102 = .ok (.invokevirtual 44, 3) := by decide +kernel
theorem dX0_start_105 : decode cX0_start 105 = .ok (.aload_n 0, 1) := by decide +kernel
theorem dX0_start_106 : decode cX0_start 106 = .ok (.iload 4, 2) := by decide +kernel
theorem dX0_start_108 : decode cX0_start 108 = .ok (.bipush 6, 2) := by decide +kernel
theorem dX0_start_110 : decode cX0_start 110 = .ok (.iconst (-1), 1) := by decide +kernel
theorem dX0_start_111 : decode cX0_start 111 = .ok (.invokevirtual 44, 3) := by decide +kernel
theorem dX0_start_114 : decode cX0_start 114 = .ok (.aload_n 0, 1) := by decide +kernel
theorem dX0_start_115 : decode cX0_start 115 = .ok (.iload 4, 2) := by decide +kernel
theorem dX0_start_117 : decode cX0_start 117 = .ok (.bipush 7, 2) := by decide +kernel
theorem dX0_start_119 : decode cX0_start 119 = .ok (.iload_n 3, 1) := by decide +kernel
theorem dX0_start_120 : decode cX0_start 120 = .ok (.i2l, 1) := by decide +kernel
theorem dX0_start_121 : decode cX0_start 121 = .ok (.iload 4, 2) := by decide +kernel
theorem dX0_start_123 : decode cX0_start 123 = .ok (.iconst 1, 1) := by decide +kernel
theorem dX0_start_124 : decode cX0_start 124 = .ok (.iadd, 1) := by decide +kernel
theorem dX0_start_125 : decode cX0_start 125 = .ok (.i2l, 1) := by decide +kernel
theorem dX0_start_126 : decode cX0_start 126 = .ok (.lmul, 1) := by decide +kernel
theorem dX0_start_127 : decode cX0_start 127 = .ok (.ldc2_w 54, 3) := by decide +kernel
theorem dX0_start_130 : decode cX0_start 130 = .ok (.lrem, 1) := by decide +kernel
theorem dX0_start_131 : decode cX0_start 131 = .ok (.l2i, 1) := by decide +kernel
theorem dX0_start_132 : decode cX0_start 132 = .ok (.invokevirtual 44, 3) := by decide +kernel
theorem dX0_start_135 : decode cX0_start 135 = .ok (.iinc 4 1, 3) := by decide +kernel
theorem dX0_start_138 : decode cX0_start 138 = .ok (.goto (-96), 3) := by decide +kernel
theorem dX0_start_141 : decode cX0_start 141 = .ok (.return_, 1) := by decide +kernel
theorem dX0_isBegun_0 : decode cX0_isBegun 0 = .ok (.aload_n 0, 1) := by decide +kernel
theorem dX0_isBegun_1 : decode cX0_isBegun 1 = .ok (.getfield 9, 3) := by decide +kernel
theorem dX0_isBegun_4 : decode cX0_isBegun 4 = .ok (.ifCond .eq 7, 3) := by decide +kernel
theorem dX0_isBegun_7 : decode cX0_isBegun 7 = .ok (.iconst 1, 1) := by decide +kernel
theorem dX0_isBegun_8 : decode cX0_isBegun 8 = .ok (.goto 4, 3) := by decide +kernel
theorem dX0_isBegun_11 : decode cX0_isBegun 11 = .ok (.iconst 0, 1) := by decide +kernel
theorem dX0_isBegun_12 : decode cX0_isBegun 12 = .ok (.ireturn, 1) := by decide +kernel
theorem dX0_cell_0 : decode cX0_cell 0 = .ok (.iload_n 1, 1) := by decide +kernel
theorem dX0_cell_1 : decode cX0_cell 1 = .ok (.bipush 8, 2) := by decide +kernel
theorem dX0_cell_3 : decode cX0_cell 3 = .ok (.imul, 1) := by decide +kernel
theorem dX0_cell_4 : decode cX0_cell 4 = .ok (.iload_n 2, 1) := by decide +kernel
theorem dX0_cell_5 : decode cX0_cell 5 = .ok (.iadd, 1) := by decide +kernel
theorem dX0_cell_6 : decode cX0_cell 6 = .ok (.istore_n 3, 1) := by decide +kernel
theorem dX0_cell_7 : decode cX0_cell 7 = .ok (.iload_n 3, 1) := by decide +kernel
theorem dX0_cell_8 : decode cX0_cell 8 = .ok (.ifCond .lt 21, 3) := by decide +kernel
theorem dX0_cell_11 : decode cX0_cell 11 = .ok (.iload_n 3, 1) := by decide +kernel
theorem dX0_cell_12 : decode cX0_cell 12 = .ok (.aload_n 0, 1) := by decide +kernel
theorem dX0_cell_13 : decode cX0_cell 13 = .ok (.getfield 18, 3) := by decide +kernel
theorem dX0_cell_16 : decode cX0_cell 16 = .ok (.arraylength, 1) := by decide +kernel
theorem dX0_cell_17 : decode cX0_cell 17 = .ok (.if_icmp .ge 12, 3) := by decide +kernel
theorem dX0_cell_20 : decode cX0_cell 20 = .ok (.aload_n 0, 1) := by decide +kernel
theorem dX0_cell_21 : decode cX0_cell 21 = .ok (.getfield 18, 3) := by decide +kernel
theorem dX0_cell_24 : decode cX0_cell 24 = .ok (.iload_n 3, 1) := by decide +kernel
theorem dX0_cell_25 : decode cX0_cell 25 = .ok (.iaload, 1) := by decide +kernel
theorem dX0_cell_26 : decode cX0_cell 26 = .ok (.goto 4, 3) := by decide +kernel
theorem dX0_cell_29 : decode cX0_cell 29 = .ok (.iconst (-1), 1) := by decide +kernel
theorem dX0_cell_30 : decode cX0_cell 30 = .ok (.ireturn, 1) := by decide +kernel
theorem dX0_setCell_0 : decode cX0_setCell 0 = .ok (.iload_n 1, 1) := by decide +kernel
theorem dX0_setCell_1 : decode cX0_setCell 1 = .ok (.bipush 8, 2) := by decide +kernel
theorem dX0_setCell_3 : decode cX0_setCell 3 = .ok (.imul, 1) := by decide +kernel
theorem dX0_setCell_4 : decode cX0_setCell 4 = .ok (.iload_n 2, 1) := by decide +kernel
theorem dX0_setCell_5 : decode cX0_setCell 5 = .ok (.iadd, 1) := by decide +kernel
theorem dX0_setCell_6 : decode cX0_setCell 6 = .ok (.istore 4, 2) := by decide +kernel
theorem dX0_setCell_8 : decode cX0_setCell 8 = .ok (.iload 4, 2) := by decide +kernel
theorem dX0_setCell_10 : decode cX0_setCell 10 = .ok (.ifCond .lt 21, 3) := by decide +kernel
theorem dX0_setCell_13 : decode cX0_setCell 13 = .ok (.iload 4, 2) := by decide +kernel
theorem dX0_setCell_15 : decode cX0_setCell 15 = .ok (.aload_n 0, 1) := by decide +kernel
theorem dX0_setCell_16 : decode cX0_setCell 16 = .ok (.getfield 18, 3) := by decide +kernel
theorem dX0_setCell_19 : decode cX0_setCell 19 = .ok (.arraylength, 1) := by decide +kernel
theorem dX0_setCell_20 : decode cX0_setCell 20 = .ok (.if_icmp .ge 11, 3) := by decide +kernel
theorem dX0_setCell_23 : decode cX0_setCell 23 = .ok (.aload_n 0, 1) := by decide +kernel
theorem dX0_setCell_24 : decode cX0_setCell 24 = .ok (.getfield 18, 3) := by decide +kernel
theorem dX0_setCell_27 : decode cX0_setCell 27 = .ok (.iload 4, 2) := by decide +kernel
theorem dX0_setCell_29 : decode cX0_setCell 29 = .ok (.iload_n 3, 1) := by decide +kernel
theorem dX0_setCell_30 : decode cX0_setCell 30 = .ok (.iastore, 1) := by decide +kernel
theorem dX0_setCell_31 : decode cX0_setCell 31 = .ok (.return_, 1) := by decide +kernel
theorem dX0_letterCell_0 : decode cX0_letterCell 0 = .ok (.iload_n 1, 1) := by decide +kernel
theorem dX0_letterCell_1 : decode cX0_letterCell 1 = .ok (.bipush 6, 2) := by decide +kernel
theorem dX0_letterCell_3 : decode cX0_letterCell 3 = .ok (.imul, 1) := by decide +kernel
theorem dX0_letterCell_4 : decode cX0_letterCell 4 = .ok (.iload_n 2, 1) := by decide +kernel
theorem dX0_letterCell_5 : decode cX0_letterCell 5 = .ok (.iadd, 1) := by decide +kernel
theorem dX0_letterCell_6 : decode cX0_letterCell 6 = .ok (.istore_n 3, 1) := by decide +kernel
theorem dX0_letterCell_7 : decode cX0_letterCell 7 = .ok (.iload_n 3, 1) := by decide +kernel
theorem dX0_letterCell_8 : decode cX0_letterCell 8 = .ok (.ifCond .lt 21, 3) := by decide +kernel
theorem dX0_letterCell_11 : decode cX0_letterCell 11 = .ok (.iload_n 3, 1) := by decide +kernel
theorem dX0_letterCell_12 : decode cX0_letterCell 12 = .ok (.aload_n 0, 1) := by decide +kernel
theorem dX0_letterCell_13 : decode cX0_letterCell 13 = .ok (.getfield 22, 3) := by decide +kernel
theorem dX0_letterCell_16 : decode cX0_letterCell 16 = .ok (.arraylength, 1) := by decide +kernel
theorem dX0_letterCell_17 : decode cX0_letterCell 17 = .ok (.if_icmp .ge 12, 3) := by decide +kernel
theorem dX0_letterCell_20 : decode cX0_letterCell 20 = .ok (.aload_n 0, 1) := by decide +kernel
theorem dX0_letterCell_21 : decode cX0_letterCell 21 = .ok (.getfield 22, 3) := by decide +kernel
theorem dX0_letterCell_24 : decode cX0_letterCell 24 = .ok (.iload_n 3, 1) := by decide +kernel
theorem dX0_letterCell_25 : decode cX0_letterCell 25 = .ok (.iaload, 1) := by decide +kernel
theorem dX0_letterCell_26 : decode cX0_letterCell 26 = .ok (.goto 4, 3) := by decide +kernel
theorem dX0_letterCell_29 : decode cX0_letterCell 29 = .ok (.iconst (-1), 1) := by decide +kernel
theorem dX0_letterCell_30 : decode cX0_letterCell 30 = .ok (.ireturn, 1) := by decide +kernel
theorem dX0_sentOf_0 : decode cX0_sentOf 0 = .ok (.iload_n 1, 1) := by decide +kernel
theorem dX0_sentOf_1 : decode cX0_sentOf 1 = .ok (.iconst 0, 1) := by decide +kernel
theorem dX0_sentOf_2 : decode cX0_sentOf 2 = .ok (.bipush 7, 2) := by decide +kernel
theorem dX0_sentOf_4 : decode cX0_sentOf 4 = .ok (.invokestatic 56, 3) := by decide +kernel
theorem dX0_sentOf_7 : decode cX0_sentOf 7 = .ok (.ifCond .eq 12, 3) := by decide +kernel
theorem dX0_sentOf_10 : decode cX0_sentOf 10 = .ok (.aload_n 0, 1) := by decide +kernel
theorem dX0_sentOf_11 : decode cX0_sentOf 11 = .ok (.getfield 28, 3) := by decide +kernel
theorem dX0_sentOf_14 : decode cX0_sentOf 14 = .ok (.iload_n 1, 1) := by decide +kernel
theorem dX0_sentOf_15 : decode cX0_sentOf 15 = .ok (.iaload, 1) := by decide +kernel
theorem dX0_sentOf_16 : decode cX0_sentOf 16 = .ok (.goto 4, 3) := by decide +kernel
theorem dX0_sentOf_19 : decode cX0_sentOf 19 = .ok (.iconst 0, 1) := by decide +kernel
theorem dX0_sentOf_20 : decode cX0_sentOf 20 = .ok (.ireturn, 1) := by decide +kernel
theorem dX0_inState_0 : decode cX0_inState 0 = .ok (.iconst 0, 1) := by decide +kernel
theorem dX0_inState_1 : decode cX0_inState 1 = .ok (.istore_n 2, 1) := by decide +kernel
theorem dX0_inState_2 : decode cX0_inState 2 = .ok (.aload_n 0, 1) := by decide +kernel
theorem dX0_inState_3 : decode cX0_inState 3 = .ok (.invokevirtual 60, 3) := by decide +kernel
theorem dX0_inState_6 : decode cX0_inState 6 = .ok (.ifCond .eq 13, 3) := by decide +kernel
theorem dX0_inState_9 : decode cX0_inState 9 = .ok (.aload_n 0, 1) := by decide +kernel
theorem dX0_inState_10 : decode cX0_inState 10 = .ok (.getfield 34, 3) := by decide +kernel
theorem dX0_inState_13 : decode cX0_inState 13 = .ok (.getfield 64, 3) := by decide +kernel
theorem dX0_inState_16 : decode cX0_inState 16 = .ok (.goto 4, 3) := by decide +kernel
theorem dX0_inState_19 : decode cX0_inState 19 = .ok (.iconst 0, 1) := by decide +kernel
theorem dX0_inState_20 : decode cX0_inState 20 = .ok (.istore_n 3, 1) := by decide +kernel
theorem dX0_inState_21 : decode cX0_inState 21 = .ok (.iconst 0, 1) := by decide +kernel
theorem dX0_inState_22 : decode cX0_inState 22 = .ok (.istore 4, 2) := by decide +kernel
theorem dX0_inState_24 : decode cX0_inState 24 = .ok (.iload 4, 2) := by decide +kernel
theorem dX0_inState_26 : decode cX0_inState 26 = .ok (.iload_n 3, 1) := by decide +kernel
theorem dX0_inState_27 : decode cX0_inState 27 = .ok (.if_icmp .ge 28, 3) := by decide +kernel
theorem dX0_inState_30 : decode cX0_inState 30 = .ok (.iload_n 2, 1) := by decide +kernel
theorem dX0_inState_31 : decode cX0_inState 31 = .ok (.aload_n 0, 1) := by decide +kernel
theorem dX0_inState_32 : decode cX0_inState 32 = .ok (.iload 4, 2) := by decide +kernel
theorem dX0_inState_34 : decode cX0_inState 34 = .ok (.iconst 0, 1) := by decide +kernel
theorem dX0_inState_35 : decode cX0_inState 35 = .ok (.invokevirtual 67, 3) := by decide +kernel
theorem dX0_inState_38 : decode cX0_inState 38 = .ok (.iload_n 1, 1) := by decide +kernel
theorem dX0_inState_39 : decode cX0_inState 39 = .ok (.if_icmp .ne 7, 3) := by decide +kernel
theorem dX0_inState_42 : decode cX0_inState 42 = .ok (.iconst 1, 1) := by decide +kernel
theorem dX0_inState_43 : decode cX0_inState 43 = .ok (.goto 4, 3) := by decide +kernel
theorem dX0_inState_46 : decode cX0_inState 46 = .ok (.iconst 0, 1) := by decide +kernel
theorem dX0_inState_47 : decode cX0_inState 47 = .ok (.iadd, 1) := by decide +kernel
theorem dX0_inState_48 : decode cX0_inState 48 = .ok (.istore_n 2, 1) := by decide +kernel
theorem dX0_inState_49 : decode cX0_inState 49 = .ok (.iinc 4 1, 3) := by decide +kernel
theorem dX0_inState_52 : decode cX0_inState 52 = .ok (.goto (-28), 3) := by decide +kernel
theorem dX0_inState_55 : decode cX0_inState 55 = .ok (.iload_n 2, 1) := by decide +kernel
theorem dX0_inState_56 : decode cX0_inState 56 = .ok (.ireturn, 1) := by decide +kernel
theorem dX0_head_0 : decode cX0_head 0 = .ok (.iconst 0, 1) := by decide +kernel
theorem dX0_head_1 : decode cX0_head 1 = .ok (.istore_n 1, 1) := by decide +kernel
theorem dX0_head_2 : decode cX0_head 2 = .ok (.iload_n 1, 1) := by decide +kernel
theorem dX0_head_3 : decode cX0_head 3 = .ok (.aload_n 0, 1) := by decide +kernel
theorem dX0_head_4 : decode cX0_head 4 = .ok (.getfield 34, 3) := by decide +kernel
theorem dX0_head_7 : decode cX0_head 7 = .ok (.getfield 64, 3) := by decide +kernel
theorem dX0_head_10 : decode cX0_head 10 = .ok (.if_icmp .ge 21, 3) := by decide +kernel
theorem dX0_head_13 : decode cX0_head 13 = .ok (.aload_n 0, 1) := by decide +kernel
theorem dX0_head_14 : decode cX0_head 14 = .ok (.iload_n 1, 1) := by decide +kernel
theorem dX0_head_15 : decode cX0_head 15 = .ok (.iconst 0, 1) := by decide +kernel
theorem dX0_head_16 : decode cX0_head 16 = .ok (.invokevirtual 67, 3) := by decide +kernel
theorem dX0_head_19 : decode cX0_head 19 = .ok (.iconst 3, 1) := by decide +kernel
theorem dX0_head_20 : decode cX0_head 20 = .ok (.if_icmp .ne 5, 3) := by decide +kernel
theorem dX0_head_23 : decode cX0_head 23 = .ok (.iload_n 1, 1) := by decide +kernel
theorem dX0_head_24 : decode cX0_head 24 = .ok (.ireturn, 1) := by decide +kernel
theorem dX0_head_25 : decode cX0_head 25 = .ok (.iinc 1 1, 3) := by decide +kernel
theorem dX0_head_28 : decode cX0_head 28 = .ok (.goto (-26), 3) := by decide +kernel
theorem dX0_head_31 : decode cX0_head 31 = .ok (.iconst (-1), 1) := by decide +kernel
theorem dX0_head_32 : decode cX0_head 32 = .ok (.ireturn, 1) := by decide +kernel
theorem dX0_lettersOn_0 : decode cX0_lettersOn 0 = .ok (.iconst 0, 1) := by decide +kernel
theorem dX0_lettersOn_1 : decode cX0_lettersOn 1 = .ok (.istore_n 2, 1) := by decide +kernel
theorem dX0_lettersOn_2 : decode cX0_lettersOn 2 = .ok (.iconst 0, 1) := by decide +kernel
theorem dX0_lettersOn_3 : decode cX0_lettersOn 3 = .ok (.istore_n 3, 1) := by decide +kernel
theorem dX0_lettersOn_4 : decode cX0_lettersOn 4 = .ok (.iload_n 3, 1) := by decide +kernel
theorem dX0_lettersOn_5 : decode cX0_lettersOn 5 = .ok (.aload_n 0, 1) := by decide +kernel
theorem dX0_lettersOn_6 : decode cX0_lettersOn 6 = .ok (.getfield 25, 3) := by decide +kernel
theorem dX0_lettersOn_9 : decode cX0_lettersOn 9 = .ok (.if_icmp .ge 27, 3) := by decide +kernel
theorem dX0_lettersOn_12 : decode cX0_lettersOn 12 = .ok (.iload_n 2, 1) := by decide +kernel
theorem dX0_lettersOn_13 : decode cX0_lettersOn 13 = .ok (.aload_n 0, 1) := by decide +kernel
theorem dX0_lettersOn_14 : decode cX0_lettersOn 14 = .ok (.iload_n 3, 1) := by decide +kernel
theorem dX0_lettersOn_15 : decode cX0_lettersOn 15 = .ok (.iconst 0, 1) := by decide +kernel
theorem dX0_lettersOn_16 : decode cX0_lettersOn 16 = .ok (.invokevirtual 71, 3) := by decide +kernel
theorem dX0_lettersOn_19 : decode cX0_lettersOn 19 = .ok (.iload_n 1, 1) := by decide +kernel
theorem dX0_lettersOn_20 : decode cX0_lettersOn 20 = .ok (.if_icmp .ne 7, 3) := by decide +kernel
theorem dX0_lettersOn_23 : decode cX0_lettersOn 23 = .ok (.iconst 1, 1) := by decide +kernel
theorem dX0_lettersOn_24 : decode cX0_lettersOn 24 = .ok (.goto 4, 3) := by decide +kernel
theorem dX0_lettersOn_27 : decode cX0_lettersOn 27 = .ok (.iconst 0, 1) := by decide +kernel
theorem dX0_lettersOn_28 : decode cX0_lettersOn 28 = .ok (.iadd, 1) := by decide +kernel
theorem dX0_lettersOn_29 : decode cX0_lettersOn 29 = .ok (.istore_n 2, 1) := by decide +kernel
theorem dX0_lettersOn_30 : decode cX0_lettersOn 30 = .ok (.iinc 3 1, 3) := by decide +kernel
theorem dX0_lettersOn_33 : decode cX0_lettersOn 33 = .ok (.goto (-29), 3) := by decide +kernel
theorem dX0_lettersOn_36 : decode cX0_lettersOn 36 = .ok (.iload_n 2, 1) := by decide +kernel
theorem dX0_lettersOn_37 : decode cX0_lettersOn 37 = .ok (.ireturn, 1) := by decide +kernel
theorem dX0_placeOf_0 : decode cX0_placeOf 0 = .ok (.iconst 0, 1) := by decide +kernel
theorem dX0_placeOf_1 : decode cX0_placeOf 1 = .ok (.istore_n 3, 1) := by decide +kernel
theorem dX0_placeOf_2 : decode cX0_placeOf 2 = .ok (.iconst 0, 1) := by decide +kernel
theorem dX0_placeOf_3 : decode cX0_placeOf 3 = .ok (.istore 4, 2) := by decide +kernel
theorem dX0_placeOf_5 : decode cX0_placeOf 5 = .ok (.iload 4, 2) := by decide +kernel
theorem dX0_placeOf_7 : decode cX0_placeOf 7 = .ok (.aload_n 0, 1) := by decide +kernel
theorem dX0_placeOf_8 : decode cX0_placeOf 8 = .ok (.getfield 25, 3) := by decide +kernel
theorem dX0_placeOf_11 : decode cX0_placeOf 11 = .ok (.if_icmp .ge 31, 3) := by decide +kernel
theorem dX0_placeOf_14 : decode cX0_placeOf 14 = .ok (.aload_n 0, 1) := by decide +kernel
theorem dX0_placeOf_15 : decode cX0_placeOf 15 = .ok (.iload 4, 2) := by decide +kernel
theorem dX0_placeOf_17 : decode cX0_placeOf 17 = .ok (.iconst 0, 1) := by decide +kernel
theorem dX0_placeOf_18 : decode cX0_placeOf 18 = .ok (.invokevirtual 71, 3) := by decide +kernel
theorem dX0_placeOf_21 : decode cX0_placeOf 21 = .ok (.iload_n 1, 1) := by decide +kernel
theorem dX0_placeOf_22 : decode cX0_placeOf 22 = .ok (.if_icmp .ne 14, 3) := by decide +kernel
theorem dX0_placeOf_25 : decode cX0_placeOf 25 = .ok (.iload_n 3, 1) := by decide +kernel
theorem dX0_placeOf_26 : decode cX0_placeOf 26 = .ok (.iload_n 2, 1) := by decide +kernel
theorem dX0_placeOf_27 : decode cX0_placeOf 27 = .ok (.if_icmp .ne 6, 3) := by decide +kernel
theorem dX0_placeOf_30 : decode cX0_placeOf 30 = .ok (.iload 4, 2) := by decide +kernel
theorem dX0_placeOf_32 : decode cX0_placeOf 32 = .ok (.ireturn, 1) := by decide +kernel
theorem dX0_placeOf_33 : decode cX0_placeOf 33 = .ok (.iinc 3 1, 3) := by decide +kernel
theorem dX0_placeOf_36 : decode cX0_placeOf 36 = .ok (.iinc 4 1, 3) := by decide +kernel
theorem dX0_placeOf_39 : decode cX0_placeOf 39 = .ok (.goto (-34), 3) := by decide +kernel
theorem dX0_placeOf_42 : decode cX0_placeOf 42 = .ok (.iconst (-1), 1) := by decide +kernel
theorem dX0_placeOf_43 : decode cX0_placeOf 43 = .ok (.ireturn, 1) := by decide +kernel
theorem dX0_isBusy_0 : decode cX0_isBusy 0 = .ok (.aload_n 0, 1) := by decide +kernel
theorem dX0_isBusy_1 : decode cX0_isBusy 1 = .ok (.iload_n 1, 1) := by decide +kernel
theorem dX0_isBusy_2 : decode cX0_isBusy 2 = .ok (.iconst 0, 1) := by decide +kernel
theorem dX0_isBusy_3 : decode cX0_isBusy 3 = .ok (.invokevirtual 74, 3) := by decide +kernel
theorem dX0_isBusy_6 : decode cX0_isBusy 6 = .ok (.iconst (-1), 1) := by decide +kernel
theorem dX0_isBusy_7 : decode cX0_isBusy 7 = .ok (.if_icmp .eq 7, 3) := by decide +kernel
theorem dX0_isBusy_10 : decode cX0_isBusy 10 = .ok (.iconst 1, 1) := by decide +kernel
theorem dX0_isBusy_11 : decode cX0_isBusy 11 = .ok (.goto 4, 3) := by decide +kernel
theorem dX0_isBusy_14 : decode cX0_isBusy 14 = .ok (.iconst 0, 1) := by decide +kernel
theorem dX0_isBusy_15 : decode cX0_isBusy 15 = .ok (.ireturn, 1) := by decide +kernel
theorem dX0_busyLinks_0 : decode cX0_busyLinks 0 = .ok (.iconst 0, 1) := by decide +kernel
theorem dX0_busyLinks_1 : decode cX0_busyLinks 1 = .ok (.istore_n 1, 1) := by decide +kernel
theorem dX0_busyLinks_2 : decode cX0_busyLinks 2 = .ok (.iconst 0, 1) := by decide +kernel
theorem dX0_busyLinks_3 : decode cX0_busyLinks 3 = .ok (.istore_n 2, 1) := by decide +kernel
theorem dX0_busyLinks_4 : decode cX0_busyLinks 4 = .ok (.iload_n 2, 1) := by decide +kernel
theorem dX0_busyLinks_5 : decode cX0_busyLinks 5 = .ok (.iconst 2, 1) := by decide +kernel
theorem dX0_busyLinks_6 : decode cX0_busyLinks 6 = .ok (.aload_n 0, 1) := by decide +kernel
theorem dX0_busyLinks_7 : decode cX0_busyLinks 7 = .ok (.getfield 34, 3) := by decide +kernel
theorem dX0_busyLinks_10 : decode cX0_busyLinks 10 = .ok (.getfield 64, 3) := by decide +kernel
theorem dX0_busyLinks_13 : decode cX0_busyLinks 13 = .ok (.imul, 1) := by decide +kernel
theorem dX0_busyLinks_14 : decode cX0_busyLinks 14 = .ok (.if_icmp .ge 25, 3) := by decide +kernel
theorem dX0_busyLinks_17 : decode cX0_busyLinks 17 = .ok (.iload_n 1, 1) := by decide +kernel
theorem dX0_busyLinks_18 : decode cX0_busyLinks 18 = .ok (.aload_n 0, 1) := by decide +kernel
theorem dX0_busyLinks_19 : decode cX0_busyLinks 19 = .ok (.iload_n 2, 1) := by decide +kernel
theorem dX0_busyLinks_20 : decode cX0_busyLinks 20 = .ok (.invokevirtual 77, 3) := by decide +kernel
theorem dX0_busyLinks_23 : decode cX0_busyLinks 23 = .ok (.ifCond .eq 7, 3) := by decide +kernel
theorem dX0_busyLinks_26 : decode cX0_busyLinks 26 = .ok (.iconst 1, 1) := by decide +kernel
theorem dX0_busyLinks_27 : decode cX0_busyLinks 27 = .ok (.goto 4, 3) := by decide +kernel
theorem dX0_busyLinks_30 : decode cX0_busyLinks 30 = .ok (.iconst 0, 1) := by decide +kernel
theorem dX0_busyLinks_31 : decode cX0_busyLinks 31 = .ok (.iadd, 1) := by decide +kernel
theorem dX0_busyLinks_32 : decode cX0_busyLinks 32 = .ok (.istore_n 1, 1) := by decide +kernel
theorem dX0_busyLinks_33 : decode cX0_busyLinks 33 = .ok (.iinc 2 1, 3) := by decide +kernel
theorem dX0_busyLinks_36 : decode cX0_busyLinks 36 = .ok (.goto (-32), 3) := by decide +kernel
theorem dX0_busyLinks_39 : decode cX0_busyLinks 39 = .ok (.iload_n 1, 1) := by decide +kernel
theorem dX0_busyLinks_40 : decode cX0_busyLinks 40 = .ok (.ireturn, 1) := by decide +kernel
theorem dX0_deliverMany_0 : decode cX0_deliverMany 0 = .ok (.iconst (-1), 1) := by decide +kernel
theorem dX0_deliverMany_1 : decode cX0_deliverMany 1 = .ok (.istore 4, 2) := by decide +kernel
theorem dX0_deliverMany_3 : decode cX0_deliverMany 3 = .ok (.iload_n 2, 1) := by decide +kernel
theorem dX0_deliverMany_4 : decode cX0_deliverMany 4 = .ok (.istore 5, 2) := by decide +kernel
theorem dX0_deliverMany_6 : decode cX0_deliverMany 6 = .ok (.iconst 0, 1) := by decide +kernel
theorem dX0_deliverMany_7 : decode cX0_deliverMany 7 = .ok (.istore 6, 2) := by decide +kernel
theorem dX0_deliverMany_9 : decode cX0_deliverMany 9 = .ok (.iload 6, 2) := by decide +kernel
theorem dX0_deliverMany_11 : decode cX0_deliverMany 11 = .ok (.iload_n 3, 1) := by decide +kernel
theorem dX0_deliverMany_12 : decode cX0_deliverMany 12 = .ok (.if_icmp .ge 41, 3) := by decide +kernel
theorem dX0_deliverMany_15 : decode cX0_deliverMany 15 = .ok (.aload_n 0, 1) := by decide +kernel
theorem dX0_deliverMany_16 : decode cX0_deliverMany 16 = .ok (.getfield 25, 3) := by decide +kernel
theorem dX0_deliverMany_19 : decode cX0_deliverMany 19 = .ok (.ifCond .le 34, 3) := by decide +kernel
theorem dX0_deliverMany_22 : decode cX0_deliverMany 22 = .ok (.iload 5, 2) := by decide +kernel
theorem dX0_deliverMany_24 : decode cX0_deliverMany 24 = .ok (.invokestatic 81, 3) := by decide +kernel
theorem dX0_deliverMany_27 : decode cX0_deliverMany 27 = .ok (.istore 5, 2) := by decide +kernel
theorem dX0_deliverMany_29 : decode cX0_deliverMany 29 = .ok (.aload_n 0, 1) := by decide +kernel
theorem dX0_deliverMany_30 : decode cX0_deliverMany 30 = .ok (.iload_n 1, 1) := by decide +kernel
theorem dX0_deliverMany_31 : decode cX0_deliverMany 31 = .ok (.iload 4, 2) := by decide +kernel
theorem dX0_deliverMany_33 : decode cX0_deliverMany 33 = .ok (.iload 5, 2) := by decide +kernel
theorem dX0_deliverMany_35 : decode cX0_deliverMany 35 = .ok (.invokevirtual 84, 3) := by decide +kernel
theorem dX0_deliverMany_38 : decode cX0_deliverMany 38 = .ok (.istore 4, 2) := by decide +kernel
theorem dX0_deliverMany_40 : decode cX0_deliverMany 40 = .ok (.aload_n 0, 1) := by decide +kernel
theorem dX0_deliverMany_41 : decode cX0_deliverMany 41 = .ok (.iload 4, 2) := by decide +kernel
theorem dX0_deliverMany_43 : decode cX0_deliverMany 43 = .ok (.invokevirtual 88, 3) := by decide +kernel
theorem dX0_deliverMany_46 : decode cX0_deliverMany 46 = .ok (.pop, 1) := by decide +kernel
theorem dX0_deliverMany_47 : decode cX0_deliverMany 47 = .ok (.iinc 6 1, 3) := by decide +kernel
theorem dX0_deliverMany_50 : decode cX0_deliverMany 50 = .ok (.goto (-41), 3) := by decide +kernel
theorem dX0_deliverMany_53 : decode cX0_deliverMany 53 = .ok (.iload 6, 2) := by decide +kernel
theorem dX0_deliverMany_55 : decode cX0_deliverMany 55 = .ok (.ireturn, 1) := by decide +kernel
theorem dX0_chosenLine_0 : decode cX0_chosenLine 0 = .ok (.iload_n 1, 1) := by decide +kernel
theorem dX0_chosenLine_1 : decode cX0_chosenLine 1 = .ok (.tableswitch 44 0 2 #[27, 33, 38], 27) := by decide +kernel
theorem dX0_chosenLine_28 : decode cX0_chosenLine 28 = .ok (.aload_n 0, 1) := by decide +kernel
theorem dX0_chosenLine_29 : decode cX0_chosenLine 29 = .ok (.iconst (-1), 1) := by decide +kernel
theorem dX0_chosenLine_30 : decode cX0_chosenLine 30 = .ok (.invokevirtual 91, 3) := by decide +kernel
theorem dX0_chosenLine_33 : decode cX0_chosenLine 33 = .ok (.ireturn, 1) := by decide +kernel
theorem dX0_chosenLine_34 : decode cX0_chosenLine 34 = .ok (.aload_n 0, 1) := by decide +kernel
theorem dX0_chosenLine_35 : decode cX0_chosenLine 35 = .ok (.invokevirtual 94, 3) := by decide +kernel
theorem dX0_chosenLine_38 : decode cX0_chosenLine 38 = .ok (.ireturn, 1) := by decide +kernel
theorem dX0_chosenLine_39 : decode cX0_chosenLine 39 = .ok (.aload_n 0, 1) := by decide +kernel
theorem dX0_chosenLine_40 : decode cX0_chosenLine 40 = .ok (.iload_n 2, 1) := by decide +kernel
theorem dX0_chosenLine_41 : decode cX0_chosenLine 41 = .ok (.invokevirtual 98, 3) := by decide +kernel
theorem dX0_chosenLine_44 : decode cX0_chosenLine 44 = .ok (.ireturn, 1) := by decide +kernel
theorem dX0_chosenLine_45 : decode cX0_chosenLine 45 = .ok (.aload_n 0, 1) := by decide +kernel
theorem dX0_chosenLine_46 : decode cX0_chosenLine 46 = .ok (.iload_n 3, 1) := by decide +kernel
theorem dX0_chosenLine_47 : decode cX0_chosenLine 47 = .ok (.invokevirtual 101, 3) := by decide +kernel
theorem dX0_chosenLine_50 : decode cX0_chosenLine 50 = .ok (.ireturn, 1) := by decide +kernel
theorem dX0_nextBusyRound_0 : decode cX0_nextBusyRound 0 = .ok (.aload_n 0, 1) := by decide +kernel
theorem dX0_nextBusyRound_1 : decode cX0_nextBusyRound 1 = .ok (.iload_n 1, 1) := by decide +kernel
theorem dX0_nextBusyRound_2 : decode cX0_nextBusyRound 2 = .ok (.invokevirtual 91, 3) := by decide +kernel
theorem dX0_nextBusyRound_5 : decode cX0_nextBusyRound 5 = .ok (.istore_n 2, 1) := by decide +kernel
theorem dX0_nextBusyRound_6 : decode cX0_nextBusyRound 6 = .ok (.iload_n 2, 1) := by decide +kernel
theorem dX0_nextBusyRound_7 : decode cX0_nextBusyRound 7 = .ok (.iconst (-1), 1) := by decide +kernel
theorem dX0_nextBusyRound_8 : decode cX0_nextBusyRound 8 = .ok (.if_icmp .eq 7, 3) := by decide +kernel
theorem dX0_nextBusyRound_11 : decode cX0_nextBusyRound 11 = .ok (.iload_n 2, 1) := by decide +kernel
theorem dX0_nextBusyRound_12 : decode cX0_nextBusyRound 12 = .ok (.goto 8, 3) := by decide +kernel
theorem dX0_nextBusyRound_15 : decode cX0_nextBusyRound 15 = .ok (.aload_n 0, 1) := by decide +kernel
theorem dX0_nextBusyRound_16 : decode cX0_nextBusyRound 16 = .ok (.iconst (-1), 1) := by decide +kernel
theorem dX0_nextBusyRound_17 : decode cX0_nextBusyRound 17 = .ok (.invokevirtual 91, 3) := by decide +kernel
theorem dX0_nextBusyRound_20 : decode cX0_nextBusyRound 20 = .ok (.ireturn, 1) := by decide +kernel
theorem dX0_leastBusyAfter_0 : decode cX0_leastBusyAfter 0 = .ok (.iload_n 1, 1) := by decide +kernel
theorem dX0_leastBusyAfter_1 : decode cX0_leastBusyAfter 1 = .ok (.iconst 1, 1) := by decide +kernel
theorem dX0_leastBusyAfter_2 : decode cX0_leastBusyAfter 2 = .ok (.iadd, 1) := by decide +kernel
theorem dX0_leastBusyAfter_3 : decode cX0_leastBusyAfter 3 = .ok (.istore_n 2, 1) := by decide +kernel
theorem dX0_leastBusyAfter_4 : decode cX0_leastBusyAfter 4 = .ok (.iload_n 2, 1) := by decide +kernel
theorem dX0_leastBusyAfter_5 : decode cX0_leastBusyAfter 5 = .ok (.iconst 2, 1) := by decide +kernel
theorem dX0_leastBusyAfter_6 : decode cX0_leastBusyAfter 6 = .ok (.aload_n 0, 1) := by decide +kernel
theorem dX0_leastBusyAfter_7 : decode cX0_leastBusyAfter 7 = .ok (.getfield 34, 3) := by decide +kernel
theorem dX0_leastBusyAfter_10 : decode cX0_leastBusyAfter 10 = .ok (.getfield 64, 3) := by decide +kernel
theorem dX0_leastBusyAfter_13 : decode cX0_leastBusyAfter 13 = .ok (.imul, 1) := by decide +kernel
theorem dX0_leastBusyAfter_14 : decode cX0_leastBusyAfter 14 = .ok (.if_icmp .ge 19, 3) := by decide +kernel
theorem dX0_leastBusyAfter_17 : decode cX0_leastBusyAfter 17 = .ok (.aload_n 0, 1) := by decide +kernel
theorem dX0_leastBusyAfter_18 : decode cX0_leastBusyAfter 18 = .ok (.iload_n 2, 1) := by decide +kernel
theorem dX0_leastBusyAfter_19 : decode cX0_leastBusyAfter 19 = .ok (.invokevirtual 77, 3) := by decide +kernel
theorem dX0_leastBusyAfter_22 : decode cX0_leastBusyAfter 22 = .ok (.ifCond .eq 5, 3) := by decide +kernel
theorem dX0_leastBusyAfter_25 : decode cX0_leastBusyAfter 25 = .ok (.iload_n 2, 1) := by decide +kernel
theorem dX0_leastBusyAfter_26 : decode cX0_leastBusyAfter 26 = .ok (.ireturn, 1) := by decide +kernel
theorem dX0_leastBusyAfter_27 : decode cX0_leastBusyAfter 27 = .ok (.iinc 2 1, 3) := by decide +kernel
theorem dX0_leastBusyAfter_30 : decode cX0_leastBusyAfter 30 = .ok (.goto (-26), 3) := by decide +kernel
theorem dX0_leastBusyAfter_33 : decode cX0_leastBusyAfter 33 = .ok (.iconst (-1), 1) := by decide +kernel
theorem dX0_leastBusyAfter_34 : decode cX0_leastBusyAfter 34 = .ok (.ireturn, 1) := by decide +kernel
theorem dX0_greatestBusy_0 : decode cX0_greatestBusy 0 = .ok (.iconst 2, 1) := by decide +kernel
theorem dX0_greatestBusy_1 : decode cX0_greatestBusy 1 = .ok (.aload_n 0, 1) := by decide +kernel
theorem dX0_greatestBusy_2 : decode cX0_greatestBusy 2 = .ok (.getfield 34, 3) := by decide +kernel
theorem dX0_greatestBusy_5 : decode cX0_greatestBusy 5 = .ok (.getfield 64, 3) := by decide +kernel
theorem dX0_greatestBusy_8 : decode cX0_greatestBusy 8 = .ok (.imul, 1) := by decide +kernel
theorem dX0_greatestBusy_9 : decode cX0_greatestBusy 9 = .ok (.iconst 1, 1) := by decide +kernel
theorem dX0_greatestBusy_10 : decode cX0_greatestBusy 10 = .ok (.isub, 1) := by decide +kernel
theorem dX0_greatestBusy_11 : decode cX0_greatestBusy 11 = .ok (.istore_n 1, 1) := by decide +kernel
theorem dX0_greatestBusy_12 : decode cX0_greatestBusy 12 = .ok (.iload_n 1, 1) := by decide +kernel
theorem dX0_greatestBusy_13 : decode cX0_greatestBusy 13 = .ok (.ifCond .lt 19, 3) := by decide +kernel
theorem dX0_greatestBusy_16 : decode cX0_greatestBusy 16 = .ok (.aload_n 0, 1) := by decide +kernel
theorem dX0_greatestBusy_17 : decode cX0_greatestBusy 17 = .ok (.iload_n 1, 1) := by decide +kernel
theorem dX0_greatestBusy_18 : decode cX0_greatestBusy 18 = .ok (.invokevirtual 77, 3) := by decide +kernel
theorem dX0_greatestBusy_21 : decode cX0_greatestBusy 21 = .ok (.ifCond .eq 5, 3) := by decide +kernel
theorem dX0_greatestBusy_24 : decode cX0_greatestBusy 24 = .ok (.iload_n 1, 1) := by decide +kernel
theorem dX0_greatestBusy_25 : decode cX0_greatestBusy 25 = .ok (.ireturn, 1) := by decide +kernel
theorem dX0_greatestBusy_26 : decode cX0_greatestBusy 26 = .ok (.iinc 1 (-1), 3) := by decide +kernel
theorem dX0_greatestBusy_29 : decode cX0_greatestBusy 29 = .ok (.goto (-17), 3) := by decide +kernel
theorem dX0_greatestBusy_32 : decode cX0_greatestBusy 32 = .ok (.iconst (-1), 1) := by decide +kernel
theorem dX0_greatestBusy_33 : decode cX0_greatestBusy 33 = .ok (.ireturn, 1) := by decide +kernel
theorem dX0_busyByNumber_0 : decode cX0_busyByNumber 0 = .ok (.aload_n 0, 1) := by decide +kernel
theorem dX0_busyByNumber_1 : decode cX0_busyByNumber 1 = .ok (.invokevirtual 104, 3) := by decide +kernel
theorem dX0_busyByNumber_4 : decode cX0_busyByNumber 4 = .ok (.istore_n 2, 1) := by decide +kernel
theorem dX0_busyByNumber_5 : decode cX0_busyByNumber 5 = .ok (.iload_n 2, 1) := by decide +kernel
theorem dX0_busyByNumber_6 : decode cX0_busyByNumber 6 = .ok (.ifCond .le 9, 3) := by decide +kernel
theorem dX0_busyByNumber_9 : decode cX0_busyByNumber 9 = .ok (.iload_n 1, 1) := by decide +kernel
theorem dX0_busyByNumber_10 : decode cX0_busyByNumber 10 = .ok (.iload_n 2, 1) := by decide +kernel
theorem dX0_busyByNumber_11 : decode cX0_busyByNumber 11 = .ok (.irem, 1) := by decide +kernel
theorem dX0_busyByNumber_12 : decode cX0_busyByNumber 12 = .ok (.goto 4, 3) := by decide +kernel
theorem dX0_busyByNumber_15 : decode cX0_busyByNumber 15 = .ok (.iconst 0, 1) := by decide +kernel
theorem dX0_busyByNumber_16 : decode cX0_busyByNumber 16 = .ok (.istore_n 3, 1) := by decide +kernel
theorem dX0_busyByNumber_17 : decode cX0_busyByNumber 17 = .ok (.iconst 0, 1) := by decide +kernel
theorem dX0_busyByNumber_18 : decode cX0_busyByNumber 18 = .ok (.istore 4, 2) := by decide +kernel
theorem dX0_busyByNumber_20 : decode cX0_busyByNumber 20 = .ok (.iload 4, 2) := by decide +kernel
theorem dX0_busyByNumber_22 : decode cX0_busyByNumber 22 = .ok (.iconst 2, 1) := by decide +kernel
theorem dX0_busyByNumber_23 : decode cX0_busyByNumber 23 = .ok (.aload_n 0, 1) := by decide +kernel
theorem dX0_busyByNumber_24 : decode cX0_busyByNumber 24 = .ok (.getfield 34, 3) := by decide +kernel
theorem dX0_busyByNumber_27 : decode cX0_busyByNumber 27 = .ok (.getfield 64, 3) := by decide +kernel
theorem dX0_busyByNumber_30 : decode cX0_busyByNumber 30 = .ok (.imul, 1) := by decide +kernel
theorem dX0_busyByNumber_31 : decode cX0_busyByNumber 31 = .ok (.if_icmp .ge 28, 3) := by decide +kernel
theorem dX0_busyByNumber_34 : decode cX0_busyByNumber 34 = .ok (.aload_n 0, 1) := by decide +kernel
theorem dX0_busyByNumber_35 : decode cX0_busyByNumber 35 = .ok (.iload 4, 2) := by decide +kernel
theorem dX0_busyByNumber_37 : decode cX0_busyByNumber 37 = .ok (.invokevirtual 77, 3) := by decide +kernel
theorem dX0_busyByNumber_40 : decode cX0_busyByNumber 40 = .ok (.ifCond .eq 13, 3) := by decide +kernel
theorem dX0_busyByNumber_43 : decode cX0_busyByNumber 43 = .ok (.iload_n 3, 1) := by decide +kernel
theorem dX0_busyByNumber_44 : decode cX0_busyByNumber 44 = .ok (.ifCond .ne 6, 3) := by decide +kernel
theorem dX0_busyByNumber_47 : decode cX0_busyByNumber 47 = .ok (.iload 4, 2) := by decide +kernel
theorem dX0_busyByNumber_49 : decode cX0_busyByNumber 49 = .ok (.ireturn, 1) := by decide +kernel
theorem dX0_busyByNumber_50 : decode cX0_busyByNumber 50 = .ok (.iinc 3 (-1), 3) := by decide +kernel
theorem dX0_busyByNumber_53 : decode cX0_busyByNumber 53 = .ok (.iinc 4 1, 3) := by decide +kernel
theorem dX0_busyByNumber_56 : decode cX0_busyByNumber 56 = .ok (.goto (-36), 3) := by decide +kernel
theorem dX0_busyByNumber_59 : decode cX0_busyByNumber 59 = .ok (.iconst (-1), 1) := by decide +kernel
theorem dX0_busyByNumber_60 : decode cX0_busyByNumber 60 = .ok (.ireturn, 1) := by decide +kernel
theorem dX0_rouse_0 : decode cX0_rouse 0 = .ok (.aload_n 0, 1) := by decide +kernel
theorem dX0_rouse_1 : decode cX0_rouse 1 = .ok (.iload_n 1, 1) := by decide +kernel
theorem dX0_rouse_2 : decode cX0_rouse 2 = .ok (.iconst 0, 1) := by decide +kernel
theorem dX0_rouse_3 : decode cX0_rouse 3 = .ok (.iconst 1, 1) := by decide +kernel
theorem dX0_rouse_4 : decode cX0_rouse 4 = .ok (.invokevirtual 44, 3) := by decide +kernel
theorem dX0_rouse_7 : decode cX0_rouse 7 = .ok (.aload_n 0, 1) := by decide +kernel
theorem dX0_rouse_8 : decode cX0_rouse 8 = .ok (.getfield 9, 3) := by decide +kernel
theorem dX0_rouse_11 : decode cX0_rouse 11 = .ok (.tableswitch 95 1 3 #[25, 42, 57], 25) := by decide +kernel
theorem dX0_rouse_36 : decode cX0_rouse 36 = .ok (.aload_n 0, 1) := by decide +kernel
theorem dX0_rouse_37 : decode cX0_rouse 37 = .ok (.iload_n 1, 1) := by decide +kernel
theorem dX0_rouse_38 : decode cX0_rouse 38 = .ok (.iconst 1, 1) := by decide +kernel
theorem dX0_rouse_39 : decode cX0_rouse 39 = .ok (.aload_n 0, 1) := by decide +kernel
theorem dX0_rouse_40 : decode cX0_rouse 40 = .ok (.getfield 34, 3) := by decide +kernel
theorem dX0_rouse_43 : decode cX0_rouse 43 = .ok (.iload_n 1, 1) := by decide +kernel
theorem dX0_rouse_44 : decode cX0_rouse 44 = .ok (.invokevirtual 107, 3) := by decide +kernel
theorem dX0_rouse_47 : decode cX0_rouse 47 = .ok (.invokevirtual 110, 3) := by decide +kernel
theorem dX0_rouse_50 : decode cX0_rouse 50 = .ok (.goto 68, 3) := by decide +kernel
theorem dX0_rouse_53 : decode cX0_rouse 53 = .ok (.aload_n 0, 1) := by decide +kernel
theorem dX0_rouse_54 : decode cX0_rouse 54 = .ok (.iload_n 1, 1) := by decide +kernel
theorem dX0_rouse_55 : decode cX0_rouse 55 = .ok (.iconst 3, 1) := by decide +kernel
theorem dX0_rouse_56 : decode cX0_rouse 56 = .ok (.iconst 0, 1) := by decide +kernel
theorem dX0_rouse_57 : decode cX0_rouse 57 = .ok (.invokevirtual 44, 3) := by decide +kernel
theorem dX0_rouse_60 : decode cX0_rouse 60 = .ok (.aload_n 0, 1) := by decide +kernel
theorem dX0_rouse_61 : decode cX0_rouse 61 = .ok (.iload_n 1, 1) := by decide +kernel
theorem dX0_rouse_62 : decode cX0_rouse 62 = .ok (.invokevirtual 113, 3) := by decide +kernel
theorem dX0_rouse_65 : decode cX0_rouse 65 = .ok (.goto 53, 3) := by decide +kernel
theorem dX0_rouse_68 : decode cX0_rouse 68 = .ok (.aload_n 0, 1) := by decide +kernel
theorem dX0_rouse_69 : decode cX0_rouse 69 = .ok (.iload_n 1, 1) := by decide +kernel
theorem dX0_rouse_70 : decode cX0_rouse 70 = .ok (.iconst 3, 1) := by decide +kernel
theorem dX0_rouse_71 : decode cX0_rouse 71 = .ok (.iconst 0, 1) := by decide +kernel
theorem dX0_rouse_72 : decode cX0_rouse 72 = .ok (.invokevirtual 44, 3) := by decide +kernel
theorem dX0_rouse_75 : decode cX0_rouse 75 = .ok (.aload_n 0, 1) := by decide +kernel
theorem dX0_rouse_76 : decode cX0_rouse 76 = .ok (.iload_n 1, 1) := by decide +kernel
theorem dX0_rouse_77 : decode cX0_rouse 77 = .ok (.iconst 2, 1) := by decide +kernel
theorem dX0_rouse_78 : decode cX0_rouse 78 = .ok (.aload_n 0, 1) := by decide +kernel
theorem dX0_rouse_79 : decode cX0_rouse 79 = .ok (.getfield 34, 3) := by decide +kernel
theorem dX0_rouse_82 : decode cX0_rouse 82 = .ok (.iload_n 1, 1) := by decide +kernel
theorem dX0_rouse_83 : decode cX0_rouse 83 = .ok (.invokevirtual 107, 3) := by decide +kernel
theorem dX0_rouse_86 : decode cX0_rouse 86 = .ok (.invokevirtual 44, 3) := by decide +kernel
theorem dX0_rouse_89 : decode cX0_rouse 89 = .ok (.aload_n 0, 1) := by decide +kernel
theorem dX0_rouse_90 : decode cX0_rouse 90 = .ok (.iload_n 1, 1) := by decide +kernel
theorem dX0_rouse_91 : decode cX0_rouse 91 = .ok (.iconst 4, 1) := by decide +kernel
theorem dX0_rouse_92 : decode cX0_rouse 92 = .ok (.aload_n 0, 1) := by decide +kernel
theorem dX0_rouse_93 : decode cX0_rouse 93 = .ok (.getfield 34, 3) := by decide +kernel
theorem dX0_rouse_96 : decode cX0_rouse 96 = .ok (.iload_n 1, 1) := by decide +kernel
theorem dX0_rouse_97 : decode cX0_rouse 97 = .ok (.invokevirtual 107, 3) := by decide +kernel
theorem dX0_rouse_100 : decode cX0_rouse 100 = .ok (.invokevirtual 110, 3) := by decide +kernel
theorem dX0_rouse_103 : decode cX0_rouse 103 = .ok (.goto 15, 3) := by decide +kernel
theorem dX0_rouse_106 : decode cX0_rouse 106 = .ok (.aload_n 0, 1) := by decide +kernel
theorem dX0_rouse_107 : decode cX0_rouse 107 = .ok (.iload_n 1, 1) := by decide +kernel
theorem dX0_rouse_108 : decode cX0_rouse 108 = .ok (.iconst 3, 1) := by decide +kernel
theorem dX0_rouse_109 : decode cX0_rouse 109 = .ok (.iconst 1, 1) := by decide +kernel
theorem dX0_rouse_110 : decode cX0_rouse 110 = .ok (.invokevirtual 44, 3) := by decide +kernel
theorem dX0_rouse_113 : decode cX0_rouse 113 = .ok (.aload_n 0, 1) := by decide +kernel
theorem dX0_rouse_114 : decode cX0_rouse 114 = .ok (.iload_n 1, 1) := by decide +kernel
theorem dX0_rouse_115 : decode cX0_rouse 115 = .ok (.invokevirtual 117, 3) := by decide +kernel
theorem dX0_rouse_118 : decode cX0_rouse 118 = .ok (.return_, 1) := by decide +kernel
theorem dX0_deliverFrom_0 : decode cX0_deliverFrom 0 = .ok (.aload_n 0, 1) := by decide +kernel
theorem dX0_deliverFrom_1 : decode cX0_deliverFrom 1 = .ok (.iload_n 1, 1) := by decide +kernel
theorem dX0_deliverFrom_2 : decode cX0_deliverFrom 2 = .ok (.iconst 0, 1) := by decide +kernel
theorem dX0_deliverFrom_3 : decode cX0_deliverFrom 3 = .ok (.invokevirtual 74, 3) := by decide +kernel
theorem dX0_deliverFrom_6 : decode cX0_deliverFrom 6 = .ok (.istore_n 2, 1) := by decide +kernel
theorem dX0_deliverFrom_7 : decode cX0_deliverFrom 7 = .ok (.iload_n 2, 1) := by decide +kernel
theorem dX0_deliverFrom_8 : decode cX0_deliverFrom 8 = .ok (.iconst (-1), 1) := by decide +kernel
theorem dX0_deliverFrom_9 : decode cX0_deliverFrom 9 = .ok (.if_icmp .ne 5, 3) := by decide +kernel
theorem dX0_deliverFrom_12 : decode cX0_deliverFrom 12 = .ok (.iconst (-1), 1) := by decide +kernel
theorem dX0_deliverFrom_13 : decode cX0_deliverFrom 13 = .ok (.ireturn, 1) := by decide +kernel
theorem dX0_deliverFrom_14 : decode cX0_deliverFrom 14 = .ok (.aload_n 0, 1) := by decide +kernel
theorem dX0_deliverFrom_15 : decode cX0_deliverFrom 15 = .ok (.iload_n 2, 1) := by decide +kernel
theorem dX0_deliverFrom_16 : decode cX0_deliverFrom 16 = .ok (.invokevirtual 120, 3) := by decide +kernel
theorem dX0_deliverFrom_19 : decode cX0_deliverFrom 19 = .ok (.aload_n 0, 1) := by decide +kernel
theorem dX0_deliverFrom_20 : decode cX0_deliverFrom 20 = .ok (.getfield 34, 3) := by decide +kernel
theorem dX0_deliverFrom_23 : decode cX0_deliverFrom 23 = .ok (.iload_n 1, 1) := by decide +kernel
theorem dX0_deliverFrom_24 : decode cX0_deliverFrom 24 = .ok (.invokevirtual 123, 3) := by decide +kernel
theorem dX0_deliverFrom_27 : decode cX0_deliverFrom 27 = .ok (.istore_n 3, 1) := by decide +kernel
theorem dX0_deliverFrom_28 : decode cX0_deliverFrom 28 = .ok (.aload_n 0, 1) := by decide +kernel
theorem dX0_deliverFrom_29 : decode cX0_deliverFrom 29 = .ok (.iload_n 3, 1) := by decide +kernel
theorem dX0_deliverFrom_30 : decode cX0_deliverFrom 30 = .ok (.iconst 0, 1) := by decide +kernel
theorem dX0_deliverFrom_31 : decode cX0_deliverFrom 31 = .ok (.invokevirtual 67, 3) := by decide +kernel
theorem dX0_deliverFrom_34 : decode cX0_deliverFrom 34 = .ok (.ifCond .ne 10, 3) := by decide +kernel
theorem dX0_deliverFrom_37 : decode cX0_deliverFrom 37 = .ok (.aload_n 0, 1) := by decide +kernel
theorem dX0_deliverFrom_38 : decode cX0_deliverFrom 38 = .ok (.iload_n 3, 1) := by decide +kernel
theorem dX0_deliverFrom_39 : decode cX0_deliverFrom 39 = .ok (.iconst 0, 1) := by decide +kernel
theorem dX0_deliverFrom_40 : decode cX0_deliverFrom 40 = .ok (.iconst 2, 1) := by decide +kernel
theorem dX0_deliverFrom_41 : decode cX0_deliverFrom 41 = .ok (.invokevirtual 44, 3) := by decide +kernel
theorem dX0_deliverFrom_44 : decode cX0_deliverFrom 44 = .ok (.aload_n 0, 1) := by decide +kernel
theorem dX0_deliverFrom_45 : decode cX0_deliverFrom 45 = .ok (.iload_n 3, 1) := by decide +kernel
theorem dX0_deliverFrom_46 : decode cX0_deliverFrom 46 = .ok (.iconst 0, 1) := by decide +kernel
theorem dX0_deliverFrom_47 : decode cX0_deliverFrom 47 = .ok (.invokevirtual 67, 3) := by decide +kernel
theorem dX0_deliverFrom_50 : decode cX0_deliverFrom 50 = .ok (.iconst 3, 1) := by decide +kernel
theorem dX0_deliverFrom_51 : decode cX0_deliverFrom 51 = .ok (.if_icmp .eq 57, 3) := by decide +kernel
theorem dX0_deliverFrom_54 : decode cX0_deliverFrom 54 = .ok (.aload_n 0, 1) := by decide +kernel
theorem dX0_deliverFrom_55 : decode cX0_deliverFrom 55 = .ok (.iload_n 3, 1) := by decide +kernel
theorem dX0_deliverFrom_56 : decode cX0_deliverFrom 56 = .ok (.invokevirtual 126, 3) := by decide +kernel
theorem dX0_deliverFrom_59 : decode cX0_deliverFrom 59 = .ok (.ifCond .eq 49, 3) := by decide +kernel
theorem dX0_deliverFrom_62 : decode cX0_deliverFrom 62 = .ok (.iload_n 3, 1) := by decide +kernel
theorem dX0_deliverFrom_63 : decode cX0_deliverFrom 63 = .ok (.iload_n 1, 1) := by decide +kernel
theorem dX0_deliverFrom_64 : decode cX0_deliverFrom 64 = .ok (.invokestatic 129, 3) := by decide +kernel
theorem dX0_deliverFrom_67 : decode cX0_deliverFrom 67 = .ok (.invokestatic 132, 3) := by decide +kernel
theorem dX0_deliverFrom_70 : decode cX0_deliverFrom 70 = .ok (.istore 4, 2) := by decide +kernel
theorem dX0_deliverFrom_72 : decode cX0_deliverFrom 72 = .ok (.aload_n 0, 1) := by decide +kernel
theorem dX0_deliverFrom_73 : decode cX0_deliverFrom 73 = .ok (.iload 4, 2) := by decide +kernel
theorem dX0_deliverFrom_75 : decode cX0_deliverFrom 75 = .ok (.aload_n 0, 1) := by decide +kernel
theorem dX0_deliverFrom_76 : decode cX0_deliverFrom 76 = .ok (.getfield 31, 3) := by decide +kernel
theorem dX0_deliverFrom_79 : decode cX0_deliverFrom 79 = .ok (.iconst 1, 1) := by decide +kernel
theorem dX0_deliverFrom_80 : decode cX0_deliverFrom 80 = .ok (.iaload, 1) := by decide +kernel
theorem dX0_deliverFrom_81 : decode cX0_deliverFrom 81 = .ok (.aload_n 0, 1) := by decide +kernel
theorem dX0_deliverFrom_82 : decode cX0_deliverFrom 82 = .ok (.getfield 31, 3) := by decide +kernel
theorem dX0_deliverFrom_85 : decode cX0_deliverFrom 85 = .ok (.iconst 2, 1) := by decide +kernel
theorem dX0_deliverFrom_86 : decode cX0_deliverFrom 86 = .ok (.iaload, 1) := by decide +kernel
theorem dX0_deliverFrom_87 : decode cX0_deliverFrom 87 = .ok (.aload_n 0, 1) := by decide +kernel
theorem dX0_deliverFrom_88 : decode cX0_deliverFrom 88 = .ok (.getfield 31, 3) := by decide +kernel
theorem dX0_deliverFrom_91 : decode cX0_deliverFrom 91 = .ok (.iconst 3, 1) := by decide +kernel
theorem dX0_deliverFrom_92 : decode cX0_deliverFrom 92 = .ok (.iaload, 1) := by decide +kernel
theorem dX0_deliverFrom_93 : decode cX0_deliverFrom 93 = .ok (.aload_n 0, 1) := by decide +kernel
theorem dX0_deliverFrom_94 : decode cX0_deliverFrom 94 = .ok (.getfield 31, 3) := by decide +kernel
theorem dX0_deliverFrom_97 : decode cX0_deliverFrom 97 = .ok (.iconst 4, 1) := by decide +kernel
theorem dX0_deliverFrom_98 : decode cX0_deliverFrom 98 = .ok (.iaload, 1) := by decide +kernel
theorem dX0_deliverFrom_99 : decode cX0_deliverFrom 99 = .ok (.aload_n 0, 1) := by decide +kernel
theorem dX0_deliverFrom_100 : decode cX0_deliverFrom 100 = .ok (.getfield 31, 3) := by decide +kernel
theorem dX0_deliverFrom_103 : decode cX0_deliverFrom 103 = .ok (.iconst 5, 1) := by decide +kernel
theorem dX0_deliverFrom_104 : decode cX0_deliverFrom 104 = .ok (.iaload, 1) := by decide +kernel
theorem dX0_deliverFrom_105 : decode cX0_deliverFrom 105 = .ok (.invokevirtual 135, 3) := by decide +kernel
theorem dX0_deliverFrom_108 : decode cX0_deliverFrom 108 = .ok (.aload_n 0, 1) := by decide +kernel
theorem dX0_deliverFrom_109 : decode cX0_deliverFrom 109 = .ok (.getfield 31, 3) := by decide +kernel
theorem dX0_deliverFrom_112 : decode cX0_deliverFrom 112 = .ok (.iconst 1, 1) := by decide +kernel
theorem dX0_deliverFrom_113 : decode cX0_deliverFrom 113 = .ok (.iaload, 1) := by decide +kernel
theorem dX0_deliverFrom_114 : decode cX0_deliverFrom 114 = .ok (.ireturn, 1) := by decide +kernel
theorem dX0_takeInHand_0 : decode cX0_takeInHand 0 = .ok (.iload_n 1, 1) := by decide +kernel
theorem dX0_takeInHand_1 : decode cX0_takeInHand 1 = .ok (.ifCond .lt 20, 3) := by decide +kernel
theorem dX0_takeInHand_4 : decode cX0_takeInHand 4 = .ok (.iload_n 1, 1) := by decide +kernel
theorem dX0_takeInHand_5 : decode cX0_takeInHand 5 = .ok (.aload_n 0, 1) := by decide +kernel
theorem dX0_takeInHand_6 : decode cX0_takeInHand 6 = .ok (.getfield 25, 3) := by decide +kernel
theorem dX0_takeInHand_9 : decode cX0_takeInHand 9 = .ok (.if_icmp .ge 12, 3) := by decide +kernel
theorem dX0_takeInHand_12 : decode cX0_takeInHand 12 = .ok (.aload_n 0, 1) := by decide +kernel
theorem dX0_takeInHand_13 : decode cX0_takeInHand 13 = .ok (.getfield 25, 3) := by decide +kernel
theorem dX0_takeInHand_16 : decode cX0_takeInHand 16 = .ok (.bipush 12, 2) := by decide +kernel
theorem dX0_takeInHand_18 : decode cX0_takeInHand 18 = .ok (.if_icmp .le 4, 3) := by decide +kernel
theorem dX0_takeInHand_21 : decode cX0_takeInHand 21 = .ok (.return_, 1) := by decide +kernel
theorem dX0_takeInHand_22 : decode cX0_takeInHand 22 = .ok (.iload_n 1, 1) := by decide +kernel
theorem dX0_takeInHand_23 : decode cX0_takeInHand 23 = .ok (.bipush 6, 2) := by decide +kernel
theorem dX0_takeInHand_25 : decode cX0_takeInHand 25 = .ok (.imul, 1) := by decide +kernel
theorem dX0_takeInHand_26 : decode cX0_takeInHand 26 = .ok (.istore_n 2, 1) := by decide +kernel
theorem dX0_takeInHand_27 : decode cX0_takeInHand 27 = .ok (.aload_n 0, 1) := by decide +kernel
theorem dX0_takeInHand_28 : decode cX0_takeInHand 28 = .ok (.getfield 22, 3) := by decide +kernel
theorem dX0_takeInHand_31 : decode cX0_takeInHand 31 = .ok (.iload_n 2, 1) := by decide +kernel
theorem dX0_takeInHand_32 : decode cX0_takeInHand 32 = .ok (.aload_n 0, 1) := by decide +kernel
theorem dX0_takeInHand_33 : decode cX0_takeInHand 33 = .ok (.getfield 31, 3) := by decide +kernel
theorem dX0_takeInHand_36 : decode cX0_takeInHand 36 = .ok (.iconst 0, 1) := by decide +kernel
theorem dX0_takeInHand_37 : decode cX0_takeInHand 37 = .ok (.bipush 6, 2) := by decide +kernel
theorem dX0_takeInHand_39 : decode cX0_takeInHand 39 = .ok (.invokestatic 38, 3) := by decide +kernel
theorem dX0_takeInHand_42 : decode cX0_takeInHand 42 = .ok (.aload_n 0, 1) := by decide +kernel
theorem dX0_takeInHand_43 : decode cX0_takeInHand 43 = .ok (.dup, 1) := by decide +kernel
theorem dX0_takeInHand_44 : decode cX0_takeInHand 44 = .ok (.getfield 25, 3) := by decide +kernel
theorem dX0_takeInHand_47 : decode cX0_takeInHand 47 = .ok (.iconst 1, 1) := by decide +kernel
theorem dX0_takeInHand_48 : decode cX0_takeInHand 48 = .ok (.isub, 1) := by decide +kernel
theorem dX0_takeInHand_49 : decode cX0_takeInHand 49 = .ok (.putfield 25, 3) := by decide +kernel
theorem dX0_takeInHand_52 : decode cX0_takeInHand 52 = .ok (.aload_n 0, 1) := by decide +kernel
theorem dX0_takeInHand_53 : decode cX0_takeInHand 53 = .ok (.getfield 22, 3) := by decide +kernel
theorem dX0_takeInHand_56 : decode cX0_takeInHand 56 = .ok (.iload_n 2, 1) := by decide +kernel
theorem dX0_takeInHand_57 : decode cX0_takeInHand 57 = .ok (.bipush 6, 2) := by decide +kernel
theorem dX0_takeInHand_59 : decode cX0_takeInHand 59 = .ok (.iadd, 1) := by decide +kernel
theorem dX0_takeInHand_60 : decode cX0_takeInHand 60 = .ok (.aload_n 0, 1) := by decide +kernel
theorem dX0_takeInHand_61 : decode cX0_takeInHand 61 = .ok (.getfield 22, 3) := by decide +kernel
theorem dX0_takeInHand_64 : decode cX0_takeInHand 64 = .ok (.iload_n 2, 1) := by decide +kernel
theorem dX0_takeInHand_65 : decode cX0_takeInHand 65 = .ok (.aload_n 0, 1) := by decide +kernel
theorem dX0_takeInHand_66 : decode cX0_takeInHand 66 = .ok (.getfield 25, 3) := by decide +kernel
theorem dX0_takeInHand_69 : decode cX0_takeInHand 69 = .ok (.iload_n 1, 1) := by decide +kernel
theorem dX0_takeInHand_70 : decode cX0_takeInHand 70 = .ok (.isub, 1) := by decide +kernel
theorem dX0_takeInHand_71 : decode cX0_takeInHand 71 = .ok (.bipush 6, 2) := by decide +kernel
theorem dX0_takeInHand_73 : decode cX0_takeInHand 73 = .ok (.imul, 1) := by decide +kernel
theorem dX0_takeInHand_74 : decode cX0_takeInHand 74 = .ok (.invokestatic 38, 3) := by decide +kernel
theorem dX0_takeInHand_77 : decode cX0_takeInHand 77 = .ok (.return_, 1) := by decide +kernel
theorem dX0_goesOn_0 : decode cX0_goesOn 0 = .ok (.aload_n 0, 1) := by decide +kernel
theorem dX0_goesOn_1 : decode cX0_goesOn 1 = .ok (.getfield 31, 3) := by decide +kernel
theorem dX0_goesOn_4 : decode cX0_goesOn 4 = .ok (.iconst 1, 1) := by decide +kernel
theorem dX0_goesOn_5 : decode cX0_goesOn 5 = .ok (.iaload, 1) := by decide +kernel
theorem dX0_goesOn_6 : decode cX0_goesOn 6 = .ok (.tableswitch 84 1 6 #[38, 44, 66, 72, 72, 78], 38) := by decide +kernel
theorem dX0_goesOn_44 : decode cX0_goesOn 44 = .ok (.aload_n 0, 1) := by decide +kernel
theorem dX0_goesOn_45 : decode cX0_goesOn 45 = .ok (.iload_n 1, 1) := by decide +kernel
theorem dX0_goesOn_46 : decode cX0_goesOn 46 = .ok (.invokevirtual 139, 3) := by decide +kernel
theorem dX0_goesOn_49 : decode cX0_goesOn 49 = .ok (.ireturn, 1) := by decide +kernel
theorem dX0_goesOn_50 : decode cX0_goesOn 50 = .ok (.aload_n 0, 1) := by decide +kernel
theorem dX0_goesOn_51 : decode cX0_goesOn 51 = .ok (.iload_n 1, 1) := by decide +kernel
theorem dX0_goesOn_52 : decode cX0_goesOn 52 = .ok (.invokevirtual 139, 3) := by decide +kernel
theorem dX0_goesOn_55 : decode cX0_goesOn 55 = .ok (.ifCond .eq 15, 3) := by decide +kernel
theorem dX0_goesOn_58 : decode cX0_goesOn 58 = .ok (.aload_n 0, 1) := by decide +kernel
theorem dX0_goesOn_59 : decode cX0_goesOn 59 = .ok (.iload_n 1, 1) := by decide +kernel
theorem dX0_goesOn_60 : decode cX0_goesOn 60 = .ok (.invokevirtual 142, 3) := by decide +kernel
theorem dX0_goesOn_63 : decode cX0_goesOn 63 = .ok (.ifCond .eq 7, 3) := by decide +kernel
theorem dX0_goesOn_66 : decode cX0_goesOn 66 = .ok (.iconst 1, 1) := by decide +kernel
theorem dX0_goesOn_67 : decode cX0_goesOn 67 = .ok (.goto 4, 3) := by decide +kernel
theorem dX0_goesOn_70 : decode cX0_goesOn 70 = .ok (.iconst 0, 1) := by decide +kernel
theorem dX0_goesOn_71 : decode cX0_goesOn 71 = .ok (.ireturn, 1) := by decide +kernel
theorem dX0_goesOn_72 : decode cX0_goesOn 72 = .ok (.aload_n 0, 1) := by decide +kernel
theorem dX0_goesOn_73 : decode cX0_goesOn 73 = .ok (.iload_n 1, 1) := by decide +kernel
theorem dX0_goesOn_74 : decode cX0_goesOn 74 = .ok (.invokevirtual 145, 3) := by decide +kernel
theorem dX0_goesOn_77 : decode cX0_goesOn 77 = .ok (.ireturn, 1) := by decide +kernel
theorem dX0_goesOn_78 : decode cX0_goesOn 78 = .ok (.aload_n 0, 1) := by decide +kernel
theorem dX0_goesOn_79 : decode cX0_goesOn 79 = .ok (.iload_n 1, 1) := by decide +kernel
theorem dX0_goesOn_80 : decode cX0_goesOn 80 = .ok (.invokevirtual 148, 3) := by decide +kernel
theorem dX0_goesOn_83 : decode cX0_goesOn 83 = .ok (.ireturn, 1) := by decide +kernel
theorem dX0_goesOn_84 : decode cX0_goesOn 84 = .ok (.aload_n 0, 1) := by decide +kernel
theorem dX0_goesOn_85 : decode cX0_goesOn 85 = .ok (.iload_n 1, 1) := by decide +kernel
theorem dX0_goesOn_86 : decode cX0_goesOn 86 = .ok (.invokevirtual 151, 3) := by decide +kernel
theorem dX0_goesOn_89 : decode cX0_goesOn 89 = .ok (.ireturn, 1) := by decide +kernel
theorem dX0_goesOn_90 : decode cX0_goesOn 90 = .ok (.aload_n 0, 1) := by decide +kernel
theorem dX0_goesOn_91 : decode cX0_goesOn 91 = .ok (.iload_n 1, 1) := by decide +kernel
theorem dX0_goesOn_92 : decode cX0_goesOn 92 = .ok (.invokevirtual 154, 3) := by decide +kernel
theorem dX0_goesOn_95 : decode cX0_goesOn 95 = .ok (.ireturn, 1) := by decide +kernel
theorem dX0_crownGoesOn_0 : decode cX0_crownGoesOn 0 = .ok (.aload_n 0, 1) := by decide +kernel
theorem dX0_crownGoesOn_1 : decode cX0_crownGoesOn 1 = .ok (.iload_n 1, 1) := by decide +kernel
theorem dX0_crownGoesOn_2 : decode cX0_crownGoesOn 2 = .ok (.iconst 0, 1) := by decide +kernel
theorem dX0_crownGoesOn_3 : decode cX0_crownGoesOn 3 = .ok (.iconst 4, 1) := by decide +kernel
theorem dX0_crownGoesOn_4 : decode cX0_crownGoesOn 4 = .ok (.invokevirtual 44, 3) := by decide +kernel
theorem dX0_crownGoesOn_7 : decode cX0_crownGoesOn 7 = .ok (.aload_n 0, 1) := by decide +kernel
theorem dX0_crownGoesOn_8 : decode cX0_crownGoesOn 8 = .ok (.iload_n 1, 1) := by decide +kernel
theorem dX0_crownGoesOn_9 : decode cX0_crownGoesOn 9 = .ok (.iconst 4, 1) := by decide +kernel
theorem dX0_crownGoesOn_10 : decode cX0_crownGoesOn 10 = .ok (.aload_n 0, 1) := by decide +kernel
theorem dX0_crownGoesOn_11 : decode cX0_crownGoesOn 11 = .ok (.getfield 31, 3) := by decide +kernel
theorem dX0_crownGoesOn_14 : decode cX0_crownGoesOn 14 = .ok (.iconst 2, 1) := by decide +kernel
theorem dX0_crownGoesOn_15 : decode cX0_crownGoesOn 15 = .ok (.iaload, 1) := by decide +kernel
theorem dX0_crownGoesOn_16 : decode cX0_crownGoesOn 16 = .ok (.invokevirtual 44, 3) := by decide +kernel
theorem dX0_crownGoesOn_19 : decode cX0_crownGoesOn 19 = .ok (.aload_n 0, 1) := by decide +kernel
theorem dX0_crownGoesOn_20 : decode cX0_crownGoesOn 20 = .ok (.iload_n 1, 1) := by decide +kernel
theorem dX0_crownGoesOn_21 : decode cX0_crownGoesOn 21 = .ok (.iconst 1, 1) := by decide +kernel
theorem dX0_crownGoesOn_22 : decode cX0_crownGoesOn 22 = .ok (.aload_n 0, 1) := by decide +kernel
theorem dX0_crownGoesOn_23 : decode cX0_crownGoesOn 23 = .ok (.getfield 31, 3) := by decide +kernel
theorem dX0_crownGoesOn_26 : decode cX0_crownGoesOn 26 = .ok (.iconst 0, 1) := by decide +kernel
theorem dX0_crownGoesOn_27 : decode cX0_crownGoesOn 27 = .ok (.iaload, 1) := by decide +kernel
theorem dX0_crownGoesOn_28 : decode cX0_crownGoesOn 28 = .ok (.invokestatic 129, 3) := by decide +kernel
theorem dX0_crownGoesOn_31 : decode cX0_crownGoesOn 31 = .ok (.invokevirtual 44, 3) := by decide +kernel
theorem dX0_crownGoesOn_34 : decode cX0_crownGoesOn 34 = .ok (.iconst 1, 1) := by decide +kernel
theorem dX0_crownGoesOn_35 : decode cX0_crownGoesOn 35 = .ok (.ireturn, 1) := by decide +kernel
theorem dX0_getsPast_0 : decode cX0_getsPast 0 = .ok (.aload_n 0, 1) := by decide +kernel
theorem dX0_getsPast_1 : decode cX0_getsPast 1 = .ok (.getfield 34, 3) := by decide +kernel
theorem dX0_getsPast_4 : decode cX0_getsPast 4 = .ok (.iload_n 1, 1) := by decide +kernel
theorem dX0_getsPast_5 : decode cX0_getsPast 5 = .ok (.invokevirtual 107, 3) := by decide +kernel
theorem dX0_getsPast_8 : decode cX0_getsPast 8 = .ok (.istore_n 2, 1) := by decide +kernel
theorem dX0_getsPast_9 : decode cX0_getsPast 9 = .ok (.aload_n 0, 1) := by decide +kernel
theorem dX0_getsPast_10 : decode cX0_getsPast 10 = .ok (.iload_n 1, 1) := by decide +kernel
theorem dX0_getsPast_11 : decode cX0_getsPast 11 = .ok (.invokevirtual 157, 3) := by decide +kernel
theorem dX0_getsPast_14 : decode cX0_getsPast 14 = .ok (.ifCond .ne 5, 3) := by decide +kernel
theorem dX0_getsPast_17 : decode cX0_getsPast 17 = .ok (.iconst 1, 1) := by decide +kernel
theorem dX0_getsPast_18 : decode cX0_getsPast 18 = .ok (.ireturn, 1) := by decide +kernel
theorem dX0_getsPast_19 : decode cX0_getsPast 19 = .ok (.aload_n 0, 1) := by decide +kernel
theorem dX0_getsPast_20 : decode cX0_getsPast 20 = .ok (.getfield 31, 3) := by decide +kernel
theorem dX0_getsPast_23 : decode cX0_getsPast 23 = .ok (.iconst 2, 1) := by decide +kernel
theorem dX0_getsPast_24 : decode cX0_getsPast 24 = .ok (.iaload, 1) := by decide +kernel
theorem dX0_getsPast_25 : decode cX0_getsPast 25 = .ok (.iload_n 2, 1) := by decide +kernel
theorem dX0_getsPast_26 : decode cX0_getsPast 26 = .ok (.if_icmp .le 12, 3) := by decide +kernel
theorem dX0_getsPast_29 : decode cX0_getsPast 29 = .ok (.aload_n 0, 1) := by decide +kernel
theorem dX0_getsPast_30 : decode cX0_getsPast 30 = .ok (.iload_n 1, 1) := by decide +kernel
theorem dX0_getsPast_31 : decode cX0_getsPast 31 = .ok (.iconst 0, 1) := by decide +kernel
theorem dX0_getsPast_32 : decode cX0_getsPast 32 = .ok (.iconst 2, 1) := by decide +kernel
theorem dX0_getsPast_33 : decode cX0_getsPast 33 = .ok (.invokevirtual 44, 3) := by decide +kernel
theorem dX0_getsPast_36 : decode cX0_getsPast 36 = .ok (.iconst 1, 1) := by decide +kernel
theorem dX0_getsPast_37 : decode cX0_getsPast 37 = .ok (.ireturn, 1) := by decide +kernel
theorem dX0_getsPast_38 : decode cX0_getsPast 38 = .ok (.aload_n 0, 1) := by decide +kernel
theorem dX0_getsPast_39 : decode cX0_getsPast 39 = .ok (.getfield 31, 3) := by decide +kernel
theorem dX0_getsPast_42 : decode cX0_getsPast 42 = .ok (.iconst 2, 1) := by decide +kernel
theorem dX0_getsPast_43 : decode cX0_getsPast 43 = .ok (.iaload, 1) := by decide +kernel
theorem dX0_getsPast_44 : decode cX0_getsPast 44 = .ok (.iload_n 2, 1) := by decide +kernel
theorem dX0_getsPast_45 : decode cX0_getsPast 45 = .ok (.if_icmp .ne 9, 3) := by decide +kernel
theorem dX0_getsPast_48 : decode cX0_getsPast 48 = .ok (.aload_n 0, 1) := by decide +kernel
theorem dX0_getsPast_49 : decode cX0_getsPast 49 = .ok (.iload_n 1, 1) := by decide +kernel
theorem dX0_getsPast_50 : decode cX0_getsPast 50 = .ok (.iload_n 2, 1) := by decide +kernel
theorem dX0_getsPast_51 : decode cX0_getsPast 51 = .ok (.invokevirtual 160, 3) := by decide +kernel
theorem dX0_getsPast_54 : decode cX0_getsPast 54 = .ok (.iconst 0, 1) := by decide +kernel
theorem dX0_getsPast_55 : decode cX0_getsPast 55 = .ok (.ireturn, 1) := by decide +kernel
theorem dX0_probeGoesOn_0 : decode cX0_probeGoesOn 0 = .ok (.aload_n 0, 1) := by decide +kernel
theorem dX0_probeGoesOn_1 : decode cX0_probeGoesOn 1 = .ok (.getfield 31, 3) := by decide +kernel
theorem dX0_probeGoesOn_4 : decode cX0_probeGoesOn 4 = .ok (.iconst 4, 1) := by decide +kernel
theorem dX0_probeGoesOn_5 : decode cX0_probeGoesOn 5 = .ok (.dup2, 1) := by decide +kernel
theorem dX0_probeGoesOn_6 : decode cX0_probeGoesOn 6 = .ok (.iaload, 1) := by decide +kernel
theorem dX0_probeGoesOn_7 : decode cX0_probeGoesOn 7 = .ok (.iconst 1, 1) := by decide +kernel
theorem dX0_probeGoesOn_8 : decode cX0_probeGoesOn 8 = .ok (.isub, 1) := by decide +kernel
theorem dX0_probeGoesOn_9 : decode cX0_probeGoesOn 9 = .ok (.iastore, 1) := by decide +kernel
theorem dX0_probeGoesOn_10 : decode cX0_probeGoesOn 10 = .ok (.aload_n 0, 1) := by decide +kernel
theorem dX0_probeGoesOn_11 : decode cX0_probeGoesOn 11 = .ok (.getfield 31, 3) := by decide +kernel
theorem dX0_probeGoesOn_14 : decode cX0_probeGoesOn 14 = .ok (.iconst 4, 1) := by decide +kernel
theorem dX0_probeGoesOn_15 : decode cX0_probeGoesOn 15 = .ok (.iaload, 1) := by decide +kernel
theorem dX0_probeGoesOn_16 : decode cX0_probeGoesOn 16 = .ok (.iconst 1, 1) := by decide +kernel
theorem dX0_probeGoesOn_17 : decode cX0_probeGoesOn 17 = .ok (.if_icmp .lt 5, 3) := by decide +kernel
theorem dX0_probeGoesOn_20 : decode cX0_probeGoesOn 20 = .ok (.iconst 1, 1) := by decide +kernel
theorem dX0_probeGoesOn_21 : decode cX0_probeGoesOn 21 = .ok (.ireturn, 1) := by decide +kernel
theorem dX0_probeGoesOn_22 : decode cX0_probeGoesOn 22 = .ok (.iload_n 1, 1) := by decide +kernel
theorem dX0_probeGoesOn_23 : decode cX0_probeGoesOn 23 = .ok (.iconst 1, 1) := by decide +kernel
theorem dX0_probeGoesOn_24 : decode cX0_probeGoesOn 24 = .ok (.aload_n 0, 1) := by decide +kernel
theorem dX0_probeGoesOn_25 : decode cX0_probeGoesOn 25 = .ok (.getfield 31, 3) := by decide +kernel
theorem dX0_probeGoesOn_28 : decode cX0_probeGoesOn 28 = .ok (.iconst 0, 1) := by decide +kernel
theorem dX0_probeGoesOn_29 : decode cX0_probeGoesOn 29 = .ok (.iaload, 1) := by decide +kernel
theorem dX0_probeGoesOn_30 : decode cX0_probeGoesOn 30 = .ok (.invokestatic 129, 3) := by decide +kernel
theorem dX0_probeGoesOn_33 : decode cX0_probeGoesOn 33 = .ok (.isub, 1) := by decide +kernel
theorem dX0_probeGoesOn_34 : decode cX0_probeGoesOn 34 = .ok (.invokestatic 132, 3) := by decide +kernel
theorem dX0_probeGoesOn_37 : decode cX0_probeGoesOn 37 = .ok (.istore_n 2, 1) := by decide +kernel
theorem dX0_probeGoesOn_38 : decode cX0_probeGoesOn 38 = .ok (.aload_n 0, 1) := by decide +kernel
theorem dX0_probeGoesOn_39 : decode cX0_probeGoesOn 39 = .ok (.iload_n 2, 1) := by decide +kernel
theorem dX0_probeGoesOn_40 : decode cX0_probeGoesOn 40 = .ok (.iconst 3, 1) := by decide +kernel
theorem dX0_probeGoesOn_41 : decode cX0_probeGoesOn 41 = .ok (.aload_n 0, 1) := by decide +kernel
theorem dX0_probeGoesOn_42 : decode cX0_probeGoesOn 42 = .ok (.getfield 31, 3) := by decide +kernel
theorem dX0_probeGoesOn_45 : decode cX0_probeGoesOn 45 = .ok (.iconst 2, 1) := by decide +kernel
theorem dX0_probeGoesOn_46 : decode cX0_probeGoesOn 46 = .ok (.iaload, 1) := by decide +kernel
theorem dX0_probeGoesOn_47 : decode cX0_probeGoesOn 47 = .ok (.aload_n 0, 1) := by decide +kernel
theorem dX0_probeGoesOn_48 : decode cX0_probeGoesOn 48 = .ok (.getfield 31, 3) := by decide +kernel
theorem dX0_probeGoesOn_51 : decode cX0_probeGoesOn 51 = .ok (.iconst 3, 1) := by decide +kernel
theorem dX0_probeGoesOn_52 : decode cX0_probeGoesOn 52 = .ok (.iaload, 1) := by decide +kernel
theorem dX0_probeGoesOn_53 : decode cX0_probeGoesOn 53 = .ok (.iconst (-1), 1) := by decide +kernel
theorem dX0_probeGoesOn_54 : decode cX0_probeGoesOn 54 = .ok (.iconst (-1), 1) := by decide +kernel
theorem dX0_probeGoesOn_55 : decode cX0_probeGoesOn 55 = .ok (.invokevirtual 135, 3) := by decide +kernel
theorem dX0_probeGoesOn_58 : decode cX0_probeGoesOn 58 = .ok (.iconst 0, 1) := by decide +kernel
theorem dX0_probeGoesOn_59 : decode cX0_probeGoesOn 59 = .ok (.ireturn, 1) := by decide +kernel
theorem dX0_replyGoesOn_0 : decode cX0_replyGoesOn 0 = .ok (.aload_n 0, 1) := by decide +kernel
theorem dX0_replyGoesOn_1 : decode cX0_replyGoesOn 1 = .ok (.getfield 31, 3) := by decide +kernel
theorem dX0_replyGoesOn_4 : decode cX0_replyGoesOn 4 = .ok (.iconst 2, 1) := by decide +kernel
theorem dX0_replyGoesOn_5 : decode cX0_replyGoesOn 5 = .ok (.iaload, 1) := by decide +kernel
theorem dX0_replyGoesOn_6 : decode cX0_replyGoesOn 6 = .ok (.aload_n 0, 1) := by decide +kernel
theorem dX0_replyGoesOn_7 : decode cX0_replyGoesOn 7 = .ok (.getfield 34, 3) := by decide +kernel
theorem dX0_replyGoesOn_10 : decode cX0_replyGoesOn 10 = .ok (.iload_n 1, 1) := by decide +kernel
theorem dX0_replyGoesOn_11 : decode cX0_replyGoesOn 11 = .ok (.invokevirtual 107, 3) := by decide +kernel
theorem dX0_replyGoesOn_14 : decode cX0_replyGoesOn 14 = .ok (.if_icmp .eq 5, 3) := by decide +kernel
theorem dX0_replyGoesOn_17 : decode cX0_replyGoesOn 17 = .ok (.iconst 1, 1) := by decide +kernel
theorem dX0_replyGoesOn_18 : decode cX0_replyGoesOn 18 = .ok (.ireturn, 1) := by decide +kernel
theorem dX0_replyGoesOn_19 : decode cX0_replyGoesOn 19 = .ok (.aload_n 0, 1) := by decide +kernel
theorem dX0_replyGoesOn_20 : decode cX0_replyGoesOn 20 = .ok (.iload_n 1, 1) := by decide +kernel
theorem dX0_replyGoesOn_21 : decode cX0_replyGoesOn 21 = .ok (.invokevirtual 157, 3) := by decide +kernel
theorem dX0_replyGoesOn_24 : decode cX0_replyGoesOn 24 = .ok (.ifCond .eq 46, 3) := by decide +kernel
theorem dX0_replyGoesOn_27 : decode cX0_replyGoesOn 27 = .ok (.aload_n 0, 1) := by decide +kernel
theorem dX0_replyGoesOn_28 : decode cX0_replyGoesOn 28 = .ok (.iload_n 1, 1) := by decide +kernel
theorem dX0_replyGoesOn_29 : decode cX0_replyGoesOn 29 = .ok (.iconst 5, 1) := by decide +kernel
theorem dX0_replyGoesOn_30 : decode cX0_replyGoesOn 30 = .ok (.aload_n 0, 1) := by decide +kernel
theorem dX0_replyGoesOn_31 : decode cX0_replyGoesOn 31 = .ok (.iload_n 1, 1) := by decide +kernel
theorem dX0_replyGoesOn_32 : decode cX0_replyGoesOn 32 = .ok (.iconst 5, 1) := by decide +kernel
theorem dX0_replyGoesOn_33 : decode cX0_replyGoesOn 33 = .ok (.invokevirtual 67, 3) := by decide +kernel
theorem dX0_replyGoesOn_36 : decode cX0_replyGoesOn 36 = .ok (.iconst 1, 1) := by decide +kernel
theorem dX0_replyGoesOn_37 : decode cX0_replyGoesOn 37 = .ok (.iadd, 1) := by decide +kernel
theorem dX0_replyGoesOn_38 : decode cX0_replyGoesOn 38 = .ok (.invokevirtual 44, 3) := by decide +kernel
theorem dX0_replyGoesOn_41 : decode cX0_replyGoesOn 41 = .ok (.aload_n 0, 1) := by decide +kernel
theorem dX0_replyGoesOn_42 : decode cX0_replyGoesOn 42 = .ok (.iload_n 1, 1) := by decide +kernel
theorem dX0_replyGoesOn_43 : decode cX0_replyGoesOn 43 = .ok (.iconst 5, 1) := by decide +kernel
theorem dX0_replyGoesOn_44 : decode cX0_replyGoesOn 44 = .ok (.invokevirtual 67, 3) := by decide +kernel
theorem dX0_replyGoesOn_47 : decode cX0_replyGoesOn 47 = .ok (.iconst 2, 1) := by decide +kernel
theorem dX0_replyGoesOn_48 : decode cX0_replyGoesOn 48 = .ok (.if_icmp .ne 22, 3) := by decide +kernel
theorem dX0_replyGoesOn_51 : decode cX0_replyGoesOn 51 = .ok (.aload_n 0, 1) := by decide +kernel
theorem dX0_replyGoesOn_52 : decode cX0_replyGoesOn 52 = .ok (.iload_n 1, 1) := by decide +kernel
theorem dX0_replyGoesOn_53 : decode cX0_replyGoesOn 53 = .ok (.iconst 3, 1) := by decide +kernel
theorem dX0_replyGoesOn_54 : decode cX0_replyGoesOn 54 = .ok (.aload_n 0, 1) := by decide +kernel
theorem dX0_replyGoesOn_55 : decode cX0_replyGoesOn 55 = .ok (.iload_n 1, 1) := by decide +kernel
theorem dX0_replyGoesOn_56 : decode cX0_replyGoesOn 56 = .ok (.iconst 3, 1) := by decide +kernel
theorem dX0_replyGoesOn_57 : decode cX0_replyGoesOn 57 = .ok (.invokevirtual 67, 3) := by decide +kernel
theorem dX0_replyGoesOn_60 : decode cX0_replyGoesOn 60 = .ok (.iconst 1, 1) := by decide +kernel
theorem dX0_replyGoesOn_61 : decode cX0_replyGoesOn 61 = .ok (.iadd, 1) := by decide +kernel
theorem dX0_replyGoesOn_62 : decode cX0_replyGoesOn 62 = .ok (.invokevirtual 44, 3) := by decide +kernel
theorem dX0_replyGoesOn_65 : decode cX0_replyGoesOn 65 = .ok (.aload_n 0, 1) := by decide +kernel
theorem dX0_replyGoesOn_66 : decode cX0_replyGoesOn 66 = .ok (.iload_n 1, 1) := by decide +kernel
theorem dX0_replyGoesOn_67 : decode cX0_replyGoesOn 67 = .ok (.invokevirtual 113, 3) := by decide +kernel
theorem dX0_replyGoesOn_70 : decode cX0_replyGoesOn 70 = .ok (.iconst 0, 1) := by decide +kernel
theorem dX0_replyGoesOn_71 : decode cX0_replyGoesOn 71 = .ok (.ireturn, 1) := by decide +kernel
theorem dX0_markGoesOn_0 : decode cX0_markGoesOn 0 = .ok (.aload_n 0, 1) := by decide +kernel
theorem dX0_markGoesOn_1 : decode cX0_markGoesOn 1 = .ok (.iload_n 1, 1) := by decide +kernel
theorem dX0_markGoesOn_2 : decode cX0_markGoesOn 2 = .ok (.invokevirtual 157, 3) := by decide +kernel
theorem dX0_markGoesOn_5 : decode cX0_markGoesOn 5 = .ok (.ifCond .ne 5, 3) := by decide +kernel
theorem dX0_markGoesOn_8 : decode cX0_markGoesOn 8 = .ok (.iconst 1, 1) := by decide +kernel
theorem dX0_markGoesOn_9 : decode cX0_markGoesOn 9 = .ok (.ireturn, 1) := by decide +kernel
theorem dX0_markGoesOn_10 : decode cX0_markGoesOn 10 = .ok (.aload_n 0, 1) := by decide +kernel
theorem dX0_markGoesOn_11 : decode cX0_markGoesOn 11 = .ok (.iload_n 1, 1) := by decide +kernel
theorem dX0_markGoesOn_12 : decode cX0_markGoesOn 12 = .ok (.iconst 5, 1) := by decide +kernel
theorem dX0_markGoesOn_13 : decode cX0_markGoesOn 13 = .ok (.invokevirtual 67, 3) := by decide +kernel
theorem dX0_markGoesOn_16 : decode cX0_markGoesOn 16 = .ok (.iconst 1, 1) := by decide +kernel
theorem dX0_markGoesOn_17 : decode cX0_markGoesOn 17 = .ok (.if_icmp .ne 7, 3) := by decide +kernel
theorem dX0_markGoesOn_20 : decode cX0_markGoesOn 20 = .ok (.iconst 1, 1) := by decide +kernel
theorem dX0_markGoesOn_21 : decode cX0_markGoesOn 21 = .ok (.goto 4, 3) := by decide +kernel
theorem dX0_markGoesOn_24 : decode cX0_markGoesOn 24 = .ok (.iconst 0, 1) := by decide +kernel
theorem dX0_markGoesOn_25 : decode cX0_markGoesOn 25 = .ok (.istore_n 2, 1) := by decide +kernel
theorem dX0_markGoesOn_26 : decode cX0_markGoesOn 26 = .ok (.aload_n 0, 1) := by decide +kernel
theorem dX0_markGoesOn_27 : decode cX0_markGoesOn 27 = .ok (.getfield 31, 3) := by decide +kernel
theorem dX0_markGoesOn_30 : decode cX0_markGoesOn 30 = .ok (.iconst 1, 1) := by decide +kernel
theorem dX0_markGoesOn_31 : decode cX0_markGoesOn 31 = .ok (.iaload, 1) := by decide +kernel
theorem dX0_markGoesOn_32 : decode cX0_markGoesOn 32 = .ok (.iconst 4, 1) := by decide +kernel
theorem dX0_markGoesOn_33 : decode cX0_markGoesOn 33 = .ok (.if_icmp .ne 15, 3) := by decide +kernel
theorem dX0_markGoesOn_36 : decode cX0_markGoesOn 36 = .ok (.iload_n 2, 1) := by decide +kernel
theorem dX0_markGoesOn_37 : decode cX0_markGoesOn 37 = .ok (.ifCond .ne 11, 3) := by decide +kernel
theorem dX0_markGoesOn_40 : decode cX0_markGoesOn 40 = .ok (.aload_n 0, 1) := by decide +kernel
theorem dX0_markGoesOn_41 : decode cX0_markGoesOn 41 = .ok (.iload_n 1, 1) := by decide +kernel
theorem dX0_markGoesOn_42 : decode cX0_markGoesOn 42 = .ok (.invokevirtual 164, 3) := by decide +kernel
theorem dX0_markGoesOn_45 : decode cX0_markGoesOn 45 = .ok (.goto 22, 3) := by decide +kernel
theorem dX0_markGoesOn_48 : decode cX0_markGoesOn 48 = .ok (.aload_n 0, 1) := by decide +kernel
theorem dX0_markGoesOn_49 : decode cX0_markGoesOn 49 = .ok (.getfield 31, 3) := by decide +kernel
theorem dX0_markGoesOn_52 : decode cX0_markGoesOn 52 = .ok (.iconst 1, 1) := by decide +kernel
theorem dX0_markGoesOn_53 : decode cX0_markGoesOn 53 = .ok (.iaload, 1) := by decide +kernel
theorem dX0_markGoesOn_54 : decode cX0_markGoesOn 54 = .ok (.iconst 5, 1) := by decide +kernel
theorem dX0_markGoesOn_55 : decode cX0_markGoesOn 55 = .ok (.if_icmp .ne 12, 3) := by decide +kernel
theorem dX0_markGoesOn_58 : decode cX0_markGoesOn 58 = .ok (.iload_n 2, 1) := by decide +kernel
theorem dX0_markGoesOn_59 : decode cX0_markGoesOn 59 = .ok (.ifCond .eq 8, 3) := by decide +kernel
theorem dX0_markGoesOn_62 : decode cX0_markGoesOn 62 = .ok (.aload_n 0, 1) := by decide +kernel
theorem dX0_markGoesOn_63 : decode cX0_markGoesOn 63 = .ok (.iload_n 1, 1) := by decide +kernel
theorem dX0_markGoesOn_64 : decode cX0_markGoesOn 64 = .ok (.invokevirtual 167, 3) := by decide +kernel
theorem dX0_markGoesOn_67 : decode cX0_markGoesOn 67 = .ok (.iconst 0, 1) := by decide +kernel
theorem dX0_markGoesOn_68 : decode cX0_markGoesOn 68 = .ok (.ireturn, 1) := by decide +kernel
theorem dX0_takeFirst_0 : decode cX0_takeFirst 0 = .ok (.aload_n 0, 1) := by decide +kernel
theorem dX0_takeFirst_1 : decode cX0_takeFirst 1 = .ok (.getfield 31, 3) := by decide +kernel
theorem dX0_takeFirst_4 : decode cX0_takeFirst 4 = .ok (.iconst 2, 1) := by decide +kernel
theorem dX0_takeFirst_5 : decode cX0_takeFirst 5 = .ok (.iaload, 1) := by decide +kernel
theorem dX0_takeFirst_6 : decode cX0_takeFirst 6 = .ok (.istore_n 2, 1) := by decide +kernel
theorem dX0_takeFirst_7 : decode cX0_takeFirst 7 = .ok (.iload_n 2, 1) := by decide +kernel
theorem dX0_takeFirst_8 : decode cX0_takeFirst 8 = .ok (.aload_n 0, 1) := by decide +kernel
theorem dX0_takeFirst_9 : decode cX0_takeFirst 9 = .ok (.iload_n 1, 1) := by decide +kernel
theorem dX0_takeFirst_10 : decode cX0_takeFirst 10 = .ok (.iconst 2, 1) := by decide +kernel
theorem dX0_takeFirst_11 : decode cX0_takeFirst 11 = .ok (.invokevirtual 67, 3) := by decide +kernel
theorem dX0_takeFirst_14 : decode cX0_takeFirst 14 = .ok (.if_icmp .ne 12, 3) := by decide +kernel
theorem dX0_takeFirst_17 : decode cX0_takeFirst 17 = .ok (.aload_n 0, 1) := by decide +kernel
theorem dX0_takeFirst_18 : decode cX0_takeFirst 18 = .ok (.iload_n 1, 1) := by decide +kernel
theorem dX0_takeFirst_19 : decode cX0_takeFirst 19 = .ok (.iload_n 2, 1) := by decide +kernel
theorem dX0_takeFirst_20 : decode cX0_takeFirst 20 = .ok (.invokevirtual 160, 3) := by decide +kernel
theorem dX0_takeFirst_23 : decode cX0_takeFirst 23 = .ok (.goto 25, 3) := by decide +kernel
theorem dX0_takeFirst_26 : decode cX0_takeFirst 26 = .ok (.aload_n 0, 1) := by decide +kernel
theorem dX0_takeFirst_27 : decode cX0_takeFirst 27 = .ok (.iload_n 1, 1) := by decide +kernel
theorem dX0_takeFirst_28 : decode cX0_takeFirst 28 = .ok (.bipush 6, 2) := by decide +kernel
theorem dX0_takeFirst_30 : decode cX0_takeFirst 30 = .ok (.iload_n 2, 1) := by decide +kernel
theorem dX0_takeFirst_31 : decode cX0_takeFirst 31 = .ok (.invokevirtual 44, 3) := by decide +kernel
theorem dX0_takeFirst_34 : decode cX0_takeFirst 34 = .ok (.aload_n 0, 1) := by decide +kernel
theorem dX0_takeFirst_35 : decode cX0_takeFirst 35 = .ok (.iload_n 1, 1) := by decide +kernel
theorem dX0_takeFirst_36 : decode cX0_takeFirst 36 = .ok (.iconst 5, 1) := by decide +kernel
theorem dX0_takeFirst_37 : decode cX0_takeFirst 37 = .ok (.iconst 1, 1) := by decide +kernel
theorem dX0_takeFirst_38 : decode cX0_takeFirst 38 = .ok (.invokevirtual 44, 3) := by decide +kernel
theorem dX0_takeFirst_41 : decode cX0_takeFirst 41 = .ok (.aload_n 0, 1) := by decide +kernel
theorem dX0_takeFirst_42 : decode cX0_takeFirst 42 = .ok (.iload_n 1, 1) := by decide +kernel
theorem dX0_takeFirst_43 : decode cX0_takeFirst 43 = .ok (.iconst 5, 1) := by decide +kernel
theorem dX0_takeFirst_44 : decode cX0_takeFirst 44 = .ok (.iload_n 2, 1) := by decide +kernel
theorem dX0_takeFirst_45 : decode cX0_takeFirst 45 = .ok (.invokevirtual 110, 3) := by decide +kernel
theorem dX0_takeFirst_48 : decode cX0_takeFirst 48 = .ok (.return_, 1) := by decide +kernel
theorem dX0_takeSecond_0 : decode cX0_takeSecond 0 = .ok (.aload_n 0, 1) := by decide +kernel
theorem dX0_takeSecond_1 : decode cX0_takeSecond 1 = .ok (.iload_n 1, 1) := by decide +kernel
theorem dX0_takeSecond_2 : decode cX0_takeSecond 2 = .ok (.bipush 6, 2) := by decide +kernel
theorem dX0_takeSecond_4 : decode cX0_takeSecond 4 = .ok (.invokevirtual 67, 3) := by decide +kernel
theorem dX0_takeSecond_7 : decode cX0_takeSecond 7 = .ok (.istore_n 2, 1) := by decide +kernel
theorem dX0_takeSecond_8 : decode cX0_takeSecond 8 = .ok (.iload_n 2, 1) := by decide +kernel
theorem dX0_takeSecond_9 : decode cX0_takeSecond 9 = .ok (.aload_n 0, 1) := by decide +kernel
theorem dX0_takeSecond_10 : decode cX0_takeSecond 10 = .ok (.iload_n 1, 1) := by decide +kernel
theorem dX0_takeSecond_11 : decode cX0_takeSecond 11 = .ok (.iconst 2, 1) := by decide +kernel
theorem dX0_takeSecond_12 : decode cX0_takeSecond 12 = .ok (.invokevirtual 67, 3) := by decide +kernel
theorem dX0_takeSecond_15 : decode cX0_takeSecond 15 = .ok (.if_icmp .le 51, 3) := by decide +kernel
theorem dX0_takeSecond_18 : decode cX0_takeSecond 18 = .ok (.iload_n 2, 1) := by decide +kernel
theorem dX0_takeSecond_19 : decode cX0_takeSecond 19 = .ok (.aload_n 0, 1) := by decide +kernel
theorem dX0_takeSecond_20 : decode cX0_takeSecond 20 = .ok (.getfield 31, 3) := by decide +kernel
theorem dX0_takeSecond_23 : decode cX0_takeSecond 23 = .ok (.iconst 2, 1) := by decide +kernel
theorem dX0_takeSecond_24 : decode cX0_takeSecond 24 = .ok (.iaload, 1) := by decide +kernel
theorem dX0_takeSecond_25 : decode cX0_takeSecond 25 = .ok (.if_icmp .le 41, 3) := by decide +kernel
theorem dX0_takeSecond_28 : decode cX0_takeSecond 28 = .ok (.aload_n 0, 1) := by decide +kernel
theorem dX0_takeSecond_29 : decode cX0_takeSecond 29 = .ok (.iload_n 1, 1) := by decide +kernel
theorem dX0_takeSecond_30 : decode cX0_takeSecond 30 = .ok (.iconst 2, 1) := by decide +kernel
theorem dX0_takeSecond_31 : decode cX0_takeSecond 31 = .ok (.iload_n 2, 1) := by decide +kernel
theorem dX0_takeSecond_32 : decode cX0_takeSecond 32 = .ok (.invokevirtual 44, 3) := by decide +kernel
theorem dX0_takeSecond_35 : decode cX0_takeSecond 35 = .ok (.aload_n 0, 1) := by decide +kernel
theorem dX0_takeSecond_36 : decode cX0_takeSecond 36 = .ok (.iload_n 1, 1) := by decide +kernel
theorem dX0_takeSecond_37 : decode cX0_takeSecond 37 = .ok (.iconst 3, 1) := by decide +kernel
theorem dX0_takeSecond_38 : decode cX0_takeSecond 38 = .ok (.aload_n 0, 1) := by decide +kernel
theorem dX0_takeSecond_39 : decode cX0_takeSecond 39 = .ok (.iload_n 1, 1) := by decide +kernel
theorem dX0_takeSecond_40 : decode cX0_takeSecond 40 = .ok (.iconst 3, 1) := by decide +kernel
theorem dX0_takeSecond_41 : decode cX0_takeSecond 41 = .ok (.invokevirtual 67, 3) := by decide +kernel
theorem dX0_takeSecond_44 : decode cX0_takeSecond 44 = .ok (.iconst 1, 1) := by decide +kernel
theorem dX0_takeSecond_45 : decode cX0_takeSecond 45 = .ok (.iadd, 1) := by decide +kernel
theorem dX0_takeSecond_46 : decode cX0_takeSecond 46 = .ok (.invokevirtual 44, 3) := by decide +kernel
theorem dX0_takeSecond_49 : decode cX0_takeSecond 49 = .ok (.aload_n 0, 1) := by decide +kernel
theorem dX0_takeSecond_50 : decode cX0_takeSecond 50 = .ok (.iload_n 1, 1) := by decide +kernel
theorem dX0_takeSecond_51 : decode cX0_takeSecond 51 = .ok (.iconst 5, 1) := by decide +kernel
theorem dX0_takeSecond_52 : decode cX0_takeSecond 52 = .ok (.iconst 0, 1) := by decide +kernel
theorem dX0_takeSecond_53 : decode cX0_takeSecond 53 = .ok (.invokevirtual 44, 3) := by decide +kernel
theorem dX0_takeSecond_56 : decode cX0_takeSecond 56 = .ok (.aload_n 0, 1) := by decide +kernel
theorem dX0_takeSecond_57 : decode cX0_takeSecond 57 = .ok (.iload_n 1, 1) := by decide +kernel
theorem dX0_takeSecond_58 : decode cX0_takeSecond 58 = .ok (.iconst 4, 1) := by decide +kernel
theorem dX0_takeSecond_59 : decode cX0_takeSecond 59 = .ok (.iload_n 2, 1) := by decide +kernel
theorem dX0_takeSecond_60 : decode cX0_takeSecond 60 = .ok (.invokevirtual 110, 3) := by decide +kernel
theorem dX0_takeSecond_63 : decode cX0_takeSecond 63 = .ok (.goto 10, 3) := by decide +kernel
theorem dX0_takeSecond_66 : decode cX0_takeSecond 66 = .ok (.aload_n 0, 1) := by decide +kernel
theorem dX0_takeSecond_67 : decode cX0_takeSecond 67 = .ok (.iload_n 1, 1) := by decide +kernel
theorem dX0_takeSecond_68 : decode cX0_takeSecond 68 = .ok (.iconst 0, 1) := by decide +kernel
theorem dX0_takeSecond_69 : decode cX0_takeSecond 69 = .ok (.iconst 2, 1) := by decide +kernel
theorem dX0_takeSecond_70 : decode cX0_takeSecond 70 = .ok (.invokevirtual 44, 3) := by decide +kernel
theorem dX0_takeSecond_73 : decode cX0_takeSecond 73 = .ok (.return_, 1) := by decide +kernel
theorem dX0_tokenGoesOn_0 : decode cX0_tokenGoesOn 0 = .ok (.aload_n 0, 1) := by decide +kernel
theorem dX0_tokenGoesOn_1 : decode cX0_tokenGoesOn 1 = .ok (.getfield 31, 3) := by decide +kernel
theorem dX0_tokenGoesOn_4 : decode cX0_tokenGoesOn 4 = .ok (.iconst 4, 1) := by decide +kernel
theorem dX0_tokenGoesOn_5 : decode cX0_tokenGoesOn 5 = .ok (.iaload, 1) := by decide +kernel
theorem dX0_tokenGoesOn_6 : decode cX0_tokenGoesOn 6 = .ok (.aload_n 0, 1) := by decide +kernel
theorem dX0_tokenGoesOn_7 : decode cX0_tokenGoesOn 7 = .ok (.getfield 34, 3) := by decide +kernel
theorem dX0_tokenGoesOn_10 : decode cX0_tokenGoesOn 10 = .ok (.getfield 64, 3) := by decide +kernel
theorem dX0_tokenGoesOn_13 : decode cX0_tokenGoesOn 13 = .ok (.if_icmp .eq 7, 3) := by decide +kernel
theorem dX0_tokenGoesOn_16 : decode cX0_tokenGoesOn 16 = .ok (.iconst 1, 1) := by decide +kernel
theorem dX0_tokenGoesOn_17 : decode cX0_tokenGoesOn 17 = .ok (.goto 4, 3) := by decide +kernel
theorem dX0_tokenGoesOn_20 : decode cX0_tokenGoesOn 20 = .ok (.iconst 0, 1) := by decide +kernel
theorem dX0_tokenGoesOn_21 : decode cX0_tokenGoesOn 21 = .ok (.istore_n 2, 1) := by decide +kernel
theorem dX0_tokenGoesOn_22 : decode cX0_tokenGoesOn 22 = .ok (.aload_n 0, 1) := by decide +kernel
theorem dX0_tokenGoesOn_23 : decode cX0_tokenGoesOn 23 = .ok (.iload_n 1, 1) := by decide +kernel
theorem dX0_tokenGoesOn_24 : decode cX0_tokenGoesOn 24 = .ok (.invokevirtual 157, 3) := by decide +kernel
theorem dX0_tokenGoesOn_27 : decode cX0_tokenGoesOn 27 = .ok (.ifCond .eq 21, 3) := by decide +kernel
theorem dX0_tokenGoesOn_30 : decode cX0_tokenGoesOn 30 = .ok (.iload_n 2, 1) := by decide +kernel
theorem dX0_tokenGoesOn_31 : decode cX0_tokenGoesOn 31 = .ok (.ifCond .eq 11, 3) := by decide +kernel
theorem dX0_tokenGoesOn_34 : decode cX0_tokenGoesOn 34 = .ok (.aload_n 0, 1) := by decide +kernel
theorem dX0_tokenGoesOn_35 : decode cX0_tokenGoesOn 35 = .ok (.iload_n 1, 1) := by decide +kernel
theorem dX0_tokenGoesOn_36 : decode cX0_tokenGoesOn 36 = .ok (.invokevirtual 170, 3) := by decide +kernel
theorem dX0_tokenGoesOn_39 : decode cX0_tokenGoesOn 39 = .ok (.goto 8, 3) := by decide +kernel
theorem dX0_tokenGoesOn_42 : decode cX0_tokenGoesOn 42 = .ok (.aload_n 0, 1) := by decide +kernel
theorem dX0_tokenGoesOn_43 : decode cX0_tokenGoesOn 43 = .ok (.iload_n 1, 1) := by decide +kernel
theorem dX0_tokenGoesOn_44 : decode cX0_tokenGoesOn 44 = .ok (.invokevirtual 173, 3) := by decide +kernel
theorem dX0_tokenGoesOn_47 : decode cX0_tokenGoesOn 47 = .ok (.istore_n 2, 1) := by decide +kernel
theorem dX0_tokenGoesOn_48 : decode cX0_tokenGoesOn 48 = .ok (.aload_n 0, 1) := by decide +kernel
theorem dX0_tokenGoesOn_49 : decode cX0_tokenGoesOn 49 = .ok (.getfield 31, 3) := by decide +kernel
theorem dX0_tokenGoesOn_52 : decode cX0_tokenGoesOn 52 = .ok (.iconst 4, 1) := by decide +kernel
theorem dX0_tokenGoesOn_53 : decode cX0_tokenGoesOn 53 = .ok (.dup2, 1) := by decide +kernel
theorem dX0_tokenGoesOn_54 : decode cX0_tokenGoesOn 54 = .ok (.iaload, 1) := by decide +kernel
theorem dX0_tokenGoesOn_55 : decode cX0_tokenGoesOn 55 = .ok (.iconst 1, 1) := by decide +kernel
theorem dX0_tokenGoesOn_56 : decode cX0_tokenGoesOn 56 = .ok (.iadd, 1) := by decide +kernel
theorem dX0_tokenGoesOn_57 : decode cX0_tokenGoesOn 57 = .ok (.iastore, 1) := by decide +kernel
theorem dX0_tokenGoesOn_58 : decode cX0_tokenGoesOn 58 = .ok (.iload_n 2, 1) := by decide +kernel
theorem dX0_tokenGoesOn_59 : decode cX0_tokenGoesOn 59 = .ok (.ireturn, 1) := by decide +kernel
theorem dX0_tokenComesHome_0 : decode cX0_tokenComesHome 0 = .ok (.aload_n 0, 1) := by decide +kernel
theorem dX0_tokenComesHome_1 : decode cX0_tokenComesHome 1 = .ok (.getfield 31, 3) := by decide +kernel
theorem dX0_tokenComesHome_4 : decode cX0_tokenComesHome 4 = .ok (.iconst 5, 1) := by decide +kernel
theorem dX0_tokenComesHome_5 : decode cX0_tokenComesHome 5 = .ok (.iaload, 1) := by decide +kernel
theorem dX0_tokenComesHome_6 : decode cX0_tokenComesHome 6 = .ok (.iconst 1, 1) := by decide +kernel
theorem dX0_tokenComesHome_7 : decode cX0_tokenComesHome 7 = .ok (.if_icmp .ne 17, 3) := by decide +kernel
theorem dX0_tokenComesHome_10 : decode cX0_tokenComesHome 10 = .ok (.aload_n 0, 1) := by decide +kernel
theorem dX0_tokenComesHome_11 : decode cX0_tokenComesHome 11 = .ok (.iload_n 1, 1) := by decide +kernel
theorem dX0_tokenComesHome_12 : decode cX0_tokenComesHome 12 = .ok (.aload_n 0, 1) := by decide +kernel
theorem dX0_tokenComesHome_13 : decode cX0_tokenComesHome 13 = .ok (.getfield 31, 3) := by decide +kernel
theorem dX0_tokenComesHome_16 : decode cX0_tokenComesHome 16 = .ok (.iconst 2, 1) := by decide +kernel
theorem dX0_tokenComesHome_17 : decode cX0_tokenComesHome 17 = .ok (.iaload, 1) := by decide +kernel
theorem dX0_tokenComesHome_18 : decode cX0_tokenComesHome 18 = .ok (.invokevirtual 160, 3) := by decide +kernel
theorem dX0_tokenComesHome_21 : decode cX0_tokenComesHome 21 = .ok (.goto 22, 3) := by decide +kernel
theorem dX0_tokenComesHome_24 : decode cX0_tokenComesHome 24 = .ok (.aload_n 0, 1) := by decide +kernel
theorem dX0_tokenComesHome_25 : decode cX0_tokenComesHome 25 = .ok (.iload_n 1, 1) := by decide +kernel
theorem dX0_tokenComesHome_26 : decode cX0_tokenComesHome 26 = .ok (.iconst 3, 1) := by decide +kernel
theorem dX0_tokenComesHome_27 : decode cX0_tokenComesHome 27 = .ok (.aload_n 0, 1) := by decide +kernel
theorem dX0_tokenComesHome_28 : decode cX0_tokenComesHome 28 = .ok (.iload_n 1, 1) := by decide +kernel
theorem dX0_tokenComesHome_29 : decode cX0_tokenComesHome 29 = .ok (.iconst 3, 1) := by decide +kernel
theorem dX0_tokenComesHome_30 : decode cX0_tokenComesHome 30 = .ok (.invokevirtual 67, 3) := by decide +kernel
theorem dX0_tokenComesHome_33 : decode cX0_tokenComesHome 33 = .ok (.iconst 1, 1) := by decide +kernel
theorem dX0_tokenComesHome_34 : decode cX0_tokenComesHome 34 = .ok (.iadd, 1) := by decide +kernel
theorem dX0_tokenComesHome_35 : decode cX0_tokenComesHome 35 = .ok (.invokevirtual 44, 3) := by decide +kernel
theorem dX0_tokenComesHome_38 : decode cX0_tokenComesHome 38 = .ok (.aload_n 0, 1) := by decide +kernel
theorem dX0_tokenComesHome_39 : decode cX0_tokenComesHome 39 = .ok (.iload_n 1, 1) := by decide +kernel
theorem dX0_tokenComesHome_40 : decode cX0_tokenComesHome 40 = .ok (.invokevirtual 117, 3) := by decide +kernel
theorem dX0_tokenComesHome_43 : decode cX0_tokenComesHome 43 = .ok (.iconst 0, 1) := by decide +kernel
theorem dX0_tokenComesHome_44 : decode cX0_tokenComesHome 44 = .ok (.ireturn, 1) := by decide +kernel
theorem dX0_tokenGetsPast_0 : decode cX0_tokenGetsPast 0 = .ok (.aload_n 0, 1) := by decide +kernel
theorem dX0_tokenGetsPast_1 : decode cX0_tokenGetsPast 1 = .ok (.getfield 31, 3) := by decide +kernel
theorem dX0_tokenGetsPast_4 : decode cX0_tokenGetsPast 4 = .ok (.iconst 3, 1) := by decide +kernel
theorem dX0_tokenGetsPast_5 : decode cX0_tokenGetsPast 5 = .ok (.iaload, 1) := by decide +kernel
theorem dX0_tokenGetsPast_6 : decode cX0_tokenGetsPast 6 = .ok (.aload_n 0, 1) := by decide +kernel
theorem dX0_tokenGetsPast_7 : decode cX0_tokenGetsPast 7 = .ok (.iload_n 1, 1) := by decide +kernel
theorem dX0_tokenGetsPast_8 : decode cX0_tokenGetsPast 8 = .ok (.iconst 3, 1) := by decide +kernel
theorem dX0_tokenGetsPast_9 : decode cX0_tokenGetsPast 9 = .ok (.invokevirtual 67, 3) := by decide +kernel
theorem dX0_tokenGetsPast_12 : decode cX0_tokenGetsPast 12 = .ok (.isub, 1) := by decide +kernel
theorem dX0_tokenGetsPast_13 : decode cX0_tokenGetsPast 13 = .ok (.istore_n 2, 1) := by decide +kernel
theorem dX0_tokenGetsPast_14 : decode cX0_tokenGetsPast 14 = .ok (.aload_n 0, 1) := by decide +kernel
theorem dX0_tokenGetsPast_15 : decode cX0_tokenGetsPast 15 = .ok (.getfield 31, 3) := by decide +kernel
theorem dX0_tokenGetsPast_18 : decode cX0_tokenGetsPast 18 = .ok (.iconst 2, 1) := by decide +kernel
theorem dX0_tokenGetsPast_19 : decode cX0_tokenGetsPast 19 = .ok (.iaload, 1) := by decide +kernel
theorem dX0_tokenGetsPast_20 : decode cX0_tokenGetsPast 20 = .ok (.aload_n 0, 1) := by decide +kernel
theorem dX0_tokenGetsPast_21 : decode cX0_tokenGetsPast 21 = .ok (.iload_n 1, 1) := by decide +kernel
theorem dX0_tokenGetsPast_22 : decode cX0_tokenGetsPast 22 = .ok (.iconst 2, 1) := by decide +kernel
theorem dX0_tokenGetsPast_23 : decode cX0_tokenGetsPast 23 = .ok (.invokevirtual 67, 3) := by decide +kernel
theorem dX0_tokenGetsPast_26 : decode cX0_tokenGetsPast 26 = .ok (.isub, 1) := by decide +kernel
theorem dX0_tokenGetsPast_27 : decode cX0_tokenGetsPast 27 = .ok (.istore_n 3, 1) := by decide +kernel
theorem dX0_tokenGetsPast_28 : decode cX0_tokenGetsPast 28 = .ok (.iload_n 2, 1) := by decide +kernel
theorem dX0_tokenGetsPast_29 : decode cX0_tokenGetsPast 29 = .ok (.ifCond .ne 16, 3) := by decide +kernel
theorem dX0_tokenGetsPast_32 : decode cX0_tokenGetsPast 32 = .ok (.iload_n 3, 1) := by decide +kernel
theorem dX0_tokenGetsPast_33 : decode cX0_tokenGetsPast 33 = .ok (.ifCond .ne 12, 3) := by decide +kernel
theorem dX0_tokenGetsPast_36 : decode cX0_tokenGetsPast 36 = .ok (.aload_n 0, 1) := by decide +kernel
theorem dX0_tokenGetsPast_37 : decode cX0_tokenGetsPast 37 = .ok (.getfield 31, 3) := by decide +kernel
theorem dX0_tokenGetsPast_40 : decode cX0_tokenGetsPast 40 = .ok (.iconst 5, 1) := by decide +kernel
theorem dX0_tokenGetsPast_41 : decode cX0_tokenGetsPast 41 = .ok (.iconst 0, 1) := by decide +kernel
theorem dX0_tokenGetsPast_42 : decode cX0_tokenGetsPast 42 = .ok (.iastore, 1) := by decide +kernel
theorem dX0_tokenGetsPast_43 : decode cX0_tokenGetsPast 43 = .ok (.iconst 1, 1) := by decide +kernel
theorem dX0_tokenGetsPast_44 : decode cX0_tokenGetsPast 44 = .ok (.ireturn, 1) := by decide +kernel
theorem dX0_tokenGetsPast_45 : decode cX0_tokenGetsPast 45 = .ok (.iload_n 2, 1) := by decide +kernel
theorem dX0_tokenGetsPast_46 : decode cX0_tokenGetsPast 46 = .ok (.ifCond .gt 11, 3) := by decide +kernel
theorem dX0_tokenGetsPast_49 : decode cX0_tokenGetsPast 49 = .ok (.iload_n 2, 1) := by decide +kernel
theorem dX0_tokenGetsPast_50 : decode cX0_tokenGetsPast 50 = .ok (.ifCond .ne 16, 3) := by decide +kernel
theorem dX0_tokenGetsPast_53 : decode cX0_tokenGetsPast 53 = .ok (.iload_n 3, 1) := by decide +kernel
theorem dX0_tokenGetsPast_54 : decode cX0_tokenGetsPast 54 = .ok (.ifCond .le 12, 3) := by decide +kernel
theorem dX0_tokenGetsPast_57 : decode cX0_tokenGetsPast 57 = .ok (.aload_n 0, 1) := by decide +kernel
theorem dX0_tokenGetsPast_58 : decode cX0_tokenGetsPast 58 = .ok (.iload_n 1, 1) := by decide +kernel
theorem dX0_tokenGetsPast_59 : decode cX0_tokenGetsPast 59 = .ok (.iconst 0, 1) := by decide +kernel
theorem dX0_tokenGetsPast_60 : decode cX0_tokenGetsPast 60 = .ok (.iconst 2, 1) := by decide +kernel
theorem dX0_tokenGetsPast_61 : decode cX0_tokenGetsPast 61 = .ok (.invokevirtual 44, 3) := by decide +kernel
theorem dX0_tokenGetsPast_64 : decode cX0_tokenGetsPast 64 = .ok (.iconst 1, 1) := by decide +kernel
theorem dX0_tokenGetsPast_65 : decode cX0_tokenGetsPast 65 = .ok (.ireturn, 1) := by decide +kernel
theorem dX0_tokenGetsPast_66 : decode cX0_tokenGetsPast 66 = .ok (.iconst 0, 1) := by decide +kernel
theorem dX0_tokenGetsPast_67 : decode cX0_tokenGetsPast 67 = .ok (.ireturn, 1) := by decide +kernel
theorem dX0_isRunning_0 : decode cX0_isRunning 0 = .ok (.aload_n 0, 1) := by decide +kernel
theorem dX0_isRunning_1 : decode cX0_isRunning 1 = .ok (.iload_n 1, 1) := by decide +kernel
theorem dX0_isRunning_2 : decode cX0_isRunning 2 = .ok (.iconst 0, 1) := by decide +kernel
theorem dX0_isRunning_3 : decode cX0_isRunning 3 = .ok (.invokevirtual 67, 3) := by decide +kernel
theorem dX0_isRunning_6 : decode cX0_isRunning 6 = .ok (.iconst 1, 1) := by decide +kernel
theorem dX0_isRunning_7 : decode cX0_isRunning 7 = .ok (.if_icmp .ne 7, 3) := by decide +kernel
theorem dX0_isRunning_10 : decode cX0_isRunning 10 = .ok (.iconst 1, 1) := by decide +kernel
theorem dX0_isRunning_11 : decode cX0_isRunning 11 = .ok (.goto 4, 3) := by decide +kernel
theorem dX0_isRunning_14 : decode cX0_isRunning 14 = .ok (.iconst 0, 1) := by decide +kernel
theorem dX0_isRunning_15 : decode cX0_isRunning 15 = .ok (.ireturn, 1) := by decide +kernel
theorem dX0_becomeHead_0 : decode cX0_becomeHead 0 = .ok (.aload_n 0, 1) := by decide +kernel
theorem dX0_becomeHead_1 : decode cX0_becomeHead 1 = .ok (.iload_n 1, 1) := by decide +kernel
theorem dX0_becomeHead_2 : decode cX0_becomeHead 2 = .ok (.iconst 0, 1) := by decide +kernel
theorem dX0_becomeHead_3 : decode cX0_becomeHead 3 = .ok (.iconst 3, 1) := by decide +kernel
theorem dX0_becomeHead_4 : decode cX0_becomeHead 4 = .ok (.invokevirtual 44, 3) := by decide +kernel
theorem dX0_becomeHead_7 : decode cX0_becomeHead 7 = .ok (.aload_n 0, 1) := by decide +kernel
theorem dX0_becomeHead_8 : decode cX0_becomeHead 8 = .ok (.iload_n 1, 1) := by decide +kernel
theorem dX0_becomeHead_9 : decode cX0_becomeHead 9 = .ok (.iconst 4, 1) := by decide +kernel
theorem dX0_becomeHead_10 : decode cX0_becomeHead 10 = .ok (.iload_n 2, 1) := by decide +kernel
theorem dX0_becomeHead_11 : decode cX0_becomeHead 11 = .ok (.invokevirtual 44, 3) := by decide +kernel
theorem dX0_becomeHead_14 : decode cX0_becomeHead 14 = .ok (.aload_n 0, 1) := by decide +kernel
theorem dX0_becomeHead_15 : decode cX0_becomeHead 15 = .ok (.iload_n 1, 1) := by decide +kernel
theorem dX0_becomeHead_16 : decode cX0_becomeHead 16 = .ok (.aload_n 0, 1) := by decide +kernel
theorem dX0_becomeHead_17 : decode cX0_becomeHead 17 = .ok (.iload_n 1, 1) := by decide +kernel
theorem dX0_becomeHead_18 : decode cX0_becomeHead 18 = .ok (.iconst 1, 1) := by decide +kernel
theorem dX0_becomeHead_19 : decode cX0_becomeHead 19 = .ok (.invokevirtual 67, 3) := by decide +kernel
theorem dX0_becomeHead_22 : decode cX0_becomeHead 22 = .ok (.invokestatic 132, 3) := by decide +kernel
theorem dX0_becomeHead_25 : decode cX0_becomeHead 25 = .ok (.bipush 7, 2) := by decide +kernel
theorem dX0_becomeHead_27 : decode cX0_becomeHead 27 = .ok (.iload_n 2, 1) := by decide +kernel
theorem dX0_becomeHead_28 : decode cX0_becomeHead 28 = .ok (.iconst (-1), 1) := by decide +kernel
theorem dX0_becomeHead_29 : decode cX0_becomeHead 29 = .ok (.iconst (-1), 1) := by decide +kernel
theorem dX0_becomeHead_30 : decode cX0_becomeHead 30 = .ok (.iconst (-1), 1) := by decide +kernel
theorem dX0_becomeHead_31 : decode cX0_becomeHead 31 = .ok (.invokevirtual 135, 3) := by decide +kernel
theorem dX0_becomeHead_34 : decode cX0_becomeHead 34 = .ok (.return_, 1) := by decide +kernel
theorem dX0_sendProbes_0 : decode cX0_sendProbes 0 = .ok (.aload_n 0, 1) := by decide +kernel
theorem dX0_sendProbes_1 : decode cX0_sendProbes 1 = .ok (.iload_n 1, 1) := by decide +kernel
theorem dX0_sendProbes_2 : decode cX0_sendProbes 2 = .ok (.iconst 3, 1) := by decide +kernel
theorem dX0_sendProbes_3 : decode cX0_sendProbes 3 = .ok (.invokevirtual 67, 3) := by decide +kernel
theorem dX0_sendProbes_6 : decode cX0_sendProbes 6 = .ok (.istore_n 2, 1) := by decide +kernel
theorem dX0_sendProbes_7 : decode cX0_sendProbes 7 = .ok (.aload_n 0, 1) := by decide +kernel
theorem dX0_sendProbes_8 : decode cX0_sendProbes 8 = .ok (.getfield 34, 3) := by decide +kernel
theorem dX0_sendProbes_11 : decode cX0_sendProbes 11 = .ok (.iload_n 1, 1) := by decide +kernel
theorem dX0_sendProbes_12 : decode cX0_sendProbes 12 = .ok (.invokevirtual 107, 3) := by decide +kernel
theorem dX0_sendProbes_15 : decode cX0_sendProbes 15 = .ok (.istore_n 3, 1) := by decide +kernel
theorem dX0_sendProbes_16 : decode cX0_sendProbes 16 = .ok (.aload_n 0, 1) := by decide +kernel
theorem dX0_sendProbes_17 : decode cX0_sendProbes 17 = .ok (.iload_n 1, 1) := by decide +kernel
theorem dX0_sendProbes_18 : decode cX0_sendProbes 18 = .ok (.iconst 5, 1) := by decide +kernel
theorem dX0_sendProbes_19 : decode cX0_sendProbes 19 = .ok (.iconst 0, 1) := by decide +kernel
theorem dX0_sendProbes_20 : decode cX0_sendProbes 20 = .ok (.invokevirtual 44, 3) := by decide +kernel
theorem dX0_sendProbes_23 : decode cX0_sendProbes 23 = .ok (.aload_n 0, 1) := by decide +kernel
theorem dX0_sendProbes_24 : decode cX0_sendProbes 24 = .ok (.iload_n 1, 1) := by decide +kernel
theorem dX0_sendProbes_25 : decode cX0_sendProbes 25 = .ok (.iconst 0, 1) := by decide +kernel
theorem dX0_sendProbes_26 : decode cX0_sendProbes 26 = .ok (.invokestatic 132, 3) := by decide +kernel
theorem dX0_sendProbes_29 : decode cX0_sendProbes 29 = .ok (.iconst 2, 1) := by decide +kernel
theorem dX0_sendProbes_30 : decode cX0_sendProbes 30 = .ok (.iload_n 3, 1) := by decide +kernel
theorem dX0_sendProbes_31 : decode cX0_sendProbes 31 = .ok (.iload_n 2, 1) := by decide +kernel
theorem dX0_sendProbes_32 : decode cX0_sendProbes 32 = .ok (.iconst 1, 1) := by decide +kernel
theorem dX0_sendProbes_33 : decode cX0_sendProbes 33 = .ok (.iload_n 2, 1) := by decide +kernel
theorem dX0_sendProbes_34 : decode cX0_sendProbes 34 = .ok (.ishl, 1) := by decide +kernel
theorem dX0_sendProbes_35 : decode cX0_sendProbes 35 = .ok (.iconst (-1), 1) := by decide +kernel
theorem dX0_sendProbes_36 : decode cX0_sendProbes 36 = .ok (.invokevirtual 135, 3) := by decide +kernel
theorem dX0_sendProbes_39 : decode cX0_sendProbes 39 = .ok (.aload_n 0, 1) := by decide +kernel
theorem dX0_sendProbes_40 : decode cX0_sendProbes 40 = .ok (.iload_n 1, 1) := by decide +kernel
theorem dX0_sendProbes_41 : decode cX0_sendProbes 41 = .ok (.iconst 1, 1) := by decide +kernel
theorem dX0_sendProbes_42 : decode cX0_sendProbes 42 = .ok (.invokestatic 132, 3) := by decide +kernel
theorem dX0_sendProbes_45 : decode cX0_sendProbes 45 = .ok (.iconst 2, 1) := by decide +kernel
theorem dX0_sendProbes_46 : decode cX0_sendProbes 46 = .ok (.iload_n 3, 1) := by decide +kernel
theorem dX0_sendProbes_47 : decode cX0_sendProbes 47 = .ok (.iload_n 2, 1) := by decide +kernel
theorem dX0_sendProbes_48 : decode cX0_sendProbes 48 = .ok (.iconst 1, 1) := by decide +kernel
theorem dX0_sendProbes_49 : decode cX0_sendProbes 49 = .ok (.iload_n 2, 1) := by decide +kernel
theorem dX0_sendProbes_50 : decode cX0_sendProbes 50 = .ok (.ishl, 1) := by decide +kernel
theorem dX0_sendProbes_51 : decode cX0_sendProbes 51 = .ok (.iconst (-1), 1) := by decide +kernel
theorem dX0_sendProbes_52 : decode cX0_sendProbes 52 = .ok (.invokevirtual 135, 3) := by decide +kernel
theorem dX0_sendProbes_55 : decode cX0_sendProbes 55 = .ok (.return_, 1) := by decide +kernel
theorem dX0_draw_0 : decode cX0_draw 0 = .ok (.aload_n 0, 1) := by decide +kernel
theorem dX0_draw_1 : decode cX0_draw 1 = .ok (.iload_n 1, 1) := by decide +kernel
theorem dX0_draw_2 : decode cX0_draw 2 = .ok (.bipush 7, 2) := by decide +kernel
theorem dX0_draw_4 : decode cX0_draw 4 = .ok (.invokevirtual 67, 3) := by decide +kernel
theorem dX0_draw_7 : decode cX0_draw 7 = .ok (.invokestatic 81, 3) := by decide +kernel
theorem dX0_draw_10 : decode cX0_draw 10 = .ok (.istore_n 2, 1) := by decide +kernel
theorem dX0_draw_11 : decode cX0_draw 11 = .ok (.aload_n 0, 1) := by decide +kernel
theorem dX0_draw_12 : decode cX0_draw 12 = .ok (.getfield 15, 3) := by decide +kernel
theorem dX0_draw_15 : decode cX0_draw 15 = .ok (.ifCond .le 14, 3) := by decide +kernel
theorem dX0_draw_18 : decode cX0_draw 18 = .ok (.iconst 1, 1) := by decide +kernel
theorem dX0_draw_19 : decode cX0_draw 19 = .ok (.iload_n 2, 1) := by decide +kernel
theorem dX0_draw_20 : decode cX0_draw 20 = .ok (.aload_n 0, 1) := by decide +kernel
theorem dX0_draw_21 : decode cX0_draw 21 = .ok (.getfield 15, 3) := by decide +kernel
theorem dX0_draw_24 : decode cX0_draw 24 = .ok (.irem, 1) := by decide +kernel
theorem dX0_draw_25 : decode cX0_draw 25 = .ok (.iadd, 1) := by decide +kernel
theorem dX0_draw_26 : decode cX0_draw 26 = .ok (.goto 4, 3) := by decide +kernel
theorem dX0_draw_29 : decode cX0_draw 29 = .ok (.iconst 1, 1) := by decide +kernel
theorem dX0_draw_30 : decode cX0_draw 30 = .ok (.istore_n 3, 1) := by decide +kernel
theorem dX0_draw_31 : decode cX0_draw 31 = .ok (.iload_n 1, 1) := by decide +kernel
theorem dX0_draw_32 : decode cX0_draw 32 = .ok (.aload_n 0, 1) := by decide +kernel
theorem dX0_draw_33 : decode cX0_draw 33 = .ok (.iload_n 1, 1) := by decide +kernel
theorem dX0_draw_34 : decode cX0_draw 34 = .ok (.iconst 1, 1) := by decide +kernel
theorem dX0_draw_35 : decode cX0_draw 35 = .ok (.invokevirtual 67, 3) := by decide +kernel
theorem dX0_draw_38 : decode cX0_draw 38 = .ok (.invokestatic 132, 3) := by decide +kernel
theorem dX0_draw_41 : decode cX0_draw 41 = .ok (.istore 4, 2) := by decide +kernel
theorem dX0_draw_43 : decode cX0_draw 43 = .ok (.aload_n 0, 1) := by decide +kernel
theorem dX0_draw_44 : decode cX0_draw 44 = .ok (.iload_n 1, 1) := by decide +kernel
theorem dX0_draw_45 : decode cX0_draw 45 = .ok (.bipush 7, 2) := by decide +kernel
theorem dX0_draw_47 : decode cX0_draw 47 = .ok (.iload_n 2, 1) := by decide +kernel
theorem dX0_draw_48 : decode cX0_draw 48 = .ok (.invokevirtual 44, 3) := by decide +kernel
theorem dX0_draw_51 : decode cX0_draw 51 = .ok (.aload_n 0, 1) := by decide +kernel
theorem dX0_draw_52 : decode cX0_draw 52 = .ok (.iload_n 1, 1) := by decide +kernel
theorem dX0_draw_53 : decode cX0_draw 53 = .ok (.iconst 2, 1) := by decide +kernel
theorem dX0_draw_54 : decode cX0_draw 54 = .ok (.iload_n 3, 1) := by decide +kernel
theorem dX0_draw_55 : decode cX0_draw 55 = .ok (.invokevirtual 44, 3) := by decide +kernel
theorem dX0_draw_58 : decode cX0_draw 58 = .ok (.aload_n 0, 1) := by decide +kernel
theorem dX0_draw_59 : decode cX0_draw 59 = .ok (.iload 4, 2) := by decide +kernel
theorem dX0_draw_61 : decode cX0_draw 61 = .ok (.bipush 6, 2) := by decide +kernel
theorem dX0_draw_63 : decode cX0_draw 63 = .ok (.iload_n 3, 1) := by decide +kernel
theorem dX0_draw_64 : decode cX0_draw 64 = .ok (.aload_n 0, 1) := by decide +kernel
theorem dX0_draw_65 : decode cX0_draw 65 = .ok (.iload_n 1, 1) := by decide +kernel
theorem dX0_draw_66 : decode cX0_draw 66 = .ok (.iconst 3, 1) := by decide +kernel
theorem dX0_draw_67 : decode cX0_draw 67 = .ok (.invokevirtual 67, 3) := by decide +kernel
theorem dX0_draw_70 : decode cX0_draw 70 = .ok (.iconst 1, 1) := by decide +kernel
theorem dX0_draw_71 : decode cX0_draw 71 = .ok (.iconst 1, 1) := by decide +kernel
theorem dX0_draw_72 : decode cX0_draw 72 = .ok (.invokevirtual 135, 3) := by decide +kernel
theorem dX0_draw_75 : decode cX0_draw 75 = .ok (.return_, 1) := by decide +kernel
theorem dX0_sendRight_0 : decode cX0_sendRight 0 = .ok (.aload_n 0, 1) := by decide +kernel
theorem dX0_sendRight_1 : decode cX0_sendRight 1 = .ok (.iload_n 1, 1) := by decide +kernel
theorem dX0_sendRight_2 : decode cX0_sendRight 2 = .ok (.aload_n 0, 1) := by decide +kernel
theorem dX0_sendRight_3 : decode cX0_sendRight 3 = .ok (.iload_n 1, 1) := by decide +kernel
theorem dX0_sendRight_4 : decode cX0_sendRight 4 = .ok (.iconst 1, 1) := by decide +kernel
theorem dX0_sendRight_5 : decode cX0_sendRight 5 = .ok (.invokevirtual 67, 3) := by decide +kernel
theorem dX0_sendRight_8 : decode cX0_sendRight 8 = .ok (.invokestatic 132, 3) := by decide +kernel
theorem dX0_sendRight_11 : decode cX0_sendRight 11 = .ok (.iload_n 2, 1) := by decide +kernel
theorem dX0_sendRight_12 : decode cX0_sendRight 12 = .ok (.iload_n 3, 1) := by decide +kernel
theorem dX0_sendRight_13 : decode cX0_sendRight 13 = .ok (.iconst (-1), 1) := by decide +kernel
theorem dX0_sendRight_14 : decode cX0_sendRight 14 = .ok (.iconst (-1), 1) := by decide +kernel
theorem dX0_sendRight_15 : decode cX0_sendRight 15 = .ok (.iconst (-1), 1) := by decide +kernel
theorem dX0_sendRight_16 : decode cX0_sendRight 16 = .ok (.invokevirtual 135, 3) := by decide +kernel
theorem dX0_sendRight_19 : decode cX0_sendRight 19 = .ok (.return_, 1) := by decide +kernel
theorem dX0_send_0 : decode cX0_send 0 = .ok (.aload_n 0, 1) := by decide +kernel
theorem dX0_send_1 : decode cX0_send 1 = .ok (.getfield 25, 3) := by decide +kernel
theorem dX0_send_4 : decode cX0_send 4 = .ok (.ifCond .lt 23, 3) := by decide +kernel
theorem dX0_send_7 : decode cX0_send 7 = .ok (.aload_n 0, 1) := by decide +kernel
theorem dX0_send_8 : decode cX0_send 8 = .ok (.getfield 25, 3) := by decide +kernel
theorem dX0_send_11 : decode cX0_send 11 = .ok (.bipush 12, 2) := by decide +kernel
theorem dX0_send_13 : decode cX0_send 13 = .ok (.if_icmp .ge 14, 3) := by decide +kernel
theorem dX0_send_16 : decode cX0_send 16 = .ok (.iload_n 2, 1) := by decide +kernel
theorem dX0_send_17 : decode cX0_send 17 = .ok (.iconst 1, 1) := by decide +kernel
theorem dX0_send_18 : decode cX0_send 18 = .ok (.if_icmp .lt 9, 3) := by decide +kernel
theorem dX0_send_21 : decode cX0_send 21 = .ok (.iload_n 2, 1) := by decide +kernel
theorem dX0_send_22 : decode cX0_send 22 = .ok (.bipush 7, 2) := by decide +kernel
theorem dX0_send_24 : decode cX0_send 24 = .ok (.if_icmp .le 4, 3) := by decide +kernel
theorem dX0_send_27 : decode cX0_send 27 = .ok (.return_, 1) := by decide +kernel
theorem dX0_send_28 : decode cX0_send 28 = .ok (.aload_n 0, 1) := by decide +kernel
theorem dX0_send_29 : decode cX0_send 29 = .ok (.getfield 25, 3) := by decide +kernel
theorem dX0_send_32 : decode cX0_send 32 = .ok (.bipush 6, 2) := by decide +kernel
theorem dX0_send_34 : decode cX0_send 34 = .ok (.imul, 1) := by decide +kernel
theorem dX0_send_35 : decode cX0_send 35 = .ok (.istore 7, 2) := by decide +kernel
theorem dX0_send_37 : decode cX0_send 37 = .ok (.aload_n 0, 1) := by decide +kernel
theorem dX0_send_38 : decode cX0_send 38 = .ok (.getfield 22, 3) := by decide +kernel
theorem dX0_send_41 : decode cX0_send 41 = .ok (.iload 7, 2) := by decide +kernel
theorem dX0_send_43 : decode cX0_send 43 = .ok (.iconst 0, 1) := by decide +kernel
theorem dX0_send_44 : decode cX0_send 44 = .ok (.iadd, 1) := by decide +kernel
theorem dX0_send_45 : decode cX0_send 45 = .ok (.iload_n 1, 1) := by decide +kernel
theorem dX0_send_46 : decode cX0_send 46 = .ok (.iastore, 1) := by decide +kernel
theorem dX0_send_47 : decode cX0_send 47 = .ok (.aload_n 0, 1) := by decide +kernel
theorem dX0_send_48 : decode cX0_send 48 = .ok (.getfield 22, 3) := by decide +kernel
theorem dX0_send_51 : decode cX0_send 51 = .ok (.iload 7, 2) := by decide +kernel
theorem dX0_send_53 : decode cX0_send 53 = .ok (.iconst 1, 1) := by decide +kernel
theorem dX0_send_54 : decode cX0_send 54 = .ok (.iadd, 1) := by decide +kernel
theorem dX0_send_55 : decode cX0_send 55 = .ok (.iload_n 2, 1) := by decide +kernel
theorem dX0_send_56 : decode cX0_send 56 = .ok (.iastore, 1) := by decide +kernel
theorem dX0_send_57 : decode cX0_send 57 = .ok (.aload_n 0, 1) := by decide +kernel
theorem dX0_send_58 : decode cX0_send 58 = .ok (.getfield 22, 3) := by decide +kernel
theorem dX0_send_61 : decode cX0_send 61 = .ok (.iload 7, 2) := by decide +kernel
theorem dX0_send_63 : decode cX0_send 63 = .ok (.iconst 2, 1) := by decide +kernel
theorem dX0_send_64 : decode cX0_send 64 = .ok (.iadd, 1) := by decide +kernel
theorem dX0_send_65 : decode cX0_send 65 = .ok (.iload_n 3, 1) := by decide +kernel
theorem dX0_send_66 : decode cX0_send 66 = .ok (.iastore, 1) := by decide +kernel
theorem dX0_send_67 : decode cX0_send 67 = .ok (.aload_n 0, 1) := by decide +kernel
theorem dX0_send_68 : decode cX0_send 68 = .ok (.getfield 22, 3) := by decide +kernel
theorem dX0_send_71 : decode cX0_send 71 = .ok (.iload 7, 2) := by decide +kernel
theorem dX0_send_73 : decode cX0_send 73 = .ok (.iconst 3, 1) := by decide +kernel
theorem dX0_send_74 : decode cX0_send 74 = .ok (.iadd, 1) := by decide +kernel
theorem dX0_send_75 : decode cX0_send 75 = .ok (.iload 4, 2) := by decide +kernel
theorem dX0_send_77 : decode cX0_send 77 = .ok (.iastore, 1) := by decide +kernel
theorem dX0_send_78 : decode cX0_send 78 = .ok (.aload_n 0, 1) := by decide +kernel
theorem dX0_send_79 : decode cX0_send 79 = .ok (.getfield 22, 3) := by decide +kernel
theorem dX0_send_82 : decode cX0_send 82 = .ok (.iload 7, 2) := by decide +kernel
theorem dX0_send_84 : decode cX0_send 84 = .ok (.iconst 4, 1) := by decide +kernel
theorem dX0_send_85 : decode cX0_send 85 = .ok (.iadd, 1) := by decide +kernel
theorem dX0_send_86 : decode cX0_send 86 = .ok (.iload 5, 2) := by decide +kernel
theorem dX0_send_88 : decode cX0_send 88 = .ok (.iastore, 1) := by decide +kernel
theorem dX0_send_89 : decode cX0_send 89 = .ok (.aload_n 0, 1) := by decide +kernel
theorem dX0_send_90 : decode cX0_send 90 = .ok (.getfield 22, 3) := by decide +kernel
theorem dX0_send_93 : decode cX0_send 93 = .ok (.iload 7, 2) := by decide +kernel
theorem dX0_send_95 : decode cX0_send 95 = .ok (.iconst 5, 1) := by decide +kernel
theorem dX0_send_96 : decode cX0_send 96 = .ok (.iadd, 1) := by decide +kernel
theorem dX0_send_97 : decode cX0_send 97 = .ok (.iload 6, 2) := by decide +kernel
theorem dX0_send_99 : decode cX0_send 99 = .ok (.iastore, 1) := by decide +kernel
theorem dX0_send_100 : decode cX0_send 100 = .ok (.aload_n 0, 1) := by decide +kernel
theorem dX0_send_101 : decode cX0_send 101 = .ok (.dup, 1) := by decide +kernel
theorem dX0_send_102 : decode cX0_send 102 = .ok (.getfield 25, 3) := by decide +kernel
theorem dX0_send_105 : decode cX0_send 105 = .ok (.iconst 1, 1) := by decide +kernel
theorem dX0_send_106 : decode cX0_send 106 = .ok (.iadd, 1) := by decide +kernel
theorem dX0_send_107 : decode cX0_send 107 = .ok (.putfield 25, 3) := by decide +kernel
theorem dX0_send_110 : decode cX0_send 110 = .ok (.aload_n 0, 1) := by decide +kernel
theorem dX0_send_111 : decode cX0_send 111 = .ok (.getfield 28, 3) := by decide +kernel
theorem dX0_send_114 : decode cX0_send 114 = .ok (.iload_n 2, 1) := by decide +kernel
theorem dX0_send_115 : decode cX0_send 115 = .ok (.dup2, 1) := by decide +kernel
theorem dX0_send_116 : decode cX0_send 116 = .ok (.iaload, 1) := by decide +kernel
theorem dX0_send_117 : decode cX0_send 117 = .ok (.iconst 1, 1) := by decide +kernel
theorem dX0_send_118 : decode cX0_send 118 = .ok (.iadd, 1) := by decide +kernel
theorem dX0_send_119 : decode cX0_send 119 = .ok (.iastore, 1) := by decide +kernel
theorem dX0_send_120 : decode cX0_send 120 = .ok (.aload_n 0, 1) := by decide +kernel
theorem dX0_send_121 : decode cX0_send 121 = .ok (.getfield 28, 3) := by decide +kernel
theorem dX0_send_124 : decode cX0_send 124 = .ok (.iconst 0, 1) := by decide +kernel
theorem dX0_send_125 : decode cX0_send 125 = .ok (.dup2, 1) := by decide +kernel
theorem dX0_send_126 : decode cX0_send 126 = .ok (.iaload, 1) := by decide +kernel
theorem dX0_send_127 : decode cX0_send 127 = .ok (.iconst 1, 1) := by decide +kernel
theorem dX0_send_128 : decode cX0_send 128 = .ok (.iadd, 1) := by decide +kernel
theorem dX0_send_129 : decode cX0_send 129 = .ok (.iastore, 1) := by decide +kernel
theorem dX0_send_130 : decode cX0_send 130 = .ok (.return_, 1) := by decide +kernel
theorem dX1_init_0 : decode cX1_init 0 = .ok (.aload_n 0, 1) := by decide +kernel
theorem dX1_init_1 : decode cX1_init 1 = .ok (.invokespecial 3, 3) := by decide +kernel
theorem dX1_init_4 : decode cX1_init 4 = .ok (.aload_n 0, 1) := by decide +kernel
theorem dX1_init_5 : decode cX1_init 5 = .ok (.iconst 3, 1) := by decide +kernel
theorem dX1_init_6 : decode cX1_init 6 = .ok (.anewarray 9, 3) := by decide +kernel
theorem dX1_init_9 : decode cX1_init 9 = .ok (.putfield 11, 3) := by decide +kernel
theorem dX1_init_12 : decode cX1_init 12 = .ok (.aload_n 0, 1) := by decide +kernel
theorem dX1_init_13 : decode cX1_init 13 = .ok (.iconst 0, 1) := by decide +kernel
theorem dX1_init_14 : decode cX1_init 14 = .ok (.putfield 17, 3) := by decide +kernel
theorem dX1_init_17 : decode cX1_init 17 = .ok (.aload_n 0, 1) := by decide +kernel
theorem dX1_init_18 : decode cX1_init 18 = .ok (.iconst 0, 1) := by decide +kernel
theorem dX1_init_19 : decode cX1_init 19 = .ok (.putfield 21, 3) := by decide +kernel
theorem dX1_init_22 : decode cX1_init 22 = .ok (.aload_n 0, 1) := by decide +kernel
theorem dX1_init_23 : decode cX1_init 23 = .ok (.iconst 0, 1) := by decide +kernel
theorem dX1_init_24 : decode cX1_init 24 = .ok (.putfield 24, 3) := by decide +kernel
theorem dX1_init_27 : decode cX1_init 27 = .ok (.aload_n 0, 1) := by decide +kernel
theorem dX1_init_28 : decode cX1_init 28 = .ok (.iconst 0, 1) := by decide +kernel
theorem dX1_init_29 : decode cX1_init 29 = .ok (.putfield 27, 3) := by decide +kernel
theorem dX1_init_32 : decode cX1_init 32 = .ok (.aload_n 0, 1) := by decide +kernel
theorem dX1_init_33 : decode cX1_init 33 = .ok (.iconst 0, 1) := by decide +kernel
theorem dX1_init_34 : decode cX1_init 34 = .ok (.putfield 30, 3) := by decide +kernel
theorem dX1_init_37 : decode cX1_init 37 = .ok (.iconst 0, 1) := by decide +kernel
theorem dX1_init_38 : decode cX1_init 38 = .ok (.istore_n 2, 1) := by decide +kernel
theorem dX1_init_39 : decode cX1_init 39 = .ok (.iload_n 2, 1) := by decide +kernel
theorem dX1_init_40 : decode cX1_init 40 = .ok (.iconst 3, 1) := by decide +kernel
theorem dX1_init_41 : decode cX1_init 41 = .ok (.if_icmp .ge 23, 3) := by decide +kernel
theorem dX1_init_44 : decode cX1_init 44 = .ok (.aload_n 0, 1) := by decide +kernel
theorem dX1_init_45 : decode cX1_init 45 = .ok (.getfield 11, 3) := by decide +kernel
theorem dX1_init_48 : decode cX1_init 48 = .ok (.iload_n 2, 1) := by decide +kernel
theorem dX1_init_49 : decode cX1_init 49 = .ok (.new 9, 3) := by decide +kernel
theorem dX1_init_52 : decode cX1_init 52 = .ok (.dup, 1) := by decide +kernel
theorem dX1_init_53 : decode cX1_init 53 = .ok (.aload_n 1, 1) := by decide +kernel
theorem dX1_init_54 : decode cX1_init 54 = .ok (.invokespecial 33, 3) := by decide +kernel
theorem dX1_init_57 : decode cX1_init 57 = .ok (.aastore, 1) := by decide +kernel
theorem dX1_init_58 : decode cX1_init 58 = .ok (.iinc 2 1, 3) := by decide +kernel
theorem dX1_init_61 : decode cX1_init 61 = .ok (.goto (-22), 3) := by decide +kernel
theorem dX1_init_64 : decode cX1_init 64 = .ok (.return_, 1) := by decide +kernel
theorem dX1_reset_0 : decode cX1_reset 0 = .ok (.aload_n 0, 1) := by decide +kernel
theorem dX1_reset_1 : decode cX1_reset 1 = .ok (.aload_n 1, 1) := by decide +kernel
theorem dX1_reset_2 : decode cX1_reset 2 = .ok (.iconst 0, 1) := by decide +kernel
theorem dX1_reset_3 : decode cX1_reset 3 = .ok (.invokevirtual 36, 3) := by decide +kernel
theorem dX1_reset_6 : decode cX1_reset 6 = .ok (.putfield 17, 3) := by decide +kernel
theorem dX1_reset_9 : decode cX1_reset 9 = .ok (.aload_n 0, 1) := by decide +kernel
theorem dX1_reset_10 : decode cX1_reset 10 = .ok (.iconst 0, 1) := by decide +kernel
theorem dX1_reset_11 : decode cX1_reset 11 = .ok (.putfield 21, 3) := by decide +kernel
theorem dX1_reset_14 : decode cX1_reset 14 = .ok (.aload_n 0, 1) := by decide +kernel
theorem dX1_reset_15 : decode cX1_reset 15 = .ok (.iconst 0, 1) := by decide +kernel
theorem dX1_reset_16 : decode cX1_reset 16 = .ok (.putfield 24, 3) := by decide +kernel
theorem dX1_reset_19 : decode cX1_reset 19 = .ok (.aload_n 0, 1) := by decide +kernel
theorem dX1_reset_20 : decode cX1_reset 20 = .ok (.iconst 0, 1) := by decide +kernel
theorem dX1_reset_21 : decode cX1_reset 21 = .ok (.putfield 27, 3) := by decide +kernel
theorem dX1_reset_24 : decode cX1_reset 24 = .ok (.aload_n 0, 1) := by decide +kernel
theorem dX1_reset_25 : decode cX1_reset 25 = .ok (.iconst 0, 1) := by decide +kernel
theorem dX1_reset_26 : decode cX1_reset 26 = .ok (.putfield 30, 3) := by decide +kernel
theorem dX1_reset_29 : decode cX1_reset 29 = .ok (.return_, 1) := by decide +kernel
theorem dX1_explore_0 : decode cX1_explore 0 = .ok (.iload_n 2, 1) := by decide +kernel
theorem dX1_explore_1 : decode cX1_explore 1 = .ok (.iconst 1, 1) := by decide +kernel
theorem dX1_explore_2 : decode cX1_explore 2 = .ok (.if_icmp .lt 19, 3) := by decide +kernel
theorem dX1_explore_5 : decode cX1_explore 5 = .ok (.iload_n 2, 1) := by decide +kernel
theorem dX1_explore_6 : decode cX1_explore 6 = .ok (.iconst 3, 1) := by decide +kernel
theorem dX1_explore_7 : decode cX1_explore 7 = .ok (.if_icmp .gt 14, 3) := by decide +kernel
theorem dX1_explore_10 : decode cX1_explore 10 = .ok (.aload_n 0, 1) := by decide +kernel
theorem dX1_explore_11 : decode cX1_explore 11 = .ok (.getfield 11, 3) := by decide +kernel
theorem dX1_explore_14 : decode cX1_explore 14 = .ok (.iload_n 2, 1) := by decide +kernel
theorem dX1_explore_15 : decode cX1_explore 15 = .ok (.iconst 1, 1) := by decide +kernel
theorem dX1_explore_16 : decode cX1_explore 16 = .ok (.isub, 1) := by decide +kernel
theorem dX1_explore_17 : decode cX1_explore 17 = .ok (.aaload, 1) := by decide +kernel
theorem dX1_explore_18 : decode cX1_explore 18 = .ok (.goto 4, 3) := by decide +kernel
theorem dX1_explore_21 : decode cX1_explore 21 = .ok (.aconst_null, 1) := by decide +kernel
theorem dX1_explore_22 : decode cX1_explore 22 = .ok (.astore_n 3, 1) := by decide +kernel
theorem dX1_explore_23 : decode cX1_explore 23 = .ok (.aload_n 3, 1) := by decide +kernel
theorem dX1_explore_24 : decode cX1_explore 24 = .ok (.ifnull 10, 3) := by decide +kernel
theorem dX1_explore_27 : decode cX1_explore 27 = .ok (.aload_n 1, 1) := by decide +kernel
theorem dX1_explore_28 : decode cX1_explore 28 = .ok (.getfield 40, 3) := by decide +kernel
theorem dX1_explore_31 : decode cX1_explore 31 = .ok (.ifCond .ne 9, 3) := by decide +kernel
theorem dX1_explore_34 : decode cX1_explore 34 = .ok (.aload_n 0, 1) := by decide +kernel
theorem dX1_explore_35 : decode cX1_explore 35 = .ok (.aload_n 1, 1) := by decide +kernel
theorem dX1_explore_36 : decode cX1_explore 36 = .ok (.invokevirtual 43, 3) := by decide +kernel
theorem dX1_explore_39 : decode cX1_explore 39 = .ok (.return_, 1) := by decide +kernel
theorem dX1_explore_40 : decode cX1_explore 40 = .ok (.iconst 0, 1) := by decide +kernel
theorem dX1_explore_41 : decode cX1_explore 41 = .ok (.istore 4, 2) := by decide +kernel
theorem dX1_explore_43 : decode cX1_explore 43 = .ok (.iload 4, 2) := by decide +kernel
theorem dX1_explore_45 : decode cX1_explore 45 = .ok (.bipush 12, 2) := by decide +kernel
theorem dX1_explore_47 : decode cX1_explore 47 = .ok (.if_icmp .ge 38, 3) := by decide +kernel
theorem dX1_explore_50 : decode cX1_explore 50 = .ok (.aload_n 1, 1) := by decide +kernel
theorem dX1_explore_51 : decode cX1_explore 51 = .ok (.iload 4, 2) := by decide +kernel
theorem dX1_explore_53 : decode cX1_explore 53 = .ok (.invokevirtual 47, 3) := by decide +kernel
theorem dX1_explore_56 : decode cX1_explore 56 = .ok (.ifCond .eq 23, 3) := by decide +kernel
theorem dX1_explore_59 : decode cX1_explore 59 = .ok (.aload_n 3, 1) := by decide +kernel
theorem dX1_explore_60 : decode cX1_explore 60 = .ok (.aload_n 1, 1) := by decide +kernel
theorem dX1_explore_61 : decode cX1_explore 61 = .ok (.invokevirtual 51, 3) := by decide +kernel
theorem dX1_explore_64 : decode cX1_explore 64 = .ok (.aload_n 3, 1) := by decide +kernel
theorem dX1_explore_65 : decode cX1_explore 65 = .ok (.iload 4, 2) := by decide +kernel
theorem dX1_explore_67 : decode cX1_explore 67 = .ok (.invokevirtual 54, 3) := by decide +kernel
theorem dX1_explore_70 : decode cX1_explore 70 = .ok (.pop, 1) := by decide +kernel
theorem dX1_explore_71 : decode cX1_explore 71 = .ok (.aload_n 0, 1) := by decide +kernel
theorem dX1_explore_72 : decode cX1_explore 72 = .ok (.aload_n 3, 1) := by decide +kernel
theorem dX1_explore_73 : decode cX1_explore 73 = .ok (.iload_n 2, 1) := by decide +kernel
theorem dX1_explore_74 : decode cX1_explore 74 = .ok (.iconst 1, 1) := by decide +kernel
theorem dX1_explore_75 : decode cX1_explore 75 = .ok (.isub, 1) := by decide +kernel
theorem dX1_explore_76 : decode cX1_explore 76 = .ok (.invokestatic 57, 3) := by decide +kernel
theorem dX1_explore_79 : decode cX1_explore 79 = .ok (.iinc 4 1, 3) := by decide +kernel
theorem dX1_explore_82 : decode cX1_explore 82 = .ok (.goto (-39), 3) := by decide +kernel
theorem dX1_explore_85 : decode cX1_explore 85 = .ok (.return_, 1) := by decide +kernel
theorem dX1_note_0 : decode cX1_note 0 = .ok (.aload_n 1, 1) := by decide +kernel
theorem dX1_note_1 : decode cX1_note 1 = .ok (.iconst 0, 1) := by decide +kernel
theorem dX1_note_2 : decode cX1_note 2 = .ok (.invokevirtual 36, 3) := by decide +kernel
theorem dX1_note_5 : decode cX1_note 5 = .ok (.aload_n 0, 1) := by decide +kernel
theorem dX1_note_6 : decode cX1_note 6 = .ok (.getfield 17, 3) := by decide +kernel
theorem dX1_note_9 : decode cX1_note 9 = .ok (.isub, 1) := by decide +kernel
theorem dX1_note_10 : decode cX1_note 10 = .ok (.istore_n 2, 1) := by decide +kernel
theorem dX1_note_11 : decode cX1_note 11 = .ok (.aload_n 0, 1) := by decide +kernel
theorem dX1_note_12 : decode cX1_note 12 = .ok (.aload_n 0, 1) := by decide +kernel
theorem dX1_note_13 : decode cX1_note 13 = .ok (.getfield 30, 3) := by decide +kernel
theorem dX1_note_16 : decode cX1_note 16 = .ok (.ifCond .ne 7, 3) := by decide +kernel
theorem dX1_note_19 : decode cX1_note 19 = .ok (.iload_n 2, 1) := by decide +kernel
theorem dX1_note_20 : decode cX1_note 20 = .ok (.goto 11, 3) := by decide +kernel
theorem dX1_note_23 : decode cX1_note 23 = .ok (.aload_n 0, 1) := by decide +kernel
theorem dX1_note_24 : decode cX1_note 24 = .ok (.getfield 21, 3) := by decide +kernel
theorem dX1_note_27 : decode cX1_note 27 = .ok (.iload_n 2, 1) := by decide +kernel
theorem dX1_note_28 : decode cX1_note 28 = .ok (.invokestatic 61, 3) := by decide +kernel
theorem dX1_note_31 : decode cX1_note 31 = .ok (.putfield 21, 3) := by decide +kernel
theorem dX1_note_34 : decode cX1_note 34 = .ok (.aload_n 0, 1) := by decide +kernel
theorem dX1_note_35 : decode cX1_note 35 = .ok (.aload_n 0, 1) := by decide +kernel
theorem dX1_note_36 : decode cX1_note 36 = .ok (.getfield 24, 3) := by decide +kernel
theorem dX1_note_39 : decode cX1_note 39 = .ok (.iload_n 2, 1) := by decide +kernel
theorem dX1_note_40 : decode cX1_note 40 = .ok (.invokestatic 67, 3) := by decide +kernel
theorem dX1_note_43 : decode cX1_note 43 = .ok (.putfield 24, 3) := by decide +kernel
theorem dX1_note_46 : decode cX1_note 46 = .ok (.aload_n 0, 1) := by decide +kernel
theorem dX1_note_47 : decode cX1_note 47 = .ok (.dup, 1) := by decide +kernel
theorem dX1_note_48 : decode cX1_note 48 = .ok (.getfield 27, 3) := by decide +kernel
theorem dX1_note_51 : decode cX1_note 51 = .ok (.aload_n 1, 1) := by decide +kernel
theorem dX1_note_52 : decode cX1_note 52 = .ok (.invokevirtual 70, 3) := by decide +kernel
theorem dX1_note_55 : decode cX1_note 55 = .ok (.iconst (-1), 1) := by decide +kernel
theorem dX1_note_56 : decode cX1_note 56 = .ok (.if_icmp .eq 7, 3) := by decide +kernel
theorem dX1_note_59 : decode cX1_note 59 = .ok (.iconst 1, 1) := by decide +kernel
theorem dX1_note_60 : decode cX1_note 60 = .ok (.goto 4, 3) := by decide +kernel
theorem dX1_note_63 : decode cX1_note 63 = .ok (.iconst 0, 1) := by decide +kernel
theorem dX1_note_64 : decode cX1_note 64 = .ok (.iadd, 1) := by decide +kernel
theorem dX1_note_65 : decode cX1_note 65 = .ok (.putfield 27, 3) := by decide +kernel
theorem dX1_note_68 : decode cX1_note 68 = .ok (.aload_n 0, 1) := by decide +kernel
theorem dX1_note_69 : decode cX1_note 69 = .ok (.dup, 1) := by decide +kernel
theorem dX1_note_70 : decode cX1_note 70 = .ok (.getfield 30, 3) := by decide +kernel
theorem dX1_note_73 : decode cX1_note 73 = .ok (.iconst 1, 1) := by decide +kernel
theorem dX1_note_74 : decode cX1_note 74 = .ok (.iadd, 1) := by decide +kernel
theorem dX1_note_75 : decode cX1_note 75 = .ok (.putfield 30, 3) := by decide +kernel
theorem dX1_note_78 : decode cX1_note 78 = .ok (.return_, 1) := by decide +kernel
theorem dX2_init_0 : decode cX2_init 0 = .ok (.aload_n 0, 1) := by decide +kernel
theorem dX2_init_1 : decode cX2_init 1 = .ok (.invokespecial 3, 3) := by decide +kernel
theorem dX2_init_4 : decode cX2_init 4 = .ok (.aload_n 0, 1) := by decide +kernel
theorem dX2_init_5 : decode cX2_init 5 = .ok (.bipush 20, 2) := by decide +kernel
theorem dX2_init_7 : decode cX2_init 7 = .ok (.anewarray 9, 3) := by decide +kernel
theorem dX2_init_10 : decode cX2_init 10 = .ok (.putfield 11, 3) := by decide +kernel
theorem dX2_init_13 : decode cX2_init 13 = .ok (.aload_n 0, 1) := by decide +kernel
theorem dX2_init_14 : decode cX2_init 14 = .ok (.iconst 0, 1) := by decide +kernel
theorem dX2_init_15 : decode cX2_init 15 = .ok (.putfield 17, 3) := by decide +kernel
theorem dX2_init_18 : decode cX2_init 18 = .ok (.aload_n 0, 1) := by decide +kernel
theorem dX2_init_19 : decode cX2_init 19 = .ok (.iconst 0, 1) := by decide +kernel
theorem dX2_init_20 : decode cX2_init 20 = .ok (.putfield 21, 3) := by decide +kernel
theorem dX2_init_23 : decode cX2_init 23 = .ok (.iconst 0, 1) := by decide +kernel
theorem dX2_init_24 : decode cX2_init 24 = .ok (.istore_n 2, 1) := by decide +kernel
theorem dX2_init_25 : decode cX2_init 25 = .ok (.iload_n 2, 1) := by decide +kernel
theorem dX2_init_26 : decode cX2_init 26 = .ok (.bipush 20, 2) := by decide +kernel
theorem dX2_init_28 : decode cX2_init 28 = .ok (.if_icmp .ge 23, 3) := by decide +kernel
theorem dX2_init_31 : decode cX2_init 31 = .ok (.aload_n 0, 1) := by decide +kernel
theorem dX2_init_32 : decode cX2_init 32 = .ok (.getfield 11, 3) := by decide +kernel
theorem dX2_init_35 : decode cX2_init 35 = .ok (.iload_n 2, 1) := by decide +kernel
theorem dX2_init_36 : decode cX2_init 36 = .ok (.new 9, 3) := by decide +kernel
theorem dX2_init_39 : decode cX2_init 39 = .ok (.dup, 1) := by decide +kernel
theorem dX2_init_40 : decode cX2_init 40 = .ok (.aload_n 1, 1) := by decide +kernel
theorem dX2_init_41 : decode cX2_init 41 = .ok (.invokespecial 24, 3) := by decide +kernel
theorem dX2_init_44 : decode cX2_init 44 = .ok (.aastore, 1) := by decide +kernel
theorem dX2_init_45 : decode cX2_init 45 = .ok (.iinc 2 1, 3) := by decide +kernel
theorem dX2_init_48 : decode cX2_init 48 = .ok (.goto (-23), 3) := by decide +kernel
theorem dX2_init_51 : decode cX2_init 51 = .ok (.return_, 1) := by decide +kernel
theorem dX2_forget_0 : decode cX2_forget 0 = .ok (.aload_n 0, 1) := by decide +kernel
theorem dX2_forget_1 : decode cX2_forget 1 = .ok (.iconst 0, 1) := by decide +kernel
theorem dX2_forget_2 : decode cX2_forget 2 = .ok (.putfield 21, 3) := by decide +kernel
theorem dX2_forget_5 : decode cX2_forget 5 = .ok (.return_, 1) := by decide +kernel
theorem dX2_keep_0 : decode cX2_keep 0 = .ok (.aload_n 0, 1) := by decide +kernel
theorem dX2_keep_1 : decode cX2_keep 1 = .ok (.aload_n 0, 1) := by decide +kernel
theorem dX2_keep_2 : decode cX2_keep 2 = .ok (.getfield 17, 3) := by decide +kernel
theorem dX2_keep_5 : decode cX2_keep 5 = .ok (.invokevirtual 27, 3) := by decide +kernel
theorem dX2_keep_8 : decode cX2_keep 8 = .ok (.astore_n 2, 1) := by decide +kernel
theorem dX2_keep_9 : decode cX2_keep 9 = .ok (.aload_n 2, 1) := by decide +kernel
theorem dX2_keep_10 : decode cX2_keep 10 = .ok (.ifnonnull 4, 3) := by decide +kernel
theorem dX2_keep_13 : decode cX2_keep 13 = .ok (.return_, 1) := by decide +kernel
theorem dX2_keep_14 : decode cX2_keep 14 = .ok (.aload_n 2, 1) := by decide +kernel
theorem dX2_keep_15 : decode cX2_keep 15 = .ok (.aload_n 1, 1) := by decide +kernel
theorem dX2_keep_16 : decode cX2_keep 16 = .ok (.invokevirtual 31, 3) := by decide +kernel
theorem dX2_keep_19 : decode cX2_keep 19 = .ok (.aload_n 0, 1) := by decide +kernel
theorem dX2_keep_20 : decode cX2_keep 20 = .ok (.aload_n 0, 1) := by decide +kernel
