theorem dX6_reads_65 : decode cX6_reads 65 = .ok (.getfield 19, 3) := by decide +kernel
theorem dX6_reads_68 : decode cX6_reads 68 = .ok (.aload_n 0, 1) := by decide +kernel
theorem dX6_reads_69 : decode cX6_reads 69 = .ok (.getfield 170, 3) := by decide +kernel
theorem dX6_reads_72 : decode cX6_reads 72 = .ok (.iaload, 1) := by decide +kernel
theorem dX6_reads_73 : decode cX6_reads 73 = .ok (.ifCond .ne 7, 3) := by decide +kernel
theorem dX6_reads_76 : decode cX6_reads 76 = .ok (.iconst 1, 1) := by decide +kernel
theorem dX6_reads_77 : decode cX6_reads 77 = .ok (.goto 12, 3) := by decide +kernel
theorem dX6_reads_80 : decode cX6_reads 80 = .ok (.aload_n 0, 1) := by decide +kernel
theorem dX6_reads_81 : decode cX6_reads 81 = .ok (.getfield 19, 3) := by decide +kernel
theorem dX6_reads_84 : decode cX6_reads 84 = .ok (.aload_n 0, 1) := by decide +kernel
theorem dX6_reads_85 : decode cX6_reads 85 = .ok (.getfield 170, 3) := by decide +kernel
theorem dX6_reads_88 : decode cX6_reads 88 = .ok (.iaload, 1) := by decide +kernel
theorem dX6_reads_89 : decode cX6_reads 89 = .ok (.putfield 176, 3) := by decide +kernel
theorem dX6_reads_92 : decode cX6_reads 92 = .ok (.aload_n 0, 1) := by decide +kernel
theorem dX6_reads_93 : decode cX6_reads 93 = .ok (.iconst 0, 1) := by decide +kernel
theorem dX6_reads_94 : decode cX6_reads 94 = .ok (.putfield 179, 3) := by decide +kernel
theorem dX6_reads_97 : decode cX6_reads 97 = .ok (.aload_n 0, 1) := by decide +kernel
theorem dX6_reads_98 : decode cX6_reads 98 = .ok (.iconst 0, 1) := by decide +kernel
theorem dX6_reads_99 : decode cX6_reads 99 = .ok (.putfield 182, 3) := by decide +kernel
theorem dX6_reads_102 : decode cX6_reads 102 = .ok (.aload_n 0, 1) := by decide +kernel
theorem dX6_reads_103 : decode cX6_reads 103 = .ok (.aload_n 0, 1) := by decide +kernel
theorem dX6_reads_104 : decode cX6_reads 104 = .ok (.getfield 170, 3) := by decide +kernel
theorem dX6_reads_107 : decode cX6_reads 107 = .ok (.invokevirtual 185, 3) := by decide +kernel
theorem dX6_reads_110 : decode cX6_reads 110 = .ok (.ifCond .eq 70, 3) := by decide +kernel
theorem dX6_reads_113 : decode cX6_reads 113 = .ok (.aload_n 0, 1) := by decide +kernel
theorem dX6_reads_114 : decode cX6_reads 114 = .ok (.aload_n 0, 1) := by decide +kernel
theorem dX6_reads_115 : decode cX6_reads 115 = .ok (.getfield 179, 3) := by decide +kernel
theorem dX6_reads_118 : decode cX6_reads 118 = .ok (.iconst 2, 1) := by decide +kernel
theorem dX6_reads_119 : decode cX6_reads 119 = .ok (.if_icmp .ge 26, 3) := by decide +kernel
theorem dX6_reads_122 : decode cX6_reads 122 = .ok (.bipush 10, 2) := by decide +kernel
theorem dX6_reads_124 : decode cX6_reads 124 = .ok (.aload_n 0, 1) := by decide +kernel
theorem dX6_reads_125 : decode cX6_reads 125 = .ok (.getfield 182, 3) := by decide +kernel
theorem dX6_reads_128 : decode cX6_reads 128 = .ok (.imul, 1) := by decide +kernel
theorem dX6_reads_129 : decode cX6_reads 129 = .ok (.aload_n 0, 1) := by decide +kernel
theorem dX6_reads_130 : decode cX6_reads 130 = .ok (.getfield 19, 3) := by decide +kernel
theorem dX6_reads_133 : decode cX6_reads 133 = .ok (.aload_n 0, 1) := by decide +kernel
theorem dX6_reads_134 : decode cX6_reads 134 = .ok (.getfield 170, 3) := by decide +kernel
theorem dX6_reads_137 : decode cX6_reads 137 = .ok (.iaload, 1) := by decide +kernel
theorem dX6_reads_138 : decode cX6_reads 138 = .ok (.iadd, 1) := by decide +kernel
theorem dX6_reads_139 : decode cX6_reads 139 = .ok (.bipush 48, 2) := by decide +kernel
theorem dX6_reads_141 : decode cX6_reads 141 = .ok (.isub, 1) := by decide +kernel
theorem dX6_reads_142 : decode cX6_reads 142 = .ok (.goto 7, 3) := by decide +kernel
theorem dX6_reads_145 : decode cX6_reads 145 = .ok (.aload_n 0, 1) := by decide +kernel
theorem dX6_reads_146 : decode cX6_reads 146 = .ok (.getfield 182, 3) := by decide +kernel
theorem dX6_reads_149 : decode cX6_reads 149 = .ok (.putfield 182, 3) := by decide +kernel
theorem dX6_reads_152 : decode cX6_reads 152 = .ok (.aload_n 0, 1) := by decide +kernel
theorem dX6_reads_153 : decode cX6_reads 153 = .ok (.dup, 1) := by decide +kernel
theorem dX6_reads_154 : decode cX6_reads 154 = .ok (.getfield 179, 3) := by decide +kernel
theorem dX6_reads_157 : decode cX6_reads 157 = .ok (.iconst 1, 1) := by decide +kernel
theorem dX6_reads_158 : decode cX6_reads 158 = .ok (.iadd, 1) := by decide +kernel
theorem dX6_reads_159 : decode cX6_reads 159 = .ok (.putfield 179, 3) := by decide +kernel
theorem dX6_reads_162 : decode cX6_reads 162 = .ok (.aload_n 0, 1) := by decide +kernel
theorem dX6_reads_163 : decode cX6_reads 163 = .ok (.dup, 1) := by decide +kernel
theorem dX6_reads_164 : decode cX6_reads 164 = .ok (.getfield 170, 3) := by decide +kernel
theorem dX6_reads_167 : decode cX6_reads 167 = .ok (.iconst 1, 1) := by decide +kernel
theorem dX6_reads_168 : decode cX6_reads 168 = .ok (.iadd, 1) := by decide +kernel
theorem dX6_reads_169 : decode cX6_reads 169 = .ok (.putfield 170, 3) := by decide +kernel
theorem dX6_reads_172 : decode cX6_reads 172 = .ok (.aload_n 0, 1) := by decide +kernel
theorem dX6_reads_173 : decode cX6_reads 173 = .ok (.iconst 0, 1) := by decide +kernel
theorem dX6_reads_174 : decode cX6_reads 174 = .ok (.putfield 176, 3) := by decide +kernel
theorem dX6_reads_177 : decode cX6_reads 177 = .ok (.goto (-75), 3) := by decide +kernel
theorem dX6_reads_180 : decode cX6_reads 180 = .ok (.aload_n 0, 1) := by decide +kernel
theorem dX6_reads_181 : decode cX6_reads 181 = .ok (.dup, 1) := by decide +kernel
theorem dX6_reads_182 : decode cX6_reads 182 = .ok (.getfield 170, 3) := by decide +kernel
theorem dX6_reads_185 : decode cX6_reads 185 = .ok (.aload_n 0, 1) := by decide +kernel
theorem dX6_reads_186 : decode cX6_reads 186 = .ok (.getfield 176, 3) := by decide +kernel
theorem dX6_reads_189 : decode cX6_reads 189 = .ok (.ifCond .ne 7, 3) := by decide +kernel
theorem dX6_reads_192 : decode cX6_reads 192 = .ok (.iconst 0, 1) := by decide +kernel
theorem dX6_reads_193 : decode cX6_reads 193 = .ok (.goto 4, 3) := by decide +kernel
theorem dX6_reads_196 : decode cX6_reads 196 = .ok (.iconst 1, 1) := by decide +kernel
theorem dX6_reads_197 : decode cX6_reads 197 = .ok (.iadd, 1) := by decide +kernel
theorem dX6_reads_198 : decode cX6_reads 198 = .ok (.putfield 170, 3) := by decide +kernel
theorem dX6_reads_201 : decode cX6_reads 201 = .ok (.return_, 1) := by decide +kernel
theorem dX6_isTold_0 : decode cX6_isTold 0 = .ok (.iconst 0, 1) := by decide +kernel
theorem dX6_isTold_1 : decode cX6_isTold 1 = .ok (.istore_n 3, 1) := by decide +kernel
theorem dX6_isTold_2 : decode cX6_isTold 2 = .ok (.iconst 0, 1) := by decide +kernel
theorem dX6_isTold_3 : decode cX6_isTold 3 = .ok (.istore 4, 2) := by decide +kernel
theorem dX6_isTold_5 : decode cX6_isTold 5 = .ok (.iload 4, 2) := by decide +kernel
theorem dX6_isTold_7 : decode cX6_isTold 7 = .ok (.iload_n 2, 1) := by decide +kernel
theorem dX6_isTold_8 : decode cX6_isTold 8 = .ok (.if_icmp .ge 30, 3) := by decide +kernel
theorem dX6_isTold_11 : decode cX6_isTold 11 = .ok (.iload_n 3, 1) := by decide +kernel
theorem dX6_isTold_12 : decode cX6_isTold 12 = .ok (.ifCond .ne 14, 3) := by decide +kernel
theorem dX6_isTold_15 : decode cX6_isTold 15 = .ok (.aload_n 0, 1) := by decide +kernel
theorem dX6_isTold_16 : decode cX6_isTold 16 = .ok (.getfield 22, 3) := by decide +kernel
theorem dX6_isTold_19 : decode cX6_isTold 19 = .ok (.iload 4, 2) := by decide +kernel
theorem dX6_isTold_21 : decode cX6_isTold 21 = .ok (.iaload, 1) := by decide +kernel
theorem dX6_isTold_22 : decode cX6_isTold 22 = .ok (.iload_n 1, 1) := by decide +kernel
theorem dX6_isTold_23 : decode cX6_isTold 23 = .ok (.if_icmp .ne 7, 3) := by decide +kernel
theorem dX6_isTold_26 : decode cX6_isTold 26 = .ok (.iconst 1, 1) := by decide +kernel
theorem dX6_isTold_27 : decode cX6_isTold 27 = .ok (.goto 4, 3) := by decide +kernel
theorem dX6_isTold_30 : decode cX6_isTold 30 = .ok (.iconst 0, 1) := by decide +kernel
theorem dX6_isTold_31 : decode cX6_isTold 31 = .ok (.istore_n 3, 1) := by decide +kernel
theorem dX6_isTold_32 : decode cX6_isTold 32 = .ok (.iinc 4 1, 3) := by decide +kernel
theorem dX6_isTold_35 : decode cX6_isTold 35 = .ok (.goto (-30), 3) := by decide +kernel
theorem dX6_isTold_38 : decode cX6_isTold 38 = .ok (.iload_n 3, 1) := by decide +kernel
theorem dX6_isTold_39 : decode cX6_isTold 39 = .ok (.ireturn, 1) := by decide +kernel
theorem dX6_readsContender_0 : decode cX6_readsContender 0 = .ok (.aload_n 0, 1) := by decide +kernel
theorem dX6_readsContender_1 : decode cX6_readsContender 1 = .ok (.getfield 176, 3) := by decide +kernel
theorem dX6_readsContender_4 : decode cX6_readsContender 4 = .ok (.ifCond .eq 5, 3) := by decide +kernel
theorem dX6_readsContender_7 : decode cX6_readsContender 7 = .ok (.iconst 1, 1) := by decide +kernel
theorem dX6_readsContender_8 : decode cX6_readsContender 8 = .ok (.ireturn, 1) := by decide +kernel
theorem dX6_readsContender_9 : decode cX6_readsContender 9 = .ok (.aload_n 0, 1) := by decide +kernel
theorem dX6_readsContender_10 : decode cX6_readsContender 10 = .ok (.getfield 179, 3) := by decide +kernel
theorem dX6_readsContender_13 : decode cX6_readsContender 13 = .ok (.iconst 2, 1) := by decide +kernel
theorem dX6_readsContender_14 : decode cX6_readsContender 14 = .ok (.if_icmp .gt 22, 3) := by decide +kernel
theorem dX6_readsContender_17 : decode cX6_readsContender 17 = .ok (.aload_n 0, 1) := by decide +kernel
theorem dX6_readsContender_18 : decode cX6_readsContender 18 = .ok (.getfield 182, 3) := by decide +kernel
theorem dX6_readsContender_21 : decode cX6_readsContender 21 = .ok (.ifCond .eq 15, 3) := by decide +kernel
theorem dX6_readsContender_24 : decode cX6_readsContender 24 = .ok (.aload_n 0, 1) := by decide +kernel
theorem dX6_readsContender_25 : decode cX6_readsContender 25 = .ok (.aload_n 0, 1) := by decide +kernel
theorem dX6_readsContender_26 : decode cX6_readsContender 26 = .ok (.getfield 182, 3) := by decide +kernel
theorem dX6_readsContender_29 : decode cX6_readsContender 29 = .ok (.iload_n 1, 1) := by decide +kernel
theorem dX6_readsContender_30 : decode cX6_readsContender 30 = .ok (.invokevirtual 189, 3) := by decide +kernel
theorem dX6_readsContender_33 : decode cX6_readsContender 33 = .ok (.ifCond .eq 5, 3) := by decide +kernel
theorem dX6_readsContender_36 : decode cX6_readsContender 36 = .ok (.iconst 2, 1) := by decide +kernel
theorem dX6_readsContender_37 : decode cX6_readsContender 37 = .ok (.ireturn, 1) := by decide +kernel
theorem dX6_readsContender_38 : decode cX6_readsContender 38 = .ok (.iload_n 1, 1) := by decide +kernel
theorem dX6_readsContender_39 : decode cX6_readsContender 39 = .ok (.bipush 6, 2) := by decide +kernel
theorem dX6_readsContender_41 : decode cX6_readsContender 41 = .ok (.if_icmp .ne 5, 3) := by decide +kernel
theorem dX6_readsContender_44 : decode cX6_readsContender 44 = .ok (.iconst 3, 1) := by decide +kernel
theorem dX6_readsContender_45 : decode cX6_readsContender 45 = .ok (.ireturn, 1) := by decide +kernel
theorem dX6_readsContender_46 : decode cX6_readsContender 46 = .ok (.aload_n 0, 1) := by decide +kernel
theorem dX6_readsContender_47 : decode cX6_readsContender 47 = .ok (.getfield 22, 3) := by decide +kernel
theorem dX6_readsContender_50 : decode cX6_readsContender 50 = .ok (.iload_n 1, 1) := by decide +kernel
theorem dX6_readsContender_51 : decode cX6_readsContender 51 = .ok (.aload_n 0, 1) := by decide +kernel
theorem dX6_readsContender_52 : decode cX6_readsContender 52 = .ok (.getfield 182, 3) := by decide +kernel
theorem dX6_readsContender_55 : decode cX6_readsContender 55 = .ok (.iastore, 1) := by decide +kernel
theorem dX6_readsContender_56 : decode cX6_readsContender 56 = .ok (.aload_n 0, 1) := by decide +kernel
theorem dX6_readsContender_57 : decode cX6_readsContender 57 = .ok (.invokevirtual 193, 3) := by decide +kernel
theorem dX6_readsContender_60 : decode cX6_readsContender 60 = .ok (.aload_n 0, 1) := by decide +kernel
theorem dX6_readsContender_61 : decode cX6_readsContender 61 = .ok (.getfield 176, 3) := by decide +kernel
theorem dX6_readsContender_64 : decode cX6_readsContender 64 = .ok (.bipush 114, 2) := by decide +kernel
theorem dX6_readsContender_66 : decode cX6_readsContender 66 = .ok (.if_icmp .eq 14, 3) := by decide +kernel
theorem dX6_readsContender_69 : decode cX6_readsContender 69 = .ok (.aload_n 0, 1) := by decide +kernel
theorem dX6_readsContender_70 : decode cX6_readsContender 70 = .ok (.getfield 176, 3) := by decide +kernel
theorem dX6_readsContender_73 : decode cX6_readsContender 73 = .ok (.bipush 98, 2) := by decide +kernel
theorem dX6_readsContender_75 : decode cX6_readsContender 75 = .ok (.if_icmp .eq 5, 3) := by decide +kernel
theorem dX6_readsContender_78 : decode cX6_readsContender 78 = .ok (.iconst 1, 1) := by decide +kernel
theorem dX6_readsContender_79 : decode cX6_readsContender 79 = .ok (.ireturn, 1) := by decide +kernel
theorem dX6_readsContender_80 : decode cX6_readsContender 80 = .ok (.aload_n 0, 1) := by decide +kernel
theorem dX6_readsContender_81 : decode cX6_readsContender 81 = .ok (.getfield 25, 3) := by decide +kernel
theorem dX6_readsContender_84 : decode cX6_readsContender 84 = .ok (.iload_n 1, 1) := by decide +kernel
theorem dX6_readsContender_85 : decode cX6_readsContender 85 = .ok (.aload_n 0, 1) := by decide +kernel
theorem dX6_readsContender_86 : decode cX6_readsContender 86 = .ok (.getfield 176, 3) := by decide +kernel
theorem dX6_readsContender_89 : decode cX6_readsContender 89 = .ok (.bipush 114, 2) := by decide +kernel
theorem dX6_readsContender_91 : decode cX6_readsContender 91 = .ok (.if_icmp .ne 7, 3) := by decide +kernel
theorem dX6_readsContender_94 : decode cX6_readsContender 94 = .ok (.iconst 0, 1) := by decide +kernel
theorem dX6_readsContender_95 : decode cX6_readsContender 95 = .ok (.goto 4, 3) := by decide +kernel
theorem dX6_readsContender_98 : decode cX6_readsContender 98 = .ok (.iconst 1, 1) := by decide +kernel
theorem dX6_readsContender_99 : decode cX6_readsContender 99 = .ok (.iastore, 1) := by decide +kernel
theorem dX6_readsContender_100 : decode cX6_readsContender 100 = .ok (.aload_n 0, 1) := by decide +kernel
theorem dX6_readsContender_101 : decode cX6_readsContender 101 = .ok (.invokevirtual 193, 3) := by decide +kernel
theorem dX6_readsContender_104 : decode cX6_readsContender 104 = .ok (.aload_n 0, 1) := by decide +kernel
theorem dX6_readsContender_105 : decode cX6_readsContender 105 = .ok (.getfield 176, 3) := by decide +kernel
theorem dX6_readsContender_108 : decode cX6_readsContender 108 = .ok (.bipush 59, 2) := by decide +kernel
theorem dX6_readsContender_110 : decode cX6_readsContender 110 = .ok (.if_icmp .eq 5, 3) := by decide +kernel
theorem dX6_readsContender_113 : decode cX6_readsContender 113 = .ok (.iconst 1, 1) := by decide +kernel
theorem dX6_readsContender_114 : decode cX6_readsContender 114 = .ok (.ireturn, 1) := by decide +kernel
theorem dX6_readsContender_115 : decode cX6_readsContender 115 = .ok (.aload_n 0, 1) := by decide +kernel
theorem dX6_readsContender_116 : decode cX6_readsContender 116 = .ok (.invokevirtual 193, 3) := by decide +kernel
theorem dX6_readsContender_119 : decode cX6_readsContender 119 = .ok (.iconst 0, 1) := by decide +kernel
theorem dX6_readsContender_120 : decode cX6_readsContender 120 = .ok (.ireturn, 1) := by decide +kernel
theorem dX6_ring_0 : decode cX6_ring 0 = .ok (.aload_n 0, 1) := by decide +kernel
theorem dX6_ring_1 : decode cX6_ring 1 = .ok (.iconst 0, 1) := by decide +kernel
theorem dX6_ring_2 : decode cX6_ring 2 = .ok (.putfield 170, 3) := by decide +kernel
theorem dX6_ring_5 : decode cX6_ring 5 = .ok (.aload_n 0, 1) := by decide +kernel
theorem dX6_ring_6 : decode cX6_ring 6 = .ok (.invokevirtual 193, 3) := by decide +kernel
theorem dX6_ring_9 : decode cX6_ring 9 = .ok (.iconst 0, 1) := by decide +kernel
theorem dX6_ring_10 : decode cX6_ring 10 = .ok (.istore_n 1, 1) := by decide +kernel
theorem dX6_ring_11 : decode cX6_ring 11 = .ok (.iconst 0, 1) := by decide +kernel
theorem dX6_ring_12 : decode cX6_ring 12 = .ok (.istore_n 2, 1) := by decide +kernel
theorem dX6_ring_13 : decode cX6_ring 13 = .ok (.iload_n 2, 1) := by decide +kernel
theorem dX6_ring_14 : decode cX6_ring 14 = .ok (.ifCond .ne 28, 3) := by decide +kernel
theorem dX6_ring_17 : decode cX6_ring 17 = .ok (.iload_n 1, 1) := by decide +kernel
theorem dX6_ring_18 : decode cX6_ring 18 = .ok (.iconst 2, 1) := by decide +kernel
theorem dX6_ring_19 : decode cX6_ring 19 = .ok (.if_icmp .lt 11, 3) := by decide +kernel
theorem dX6_ring_22 : decode cX6_ring 22 = .ok (.aload_n 0, 1) := by decide +kernel
theorem dX6_ring_23 : decode cX6_ring 23 = .ok (.getfield 176, 3) := by decide +kernel
theorem dX6_ring_26 : decode cX6_ring 26 = .ok (.iconst (-1), 1) := by decide +kernel
theorem dX6_ring_27 : decode cX6_ring 27 = .ok (.if_icmp .eq 15, 3) := by decide +kernel
theorem dX6_ring_30 : decode cX6_ring 30 = .ok (.aload_n 0, 1) := by decide +kernel
theorem dX6_ring_31 : decode cX6_ring 31 = .ok (.iload_n 1, 1) := by decide +kernel
theorem dX6_ring_32 : decode cX6_ring 32 = .ok (.invokevirtual 196, 3) := by decide +kernel
theorem dX6_ring_35 : decode cX6_ring 35 = .ok (.istore_n 2, 1) := by decide +kernel
theorem dX6_ring_36 : decode cX6_ring 36 = .ok (.iinc 1 1, 3) := by decide +kernel
theorem dX6_ring_39 : decode cX6_ring 39 = .ok (.goto (-26), 3) := by decide +kernel
theorem dX6_ring_42 : decode cX6_ring 42 = .ok (.aload_n 0, 1) := by decide +kernel
theorem dX6_ring_43 : decode cX6_ring 43 = .ok (.getfield 176, 3) := by decide +kernel
theorem dX6_ring_46 : decode cX6_ring 46 = .ok (.iconst (-1), 1) := by decide +kernel
theorem dX6_ring_47 : decode cX6_ring 47 = .ok (.if_icmp .ne 10, 3) := by decide +kernel
theorem dX6_ring_50 : decode cX6_ring 50 = .ok (.aload_n 0, 1) := by decide +kernel
theorem dX6_ring_51 : decode cX6_ring 51 = .ok (.getfield 162, 3) := by decide +kernel
theorem dX6_ring_54 : decode cX6_ring 54 = .ok (.goto 7, 3) := by decide +kernel
theorem dX6_ring_57 : decode cX6_ring 57 = .ok (.aload_n 0, 1) := by decide +kernel
theorem dX6_ring_58 : decode cX6_ring 58 = .ok (.getfield 173, 3) := by decide +kernel
theorem dX6_ring_61 : decode cX6_ring 61 = .ok (.istore_n 3, 1) := by decide +kernel
theorem dX6_ring_62 : decode cX6_ring 62 = .ok (.aload_n 0, 1) := by decide +kernel
theorem dX6_ring_63 : decode cX6_ring 63 = .ok (.iconst 0, 1) := by decide +kernel
theorem dX6_ring_64 : decode cX6_ring 64 = .ok (.putfield 162, 3) := by decide +kernel
theorem dX6_ring_67 : decode cX6_ring 67 = .ok (.aload_n 0, 1) := by decide +kernel
theorem dX6_ring_68 : decode cX6_ring 68 = .ok (.iload_n 2, 1) := by decide +kernel
theorem dX6_ring_69 : decode cX6_ring 69 = .ok (.putfield 199, 3) := by decide +kernel
theorem dX6_ring_72 : decode cX6_ring 72 = .ok (.iload_n 2, 1) := by decide +kernel
theorem dX6_ring_73 : decode cX6_ring 73 = .ok (.ifCond .le 8, 3) := by decide +kernel
theorem dX6_ring_76 : decode cX6_ring 76 = .ok (.bipush (-100), 2) := by decide +kernel
theorem dX6_ring_78 : decode cX6_ring 78 = .ok (.iload_n 3, 1) := by decide +kernel
theorem dX6_ring_79 : decode cX6_ring 79 = .ok (.isub, 1) := by decide +kernel
theorem dX6_ring_80 : decode cX6_ring 80 = .ok (.ireturn, 1) := by decide +kernel
theorem dX6_ring_81 : decode cX6_ring 81 = .ok (.aload_n 0, 1) := by decide +kernel
theorem dX6_ring_82 : decode cX6_ring 82 = .ok (.iload_n 1, 1) := by decide +kernel
theorem dX6_ring_83 : decode cX6_ring 83 = .ok (.putfield 41, 3) := by decide +kernel
theorem dX6_ring_86 : decode cX6_ring 86 = .ok (.aload_n 0, 1) := by decide +kernel
theorem dX6_ring_87 : decode cX6_ring 87 = .ok (.iconst 0, 1) := by decide +kernel
theorem dX6_ring_88 : decode cX6_ring 88 = .ok (.putfield 153, 3) := by decide +kernel
theorem dX6_ring_91 : decode cX6_ring 91 = .ok (.iconst 0, 1) := by decide +kernel
theorem dX6_ring_92 : decode cX6_ring 92 = .ok (.istore 4, 2) := by decide +kernel
theorem dX6_ring_94 : decode cX6_ring 94 = .ok (.iload 4, 2) := by decide +kernel
theorem dX6_ring_96 : decode cX6_ring 96 = .ok (.sipush 168, 3) := by decide +kernel
theorem dX6_ring_99 : decode cX6_ring 99 = .ok (.if_icmp .ge 17, 3) := by decide +kernel
theorem dX6_ring_102 : decode cX6_ring 102 = .ok (.aload_n 0, 1) := by decide +kernel
theorem dX6_ring_103 : decode cX6_ring 103 = .ok (.getfield 16, 3) := by decide +kernel
theorem dX6_ring_106 : decode cX6_ring 106 = .ok (.iload 4, 2) := by decide +kernel
theorem dX6_ring_108 : decode cX6_ring 108 = .ok (.iconst 0, 1) := by decide +kernel
theorem dX6_ring_109 : decode cX6_ring 109 = .ok (.iastore, 1) := by decide +kernel
theorem dX6_ring_110 : decode cX6_ring 110 = .ok (.iinc 4 1, 3) := by decide +kernel
theorem dX6_ring_113 : decode cX6_ring 113 = .ok (.goto (-19), 3) := by decide +kernel
theorem dX6_ring_116 : decode cX6_ring 116 = .ok (.iconst 0, 1) := by decide +kernel
theorem dX6_ring_117 : decode cX6_ring 117 = .ok (.istore 4, 2) := by decide +kernel
theorem dX6_ring_119 : decode cX6_ring 119 = .ok (.iload 4, 2) := by decide +kernel
theorem dX6_ring_121 : decode cX6_ring 121 = .ok (.aload_n 0, 1) := by decide +kernel
theorem dX6_ring_122 : decode cX6_ring 122 = .ok (.getfield 41, 3) := by decide +kernel
theorem dX6_ring_125 : decode cX6_ring 125 = .ok (.if_icmp .ge 37, 3) := by decide +kernel
theorem dX6_ring_128 : decode cX6_ring 128 = .ok (.aload_n 0, 1) := by decide +kernel
theorem dX6_ring_129 : decode cX6_ring 129 = .ok (.getfield 7, 3) := by decide +kernel
theorem dX6_ring_132 : decode cX6_ring 132 = .ok (.iload 4, 2) := by decide +kernel
theorem dX6_ring_134 : decode cX6_ring 134 = .ok (.aload_n 0, 1) := by decide +kernel
theorem dX6_ring_135 : decode cX6_ring 135 = .ok (.getfield 22, 3) := by decide +kernel
theorem dX6_ring_138 : decode cX6_ring 138 = .ok (.iload 4, 2) := by decide +kernel
theorem dX6_ring_140 : decode cX6_ring 140 = .ok (.iaload, 1) := by decide +kernel
theorem dX6_ring_141 : decode cX6_ring 141 = .ok (.iastore, 1) := by decide +kernel
theorem dX6_ring_142 : decode cX6_ring 142 = .ok (.aload_n 0, 1) := by decide +kernel
theorem dX6_ring_143 : decode cX6_ring 143 = .ok (.getfield 13, 3) := by decide +kernel
theorem dX6_ring_146 : decode cX6_ring 146 = .ok (.iload 4, 2) := by decide +kernel
theorem dX6_ring_148 : decode cX6_ring 148 = .ok (.aload_n 0, 1) := by decide +kernel
theorem dX6_ring_149 : decode cX6_ring 149 = .ok (.getfield 25, 3) := by decide +kernel
theorem dX6_ring_152 : decode cX6_ring 152 = .ok (.iload 4, 2) := by decide +kernel
theorem dX6_ring_154 : decode cX6_ring 154 = .ok (.iaload, 1) := by decide +kernel
theorem dX6_ring_155 : decode cX6_ring 155 = .ok (.iastore, 1) := by decide +kernel
theorem dX6_ring_156 : decode cX6_ring 156 = .ok (.iinc 4 1, 3) := by decide +kernel
theorem dX6_ring_159 : decode cX6_ring 159 = .ok (.goto (-40), 3) := by decide +kernel
theorem dX6_ring_162 : decode cX6_ring 162 = .ok (.aload_n 0, 1) := by decide +kernel
theorem dX6_ring_163 : decode cX6_ring 163 = .ok (.invokevirtual 202, 3) := by decide +kernel
theorem dX6_ring_166 : decode cX6_ring 166 = .ok (.aload_n 0, 1) := by decide +kernel
theorem dX6_ring_167 : decode cX6_ring 167 = .ok (.getfield 41, 3) := by decide +kernel
theorem dX6_ring_170 : decode cX6_ring 170 = .ok (.ireturn, 1) := by decide +kernel
theorem dX6_fault_0 : decode cX6_fault 0 = .ok (.aload_n 0, 1) := by decide +kernel
theorem dX6_fault_1 : decode cX6_fault 1 = .ok (.getfield 199, 3) := by decide +kernel
theorem dX6_fault_4 : decode cX6_fault 4 = .ok (.ireturn, 1) := by decide +kernel
theorem dX6_clears_0 : decode cX6_clears 0 = .ok (.iconst 0, 1) := by decide +kernel
theorem dX6_clears_1 : decode cX6_clears 1 = .ok (.istore_n 1, 1) := by decide +kernel
theorem dX6_clears_2 : decode cX6_clears 2 = .ok (.iload_n 1, 1) := by decide +kernel
theorem dX6_clears_3 : decode cX6_clears 3 = .ok (.sipush 168, 3) := by decide +kernel
theorem dX6_clears_6 : decode cX6_clears 6 = .ok (.if_icmp .ge 16, 3) := by decide +kernel
theorem dX6_clears_9 : decode cX6_clears 9 = .ok (.aload_n 0, 1) := by decide +kernel
theorem dX6_clears_10 : decode cX6_clears 10 = .ok (.getfield 16, 3) := by decide +kernel
theorem dX6_clears_13 : decode cX6_clears 13 = .ok (.iload_n 1, 1) := by decide +kernel
theorem dX6_clears_14 : decode cX6_clears 14 = .ok (.iconst 0, 1) := by decide +kernel
theorem dX6_clears_15 : decode cX6_clears 15 = .ok (.iastore, 1) := by decide +kernel
theorem dX6_clears_16 : decode cX6_clears 16 = .ok (.iinc 1 1, 3) := by decide +kernel
theorem dX6_clears_19 : decode cX6_clears 19 = .ok (.goto (-17), 3) := by decide +kernel
theorem dX6_clears_22 : decode cX6_clears 22 = .ok (.iconst 0, 1) := by decide +kernel
theorem dX6_clears_23 : decode cX6_clears 23 = .ok (.istore_n 1, 1) := by decide +kernel
theorem dX6_clears_24 : decode cX6_clears 24 = .ok (.iload_n 1, 1) := by decide +kernel
theorem dX6_clears_25 : decode cX6_clears 25 = .ok (.aload_n 0, 1) := by decide +kernel
theorem dX6_clears_26 : decode cX6_clears 26 = .ok (.getfield 41, 3) := by decide +kernel
theorem dX6_clears_29 : decode cX6_clears 29 = .ok (.if_icmp .ge 46, 3) := by decide +kernel
theorem dX6_clears_32 : decode cX6_clears 32 = .ok (.aload_n 0, 1) := by decide +kernel
theorem dX6_clears_33 : decode cX6_clears 33 = .ok (.iconst 0, 1) := by decide +kernel
theorem dX6_clears_34 : decode cX6_clears 34 = .ok (.iload_n 1, 1) := by decide +kernel
theorem dX6_clears_35 : decode cX6_clears 35 = .ok (.iconst 0, 1) := by decide +kernel
theorem dX6_clears_36 : decode cX6_clears 36 = .ok (.aload_n 0, 1) := by decide +kernel
theorem dX6_clears_37 : decode cX6_clears 37 = .ok (.getfield 13, 3) := by decide +kernel
theorem dX6_clears_40 : decode cX6_clears 40 = .ok (.iload_n 1, 1) := by decide +kernel
theorem dX6_clears_41 : decode cX6_clears 41 = .ok (.iaload, 1) := by decide +kernel
theorem dX6_clears_42 : decode cX6_clears 42 = .ok (.invokevirtual 59, 3) := by decide +kernel
theorem dX6_clears_45 : decode cX6_clears 45 = .ok (.aload_n 0, 1) := by decide +kernel
theorem dX6_clears_46 : decode cX6_clears 46 = .ok (.iconst 0, 1) := by decide +kernel
theorem dX6_clears_47 : decode cX6_clears 47 = .ok (.iload_n 1, 1) := by decide +kernel
theorem dX6_clears_48 : decode cX6_clears 48 = .ok (.iconst 2, 1) := by decide +kernel
theorem dX6_clears_49 : decode cX6_clears 49 = .ok (.iconst (-1), 1) := by decide +kernel
theorem dX6_clears_50 : decode cX6_clears 50 = .ok (.invokevirtual 59, 3) := by decide +kernel
theorem dX6_clears_53 : decode cX6_clears 53 = .ok (.aload_n 0, 1) := by decide +kernel
theorem dX6_clears_54 : decode cX6_clears 54 = .ok (.iconst 0, 1) := by decide +kernel
theorem dX6_clears_55 : decode cX6_clears 55 = .ok (.iload_n 1, 1) := by decide +kernel
theorem dX6_clears_56 : decode cX6_clears 56 = .ok (.iconst 3, 1) := by decide +kernel
theorem dX6_clears_57 : decode cX6_clears 57 = .ok (.iconst (-1), 1) := by decide +kernel
theorem dX6_clears_58 : decode cX6_clears 58 = .ok (.invokevirtual 59, 3) := by decide +kernel
theorem dX6_clears_61 : decode cX6_clears 61 = .ok (.aload_n 0, 1) := by decide +kernel
theorem dX6_clears_62 : decode cX6_clears 62 = .ok (.iconst 0, 1) := by decide +kernel
theorem dX6_clears_63 : decode cX6_clears 63 = .ok (.iload_n 1, 1) := by decide +kernel
theorem dX6_clears_64 : decode cX6_clears 64 = .ok (.iconst 4, 1) := by decide +kernel
theorem dX6_clears_65 : decode cX6_clears 65 = .ok (.iconst (-1), 1) := by decide +kernel
theorem dX6_clears_66 : decode cX6_clears 66 = .ok (.invokevirtual 59, 3) := by decide +kernel
theorem dX6_clears_69 : decode cX6_clears 69 = .ok (.iinc 1 1, 3) := by decide +kernel
theorem dX6_clears_72 : decode cX6_clears 72 = .ok (.goto (-48), 3) := by decide +kernel
theorem dX6_clears_75 : decode cX6_clears 75 = .ok (.return_, 1) := by decide +kernel
theorem dX6_begin_0 : decode cX6_begin 0 = .ok (.iload_n 1, 1) := by decide +kernel
theorem dX6_begin_1 : decode cX6_begin 1 = .ok (.i2l, 1) := by decide +kernel
theorem dX6_begin_2 : decode cX6_begin 2 = .ok (.lconst 1, 1) := by decide +kernel
theorem dX6_begin_3 : decode cX6_begin 3 = .ok (.ldc2_w 205, 3) := by decide +kernel
theorem dX6_begin_6 : decode cX6_begin 6 = .ok (.invokestatic 45, 3) := by decide +kernel
theorem dX6_begin_9 : decode cX6_begin 9 = .ok (.ifCond .eq 27, 3) := by decide +kernel
theorem dX6_begin_12 : decode cX6_begin 12 = .ok (.iload_n 2, 1) := by decide +kernel
theorem dX6_begin_13 : decode cX6_begin 13 = .ok (.i2l, 1) := by decide +kernel
theorem dX6_begin_14 : decode cX6_begin 14 = .ok (.lconst 1, 1) := by decide +kernel
theorem dX6_begin_15 : decode cX6_begin 15 = .ok (.ldc2_w 207, 3) := by decide +kernel
theorem dX6_begin_18 : decode cX6_begin 18 = .ok (.invokestatic 45, 3) := by decide +kernel
theorem dX6_begin_21 : decode cX6_begin 21 = .ok (.ifCond .eq 15, 3) := by decide +kernel
theorem dX6_begin_24 : decode cX6_begin 24 = .ok (.iload_n 3, 1) := by decide +kernel
theorem dX6_begin_25 : decode cX6_begin 25 = .ok (.i2l, 1) := by decide +kernel
theorem dX6_begin_26 : decode cX6_begin 26 = .ok (.lconst 1, 1) := by decide +kernel
theorem dX6_begin_27 : decode cX6_begin 27 = .ok (.ldc2_w 209, 3) := by decide +kernel
theorem dX6_begin_30 : decode cX6_begin 30 = .ok (.invokestatic 45, 3) := by decide +kernel
theorem dX6_begin_33 : decode cX6_begin 33 = .ok (.ifCond .ne 6, 3) := by decide +kernel
theorem dX6_begin_36 : decode cX6_begin 36 = .ok (.ldc 161, 2) := by decide +kernel
theorem dX6_begin_38 : decode cX6_begin 38 = .ok (.ireturn, 1) := by decide +kernel
theorem dX6_begin_39 : decode cX6_begin 39 = .ok (.aload_n 0, 1) := by decide +kernel
theorem dX6_begin_40 : decode cX6_begin 40 = .ok (.getfield 41, 3) := by decide +kernel
theorem dX6_begin_43 : decode cX6_begin 43 = .ok (.ifCond .le 7, 3) := by decide +kernel
theorem dX6_begin_46 : decode cX6_begin 46 = .ok (.iconst 1, 1) := by decide +kernel
theorem dX6_begin_47 : decode cX6_begin 47 = .ok (.goto 4, 3) := by decide +kernel
theorem dX6_begin_50 : decode cX6_begin 50 = .ok (.iconst 0, 1) := by decide +kernel
theorem dX6_begin_51 : decode cX6_begin 51 = .ok (.istore 4, 2) := by decide +kernel
theorem dX6_begin_53 : decode cX6_begin 53 = .ok (.iconst 0, 1) := by decide +kernel
theorem dX6_begin_54 : decode cX6_begin 54 = .ok (.istore 5, 2) := by decide +kernel
theorem dX6_begin_56 : decode cX6_begin 56 = .ok (.iload 5, 2) := by decide +kernel
theorem dX6_begin_58 : decode cX6_begin 58 = .ok (.aload_n 0, 1) := by decide +kernel
theorem dX6_begin_59 : decode cX6_begin 59 = .ok (.getfield 41, 3) := by decide +kernel
theorem dX6_begin_62 : decode cX6_begin 62 = .ok (.if_icmp .ge 42, 3) := by decide +kernel
theorem dX6_begin_65 : decode cX6_begin 65 = .ok (.iload 4, 2) := by decide +kernel
theorem dX6_begin_67 : decode cX6_begin 67 = .ok (.ifCond .eq 28, 3) := by decide +kernel
theorem dX6_begin_70 : decode cX6_begin 70 = .ok (.aload_n 0, 1) := by decide +kernel
theorem dX6_begin_71 : decode cX6_begin 71 = .ok (.getfield 13, 3) := by decide +kernel
theorem dX6_begin_74 : decode cX6_begin 74 = .ok (.iload 5, 2) := by decide +kernel
theorem dX6_begin_76 : decode cX6_begin 76 = .ok (.iaload, 1) := by decide +kernel
theorem dX6_begin_77 : decode cX6_begin 77 = .ok (.aload_n 0, 1) := by decide +kernel
theorem dX6_begin_78 : decode cX6_begin 78 = .ok (.getfield 13, 3) := by decide +kernel
theorem dX6_begin_81 : decode cX6_begin 81 = .ok (.iconst 0, 1) := by decide +kernel
theorem dX6_begin_82 : decode cX6_begin 82 = .ok (.iaload, 1) := by decide +kernel
theorem dX6_begin_83 : decode cX6_begin 83 = .ok (.if_icmp .eq 8, 3) := by decide +kernel
theorem dX6_begin_86 : decode cX6_begin 86 = .ok (.iload_n 1, 1) := by decide +kernel
theorem dX6_begin_87 : decode cX6_begin 87 = .ok (.iconst 3, 1) := by decide +kernel
theorem dX6_begin_88 : decode cX6_begin 88 = .ok (.if_icmp .ge 7, 3) := by decide +kernel
theorem dX6_begin_91 : decode cX6_begin 91 = .ok (.iconst 1, 1) := by decide +kernel
theorem dX6_begin_92 : decode cX6_begin 92 = .ok (.goto 4, 3) := by decide +kernel
theorem dX6_begin_95 : decode cX6_begin 95 = .ok (.iconst 0, 1) := by decide +kernel
theorem dX6_begin_96 : decode cX6_begin 96 = .ok (.istore 4, 2) := by decide +kernel
theorem dX6_begin_98 : decode cX6_begin 98 = .ok (.iinc 5 1, 3) := by decide +kernel
theorem dX6_begin_101 : decode cX6_begin 101 = .ok (.goto (-45), 3) := by decide +kernel
theorem dX6_begin_104 : decode cX6_begin 104 = .ok (.iload 4, 2) := by decide +kernel
theorem dX6_begin_106 : decode cX6_begin 106 = .ok (.ifCond .ne 6, 3) := by decide +kernel
theorem dX6_begin_109 : decode cX6_begin 109 = .ok (.ldc 211, 2) := by decide +kernel
theorem dX6_begin_111 : decode cX6_begin 111 = .ok (.ireturn, 1) := by decide +kernel
theorem dX6_begin_112 : decode cX6_begin 112 = .ok (.aload_n 0, 1) := by decide +kernel
theorem dX6_begin_113 : decode cX6_begin 113 = .ok (.invokevirtual 202, 3) := by decide +kernel
theorem dX6_begin_116 : decode cX6_begin 116 = .ok (.aload_n 0, 1) := by decide +kernel
theorem dX6_begin_117 : decode cX6_begin 117 = .ok (.iconst 0, 1) := by decide +kernel
theorem dX6_begin_118 : decode cX6_begin 118 = .ok (.putfield 153, 3) := by decide +kernel
theorem dX6_begin_121 : decode cX6_begin 121 = .ok (.aload_n 0, 1) := by decide +kernel
theorem dX6_begin_122 : decode cX6_begin 122 = .ok (.getfield 16, 3) := by decide +kernel
theorem dX6_begin_125 : decode cX6_begin 125 = .ok (.iconst 0, 1) := by decide +kernel
theorem dX6_begin_126 : decode cX6_begin 126 = .ok (.iload_n 1, 1) := by decide +kernel
theorem dX6_begin_127 : decode cX6_begin 127 = .ok (.iastore, 1) := by decide +kernel
theorem dX6_begin_128 : decode cX6_begin 128 = .ok (.aload_n 0, 1) := by decide +kernel
theorem dX6_begin_129 : decode cX6_begin 129 = .ok (.getfield 16, 3) := by decide +kernel
theorem dX6_begin_132 : decode cX6_begin 132 = .ok (.iconst 1, 1) := by decide +kernel
theorem dX6_begin_133 : decode cX6_begin 133 = .ok (.iload_n 2, 1) := by decide +kernel
theorem dX6_begin_134 : decode cX6_begin 134 = .ok (.iastore, 1) := by decide +kernel
theorem dX6_begin_135 : decode cX6_begin 135 = .ok (.iconst 0, 1) := by decide +kernel
theorem dX6_begin_136 : decode cX6_begin 136 = .ok (.istore 5, 2) := by decide +kernel
theorem dX6_begin_138 : decode cX6_begin 138 = .ok (.iload 5, 2) := by decide +kernel
theorem dX6_begin_140 : decode cX6_begin 140 = .ok (.aload_n 0, 1) := by decide +kernel
theorem dX6_begin_141 : decode cX6_begin 141 = .ok (.getfield 41, 3) := by decide +kernel
theorem dX6_begin_144 : decode cX6_begin 144 = .ok (.if_icmp .ge 31, 3) := by decide +kernel
theorem dX6_begin_147 : decode cX6_begin 147 = .ok (.aload_n 0, 1) := by decide +kernel
theorem dX6_begin_148 : decode cX6_begin 148 = .ok (.iconst 0, 1) := by decide +kernel
theorem dX6_begin_149 : decode cX6_begin 149 = .ok (.iload 5, 2) := by decide +kernel
theorem dX6_begin_151 : decode cX6_begin 151 = .ok (.bipush 8, 2) := by decide +kernel
theorem dX6_begin_153 : decode cX6_begin 153 = .ok (.iload_n 3, 1) := by decide +kernel
theorem dX6_begin_154 : decode cX6_begin 154 = .ok (.i2l, 1) := by decide +kernel
theorem dX6_begin_155 : decode cX6_begin 155 = .ok (.iload 5, 2) := by decide +kernel
theorem dX6_begin_157 : decode cX6_begin 157 = .ok (.iconst 1, 1) := by decide +kernel
theorem dX6_begin_158 : decode cX6_begin 158 = .ok (.iadd, 1) := by decide +kernel
theorem dX6_begin_159 : decode cX6_begin 159 = .ok (.i2l, 1) := by decide +kernel
theorem dX6_begin_160 : decode cX6_begin 160 = .ok (.lmul, 1) := by decide +kernel
theorem dX6_begin_161 : decode cX6_begin 161 = .ok (.ldc2_w 69, 3) := by decide +kernel
theorem dX6_begin_164 : decode cX6_begin 164 = .ok (.lrem, 1) := by decide +kernel
theorem dX6_begin_165 : decode cX6_begin 165 = .ok (.l2i, 1) := by decide +kernel
theorem dX6_begin_166 : decode cX6_begin 166 = .ok (.invokevirtual 59, 3) := by decide +kernel
theorem dX6_begin_169 : decode cX6_begin 169 = .ok (.iinc 5 1, 3) := by decide +kernel
theorem dX6_begin_172 : decode cX6_begin 172 = .ok (.goto (-34), 3) := by decide +kernel
theorem dX6_begin_175 : decode cX6_begin 175 = .ok (.iconst 1, 1) := by decide +kernel
theorem dX6_begin_176 : decode cX6_begin 176 = .ok (.ireturn, 1) := by decide +kernel
theorem dX6_wake_0 : decode cX6_wake 0 = .ok (.aload_n 0, 1) := by decide +kernel
theorem dX6_wake_1 : decode cX6_wake 1 = .ok (.iload_n 1, 1) := by decide +kernel
theorem dX6_wake_2 : decode cX6_wake 2 = .ok (.invokevirtual 212, 3) := by decide +kernel
theorem dX6_wake_5 : decode cX6_wake 5 = .ok (.ifCond .ne 6, 3) := by decide +kernel
theorem dX6_wake_8 : decode cX6_wake 8 = .ok (.ldc 215, 2) := by decide +kernel
theorem dX6_wake_10 : decode cX6_wake 10 = .ok (.ireturn, 1) := by decide +kernel
theorem dX6_wake_11 : decode cX6_wake 11 = .ok (.aload_n 0, 1) := by decide +kernel
theorem dX6_wake_12 : decode cX6_wake 12 = .ok (.invokevirtual 216, 3) := by decide +kernel
theorem dX6_wake_15 : decode cX6_wake 15 = .ok (.ifCond .eq 13, 3) := by decide +kernel
theorem dX6_wake_18 : decode cX6_wake 18 = .ok (.aload_n 0, 1) := by decide +kernel
theorem dX6_wake_19 : decode cX6_wake 19 = .ok (.iconst 0, 1) := by decide +kernel
theorem dX6_wake_20 : decode cX6_wake 20 = .ok (.iload_n 1, 1) := by decide +kernel
theorem dX6_wake_21 : decode cX6_wake 21 = .ok (.iconst 1, 1) := by decide +kernel
theorem dX6_wake_22 : decode cX6_wake 22 = .ok (.invokevirtual 56, 3) := by decide +kernel
theorem dX6_wake_25 : decode cX6_wake 25 = .ok (.ifCond .eq 6, 3) := by decide +kernel
theorem dX6_wake_28 : decode cX6_wake 28 = .ok (.ldc 211, 2) := by decide +kernel
theorem dX6_wake_30 : decode cX6_wake 30 = .ok (.ireturn, 1) := by decide +kernel
theorem dX6_wake_31 : decode cX6_wake 31 = .ok (.aload_n 0, 1) := by decide +kernel
theorem dX6_wake_32 : decode cX6_wake 32 = .ok (.invokevirtual 220, 3) := by decide +kernel
theorem dX6_wake_35 : decode cX6_wake 35 = .ok (.aload_n 0, 1) := by decide +kernel
theorem dX6_wake_36 : decode cX6_wake 36 = .ok (.getfield 16, 3) := by decide +kernel
theorem dX6_wake_39 : decode cX6_wake 39 = .ok (.iconst 3, 1) := by decide +kernel
theorem dX6_wake_40 : decode cX6_wake 40 = .ok (.iaload, 1) := by decide +kernel
theorem dX6_wake_41 : decode cX6_wake 41 = .ok (.istore_n 2, 1) := by decide +kernel
theorem dX6_wake_42 : decode cX6_wake 42 = .ok (.aload_n 0, 1) := by decide +kernel
theorem dX6_wake_43 : decode cX6_wake 43 = .ok (.iconst 0, 1) := by decide +kernel
theorem dX6_wake_44 : decode cX6_wake 44 = .ok (.iload_n 1, 1) := by decide +kernel
theorem dX6_wake_45 : decode cX6_wake 45 = .ok (.invokevirtual 223, 3) := by decide +kernel
theorem dX6_wake_48 : decode cX6_wake 48 = .ok (.aload_n 0, 1) := by decide +kernel
theorem dX6_wake_49 : decode cX6_wake 49 = .ok (.getfield 16, 3) := by decide +kernel
theorem dX6_wake_52 : decode cX6_wake 52 = .ok (.iconst 3, 1) := by decide +kernel
theorem dX6_wake_53 : decode cX6_wake 53 = .ok (.iaload, 1) := by decide +kernel
theorem dX6_wake_54 : decode cX6_wake 54 = .ok (.iload_n 2, 1) := by decide +kernel
theorem dX6_wake_55 : decode cX6_wake 55 = .ok (.isub, 1) := by decide +kernel
theorem dX6_wake_56 : decode cX6_wake 56 = .ok (.ireturn, 1) := by decide +kernel
theorem dX6_deliver_0 : decode cX6_deliver 0 = .ok (.aload_n 0, 1) := by decide +kernel
theorem dX6_deliver_1 : decode cX6_deliver 1 = .ok (.iload_n 1, 1) := by decide +kernel
theorem dX6_deliver_2 : decode cX6_deliver 2 = .ok (.invokevirtual 226, 3) := by decide +kernel
theorem dX6_deliver_5 : decode cX6_deliver 5 = .ok (.ifCond .ne 6, 3) := by decide +kernel
theorem dX6_deliver_8 : decode cX6_deliver 8 = .ok (.ldc 215, 2) := by decide +kernel
theorem dX6_deliver_10 : decode cX6_deliver 10 = .ok (.ireturn, 1) := by decide +kernel
theorem dX6_deliver_11 : decode cX6_deliver 11 = .ok (.aload_n 0, 1) := by decide +kernel
theorem dX6_deliver_12 : decode cX6_deliver 12 = .ok (.invokevirtual 216, 3) := by decide +kernel
theorem dX6_deliver_15 : decode cX6_deliver 15 = .ok (.ifCond .eq 12, 3) := by decide +kernel
theorem dX6_deliver_18 : decode cX6_deliver 18 = .ok (.aload_n 0, 1) := by decide +kernel
theorem dX6_deliver_19 : decode cX6_deliver 19 = .ok (.iconst 0, 1) := by decide +kernel
theorem dX6_deliver_20 : decode cX6_deliver 20 = .ok (.iload_n 1, 1) := by decide +kernel
theorem dX6_deliver_21 : decode cX6_deliver 21 = .ok (.invokevirtual 133, 3) := by decide +kernel
theorem dX6_deliver_24 : decode cX6_deliver 24 = .ok (.ifCond .ne 6, 3) := by decide +kernel
theorem dX6_deliver_27 : decode cX6_deliver 27 = .ok (.ldc 211, 2) := by decide +kernel
theorem dX6_deliver_29 : decode cX6_deliver 29 = .ok (.ireturn, 1) := by decide +kernel
theorem dX6_deliver_30 : decode cX6_deliver 30 = .ok (.aload_n 0, 1) := by decide +kernel
theorem dX6_deliver_31 : decode cX6_deliver 31 = .ok (.invokevirtual 220, 3) := by decide +kernel
theorem dX6_deliver_34 : decode cX6_deliver 34 = .ok (.aload_n 0, 1) := by decide +kernel
theorem dX6_deliver_35 : decode cX6_deliver 35 = .ok (.iconst 0, 1) := by decide +kernel
theorem dX6_deliver_36 : decode cX6_deliver 36 = .ok (.iload_n 1, 1) := by decide +kernel
theorem dX6_deliver_37 : decode cX6_deliver 37 = .ok (.invokevirtual 150, 3) := by decide +kernel
theorem dX6_deliver_40 : decode cX6_deliver 40 = .ok (.ireturn, 1) := by decide +kernel
theorem dX6_isOrder_0 : decode cX6_isOrder 0 = .ok (.iload_n 0, 1) := by decide +kernel
theorem dX6_isOrder_1 : decode cX6_isOrder 1 = .ok (.i2l, 1) := by decide +kernel
theorem dX6_isOrder_2 : decode cX6_isOrder 2 = .ok (.lconst 0, 1) := by decide +kernel
theorem dX6_isOrder_3 : decode cX6_isOrder 3 = .ok (.ldc2_w 229, 3) := by decide +kernel
theorem dX6_isOrder_6 : decode cX6_isOrder 6 = .ok (.invokestatic 45, 3) := by decide +kernel
theorem dX6_isOrder_9 : decode cX6_isOrder 9 = .ok (.ifCond .eq 19, 3) := by decide +kernel
theorem dX6_isOrder_12 : decode cX6_isOrder 12 = .ok (.iload_n 1, 1) := by decide +kernel
theorem dX6_isOrder_13 : decode cX6_isOrder 13 = .ok (.i2l, 1) := by decide +kernel
theorem dX6_isOrder_14 : decode cX6_isOrder 14 = .ok (.lconst 1, 1) := by decide +kernel
theorem dX6_isOrder_15 : decode cX6_isOrder 15 = .ok (.ldc2_w 209, 3) := by decide +kernel
theorem dX6_isOrder_18 : decode cX6_isOrder 18 = .ok (.invokestatic 45, 3) := by decide +kernel
theorem dX6_isOrder_21 : decode cX6_isOrder 21 = .ok (.ifCond .eq 7, 3) := by decide +kernel
theorem dX6_isOrder_24 : decode cX6_isOrder 24 = .ok (.iconst 1, 1) := by decide +kernel
theorem dX6_isOrder_25 : decode cX6_isOrder 25 = .ok (.goto 4, 3) := by decide +kernel
theorem dX6_isOrder_28 : decode cX6_isOrder 28 = .ok (.iconst 0, 1) := by decide +kernel
theorem dX6_isOrder_29 : decode cX6_isOrder 29 = .ok (.ireturn, 1) := by decide +kernel
theorem dX6_run_0 : decode cX6_run 0 = .ok (.iload_n 1, 1) := by decide +kernel
theorem dX6_run_1 : decode cX6_run 1 = .ok (.iload_n 2, 1) := by decide +kernel
theorem dX6_run_2 : decode cX6_run 2 = .ok (.invokestatic 231, 3) := by decide +kernel
theorem dX6_run_5 : decode cX6_run 5 = .ok (.ifCond .eq 15, 3) := by decide +kernel
theorem dX6_run_8 : decode cX6_run 8 = .ok (.iload_n 3, 1) := by decide +kernel
theorem dX6_run_9 : decode cX6_run 9 = .ok (.i2l, 1) := by decide +kernel
theorem dX6_run_10 : decode cX6_run 10 = .ok (.lconst 0, 1) := by decide +kernel
theorem dX6_run_11 : decode cX6_run 11 = .ok (.ldc2_w 234, 3) := by decide +kernel
theorem dX6_run_14 : decode cX6_run 14 = .ok (.invokestatic 45, 3) := by decide +kernel
theorem dX6_run_17 : decode cX6_run 17 = .ok (.ifCond .ne 6, 3) := by decide +kernel
theorem dX6_run_20 : decode cX6_run 20 = .ok (.ldc 161, 2) := by decide +kernel
theorem dX6_run_22 : decode cX6_run 22 = .ok (.ireturn, 1) := by decide +kernel
theorem dX6_run_23 : decode cX6_run 23 = .ok (.aload_n 0, 1) := by decide +kernel
theorem dX6_run_24 : decode cX6_run 24 = .ok (.invokevirtual 216, 3) := by decide +kernel
theorem dX6_run_27 : decode cX6_run 27 = .ok (.ifCond .ne 6, 3) := by decide +kernel
theorem dX6_run_30 : decode cX6_run 30 = .ok (.ldc 211, 2) := by decide +kernel
theorem dX6_run_32 : decode cX6_run 32 = .ok (.ireturn, 1) := by decide +kernel
theorem dX6_run_33 : decode cX6_run 33 = .ok (.aload_n 0, 1) := by decide +kernel
theorem dX6_run_34 : decode cX6_run 34 = .ok (.iconst 0, 1) := by decide +kernel
theorem dX6_run_35 : decode cX6_run 35 = .ok (.bipush 21, 2) := by decide +kernel
theorem dX6_run_37 : decode cX6_run 37 = .ok (.invokevirtual 156, 3) := by decide +kernel
theorem dX6_run_40 : decode cX6_run 40 = .ok (.aload_n 0, 1) := by decide +kernel
theorem dX6_run_41 : decode cX6_run 41 = .ok (.bipush 21, 2) := by decide +kernel
theorem dX6_run_43 : decode cX6_run 43 = .ok (.iload_n 1, 1) := by decide +kernel
theorem dX6_run_44 : decode cX6_run 44 = .ok (.iload_n 2, 1) := by decide +kernel
theorem dX6_run_45 : decode cX6_run 45 = .ok (.iload_n 3, 1) := by decide +kernel
theorem dX6_run_46 : decode cX6_run 46 = .ok (.invokevirtual 236, 3) := by decide +kernel
theorem dX6_run_49 : decode cX6_run 49 = .ok (.istore 4, 2) := by decide +kernel
theorem dX6_run_51 : decode cX6_run 51 = .ok (.iload 4, 2) := by decide +kernel
theorem dX6_run_53 : decode cX6_run 53 = .ok (.ifCond .le 14, 3) := by decide +kernel
theorem dX6_run_56 : decode cX6_run 56 = .ok (.aload_n 0, 1) := by decide +kernel
theorem dX6_run_57 : decode cX6_run 57 = .ok (.invokevirtual 220, 3) := by decide +kernel
theorem dX6_run_60 : decode cX6_run 60 = .ok (.aload_n 0, 1) := by decide +kernel
theorem dX6_run_61 : decode cX6_run 61 = .ok (.bipush 21, 2) := by decide +kernel
theorem dX6_run_63 : decode cX6_run 63 = .ok (.iconst 0, 1) := by decide +kernel
theorem dX6_run_64 : decode cX6_run 64 = .ok (.invokevirtual 156, 3) := by decide +kernel
theorem dX6_run_67 : decode cX6_run 67 = .ok (.iload 4, 2) := by decide +kernel
theorem dX6_run_69 : decode cX6_run 69 = .ok (.ireturn, 1) := by decide +kernel
theorem dX6_undo_0 : decode cX6_undo 0 = .ok (.aload_n 0, 1) := by decide +kernel
theorem dX6_undo_1 : decode cX6_undo 1 = .ok (.getfield 153, 3) := by decide +kernel
theorem dX6_undo_4 : decode cX6_undo 4 = .ok (.ifCond .ne 6, 3) := by decide +kernel
theorem dX6_undo_7 : decode cX6_undo 7 = .ok (.ldc 211, 2) := by decide +kernel
theorem dX6_undo_9 : decode cX6_undo 9 = .ok (.ireturn, 1) := by decide +kernel
theorem dX6_undo_10 : decode cX6_undo 10 = .ok (.aload_n 0, 1) := by decide +kernel
theorem dX6_undo_11 : decode cX6_undo 11 = .ok (.aload_n 0, 1) := by decide +kernel
theorem dX6_undo_12 : decode cX6_undo 12 = .ok (.getfield 153, 3) := by decide +kernel
theorem dX6_undo_15 : decode cX6_undo 15 = .ok (.iconst 0, 1) := by decide +kernel
theorem dX6_undo_16 : decode cX6_undo 16 = .ok (.invokevirtual 156, 3) := by decide +kernel
theorem dX6_undo_19 : decode cX6_undo 19 = .ok (.aload_n 0, 1) := by decide +kernel
theorem dX6_undo_20 : decode cX6_undo 20 = .ok (.dup, 1) := by decide +kernel
theorem dX6_undo_21 : decode cX6_undo 21 = .ok (.getfield 153, 3) := by decide +kernel
theorem dX6_undo_24 : decode cX6_undo 24 = .ok (.iconst 1, 1) := by decide +kernel
theorem dX6_undo_25 : decode cX6_undo 25 = .ok (.isub, 1) := by decide +kernel
theorem dX6_undo_26 : decode cX6_undo 26 = .ok (.putfield 153, 3) := by decide +kernel
theorem dX6_undo_29 : decode cX6_undo 29 = .ok (.aload_n 0, 1) := by decide +kernel
theorem dX6_undo_30 : decode cX6_undo 30 = .ok (.getfield 153, 3) := by decide +kernel
theorem dX6_undo_33 : decode cX6_undo 33 = .ok (.ireturn, 1) := by decide +kernel
theorem dX6_contender_0 : decode cX6_contender 0 = .ok (.aload_n 0, 1) := by decide +kernel
theorem dX6_contender_1 : decode cX6_contender 1 = .ok (.iload_n 1, 1) := by decide +kernel
theorem dX6_contender_2 : decode cX6_contender 2 = .ok (.invokevirtual 212, 3) := by decide +kernel
theorem dX6_contender_5 : decode cX6_contender 5 = .ok (.ifCond .ne 6, 3) := by decide +kernel
theorem dX6_contender_8 : decode cX6_contender 8 = .ok (.ldc 215, 2) := by decide +kernel
theorem dX6_contender_10 : decode cX6_contender 10 = .ok (.ireturn, 1) := by decide +kernel
theorem dX6_contender_11 : decode cX6_contender 11 = .ok (.aload_n 0, 1) := by decide +kernel
theorem dX6_contender_12 : decode cX6_contender 12 = .ok (.getfield 16, 3) := by decide +kernel
theorem dX6_contender_15 : decode cX6_contender 15 = .ok (.iconst 0, 1) := by decide +kernel
theorem dX6_contender_16 : decode cX6_contender 16 = .ok (.iaload, 1) := by decide +kernel
theorem dX6_contender_17 : decode cX6_contender 17 = .ok (.istore_n 3, 1) := by decide +kernel
theorem dX6_contender_18 : decode cX6_contender 18 = .ok (.iload_n 2, 1) := by decide +kernel
theorem dX6_contender_19 : decode cX6_contender 19 = .ok (.tableswitch 121 0 6 #[41, 48, 56, 64, 72, 80, 88], 41) := by decide +kernel
theorem dX6_contender_60 : decode cX6_contender 60 = .ok (.aload_n 0, 1) := by decide +kernel
theorem dX6_contender_61 : decode cX6_contender 61 = .ok (.getfield 7, 3) := by decide +kernel
theorem dX6_contender_64 : decode cX6_contender 64 = .ok (.iload_n 1, 1) := by decide +kernel
theorem dX6_contender_65 : decode cX6_contender 65 = .ok (.iaload, 1) := by decide +kernel
theorem dX6_contender_66 : decode cX6_contender 66 = .ok (.ireturn, 1) := by decide +kernel
theorem dX6_contender_67 : decode cX6_contender 67 = .ok (.aload_n 0, 1) := by decide +kernel
theorem dX6_contender_68 : decode cX6_contender 68 = .ok (.iconst 0, 1) := by decide +kernel
theorem dX6_contender_69 : decode cX6_contender 69 = .ok (.iload_n 1, 1) := by decide +kernel
theorem dX6_contender_70 : decode cX6_contender 70 = .ok (.iconst 0, 1) := by decide +kernel
theorem dX6_contender_71 : decode cX6_contender 71 = .ok (.invokevirtual 56, 3) := by decide +kernel
theorem dX6_contender_74 : decode cX6_contender 74 = .ok (.ireturn, 1) := by decide +kernel
theorem dX6_contender_75 : decode cX6_contender 75 = .ok (.aload_n 0, 1) := by decide +kernel
theorem dX6_contender_76 : decode cX6_contender 76 = .ok (.iconst 0, 1) := by decide +kernel
theorem dX6_contender_77 : decode cX6_contender 77 = .ok (.iload_n 1, 1) := by decide +kernel
theorem dX6_contender_78 : decode cX6_contender 78 = .ok (.iconst 1, 1) := by decide +kernel
theorem dX6_contender_79 : decode cX6_contender 79 = .ok (.invokevirtual 56, 3) := by decide +kernel
theorem dX6_contender_82 : decode cX6_contender 82 = .ok (.ireturn, 1) := by decide +kernel
theorem dX6_contender_83 : decode cX6_contender 83 = .ok (.aload_n 0, 1) := by decide +kernel
theorem dX6_contender_84 : decode cX6_contender 84 = .ok (.iconst 0, 1) := by decide +kernel
theorem dX6_contender_85 : decode cX6_contender 85 = .ok (.iload_n 1, 1) := by decide +kernel
theorem dX6_contender_86 : decode cX6_contender 86 = .ok (.iconst 2, 1) := by decide +kernel
theorem dX6_contender_87 : decode cX6_contender 87 = .ok (.invokevirtual 56, 3) := by decide +kernel
theorem dX6_contender_90 : decode cX6_contender 90 = .ok (.ireturn, 1) := by decide +kernel
theorem dX6_contender_91 : decode cX6_contender 91 = .ok (.aload_n 0, 1) := by decide +kernel
theorem dX6_contender_92 : decode cX6_contender 92 = .ok (.iconst 0, 1) := by decide +kernel
theorem dX6_contender_93 : decode cX6_contender 93 = .ok (.iload_n 1, 1) := by decide +kernel
theorem dX6_contender_94 : decode cX6_contender 94 = .ok (.iconst 3, 1) := by decide +kernel
theorem dX6_contender_95 : decode cX6_contender 95 = .ok (.invokevirtual 56, 3) := by decide +kernel
theorem dX6_contender_98 : decode cX6_contender 98 = .ok (.ireturn, 1) := by decide +kernel
theorem dX6_contender_99 : decode cX6_contender 99 = .ok (.aload_n 0, 1) := by decide +kernel
theorem dX6_contender_100 : decode cX6_contender 100 = .ok (.iconst 0, 1) := by decide +kernel
theorem dX6_contender_101 : decode cX6_contender 101 = .ok (.iload_n 1, 1) := by decide +kernel
theorem dX6_contender_102 : decode cX6_contender 102 = .ok (.iconst 4, 1) := by decide +kernel
theorem dX6_contender_103 : decode cX6_contender 103 = .ok (.invokevirtual 56, 3) := by decide +kernel
theorem dX6_contender_106 : decode cX6_contender 106 = .ok (.ireturn, 1) := by decide +kernel
theorem dX6_contender_107 : decode cX6_contender 107 = .ok (.iload_n 3, 1) := by decide +kernel
theorem dX6_contender_108 : decode cX6_contender 108 = .ok (.iconst 2, 1) := by decide +kernel
theorem dX6_contender_109 : decode cX6_contender 109 = .ok (.if_icmp .ne 13, 3) := by decide +kernel
theorem dX6_contender_112 : decode cX6_contender 112 = .ok (.aload_n 0, 1) := by decide +kernel
theorem dX6_contender_113 : decode cX6_contender 113 = .ok (.iconst 0, 1) := by decide +kernel
theorem dX6_contender_114 : decode cX6_contender 114 = .ok (.iload_n 1, 1) := by decide +kernel
theorem dX6_contender_115 : decode cX6_contender 115 = .ok (.iconst 5, 1) := by decide +kernel
theorem dX6_contender_116 : decode cX6_contender 116 = .ok (.invokevirtual 56, 3) := by decide +kernel
theorem dX6_contender_119 : decode cX6_contender 119 = .ok (.goto 20, 3) := by decide +kernel
theorem dX6_contender_122 : decode cX6_contender 122 = .ok (.iload_n 3, 1) := by decide +kernel
theorem dX6_contender_123 : decode cX6_contender 123 = .ok (.iconst 3, 1) := by decide +kernel
theorem dX6_contender_124 : decode cX6_contender 124 = .ok (.if_icmp .ne 14, 3) := by decide +kernel
theorem dX6_contender_127 : decode cX6_contender 127 = .ok (.aload_n 0, 1) := by decide +kernel
theorem dX6_contender_128 : decode cX6_contender 128 = .ok (.iconst 0, 1) := by decide +kernel
theorem dX6_contender_129 : decode cX6_contender 129 = .ok (.iload_n 1, 1) := by decide +kernel
theorem dX6_contender_130 : decode cX6_contender 130 = .ok (.bipush 7, 2) := by decide +kernel
theorem dX6_contender_132 : decode cX6_contender 132 = .ok (.invokevirtual 56, 3) := by decide +kernel
theorem dX6_contender_135 : decode cX6_contender 135 = .ok (.goto 4, 3) := by decide +kernel
theorem dX6_contender_138 : decode cX6_contender 138 = .ok (.iconst 0, 1) := by decide +kernel
theorem dX6_contender_139 : decode cX6_contender 139 = .ok (.ireturn, 1) := by decide +kernel
theorem dX6_contender_140 : decode cX6_contender 140 = .ok (.ldc 161, 2) := by decide +kernel
theorem dX6_contender_142 : decode cX6_contender 142 = .ok (.ireturn, 1) := by decide +kernel
theorem dX6_link_0 : decode cX6_link 0 = .ok (.aload_n 0, 1) := by decide +kernel
theorem dX6_link_1 : decode cX6_link 1 = .ok (.iload_n 1, 1) := by decide +kernel
theorem dX6_link_2 : decode cX6_link 2 = .ok (.invokevirtual 226, 3) := by decide +kernel
theorem dX6_link_5 : decode cX6_link 5 = .ok (.ifCond .eq 12, 3) := by decide +kernel
theorem dX6_link_8 : decode cX6_link 8 = .ok (.aload_n 0, 1) := by decide +kernel
theorem dX6_link_9 : decode cX6_link 9 = .ok (.iconst 0, 1) := by decide +kernel
theorem dX6_link_10 : decode cX6_link 10 = .ok (.iload_n 1, 1) := by decide +kernel
theorem dX6_link_11 : decode cX6_link 11 = .ok (.invokevirtual 133, 3) := by decide +kernel
theorem dX6_link_14 : decode cX6_link 14 = .ok (.goto 5, 3) := by decide +kernel
theorem dX6_link_17 : decode cX6_link 17 = .ok (.ldc 215, 2) := by decide +kernel
theorem dX6_link_19 : decode cX6_link 19 = .ok (.ireturn, 1) := by decide +kernel
theorem dX6_letter_0 : decode cX6_letter 0 = .ok (.aload_n 0, 1) := by decide +kernel
theorem dX6_letter_1 : decode cX6_letter 1 = .ok (.iload_n 1, 1) := by decide +kernel
theorem dX6_letter_2 : decode cX6_letter 2 = .ok (.invokevirtual 226, 3) := by decide +kernel
theorem dX6_letter_5 : decode cX6_letter 5 = .ok (.ifCond .eq 21, 3) := by decide +kernel
theorem dX6_letter_8 : decode cX6_letter 8 = .ok (.iload_n 2, 1) := by decide +kernel
theorem dX6_letter_9 : decode cX6_letter 9 = .ok (.i2l, 1) := by decide +kernel
theorem dX6_letter_10 : decode cX6_letter 10 = .ok (.lconst 0, 1) := by decide +kernel
theorem dX6_letter_11 : decode cX6_letter 11 = .ok (.aload_n 0, 1) := by decide +kernel
theorem dX6_letter_12 : decode cX6_letter 12 = .ok (.iconst 0, 1) := by decide +kernel
theorem dX6_letter_13 : decode cX6_letter 13 = .ok (.iload_n 1, 1) := by decide +kernel
theorem dX6_letter_14 : decode cX6_letter 14 = .ok (.invokevirtual 133, 3) := by decide +kernel
theorem dX6_letter_17 : decode cX6_letter 17 = .ok (.iconst 1, 1) := by decide +kernel
theorem dX6_letter_18 : decode cX6_letter 18 = .ok (.isub, 1) := by decide +kernel
theorem dX6_letter_19 : decode cX6_letter 19 = .ok (.i2l, 1) := by decide +kernel
theorem dX6_letter_20 : decode cX6_letter 20 = .ok (.invokestatic 45, 3) := by decide +kernel
theorem dX6_letter_23 : decode cX6_letter 23 = .ok (.ifCond .ne 6, 3) := by decide +kernel
theorem dX6_letter_26 : decode cX6_letter 26 = .ok (.ldc 215, 2) := by decide +kernel
theorem dX6_letter_28 : decode cX6_letter 28 = .ok (.ireturn, 1) := by decide +kernel
theorem dX6_letter_29 : decode cX6_letter 29 = .ok (.iload_n 3, 1) := by decide +kernel
theorem dX6_letter_30 : decode cX6_letter 30 = .ok (.i2l, 1) := by decide +kernel
theorem dX6_letter_31 : decode cX6_letter 31 = .ok (.lconst 0, 1) := by decide +kernel
theorem dX6_letter_32 : decode cX6_letter 32 = .ok (.ldc2_w 205, 3) := by decide +kernel
theorem dX6_letter_35 : decode cX6_letter 35 = .ok (.invokestatic 45, 3) := by decide +kernel
theorem dX6_letter_38 : decode cX6_letter 38 = .ok (.ifCond .eq 25, 3) := by decide +kernel
theorem dX6_letter_41 : decode cX6_letter 41 = .ok (.aload_n 0, 1) := by decide +kernel
theorem dX6_letter_42 : decode cX6_letter 42 = .ok (.getfield 16, 3) := by decide +kernel
theorem dX6_letter_45 : decode cX6_letter 45 = .ok (.iconst 0, 1) := by decide +kernel
theorem dX6_letter_46 : decode cX6_letter 46 = .ok (.aload_n 0, 1) := by decide +kernel
theorem dX6_letter_47 : decode cX6_letter 47 = .ok (.iconst 0, 1) := by decide +kernel
theorem dX6_letter_48 : decode cX6_letter 48 = .ok (.iload_n 1, 1) := by decide +kernel
theorem dX6_letter_49 : decode cX6_letter 49 = .ok (.iload_n 2, 1) := by decide +kernel
theorem dX6_letter_50 : decode cX6_letter 50 = .ok (.invokevirtual 127, 3) := by decide +kernel
theorem dX6_letter_53 : decode cX6_letter 53 = .ok (.iconst 1, 1) := by decide +kernel
theorem dX6_letter_54 : decode cX6_letter 54 = .ok (.iload_n 3, 1) := by decide +kernel
theorem dX6_letter_55 : decode cX6_letter 55 = .ok (.iadd, 1) := by decide +kernel
theorem dX6_letter_56 : decode cX6_letter 56 = .ok (.invokestatic 53, 3) := by decide +kernel
theorem dX6_letter_59 : decode cX6_letter 59 = .ok (.iaload, 1) := by decide +kernel
theorem dX6_letter_60 : decode cX6_letter 60 = .ok (.goto 5, 3) := by decide +kernel
theorem dX6_letter_63 : decode cX6_letter 63 = .ok (.ldc 161, 2) := by decide +kernel
theorem dX6_letter_65 : decode cX6_letter 65 = .ok (.ireturn, 1) := by decide +kernel
theorem dX6_sent_0 : decode cX6_sent 0 = .ok (.iload_n 1, 1) := by decide +kernel
theorem dX6_sent_1 : decode cX6_sent 1 = .ok (.i2l, 1) := by decide +kernel
theorem dX6_sent_2 : decode cX6_sent 2 = .ok (.lconst 0, 1) := by decide +kernel
theorem dX6_sent_3 : decode cX6_sent 3 = .ok (.ldc2_w 240, 3) := by decide +kernel
theorem dX6_sent_6 : decode cX6_sent 6 = .ok (.invokestatic 45, 3) := by decide +kernel
theorem dX6_sent_9 : decode cX6_sent 9 = .ok (.ifCond .eq 14, 3) := by decide +kernel
theorem dX6_sent_12 : decode cX6_sent 12 = .ok (.aload_n 0, 1) := by decide +kernel
theorem dX6_sent_13 : decode cX6_sent 13 = .ok (.getfield 16, 3) := by decide +kernel
theorem dX6_sent_16 : decode cX6_sent 16 = .ok (.iconst 3, 1) := by decide +kernel
theorem dX6_sent_17 : decode cX6_sent 17 = .ok (.iload_n 1, 1) := by decide +kernel
theorem dX6_sent_18 : decode cX6_sent 18 = .ok (.iadd, 1) := by decide +kernel
theorem dX6_sent_19 : decode cX6_sent 19 = .ok (.iaload, 1) := by decide +kernel
theorem dX6_sent_20 : decode cX6_sent 20 = .ok (.goto 5, 3) := by decide +kernel
theorem dX6_sent_23 : decode cX6_sent 23 = .ok (.ldc 161, 2) := by decide +kernel
theorem dX6_sent_25 : decode cX6_sent 25 = .ok (.ireturn, 1) := by decide +kernel
theorem dX6_manyAre_0 : decode cX6_manyAre 0 = .ok (.iconst 0, 1) := by decide +kernel
theorem dX6_manyAre_1 : decode cX6_manyAre 1 = .ok (.istore_n 3, 1) := by decide +kernel
theorem dX6_manyAre_2 : decode cX6_manyAre 2 = .ok (.iconst 0, 1) := by decide +kernel
theorem dX6_manyAre_3 : decode cX6_manyAre 3 = .ok (.istore 4, 2) := by decide +kernel
theorem dX6_manyAre_5 : decode cX6_manyAre 5 = .ok (.iload 4, 2) := by decide +kernel
theorem dX6_manyAre_7 : decode cX6_manyAre 7 = .ok (.aload_n 0, 1) := by decide +kernel
theorem dX6_manyAre_8 : decode cX6_manyAre 8 = .ok (.getfield 41, 3) := by decide +kernel
theorem dX6_manyAre_11 : decode cX6_manyAre 11 = .ok (.if_icmp .ge 29, 3) := by decide +kernel
theorem dX6_manyAre_14 : decode cX6_manyAre 14 = .ok (.iload_n 3, 1) := by decide +kernel
theorem dX6_manyAre_15 : decode cX6_manyAre 15 = .ok (.aload_n 0, 1) := by decide +kernel
theorem dX6_manyAre_16 : decode cX6_manyAre 16 = .ok (.iload_n 1, 1) := by decide +kernel
theorem dX6_manyAre_17 : decode cX6_manyAre 17 = .ok (.iload 4, 2) := by decide +kernel
theorem dX6_manyAre_19 : decode cX6_manyAre 19 = .ok (.iconst 1, 1) := by decide +kernel
theorem dX6_manyAre_20 : decode cX6_manyAre 20 = .ok (.invokevirtual 56, 3) := by decide +kernel
theorem dX6_manyAre_23 : decode cX6_manyAre 23 = .ok (.iload_n 2, 1) := by decide +kernel
theorem dX6_manyAre_24 : decode cX6_manyAre 24 = .ok (.if_icmp .ne 7, 3) := by decide +kernel
theorem dX6_manyAre_27 : decode cX6_manyAre 27 = .ok (.iconst 1, 1) := by decide +kernel
theorem dX6_manyAre_28 : decode cX6_manyAre 28 = .ok (.goto 4, 3) := by decide +kernel
theorem dX6_manyAre_31 : decode cX6_manyAre 31 = .ok (.iconst 0, 1) := by decide +kernel
theorem dX6_manyAre_32 : decode cX6_manyAre 32 = .ok (.iadd, 1) := by decide +kernel
theorem dX6_manyAre_33 : decode cX6_manyAre 33 = .ok (.istore_n 3, 1) := by decide +kernel
theorem dX6_manyAre_34 : decode cX6_manyAre 34 = .ok (.iinc 4 1, 3) := by decide +kernel
theorem dX6_manyAre_37 : decode cX6_manyAre 37 = .ok (.goto (-32), 3) := by decide +kernel
theorem dX6_manyAre_40 : decode cX6_manyAre 40 = .ok (.iload_n 3, 1) := by decide +kernel
theorem dX6_manyAre_41 : decode cX6_manyAre 41 = .ok (.ireturn, 1) := by decide +kernel
theorem dX6_headOf_0 : decode cX6_headOf 0 = .ok (.iconst (-1), 1) := by decide +kernel
theorem dX6_headOf_1 : decode cX6_headOf 1 = .ok (.istore_n 2, 1) := by decide +kernel
theorem dX6_headOf_2 : decode cX6_headOf 2 = .ok (.aload_n 0, 1) := by decide +kernel
theorem dX6_headOf_3 : decode cX6_headOf 3 = .ok (.getfield 41, 3) := by decide +kernel
theorem dX6_headOf_6 : decode cX6_headOf 6 = .ok (.iconst 1, 1) := by decide +kernel
theorem dX6_headOf_7 : decode cX6_headOf 7 = .ok (.isub, 1) := by decide +kernel
theorem dX6_headOf_8 : decode cX6_headOf 8 = .ok (.istore_n 3, 1) := by decide +kernel
theorem dX6_headOf_9 : decode cX6_headOf 9 = .ok (.iload_n 3, 1) := by decide +kernel
theorem dX6_headOf_10 : decode cX6_headOf 10 = .ok (.ifCond .lt 26, 3) := by decide +kernel
theorem dX6_headOf_13 : decode cX6_headOf 13 = .ok (.aload_n 0, 1) := by decide +kernel
theorem dX6_headOf_14 : decode cX6_headOf 14 = .ok (.iload_n 1, 1) := by decide +kernel
theorem dX6_headOf_15 : decode cX6_headOf 15 = .ok (.iload_n 3, 1) := by decide +kernel
theorem dX6_headOf_16 : decode cX6_headOf 16 = .ok (.iconst 1, 1) := by decide +kernel
theorem dX6_headOf_17 : decode cX6_headOf 17 = .ok (.invokevirtual 56, 3) := by decide +kernel
theorem dX6_headOf_20 : decode cX6_headOf 20 = .ok (.iconst 3, 1) := by decide +kernel
theorem dX6_headOf_21 : decode cX6_headOf 21 = .ok (.if_icmp .ne 7, 3) := by decide +kernel
theorem dX6_headOf_24 : decode cX6_headOf 24 = .ok (.iload_n 3, 1) := by decide +kernel
theorem dX6_headOf_25 : decode cX6_headOf 25 = .ok (.goto 4, 3) := by decide +kernel
theorem dX6_headOf_28 : decode cX6_headOf 28 = .ok (.iload_n 2, 1) := by decide +kernel
theorem dX6_headOf_29 : decode cX6_headOf 29 = .ok (.istore_n 2, 1) := by decide +kernel
theorem dX6_headOf_30 : decode cX6_headOf 30 = .ok (.iinc 3 (-1), 3) := by decide +kernel
theorem dX6_headOf_33 : decode cX6_headOf 33 = .ok (.goto (-24), 3) := by decide +kernel
theorem dX6_headOf_36 : decode cX6_headOf 36 = .ok (.iload_n 2, 1) := by decide +kernel
theorem dX6_headOf_37 : decode cX6_headOf 37 = .ok (.ireturn, 1) := by decide +kernel
theorem dX6_would_0 : decode cX6_would 0 = .ok (.iload_n 1, 1) := by decide +kernel
theorem dX6_would_1 : decode cX6_would 1 = .ok (.iload_n 2, 1) := by decide +kernel
theorem dX6_would_2 : decode cX6_would 2 = .ok (.invokestatic 231, 3) := by decide +kernel
theorem dX6_would_5 : decode cX6_would 5 = .ok (.ifCond .eq 15, 3) := by decide +kernel
theorem dX6_would_8 : decode cX6_would 8 = .ok (.iload_n 3, 1) := by decide +kernel
theorem dX6_would_9 : decode cX6_would 9 = .ok (.i2l, 1) := by decide +kernel
theorem dX6_would_10 : decode cX6_would 10 = .ok (.lconst 0, 1) := by decide +kernel
theorem dX6_would_11 : decode cX6_would 11 = .ok (.ldc2_w 205, 3) := by decide +kernel
theorem dX6_would_14 : decode cX6_would 14 = .ok (.invokestatic 45, 3) := by decide +kernel
theorem dX6_would_17 : decode cX6_would 17 = .ok (.ifCond .ne 6, 3) := by decide +kernel
theorem dX6_would_20 : decode cX6_would 20 = .ok (.ldc 161, 2) := by decide +kernel
theorem dX6_would_22 : decode cX6_would 22 = .ok (.ireturn, 1) := by decide +kernel
theorem dX6_would_23 : decode cX6_would 23 = .ok (.aload_n 0, 1) := by decide +kernel
theorem dX6_would_24 : decode cX6_would 24 = .ok (.invokevirtual 216, 3) := by decide +kernel
theorem dX6_would_27 : decode cX6_would 27 = .ok (.ifCond .ne 6, 3) := by decide +kernel
theorem dX6_would_30 : decode cX6_would 30 = .ok (.ldc 211, 2) := by decide +kernel
theorem dX6_would_32 : decode cX6_would 32 = .ok (.ireturn, 1) := by decide +kernel
theorem dX6_would_33 : decode cX6_would 33 = .ok (.aload_n 0, 1) := by decide +kernel
theorem dX6_would_34 : decode cX6_would 34 = .ok (.iconst 0, 1) := by decide +kernel
theorem dX6_would_35 : decode cX6_would 35 = .ok (.bipush 21, 2) := by decide +kernel
theorem dX6_would_37 : decode cX6_would 37 = .ok (.invokevirtual 156, 3) := by decide +kernel
theorem dX6_would_40 : decode cX6_would 40 = .ok (.aload_n 0, 1) := by decide +kernel
theorem dX6_would_41 : decode cX6_would 41 = .ok (.bipush 21, 2) := by decide +kernel
theorem dX6_would_43 : decode cX6_would 43 = .ok (.iload_n 1, 1) := by decide +kernel
theorem dX6_would_44 : decode cX6_would 44 = .ok (.iload_n 2, 1) := by decide +kernel
theorem dX6_would_45 : decode cX6_would 45 = .ok (.sipush 300, 3) := by decide +kernel
theorem dX6_would_48 : decode cX6_would 48 = .ok (.invokevirtual 236, 3) := by decide +kernel
theorem dX6_would_51 : decode cX6_would 51 = .ok (.istore 4, 2) := by decide +kernel
theorem dX6_would_53 : decode cX6_would 53 = .ok (.iload_n 3, 1) := by decide +kernel
theorem dX6_would_54 : decode cX6_would 54 = .ok (.tableswitch 72 0 3 #[30, 33, 49, 56], 30) := by decide +kernel
theorem dX6_would_84 : decode cX6_would 84 = .ok (.iload 4, 2) := by decide +kernel
theorem dX6_would_86 : decode cX6_would 86 = .ok (.ireturn, 1) := by decide +kernel
theorem dX6_would_87 : decode cX6_would 87 = .ok (.aload_n 0, 1) := by decide +kernel
theorem dX6_would_88 : decode cX6_would 88 = .ok (.getfield 16, 3) := by decide +kernel
theorem dX6_would_91 : decode cX6_would 91 = .ok (.sipush 3531, 3) := by decide +kernel
theorem dX6_would_94 : decode cX6_would 94 = .ok (.iaload, 1) := by decide +kernel
theorem dX6_would_95 : decode cX6_would 95 = .ok (.aload_n 0, 1) := by decide +kernel
theorem dX6_would_96 : decode cX6_would 96 = .ok (.getfield 16, 3) := by decide +kernel
theorem dX6_would_99 : decode cX6_would 99 = .ok (.iconst 3, 1) := by decide +kernel
theorem dX6_would_100 : decode cX6_would 100 = .ok (.iaload, 1) := by decide +kernel
theorem dX6_would_101 : decode cX6_would 101 = .ok (.isub, 1) := by decide +kernel
theorem dX6_would_102 : decode cX6_would 102 = .ok (.ireturn, 1) := by decide +kernel
theorem dX6_would_103 : decode cX6_would 103 = .ok (.aload_n 0, 1) := by decide +kernel
theorem dX6_would_104 : decode cX6_would 104 = .ok (.bipush 21, 2) := by decide +kernel
theorem dX6_would_106 : decode cX6_would 106 = .ok (.invokevirtual 242, 3) := by decide +kernel
theorem dX6_would_109 : decode cX6_would 109 = .ok (.ireturn, 1) := by decide +kernel
theorem dX6_would_110 : decode cX6_would 110 = .ok (.aload_n 0, 1) := by decide +kernel
theorem dX6_would_111 : decode cX6_would 111 = .ok (.bipush 21, 2) := by decide +kernel
theorem dX6_would_113 : decode cX6_would 113 = .ok (.iconst 3, 1) := by decide +kernel
theorem dX6_would_114 : decode cX6_would 114 = .ok (.invokevirtual 245, 3) := by decide +kernel
theorem dX6_would_117 : decode cX6_would 117 = .ok (.aload_n 0, 1) := by decide +kernel
theorem dX6_would_118 : decode cX6_would 118 = .ok (.bipush 21, 2) := by decide +kernel
theorem dX6_would_120 : decode cX6_would 120 = .ok (.iconst 4, 1) := by decide +kernel
theorem dX6_would_121 : decode cX6_would 121 = .ok (.invokevirtual 245, 3) := by decide +kernel
theorem dX6_would_124 : decode cX6_would 124 = .ok (.iadd, 1) := by decide +kernel
theorem dX6_would_125 : decode cX6_would 125 = .ok (.ireturn, 1) := by decide +kernel
theorem dX6_would_126 : decode cX6_would 126 = .ok (.aload_n 0, 1) := by decide +kernel
theorem dX6_would_127 : decode cX6_would 127 = .ok (.getfield 16, 3) := by decide +kernel
theorem dX6_would_130 : decode cX6_would 130 = .ok (.sipush 3530, 3) := by decide +kernel
theorem dX6_would_133 : decode cX6_would 133 = .ok (.iaload, 1) := by decide +kernel
theorem dX6_would_134 : decode cX6_would 134 = .ok (.ifCond .ne 7, 3) := by decide +kernel
theorem dX6_would_137 : decode cX6_would 137 = .ok (.iconst 1, 1) := by decide +kernel
theorem dX6_would_138 : decode cX6_would 138 = .ok (.goto 4, 3) := by decide +kernel
theorem dX6_would_141 : decode cX6_would 141 = .ok (.iconst 0, 1) := by decide +kernel
theorem dX6_would_142 : decode cX6_would 142 = .ok (.ireturn, 1) := by decide +kernel
theorem dX6_tallies_0 : decode cX6_tallies 0 = .ok (.aload_n 0, 1) := by decide +kernel
theorem dX6_tallies_1 : decode cX6_tallies 1 = .ok (.getfield 16, 3) := by decide +kernel
theorem dX6_tallies_4 : decode cX6_tallies 4 = .ok (.sipush 168, 3) := by decide +kernel
theorem dX6_tallies_7 : decode cX6_tallies 7 = .ok (.iload_n 1, 1) := by decide +kernel
theorem dX6_tallies_8 : decode cX6_tallies 8 = .ok (.imul, 1) := by decide +kernel
theorem dX6_tallies_9 : decode cX6_tallies 9 = .ok (.iconst 3, 1) := by decide +kernel
theorem dX6_tallies_10 : decode cX6_tallies 10 = .ok (.iadd, 1) := by decide +kernel
theorem dX6_tallies_11 : decode cX6_tallies 11 = .ok (.iaload, 1) := by decide +kernel
theorem dX6_tallies_12 : decode cX6_tallies 12 = .ok (.aload_n 0, 1) := by decide +kernel
theorem dX6_tallies_13 : decode cX6_tallies 13 = .ok (.getfield 16, 3) := by decide +kernel
theorem dX6_tallies_16 : decode cX6_tallies 16 = .ok (.iconst 3, 1) := by decide +kernel
theorem dX6_tallies_17 : decode cX6_tallies 17 = .ok (.iaload, 1) := by decide +kernel
theorem dX6_tallies_18 : decode cX6_tallies 18 = .ok (.isub, 1) := by decide +kernel
theorem dX6_tallies_19 : decode cX6_tallies 19 = .ok (.istore_n 2, 1) := by decide +kernel
theorem dX6_tallies_20 : decode cX6_tallies 20 = .ok (.aload_n 0, 1) := by decide +kernel
theorem dX6_tallies_21 : decode cX6_tallies 21 = .ok (.aload_n 0, 1) := by decide +kernel
theorem dX6_tallies_22 : decode cX6_tallies 22 = .ok (.getfield 248, 3) := by decide +kernel
theorem dX6_tallies_25 : decode cX6_tallies 25 = .ok (.ifCond .eq 11, 3) := by decide +kernel
theorem dX6_tallies_28 : decode cX6_tallies 28 = .ok (.iload_n 2, 1) := by decide +kernel
theorem dX6_tallies_29 : decode cX6_tallies 29 = .ok (.aload_n 0, 1) := by decide +kernel
theorem dX6_tallies_30 : decode cX6_tallies 30 = .ok (.getfield 251, 3) := by decide +kernel
theorem dX6_tallies_33 : decode cX6_tallies 33 = .ok (.if_icmp .ge 7, 3) := by decide +kernel
theorem dX6_tallies_36 : decode cX6_tallies 36 = .ok (.iload_n 2, 1) := by decide +kernel
theorem dX6_tallies_37 : decode cX6_tallies 37 = .ok (.goto 7, 3) := by decide +kernel
theorem dX6_tallies_40 : decode cX6_tallies 40 = .ok (.aload_n 0, 1) := by decide +kernel
theorem dX6_tallies_41 : decode cX6_tallies 41 = .ok (.getfield 251, 3) := by decide +kernel
theorem dX6_tallies_44 : decode cX6_tallies 44 = .ok (.putfield 251, 3) := by decide +kernel
theorem dX6_tallies_47 : decode cX6_tallies 47 = .ok (.aload_n 0, 1) := by decide +kernel
theorem dX6_tallies_48 : decode cX6_tallies 48 = .ok (.iload_n 2, 1) := by decide +kernel
theorem dX6_tallies_49 : decode cX6_tallies 49 = .ok (.aload_n 0, 1) := by decide +kernel
theorem dX6_tallies_50 : decode cX6_tallies 50 = .ok (.getfield 254, 3) := by decide +kernel
theorem dX6_tallies_53 : decode cX6_tallies 53 = .ok (.if_icmp .le 7, 3) := by decide +kernel
theorem dX6_tallies_56 : decode cX6_tallies 56 = .ok (.iload_n 2, 1) := by decide +kernel
theorem dX6_tallies_57 : decode cX6_tallies 57 = .ok (.goto 7, 3) := by decide +kernel
theorem dX6_tallies_60 : decode cX6_tallies 60 = .ok (.aload_n 0, 1) := by decide +kernel
theorem dX6_tallies_61 : decode cX6_tallies 61 = .ok (.getfield 254, 3) := by decide +kernel
theorem dX6_tallies_64 : decode cX6_tallies 64 = .ok (.putfield 254, 3) := by decide +kernel
theorem dX6_tallies_67 : decode cX6_tallies 67 = .ok (.aload_n 0, 1) := by decide +kernel
theorem dX6_tallies_68 : decode cX6_tallies 68 = .ok (.dup, 1) := by decide +kernel
theorem dX6_tallies_69 : decode cX6_tallies 69 = .ok (.getfield 257, 3) := by decide +kernel
theorem dX6_tallies_72 : decode cX6_tallies 72 = .ok (.aload_n 0, 1) := by decide +kernel
theorem dX6_tallies_73 : decode cX6_tallies 73 = .ok (.iload_n 1, 1) := by decide +kernel
theorem dX6_tallies_74 : decode cX6_tallies 74 = .ok (.invokevirtual 242, 3) := by decide +kernel
theorem dX6_tallies_77 : decode cX6_tallies 77 = .ok (.iconst (-1), 1) := by decide +kernel
theorem dX6_tallies_78 : decode cX6_tallies 78 = .ok (.if_icmp .ne 7, 3) := by decide +kernel
theorem dX6_tallies_81 : decode cX6_tallies 81 = .ok (.iconst 0, 1) := by decide +kernel
theorem dX6_tallies_82 : decode cX6_tallies 82 = .ok (.goto 4, 3) := by decide +kernel
theorem dX6_tallies_85 : decode cX6_tallies 85 = .ok (.iconst 1, 1) := by decide +kernel
theorem dX6_tallies_86 : decode cX6_tallies 86 = .ok (.iadd, 1) := by decide +kernel
theorem dX6_tallies_87 : decode cX6_tallies 87 = .ok (.putfield 257, 3) := by decide +kernel
theorem dX6_tallies_90 : decode cX6_tallies 90 = .ok (.aload_n 0, 1) := by decide +kernel
theorem dX6_tallies_91 : decode cX6_tallies 91 = .ok (.dup, 1) := by decide +kernel
theorem dX6_tallies_92 : decode cX6_tallies 92 = .ok (.getfield 248, 3) := by decide +kernel
theorem dX6_tallies_95 : decode cX6_tallies 95 = .ok (.iconst 1, 1) := by decide +kernel
theorem dX6_tallies_96 : decode cX6_tallies 96 = .ok (.iadd, 1) := by decide +kernel
theorem dX6_tallies_97 : decode cX6_tallies 97 = .ok (.putfield 248, 3) := by decide +kernel
theorem dX6_tallies_100 : decode cX6_tallies 100 = .ok (.return_, 1) := by decide +kernel
theorem dX6_tries_0 : decode cX6_tries 0 = .ok (.aload_n 0, 1) := by decide +kernel
theorem dX6_tries_1 : decode cX6_tries 1 = .ok (.iconst 0, 1) := by decide +kernel
theorem dX6_tries_2 : decode cX6_tries 2 = .ok (.bipush 21, 2) := by decide +kernel
theorem dX6_tries_4 : decode cX6_tries 4 = .ok (.invokevirtual 156, 3) := by decide +kernel
theorem dX6_tries_7 : decode cX6_tries 7 = .ok (.iconst 0, 1) := by decide +kernel
theorem dX6_tries_8 : decode cX6_tries 8 = .ok (.istore_n 2, 1) := by decide +kernel
theorem dX6_tries_9 : decode cX6_tries 9 = .ok (.aload_n 0, 1) := by decide +kernel
theorem dX6_tries_10 : decode cX6_tries 10 = .ok (.getfield 28, 3) := by decide +kernel
theorem dX6_tries_13 : decode cX6_tries 13 = .ok (.iconst 0, 1) := by decide +kernel
theorem dX6_tries_14 : decode cX6_tries 14 = .ok (.iconst 0, 1) := by decide +kernel
theorem dX6_tries_15 : decode cX6_tries 15 = .ok (.iastore, 1) := by decide +kernel
theorem dX6_tries_16 : decode cX6_tries 16 = .ok (.iload_n 2, 1) := by decide +kernel
theorem dX6_tries_17 : decode cX6_tries 17 = .ok (.ifCond .lt 159, 3) := by decide +kernel
theorem dX6_tries_20 : decode cX6_tries 20 = .ok (.bipush 21, 2) := by decide +kernel
theorem dX6_tries_22 : decode cX6_tries 22 = .ok (.iload_n 2, 1) := by decide +kernel
theorem dX6_tries_23 : decode cX6_tries 23 = .ok (.iadd, 1) := by decide +kernel
theorem dX6_tries_24 : decode cX6_tries 24 = .ok (.istore_n 3, 1) := by decide +kernel
theorem dX6_tries_25 : decode cX6_tries 25 = .ok (.aload_n 0, 1) := by decide +kernel
theorem dX6_tries_26 : decode cX6_tries 26 = .ok (.getfield 28, 3) := by decide +kernel
theorem dX6_tries_29 : decode cX6_tries 29 = .ok (.iload_n 2, 1) := by decide +kernel
theorem dX6_tries_30 : decode cX6_tries 30 = .ok (.iaload, 1) := by decide +kernel
theorem dX6_tries_31 : decode cX6_tries 31 = .ok (.istore 4, 2) := by decide +kernel
theorem dX6_tries_33 : decode cX6_tries 33 = .ok (.iload_n 2, 1) := by decide +kernel
theorem dX6_tries_34 : decode cX6_tries 34 = .ok (.iload_n 1, 1) := by decide +kernel
theorem dX6_tries_35 : decode cX6_tries 35 = .ok (.if_icmp .eq 18, 3) := by decide +kernel
theorem dX6_tries_38 : decode cX6_tries 38 = .ok (.aload_n 0, 1) := by decide +kernel
theorem dX6_tries_39 : decode cX6_tries 39 = .ok (.getfield 16, 3) := by decide +kernel
theorem dX6_tries_42 : decode cX6_tries 42 = .ok (.sipush 168, 3) := by decide +kernel
theorem dX6_tries_45 : decode cX6_tries 45 = .ok (.iload_n 3, 1) := by decide +kernel
theorem dX6_tries_46 : decode cX6_tries 46 = .ok (.imul, 1) := by decide +kernel
theorem dX6_tries_47 : decode cX6_tries 47 = .ok (.iconst 2, 1) := by decide +kernel
theorem dX6_tries_48 : decode cX6_tries 48 = .ok (.iadd, 1) := by decide +kernel
theorem dX6_tries_49 : decode cX6_tries 49 = .ok (.iaload, 1) := by decide +kernel
theorem dX6_tries_50 : decode cX6_tries 50 = .ok (.ifCond .ne 7, 3) := by decide +kernel
theorem dX6_tries_53 : decode cX6_tries 53 = .ok (.iconst 1, 1) := by decide +kernel
theorem dX6_tries_54 : decode cX6_tries 54 = .ok (.goto 4, 3) := by decide +kernel
theorem dX6_tries_57 : decode cX6_tries 57 = .ok (.iconst 0, 1) := by decide +kernel
theorem dX6_tries_58 : decode cX6_tries 58 = .ok (.istore 5, 2) := by decide +kernel
theorem dX6_tries_60 : decode cX6_tries 60 = .ok (.iload 5, 2) := by decide +kernel
theorem dX6_tries_62 : decode cX6_tries 62 = .ok (.ifCond .eq 8, 3) := by decide +kernel
theorem dX6_tries_65 : decode cX6_tries 65 = .ok (.aload_n 0, 1) := by decide +kernel
theorem dX6_tries_66 : decode cX6_tries 66 = .ok (.iload_n 3, 1) := by decide +kernel
theorem dX6_tries_67 : decode cX6_tries 67 = .ok (.invokevirtual 260, 3) := by decide +kernel
theorem dX6_tries_70 : decode cX6_tries 70 = .ok (.iload 5, 2) := by decide +kernel
theorem dX6_tries_72 : decode cX6_tries 72 = .ok (.ifCond .ne 30, 3) := by decide +kernel
theorem dX6_tries_75 : decode cX6_tries 75 = .ok (.iload 4, 2) := by decide +kernel
theorem dX6_tries_77 : decode cX6_tries 77 = .ok (.iconst 2, 1) := by decide +kernel
theorem dX6_tries_78 : decode cX6_tries 78 = .ok (.aload_n 0, 1) := by decide +kernel
theorem dX6_tries_79 : decode cX6_tries 79 = .ok (.getfield 41, 3) := by decide +kernel
theorem dX6_tries_82 : decode cX6_tries 82 = .ok (.imul, 1) := by decide +kernel
theorem dX6_tries_83 : decode cX6_tries 83 = .ok (.if_icmp .ge 19, 3) := by decide +kernel
theorem dX6_tries_86 : decode cX6_tries 86 = .ok (.aload_n 0, 1) := by decide +kernel
theorem dX6_tries_87 : decode cX6_tries 87 = .ok (.iload_n 3, 1) := by decide +kernel
theorem dX6_tries_88 : decode cX6_tries 88 = .ok (.iload 4, 2) := by decide +kernel
theorem dX6_tries_90 : decode cX6_tries 90 = .ok (.invokevirtual 133, 3) := by decide +kernel
theorem dX6_tries_93 : decode cX6_tries 93 = .ok (.ifCond .ne 9, 3) := by decide +kernel
theorem dX6_tries_96 : decode cX6_tries 96 = .ok (.iinc 4 1, 3) := by decide +kernel
theorem dX6_tries_99 : decode cX6_tries 99 = .ok (.goto (-29), 3) := by decide +kernel
theorem dX6_tries_102 : decode cX6_tries 102 = .ok (.iload 5, 2) := by decide +kernel
theorem dX6_tries_104 : decode cX6_tries 104 = .ok (.ifCond .ne 14, 3) := by decide +kernel
theorem dX6_tries_107 : decode cX6_tries 107 = .ok (.iload 4, 2) := by decide +kernel
theorem dX6_tries_109 : decode cX6_tries 109 = .ok (.iconst 2, 1) := by decide +kernel
theorem dX6_tries_110 : decode cX6_tries 110 = .ok (.aload_n 0, 1) := by decide +kernel
theorem dX6_tries_111 : decode cX6_tries 111 = .ok (.getfield 41, 3) := by decide +kernel
theorem dX6_tries_114 : decode cX6_tries 114 = .ok (.imul, 1) := by decide +kernel
theorem dX6_tries_115 : decode cX6_tries 115 = .ok (.if_icmp .ne 9, 3) := by decide +kernel
theorem dX6_tries_118 : decode cX6_tries 118 = .ok (.iinc 2 (-1), 3) := by decide +kernel
theorem dX6_tries_121 : decode cX6_tries 121 = .ok (.goto 52, 3) := by decide +kernel
theorem dX6_tries_124 : decode cX6_tries 124 = .ok (.aload_n 0, 1) := by decide +kernel
theorem dX6_tries_125 : decode cX6_tries 125 = .ok (.getfield 28, 3) := by decide +kernel
theorem dX6_tries_128 : decode cX6_tries 128 = .ok (.iload_n 2, 1) := by decide +kernel
theorem dX6_tries_129 : decode cX6_tries 129 = .ok (.iload 4, 2) := by decide +kernel
theorem dX6_tries_131 : decode cX6_tries 131 = .ok (.iconst 1, 1) := by decide +kernel
theorem dX6_tries_132 : decode cX6_tries 132 = .ok (.iadd, 1) := by decide +kernel
theorem dX6_tries_133 : decode cX6_tries 133 = .ok (.iastore, 1) := by decide +kernel
theorem dX6_tries_134 : decode cX6_tries 134 = .ok (.aload_n 0, 1) := by decide +kernel
theorem dX6_tries_135 : decode cX6_tries 135 = .ok (.iload_n 3, 1) := by decide +kernel
theorem dX6_tries_136 : decode cX6_tries 136 = .ok (.iload_n 3, 1) := by decide +kernel
theorem dX6_tries_137 : decode cX6_tries 137 = .ok (.iconst 1, 1) := by decide +kernel
theorem dX6_tries_138 : decode cX6_tries 138 = .ok (.iadd, 1) := by decide +kernel
theorem dX6_tries_139 : decode cX6_tries 139 = .ok (.invokevirtual 156, 3) := by decide +kernel
theorem dX6_tries_142 : decode cX6_tries 142 = .ok (.aload_n 0, 1) := by decide +kernel
theorem dX6_tries_143 : decode cX6_tries 143 = .ok (.iload_n 3, 1) := by decide +kernel
theorem dX6_tries_144 : decode cX6_tries 144 = .ok (.iconst 1, 1) := by decide +kernel
theorem dX6_tries_145 : decode cX6_tries 145 = .ok (.iadd, 1) := by decide +kernel
theorem dX6_tries_146 : decode cX6_tries 146 = .ok (.iload 4, 2) := by decide +kernel
theorem dX6_tries_148 : decode cX6_tries 148 = .ok (.invokevirtual 150, 3) := by decide +kernel
theorem dX6_tries_151 : decode cX6_tries 151 = .ok (.istore 6, 2) := by decide +kernel
theorem dX6_tries_153 : decode cX6_tries 153 = .ok (.iload_n 2, 1) := by decide +kernel
theorem dX6_tries_154 : decode cX6_tries 154 = .ok (.iload 6, 2) := by decide +kernel
theorem dX6_tries_156 : decode cX6_tries 156 = .ok (.ifCond .le 7, 3) := by decide +kernel
theorem dX6_tries_159 : decode cX6_tries 159 = .ok (.iconst 1, 1) := by decide +kernel
theorem dX6_tries_160 : decode cX6_tries 160 = .ok (.goto 4, 3) := by decide +kernel
theorem dX6_tries_163 : decode cX6_tries 163 = .ok (.iconst 0, 1) := by decide +kernel
theorem dX6_tries_164 : decode cX6_tries 164 = .ok (.iadd, 1) := by decide +kernel
theorem dX6_tries_165 : decode cX6_tries 165 = .ok (.istore_n 2, 1) := by decide +kernel
theorem dX6_tries_166 : decode cX6_tries 166 = .ok (.aload_n 0, 1) := by decide +kernel
theorem dX6_tries_167 : decode cX6_tries 167 = .ok (.getfield 28, 3) := by decide +kernel
theorem dX6_tries_170 : decode cX6_tries 170 = .ok (.iload_n 2, 1) := by decide +kernel
theorem dX6_tries_171 : decode cX6_tries 171 = .ok (.iconst 0, 1) := by decide +kernel
theorem dX6_tries_172 : decode cX6_tries 172 = .ok (.iastore, 1) := by decide +kernel
theorem dX6_tries_173 : decode cX6_tries 173 = .ok (.goto (-157), 3) := by decide +kernel
theorem dX6_tries_176 : decode cX6_tries 176 = .ok (.return_, 1) := by decide +kernel
theorem dX6_foresee_0 : decode cX6_foresee 0 = .ok (.iload_n 1, 1) := by decide +kernel
theorem dX6_foresee_1 : decode cX6_foresee 1 = .ok (.i2l, 1) := by decide +kernel
theorem dX6_foresee_2 : decode cX6_foresee 2 = .ok (.lconst 1, 1) := by decide +kernel
theorem dX6_foresee_3 : decode cX6_foresee 3 = .ok (.ldc2_w 229, 3) := by decide +kernel
theorem dX6_foresee_6 : decode cX6_foresee 6 = .ok (.invokestatic 45, 3) := by decide +kernel
theorem dX6_foresee_9 : decode cX6_foresee 9 = .ok (.ifCond .eq 15, 3) := by decide +kernel
theorem dX6_foresee_12 : decode cX6_foresee 12 = .ok (.iload_n 2, 1) := by decide +kernel
theorem dX6_foresee_13 : decode cX6_foresee 13 = .ok (.i2l, 1) := by decide +kernel
theorem dX6_foresee_14 : decode cX6_foresee 14 = .ok (.lconst 0, 1) := by decide +kernel
theorem dX6_foresee_15 : decode cX6_foresee 15 = .ok (.ldc2_w 229, 3) := by decide +kernel
theorem dX6_foresee_18 : decode cX6_foresee 18 = .ok (.invokestatic 45, 3) := by decide +kernel
theorem dX6_foresee_21 : decode cX6_foresee 21 = .ok (.ifCond .ne 6, 3) := by decide +kernel
theorem dX6_foresee_24 : decode cX6_foresee 24 = .ok (.ldc 161, 2) := by decide +kernel
theorem dX6_foresee_26 : decode cX6_foresee 26 = .ok (.ireturn, 1) := by decide +kernel
theorem dX6_foresee_27 : decode cX6_foresee 27 = .ok (.aload_n 0, 1) := by decide +kernel
theorem dX6_foresee_28 : decode cX6_foresee 28 = .ok (.invokevirtual 216, 3) := by decide +kernel
theorem dX6_foresee_31 : decode cX6_foresee 31 = .ok (.ifCond .ne 6, 3) := by decide +kernel
theorem dX6_foresee_34 : decode cX6_foresee 34 = .ok (.ldc 211, 2) := by decide +kernel
theorem dX6_foresee_36 : decode cX6_foresee 36 = .ok (.ireturn, 1) := by decide +kernel
theorem dX6_foresee_37 : decode cX6_foresee 37 = .ok (.aload_n 0, 1) := by decide +kernel
theorem dX6_foresee_38 : decode cX6_foresee 38 = .ok (.iconst 0, 1) := by decide +kernel
theorem dX6_foresee_39 : decode cX6_foresee 39 = .ok (.invokevirtual 136, 3) := by decide +kernel
theorem dX6_foresee_42 : decode cX6_foresee 42 = .ok (.bipush 6, 2) := by decide +kernel
theorem dX6_foresee_44 : decode cX6_foresee 44 = .ok (.if_icmp .le 6, 3) := by decide +kernel
theorem dX6_foresee_47 : decode cX6_foresee 47 = .ok (.ldc 165, 2) := by decide +kernel
theorem dX6_foresee_49 : decode cX6_foresee 49 = .ok (.ireturn, 1) := by decide +kernel
theorem dX6_foresee_50 : decode cX6_foresee 50 = .ok (.aload_n 0, 1) := by decide +kernel
theorem dX6_foresee_51 : decode cX6_foresee 51 = .ok (.iconst 0, 1) := by decide +kernel
theorem dX6_foresee_52 : decode cX6_foresee 52 = .ok (.putfield 251, 3) := by decide +kernel
theorem dX6_foresee_55 : decode cX6_foresee 55 = .ok (.aload_n 0, 1) := by decide +kernel
theorem dX6_foresee_56 : decode cX6_foresee 56 = .ok (.iconst 0, 1) := by decide +kernel
theorem dX6_foresee_57 : decode cX6_foresee 57 = .ok (.putfield 254, 3) := by decide +kernel
theorem dX6_foresee_60 : decode cX6_foresee 60 = .ok (.aload_n 0, 1) := by decide +kernel
theorem dX6_foresee_61 : decode cX6_foresee 61 = .ok (.iconst 0, 1) := by decide +kernel
theorem dX6_foresee_62 : decode cX6_foresee 62 = .ok (.putfield 257, 3) := by decide +kernel
theorem dX6_foresee_65 : decode cX6_foresee 65 = .ok (.aload_n 0, 1) := by decide +kernel
theorem dX6_foresee_66 : decode cX6_foresee 66 = .ok (.iconst 0, 1) := by decide +kernel
theorem dX6_foresee_67 : decode cX6_foresee 67 = .ok (.putfield 248, 3) := by decide +kernel
theorem dX6_foresee_70 : decode cX6_foresee 70 = .ok (.aload_n 0, 1) := by decide +kernel
theorem dX6_foresee_71 : decode cX6_foresee 71 = .ok (.iload_n 1, 1) := by decide +kernel
theorem dX6_foresee_72 : decode cX6_foresee 72 = .ok (.invokevirtual 263, 3) := by decide +kernel
theorem dX6_foresee_75 : decode cX6_foresee 75 = .ok (.iload_n 2, 1) := by decide +kernel
theorem dX6_foresee_76 : decode cX6_foresee 76 = .ok (.ifCond .ne 10, 3) := by decide +kernel
theorem dX6_foresee_79 : decode cX6_foresee 79 = .ok (.aload_n 0, 1) := by decide +kernel
theorem dX6_foresee_80 : decode cX6_foresee 80 = .ok (.getfield 251, 3) := by decide +kernel
theorem dX6_foresee_83 : decode cX6_foresee 83 = .ok (.goto 31, 3) := by decide +kernel
theorem dX6_foresee_86 : decode cX6_foresee 86 = .ok (.iload_n 2, 1) := by decide +kernel
theorem dX6_foresee_87 : decode cX6_foresee 87 = .ok (.iconst 1, 1) := by decide +kernel
theorem dX6_foresee_88 : decode cX6_foresee 88 = .ok (.if_icmp .ne 10, 3) := by decide +kernel
theorem dX6_foresee_91 : decode cX6_foresee 91 = .ok (.aload_n 0, 1) := by decide +kernel
theorem dX6_foresee_92 : decode cX6_foresee 92 = .ok (.getfield 254, 3) := by decide +kernel
theorem dX6_foresee_95 : decode cX6_foresee 95 = .ok (.goto 19, 3) := by decide +kernel
theorem dX6_foresee_98 : decode cX6_foresee 98 = .ok (.iload_n 2, 1) := by decide +kernel
theorem dX6_foresee_99 : decode cX6_foresee 99 = .ok (.iconst 2, 1) := by decide +kernel
theorem dX6_foresee_100 : decode cX6_foresee 100 = .ok (.if_icmp .ne 10, 3) := by decide +kernel
theorem dX6_foresee_103 : decode cX6_foresee 103 = .ok (.aload_n 0, 1) := by decide +kernel
theorem dX6_foresee_104 : decode cX6_foresee 104 = .ok (.getfield 257, 3) := by decide +kernel
theorem dX6_foresee_107 : decode cX6_foresee 107 = .ok (.goto 7, 3) := by decide +kernel
theorem dX6_foresee_110 : decode cX6_foresee 110 = .ok (.aload_n 0, 1) := by decide +kernel
theorem dX6_foresee_111 : decode cX6_foresee 111 = .ok (.getfield 248, 3) := by decide +kernel
theorem dX6_foresee_114 : decode cX6_foresee 114 = .ok (.ireturn, 1) := by decide +kernel
theorem dX6_letters_0 : decode cX6_letters 0 = .ok (.iconst 0, 1) := by decide +kernel
theorem dX6_letters_1 : decode cX6_letters 1 = .ok (.istore_n 1, 1) := by decide +kernel
theorem dX6_letters_2 : decode cX6_letters 2 = .ok (.iconst 0, 1) := by decide +kernel
theorem dX6_letters_3 : decode cX6_letters 3 = .ok (.istore_n 2, 1) := by decide +kernel
theorem dX6_letters_4 : decode cX6_letters 4 = .ok (.iload_n 2, 1) := by decide +kernel
theorem dX6_letters_5 : decode cX6_letters 5 = .ok (.aload_n 0, 1) := by decide +kernel
theorem dX6_letters_6 : decode cX6_letters 6 = .ok (.getfield 41, 3) := by decide +kernel
theorem dX6_letters_9 : decode cX6_letters 9 = .ok (.if_icmp .ge 51, 3) := by decide +kernel
theorem dX6_letters_12 : decode cX6_letters 12 = .ok (.iconst 1, 1) := by decide +kernel
theorem dX6_letters_13 : decode cX6_letters 13 = .ok (.istore_n 3, 1) := by decide +kernel
theorem dX6_letters_14 : decode cX6_letters 14 = .ok (.iload_n 3, 1) := by decide +kernel
theorem dX6_letters_15 : decode cX6_letters 15 = .ok (.aload_n 0, 1) := by decide +kernel
theorem dX6_letters_16 : decode cX6_letters 16 = .ok (.getfield 41, 3) := by decide +kernel
theorem dX6_letters_19 : decode cX6_letters 19 = .ok (.if_icmp .ge 31, 3) := by decide +kernel
theorem dX6_letters_22 : decode cX6_letters 22 = .ok (.aload_n 0, 1) := by decide +kernel
theorem dX6_letters_23 : decode cX6_letters 23 = .ok (.getfield 31, 3) := by decide +kernel
theorem dX6_letters_26 : decode cX6_letters 26 = .ok (.iload_n 2, 1) := by decide +kernel
theorem dX6_letters_27 : decode cX6_letters 27 = .ok (.iload_n 3, 1) := by decide +kernel
theorem dX6_letters_28 : decode cX6_letters 28 = .ok (.iadd, 1) := by decide +kernel
theorem dX6_letters_29 : decode cX6_letters 29 = .ok (.aload_n 0, 1) := by decide +kernel
theorem dX6_letters_30 : decode cX6_letters 30 = .ok (.getfield 41, 3) := by decide +kernel
theorem dX6_letters_33 : decode cX6_letters 33 = .ok (.irem, 1) := by decide +kernel
theorem dX6_letters_34 : decode cX6_letters 34 = .ok (.iaload, 1) := by decide +kernel
theorem dX6_letters_35 : decode cX6_letters 35 = .ok (.aload_n 0, 1) := by decide +kernel
theorem dX6_letters_36 : decode cX6_letters 36 = .ok (.getfield 31, 3) := by decide +kernel
theorem dX6_letters_39 : decode cX6_letters 39 = .ok (.iload_n 2, 1) := by decide +kernel
theorem dX6_letters_40 : decode cX6_letters 40 = .ok (.iaload, 1) := by decide +kernel
theorem dX6_letters_41 : decode cX6_letters 41 = .ok (.if_icmp .ge 9, 3) := by decide +kernel
theorem dX6_letters_44 : decode cX6_letters 44 = .ok (.iinc 3 1, 3) := by decide +kernel
theorem dX6_letters_47 : decode cX6_letters 47 = .ok (.goto (-33), 3) := by decide +kernel
theorem dX6_letters_50 : decode cX6_letters 50 = .ok (.iload_n 1, 1) := by decide +kernel
theorem dX6_letters_51 : decode cX6_letters 51 = .ok (.iload_n 3, 1) := by decide +kernel
theorem dX6_letters_52 : decode cX6_letters 52 = .ok (.iadd, 1) := by decide +kernel
theorem dX6_letters_53 : decode cX6_letters 53 = .ok (.istore_n 1, 1) := by decide +kernel
theorem dX6_letters_54 : decode cX6_letters 54 = .ok (.iinc 2 1, 3) := by decide +kernel
theorem dX6_letters_57 : decode cX6_letters 57 = .ok (.goto (-53), 3) := by decide +kernel
theorem dX6_letters_60 : decode cX6_letters 60 = .ok (.iload_n 1, 1) := by decide +kernel
theorem dX6_letters_61 : decode cX6_letters 61 = .ok (.ireturn, 1) := by decide +kernel
theorem dX6_nextSeats_0 : decode cX6_nextSeats 0 = .ok (.aload_n 0, 1) := by decide +kernel
theorem dX6_nextSeats_1 : decode cX6_nextSeats 1 = .ok (.getfield 41, 3) := by decide +kernel
theorem dX6_nextSeats_4 : decode cX6_nextSeats 4 = .ok (.iconst 2, 1) := by decide +kernel
theorem dX6_nextSeats_5 : decode cX6_nextSeats 5 = .ok (.isub, 1) := by decide +kernel
theorem dX6_nextSeats_6 : decode cX6_nextSeats 6 = .ok (.istore_n 1, 1) := by decide +kernel
theorem dX6_nextSeats_7 : decode cX6_nextSeats 7 = .ok (.iload_n 1, 1) := by decide +kernel
theorem dX6_nextSeats_8 : decode cX6_nextSeats 8 = .ok (.ifCond .lt 26, 3) := by decide +kernel
theorem dX6_nextSeats_11 : decode cX6_nextSeats 11 = .ok (.aload_n 0, 1) := by decide +kernel
theorem dX6_nextSeats_12 : decode cX6_nextSeats 12 = .ok (.getfield 31, 3) := by decide +kernel
theorem dX6_nextSeats_15 : decode cX6_nextSeats 15 = .ok (.iload_n 1, 1) := by decide +kernel
theorem dX6_nextSeats_16 : decode cX6_nextSeats 16 = .ok (.iaload, 1) := by decide +kernel
theorem dX6_nextSeats_17 : decode cX6_nextSeats 17 = .ok (.aload_n 0, 1) := by decide +kernel
theorem dX6_nextSeats_18 : decode cX6_nextSeats 18 = .ok (.getfield 31, 3) := by decide +kernel
theorem dX6_nextSeats_21 : decode cX6_nextSeats 21 = .ok (.iload_n 1, 1) := by decide +kernel
theorem dX6_nextSeats_22 : decode cX6_nextSeats 22 = .ok (.iconst 1, 1) := by decide +kernel
theorem dX6_nextSeats_23 : decode cX6_nextSeats 23 = .ok (.iadd, 1) := by decide +kernel
theorem dX6_nextSeats_24 : decode cX6_nextSeats 24 = .ok (.iaload, 1) := by decide +kernel
theorem dX6_nextSeats_25 : decode cX6_nextSeats 25 = .ok (.if_icmp .le 9, 3) := by decide +kernel
theorem dX6_nextSeats_28 : decode cX6_nextSeats 28 = .ok (.iinc 1 (-1), 3) := by decide +kernel
theorem dX6_nextSeats_31 : decode cX6_nextSeats 31 = .ok (.goto (-24), 3) := by decide +kernel
theorem dX6_nextSeats_34 : decode cX6_nextSeats 34 = .ok (.iload_n 1, 1) := by decide +kernel
theorem dX6_nextSeats_35 : decode cX6_nextSeats 35 = .ok (.ifCond .ge 5, 3) := by decide +kernel
theorem dX6_nextSeats_38 : decode cX6_nextSeats 38 = .ok (.iconst 0, 1) := by decide +kernel
theorem dX6_nextSeats_39 : decode cX6_nextSeats 39 = .ok (.ireturn, 1) := by decide +kernel
theorem dX6_nextSeats_40 : decode cX6_nextSeats 40 = .ok (.aload_n 0, 1) := by decide +kernel
theorem dX6_nextSeats_41 : decode cX6_nextSeats 41 = .ok (.getfield 41, 3) := by decide +kernel
theorem dX6_nextSeats_44 : decode cX6_nextSeats 44 = .ok (.iconst 1, 1) := by decide +kernel
theorem dX6_nextSeats_45 : decode cX6_nextSeats 45 = .ok (.isub, 1) := by decide +kernel
theorem dX6_nextSeats_46 : decode cX6_nextSeats 46 = .ok (.istore_n 2, 1) := by decide +kernel
theorem dX6_nextSeats_47 : decode cX6_nextSeats 47 = .ok (.aload_n 0, 1) := by decide +kernel
theorem dX6_nextSeats_48 : decode cX6_nextSeats 48 = .ok (.getfield 31, 3) := by decide +kernel
theorem dX6_nextSeats_51 : decode cX6_nextSeats 51 = .ok (.iload_n 2, 1) := by decide +kernel
theorem dX6_nextSeats_52 : decode cX6_nextSeats 52 = .ok (.iaload, 1) := by decide +kernel
theorem dX6_nextSeats_53 : decode cX6_nextSeats 53 = .ok (.aload_n 0, 1) := by decide +kernel
theorem dX6_nextSeats_54 : decode cX6_nextSeats 54 = .ok (.getfield 31, 3) := by decide +kernel
theorem dX6_nextSeats_57 : decode cX6_nextSeats 57 = .ok (.iload_n 1, 1) := by decide +kernel
theorem dX6_nextSeats_58 : decode cX6_nextSeats 58 = .ok (.iaload, 1) := by decide +kernel
theorem dX6_nextSeats_59 : decode cX6_nextSeats 59 = .ok (.if_icmp .ge 9, 3) := by decide +kernel
theorem dX6_nextSeats_62 : decode cX6_nextSeats 62 = .ok (.iinc 2 (-1), 3) := by decide +kernel
theorem dX6_nextSeats_65 : decode cX6_nextSeats 65 = .ok (.goto (-18), 3) := by decide +kernel
theorem dX6_nextSeats_68 : decode cX6_nextSeats 68 = .ok (.aload_n 0, 1) := by decide +kernel
theorem dX6_nextSeats_69 : decode cX6_nextSeats 69 = .ok (.getfield 31, 3) := by decide +kernel
theorem dX6_nextSeats_72 : decode cX6_nextSeats 72 = .ok (.iload_n 1, 1) := by decide +kernel
theorem dX6_nextSeats_73 : decode cX6_nextSeats 73 = .ok (.iaload, 1) := by decide +kernel
theorem dX6_nextSeats_74 : decode cX6_nextSeats 74 = .ok (.istore_n 3, 1) := by decide +kernel
theorem dX6_nextSeats_75 : decode cX6_nextSeats 75 = .ok (.aload_n 0, 1) := by decide +kernel
theorem dX6_nextSeats_76 : decode cX6_nextSeats 76 = .ok (.getfield 31, 3) := by decide +kernel
theorem dX6_nextSeats_79 : decode cX6_nextSeats 79 = .ok (.iload_n 1, 1) := by decide +kernel
theorem dX6_nextSeats_80 : decode cX6_nextSeats 80 = .ok (.aload_n 0, 1) := by decide +kernel
theorem dX6_nextSeats_81 : decode cX6_nextSeats 81 = .ok (.getfield 31, 3) := by decide +kernel
theorem dX6_nextSeats_84 : decode cX6_nextSeats 84 = .ok (.iload_n 2, 1) := by decide +kernel
theorem dX6_nextSeats_85 : decode cX6_nextSeats 85 = .ok (.iaload, 1) := by decide +kernel
theorem dX6_nextSeats_86 : decode cX6_nextSeats 86 = .ok (.iastore, 1) := by decide +kernel
theorem dX6_nextSeats_87 : decode cX6_nextSeats 87 = .ok (.aload_n 0, 1) := by decide +kernel
theorem dX6_nextSeats_88 : decode cX6_nextSeats 88 = .ok (.getfield 31, 3) := by decide +kernel
theorem dX6_nextSeats_91 : decode cX6_nextSeats 91 = .ok (.iload_n 2, 1) := by decide +kernel
theorem dX6_nextSeats_92 : decode cX6_nextSeats 92 = .ok (.iload_n 3, 1) := by decide +kernel
theorem dX6_nextSeats_93 : decode cX6_nextSeats 93 = .ok (.iastore, 1) := by decide +kernel
theorem dX6_nextSeats_94 : decode cX6_nextSeats 94 = .ok (.iconst 1, 1) := by decide +kernel
theorem dX6_nextSeats_95 : decode cX6_nextSeats 95 = .ok (.istore 4, 2) := by decide +kernel
theorem dX6_nextSeats_97 : decode cX6_nextSeats 97 = .ok (.iload_n 1, 1) := by decide +kernel
theorem dX6_nextSeats_98 : decode cX6_nextSeats 98 = .ok (.iload 4, 2) := by decide +kernel
theorem dX6_nextSeats_100 : decode cX6_nextSeats 100 = .ok (.iadd, 1) := by decide +kernel
theorem dX6_nextSeats_101 : decode cX6_nextSeats 101 = .ok (.aload_n 0, 1) := by decide +kernel
theorem dX6_nextSeats_102 : decode cX6_nextSeats 102 = .ok (.getfield 41, 3) := by decide +kernel
theorem dX6_nextSeats_105 : decode cX6_nextSeats 105 = .ok (.iload 4, 2) := by decide +kernel
theorem dX6_nextSeats_107 : decode cX6_nextSeats 107 = .ok (.isub, 1) := by decide +kernel
theorem dX6_nextSeats_108 : decode cX6_nextSeats 108 = .ok (.if_icmp .ge 53, 3) := by decide +kernel
theorem dX6_nextSeats_111 : decode cX6_nextSeats 111 = .ok (.aload_n 0, 1) := by decide +kernel
theorem dX6_nextSeats_112 : decode cX6_nextSeats 112 = .ok (.getfield 31, 3) := by decide +kernel
theorem dX6_nextSeats_115 : decode cX6_nextSeats 115 = .ok (.iload_n 1, 1) := by decide +kernel
theorem dX6_nextSeats_116 : decode cX6_nextSeats 116 = .ok (.iload 4, 2) := by decide +kernel
theorem dX6_nextSeats_118 : decode cX6_nextSeats 118 = .ok (.iadd, 1) := by decide +kernel
theorem dX6_nextSeats_119 : decode cX6_nextSeats 119 = .ok (.iaload, 1) := by decide +kernel
theorem dX6_nextSeats_120 : decode cX6_nextSeats 120 = .ok (.istore_n 3, 1) := by decide +kernel
theorem dX6_nextSeats_121 : decode cX6_nextSeats 121 = .ok (.aload_n 0, 1) := by decide +kernel
theorem dX6_nextSeats_122 : decode cX6_nextSeats 122 = .ok (.getfield 31, 3) := by decide +kernel
theorem dX6_nextSeats_125 : decode cX6_nextSeats 125 = .ok (.iload_n 1, 1) := by decide +kernel
theorem dX6_nextSeats_126 : decode cX6_nextSeats 126 = .ok (.iload 4, 2) := by decide +kernel
theorem dX6_nextSeats_128 : decode cX6_nextSeats 128 = .ok (.iadd, 1) := by decide +kernel
theorem dX6_nextSeats_129 : decode cX6_nextSeats 129 = .ok (.aload_n 0, 1) := by decide +kernel
theorem dX6_nextSeats_130 : decode cX6_nextSeats 130 = .ok (.getfield 31, 3) := by decide +kernel
theorem dX6_nextSeats_133 : decode cX6_nextSeats 133 = .ok (.aload_n 0, 1) := by decide +kernel
theorem dX6_nextSeats_134 : decode cX6_nextSeats 134 = .ok (.getfield 41, 3) := by decide +kernel
theorem dX6_nextSeats_137 : decode cX6_nextSeats 137 = .ok (.iload 4, 2) := by decide +kernel
theorem dX6_nextSeats_139 : decode cX6_nextSeats 139 = .ok (.isub, 1) := by decide +kernel
theorem dX6_nextSeats_140 : decode cX6_nextSeats 140 = .ok (.iaload, 1) := by decide +kernel
theorem dX6_nextSeats_141 : decode cX6_nextSeats 141 = .ok (.iastore, 1) := by decide +kernel
theorem dX6_nextSeats_142 : decode cX6_nextSeats 142 = .ok (.aload_n 0, 1) := by decide +kernel
theorem dX6_nextSeats_143 : decode cX6_nextSeats 143 = .ok (.getfield 31, 3) := by decide +kernel
theorem dX6_nextSeats_146 : decode cX6_nextSeats 146 = .ok (.aload_n 0, 1) := by decide +kernel
theorem dX6_nextSeats_147 : decode cX6_nextSeats 147 = .ok (.getfield 41, 3) := by decide +kernel
theorem dX6_nextSeats_150 : decode cX6_nextSeats 150 = .ok (.iload 4, 2) := by decide +kernel
theorem dX6_nextSeats_152 : decode cX6_nextSeats 152 = .ok (.isub, 1) := by decide +kernel
theorem dX6_nextSeats_153 : decode cX6_nextSeats 153 = .ok (.iload_n 3, 1) := by decide +kernel
theorem dX6_nextSeats_154 : decode cX6_nextSeats 154 = .ok (.iastore, 1) := by decide +kernel
theorem dX6_nextSeats_155 : decode cX6_nextSeats 155 = .ok (.iinc 4 1, 3) := by decide +kernel
theorem dX6_nextSeats_158 : decode cX6_nextSeats 158 = .ok (.goto (-61), 3) := by decide +kernel
theorem dX6_nextSeats_161 : decode cX6_nextSeats 161 = .ok (.iconst 1, 1) := by decide +kernel
theorem dX6_nextSeats_162 : decode cX6_nextSeats 162 = .ok (.ireturn, 1) := by decide +kernel
theorem dX6_commonOf_0 : decode cX6_commonOf 0 = .ok (.lload_n 0, 1) := by decide +kernel
theorem dX6_commonOf_1 : decode cX6_commonOf 1 = .ok (.lstore 4, 2) := by decide +kernel
theorem dX6_commonOf_3 : decode cX6_commonOf 3 = .ok (.lload_n 2, 1) := by decide +kernel
theorem dX6_commonOf_4 : decode cX6_commonOf 4 = .ok (.lstore 6, 2) := by decide +kernel
theorem dX6_commonOf_6 : decode cX6_commonOf 6 = .ok (.lload 6, 2) := by decide +kernel
theorem dX6_commonOf_8 : decode cX6_commonOf 8 = .ok (.lconst 0, 1) := by decide +kernel
theorem dX6_commonOf_9 : decode cX6_commonOf 9 = .ok (.lcmp, 1) := by decide +kernel
theorem dX6_commonOf_10 : decode cX6_commonOf 10 = .ok (.ifCond .eq 21, 3) := by decide +kernel
theorem dX6_commonOf_13 : decode cX6_commonOf 13 = .ok (.lload 4, 2) := by decide +kernel
theorem dX6_commonOf_15 : decode cX6_commonOf 15 = .ok (.lload 6, 2) := by decide +kernel
theorem dX6_commonOf_17 : decode cX6_commonOf 17 = .ok (.lrem, 1) := by decide +kernel
theorem dX6_commonOf_18 : decode cX6_commonOf 18 = .ok (.lstore 8, 2) := by decide +kernel
theorem dX6_commonOf_20 : decode cX6_commonOf 20 = .ok (.lload 6, 2) := by decide +kernel
theorem dX6_commonOf_22 : decode cX6_commonOf 22 = .ok (.lstore 4, 2) := by decide +kernel
theorem dX6_commonOf_24 : decode cX6_commonOf 24 = .ok (.lload 8, 2) := by decide +kernel
theorem dX6_commonOf_26 : decode cX6_commonOf 26 = .ok (.lstore 6, 2) := by decide +kernel
theorem dX6_commonOf_28 : decode cX6_commonOf 28 = .ok (.goto (-22), 3) := by decide +kernel
theorem dX6_commonOf_31 : decode cX6_commonOf 31 = .ok (.lload 4, 2) := by decide +kernel
theorem dX6_commonOf_33 : decode cX6_commonOf 33 = .ok (.lreturn, 1) := by decide +kernel
theorem dX6_sit_0 : decode cX6_sit 0 = .ok (.iload_n 1, 1) := by decide +kernel
theorem dX6_sit_1 : decode cX6_sit 1 = .ok (.i2l, 1) := by decide +kernel
theorem dX6_sit_2 : decode cX6_sit 2 = .ok (.lconst 0, 1) := by decide +kernel
theorem dX6_sit_3 : decode cX6_sit 3 = .ok (.ldc2_w 229, 3) := by decide +kernel
theorem dX6_sit_6 : decode cX6_sit 6 = .ok (.invokestatic 45, 3) := by decide +kernel
theorem dX6_sit_9 : decode cX6_sit 9 = .ok (.ifCond .ne 6, 3) := by decide +kernel
theorem dX6_sit_12 : decode cX6_sit 12 = .ok (.ldc 161, 2) := by decide +kernel
theorem dX6_sit_14 : decode cX6_sit 14 = .ok (.ireturn, 1) := by decide +kernel
theorem dX6_sit_15 : decode cX6_sit 15 = .ok (.aload_n 0, 1) := by decide +kernel
theorem dX6_sit_16 : decode cX6_sit 16 = .ok (.getfield 41, 3) := by decide +kernel
theorem dX6_sit_19 : decode cX6_sit 19 = .ok (.ifCond .ne 6, 3) := by decide +kernel
theorem dX6_sit_22 : decode cX6_sit 22 = .ok (.ldc 211, 2) := by decide +kernel
theorem dX6_sit_24 : decode cX6_sit 24 = .ok (.ireturn, 1) := by decide +kernel
theorem dX6_sit_25 : decode cX6_sit 25 = .ok (.iconst 0, 1) := by decide +kernel
theorem dX6_sit_26 : decode cX6_sit 26 = .ok (.istore_n 2, 1) := by decide +kernel
theorem dX6_sit_27 : decode cX6_sit 27 = .ok (.iload_n 2, 1) := by decide +kernel
theorem dX6_sit_28 : decode cX6_sit 28 = .ok (.aload_n 0, 1) := by decide +kernel
theorem dX6_sit_29 : decode cX6_sit 29 = .ok (.getfield 41, 3) := by decide +kernel
theorem dX6_sit_32 : decode cX6_sit 32 = .ok (.if_icmp .ge 16, 3) := by decide +kernel
theorem dX6_sit_35 : decode cX6_sit 35 = .ok (.aload_n 0, 1) := by decide +kernel
theorem dX6_sit_36 : decode cX6_sit 36 = .ok (.getfield 31, 3) := by decide +kernel
theorem dX6_sit_39 : decode cX6_sit 39 = .ok (.iload_n 2, 1) := by decide +kernel
theorem dX6_sit_40 : decode cX6_sit 40 = .ok (.iload_n 2, 1) := by decide +kernel
theorem dX6_sit_41 : decode cX6_sit 41 = .ok (.iastore, 1) := by decide +kernel
theorem dX6_sit_42 : decode cX6_sit 42 = .ok (.iinc 2 1, 3) := by decide +kernel
theorem dX6_sit_45 : decode cX6_sit 45 = .ok (.goto (-18), 3) := by decide +kernel
theorem dX6_sit_48 : decode cX6_sit 48 = .ok (.sipush 1000, 3) := by decide +kernel
theorem dX6_sit_51 : decode cX6_sit 51 = .ok (.istore_n 2, 1) := by decide +kernel
theorem dX6_sit_52 : decode cX6_sit 52 = .ok (.iconst 0, 1) := by decide +kernel
theorem dX6_sit_53 : decode cX6_sit 53 = .ok (.istore_n 3, 1) := by decide +kernel
theorem dX6_sit_54 : decode cX6_sit 54 = .ok (.iconst 0, 1) := by decide +kernel
theorem dX6_sit_55 : decode cX6_sit 55 = .ok (.istore 4, 2) := by decide +kernel
theorem dX6_sit_57 : decode cX6_sit 57 = .ok (.iconst 0, 1) := by decide +kernel
theorem dX6_sit_58 : decode cX6_sit 58 = .ok (.istore 5, 2) := by decide +kernel
theorem dX6_sit_60 : decode cX6_sit 60 = .ok (.iconst 1, 1) := by decide +kernel
theorem dX6_sit_61 : decode cX6_sit 61 = .ok (.istore 6, 2) := by decide +kernel
theorem dX6_sit_63 : decode cX6_sit 63 = .ok (.iload 6, 2) := by decide +kernel
theorem dX6_sit_65 : decode cX6_sit 65 = .ok (.ifCond .eq 54, 3) := by decide +kernel
theorem dX6_sit_68 : decode cX6_sit 68 = .ok (.aload_n 0, 1) := by decide +kernel
theorem dX6_sit_69 : decode cX6_sit 69 = .ok (.invokevirtual 266, 3) := by decide +kernel
theorem dX6_sit_72 : decode cX6_sit 72 = .ok (.istore 7, 2) := by decide +kernel
theorem dX6_sit_74 : decode cX6_sit 74 = .ok (.iload 7, 2) := by decide +kernel
theorem dX6_sit_76 : decode cX6_sit 76 = .ok (.iload_n 2, 1) := by decide +kernel
theorem dX6_sit_77 : decode cX6_sit 77 = .ok (.if_icmp .ge 8, 3) := by decide +kernel
theorem dX6_sit_80 : decode cX6_sit 80 = .ok (.iload 7, 2) := by decide +kernel
theorem dX6_sit_82 : decode cX6_sit 82 = .ok (.goto 4, 3) := by decide +kernel
theorem dX6_sit_85 : decode cX6_sit 85 = .ok (.iload_n 2, 1) := by decide +kernel
theorem dX6_sit_86 : decode cX6_sit 86 = .ok (.istore_n 2, 1) := by decide +kernel
theorem dX6_sit_87 : decode cX6_sit 87 = .ok (.iload 7, 2) := by decide +kernel
theorem dX6_sit_89 : decode cX6_sit 89 = .ok (.iload_n 3, 1) := by decide +kernel
theorem dX6_sit_90 : decode cX6_sit 90 = .ok (.if_icmp .le 8, 3) := by decide +kernel
theorem dX6_sit_93 : decode cX6_sit 93 = .ok (.iload 7, 2) := by decide +kernel
theorem dX6_sit_95 : decode cX6_sit 95 = .ok (.goto 4, 3) := by decide +kernel
theorem dX6_sit_98 : decode cX6_sit 98 = .ok (.iload_n 3, 1) := by decide +kernel
theorem dX6_sit_99 : decode cX6_sit 99 = .ok (.istore_n 3, 1) := by decide +kernel
theorem dX6_sit_100 : decode cX6_sit 100 = .ok (.iload 4, 2) := by decide +kernel
theorem dX6_sit_102 : decode cX6_sit 102 = .ok (.iload 7, 2) := by decide +kernel
theorem dX6_sit_104 : decode cX6_sit 104 = .ok (.iadd, 1) := by decide +kernel
theorem dX6_sit_105 : decode cX6_sit 105 = .ok (.istore 4, 2) := by decide +kernel
theorem dX6_sit_107 : decode cX6_sit 107 = .ok (.iinc 5 1, 3) := by decide +kernel
theorem dX6_sit_110 : decode cX6_sit 110 = .ok (.aload_n 0, 1) := by decide +kernel
theorem dX6_sit_111 : decode cX6_sit 111 = .ok (.invokevirtual 270, 3) := by decide +kernel
theorem dX6_sit_114 : decode cX6_sit 114 = .ok (.istore 6, 2) := by decide +kernel
theorem dX6_sit_116 : decode cX6_sit 116 = .ok (.goto (-53), 3) := by decide +kernel
theorem dX6_sit_119 : decode cX6_sit 119 = .ok (.iload 4, 2) := by decide +kernel
theorem dX6_sit_121 : decode cX6_sit 121 = .ok (.i2l, 1) := by decide +kernel
theorem dX6_sit_122 : decode cX6_sit 122 = .ok (.iload 5, 2) := by decide +kernel
theorem dX6_sit_124 : decode cX6_sit 124 = .ok (.i2l, 1) := by decide +kernel
theorem dX6_sit_125 : decode cX6_sit 125 = .ok (.invokestatic 273, 3) := by decide +kernel
theorem dX6_sit_128 : decode cX6_sit 128 = .ok (.l2i, 1) := by decide +kernel
theorem dX6_sit_129 : decode cX6_sit 129 = .ok (.istore 7, 2) := by decide +kernel
theorem dX6_sit_131 : decode cX6_sit 131 = .ok (.iload_n 1, 1) := by decide +kernel
theorem dX6_sit_132 : decode cX6_sit 132 = .ok (.ifCond .ne 7, 3) := by decide +kernel
theorem dX6_sit_135 : decode cX6_sit 135 = .ok (.iload_n 2, 1) := by decide +kernel
theorem dX6_sit_136 : decode cX6_sit 136 = .ok (.goto 30, 3) := by decide +kernel
theorem dX6_sit_139 : decode cX6_sit 139 = .ok (.iload_n 1, 1) := by decide +kernel
theorem dX6_sit_140 : decode cX6_sit 140 = .ok (.iconst 1, 1) := by decide +kernel
theorem dX6_sit_141 : decode cX6_sit 141 = .ok (.if_icmp .ne 7, 3) := by decide +kernel
theorem dX6_sit_144 : decode cX6_sit 144 = .ok (.iload_n 3, 1) := by decide +kernel
theorem dX6_sit_145 : decode cX6_sit 145 = .ok (.goto 21, 3) := by decide +kernel
theorem dX6_sit_148 : decode cX6_sit 148 = .ok (.iload_n 1, 1) := by decide +kernel
theorem dX6_sit_149 : decode cX6_sit 149 = .ok (.iconst 2, 1) := by decide +kernel
theorem dX6_sit_150 : decode cX6_sit 150 = .ok (.if_icmp .ne 11, 3) := by decide +kernel
theorem dX6_sit_153 : decode cX6_sit 153 = .ok (.iload 4, 2) := by decide +kernel
theorem dX6_sit_155 : decode cX6_sit 155 = .ok (.iload 7, 2) := by decide +kernel
theorem dX6_sit_157 : decode cX6_sit 157 = .ok (.idiv, 1) := by decide +kernel
theorem dX6_sit_158 : decode cX6_sit 158 = .ok (.goto 8, 3) := by decide +kernel
theorem dX6_sit_161 : decode cX6_sit 161 = .ok (.iload 5, 2) := by decide +kernel
theorem dX6_sit_163 : decode cX6_sit 163 = .ok (.iload 7, 2) := by decide +kernel
theorem dX6_sit_165 : decode cX6_sit 165 = .ok (.idiv, 1) := by decide +kernel
theorem dX6_sit_166 : decode cX6_sit 166 = .ok (.ireturn, 1) := by decide +kernel
theorem dX6_power_0 : decode cX6_power 0 = .ok (.lconst 1, 1) := by decide +kernel
theorem dX6_power_1 : decode cX6_power 1 = .ok (.lstore_n 3, 1) := by decide +kernel
theorem dX6_power_2 : decode cX6_power 2 = .ok (.iconst 0, 1) := by decide +kernel
theorem dX6_power_3 : decode cX6_power 3 = .ok (.istore 5, 2) := by decide +kernel
theorem dX6_power_5 : decode cX6_power 5 = .ok (.iload 5, 2) := by decide +kernel
theorem dX6_power_7 : decode cX6_power 7 = .ok (.iload_n 2, 1) := by decide +kernel
theorem dX6_power_8 : decode cX6_power 8 = .ok (.if_icmp .ge 13, 3) := by decide +kernel
theorem dX6_power_11 : decode cX6_power 11 = .ok (.lload_n 3, 1) := by decide +kernel
theorem dX6_power_12 : decode cX6_power 12 = .ok (.lload_n 0, 1) := by decide +kernel
theorem dX6_power_13 : decode cX6_power 13 = .ok (.lmul, 1) := by decide +kernel
theorem dX6_power_14 : decode cX6_power 14 = .ok (.lstore_n 3, 1) := by decide +kernel
theorem dX6_power_15 : decode cX6_power 15 = .ok (.iinc 5 1, 3) := by decide +kernel
theorem dX6_power_18 : decode cX6_power 18 = .ok (.goto (-13), 3) := by decide +kernel
theorem dX6_power_21 : decode cX6_power 21 = .ok (.lload_n 3, 1) := by decide +kernel
theorem dX6_power_22 : decode cX6_power 22 = .ok (.lreturn, 1) := by decide +kernel
theorem dX6_leave_0 : decode cX6_leave 0 = .ok (.lconst 1, 1) := by decide +kernel
theorem dX6_leave_1 : decode cX6_leave 1 = .ok (.lstore_n 3, 1) := by decide +kernel
theorem dX6_leave_2 : decode cX6_leave 2 = .ok (.iconst 1, 1) := by decide +kernel
theorem dX6_leave_3 : decode cX6_leave 3 = .ok (.istore 5, 2) := by decide +kernel
theorem dX6_leave_5 : decode cX6_leave 5 = .ok (.iload 5, 2) := by decide +kernel
theorem dX6_leave_7 : decode cX6_leave 7 = .ok (.iload_n 1, 1) := by decide +kernel
theorem dX6_leave_8 : decode cX6_leave 8 = .ok (.if_icmp .gt 23, 3) := by decide +kernel
theorem dX6_leave_11 : decode cX6_leave 11 = .ok (.lload_n 3, 1) := by decide +kernel
theorem dX6_leave_12 : decode cX6_leave 12 = .ok (.iload_n 0, 1) := by decide +kernel
theorem dX6_leave_13 : decode cX6_leave 13 = .ok (.iload_n 1, 1) := by decide +kernel
theorem dX6_leave_14 : decode cX6_leave 14 = .ok (.isub, 1) := by decide +kernel
theorem dX6_leave_15 : decode cX6_leave 15 = .ok (.iload 5, 2) := by decide +kernel
theorem dX6_leave_17 : decode cX6_leave 17 = .ok (.iadd, 1) := by decide +kernel
theorem dX6_leave_18 : decode cX6_leave 18 = .ok (.i2l, 1) := by decide +kernel
theorem dX6_leave_19 : decode cX6_leave 19 = .ok (.lmul, 1) := by decide +kernel
theorem dX6_leave_20 : decode cX6_leave 20 = .ok (.iload 5, 2) := by decide +kernel
theorem dX6_leave_22 : decode cX6_leave 22 = .ok (.i2l, 1) := by decide +kernel
theorem dX6_leave_23 : decode cX6_leave 23 = .ok (.ldiv, 1) := by decide +kernel
theorem dX6_leave_24 : decode cX6_leave 24 = .ok (.lstore_n 3, 1) := by decide +kernel
theorem dX6_leave_25 : decode cX6_leave 25 = .ok (.iinc 5 1, 3) := by decide +kernel
theorem dX6_leave_28 : decode cX6_leave 28 = .ok (.goto (-23), 3) := by decide +kernel
theorem dX6_leave_31 : decode cX6_leave 31 = .ok (.lconst 0, 1) := by decide +kernel
theorem dX6_leave_32 : decode cX6_leave 32 = .ok (.lstore 5, 2) := by decide +kernel
theorem dX6_leave_34 : decode cX6_leave 34 = .ok (.iconst 1, 1) := by decide +kernel
theorem dX6_leave_35 : decode cX6_leave 35 = .ok (.istore 7, 2) := by decide +kernel
theorem dX6_leave_37 : decode cX6_leave 37 = .ok (.iload 7, 2) := by decide +kernel
theorem dX6_leave_39 : decode cX6_leave 39 = .ok (.iload_n 2, 1) := by decide +kernel
theorem dX6_leave_40 : decode cX6_leave 40 = .ok (.if_icmp .gt 27, 3) := by decide +kernel
theorem dX6_leave_43 : decode cX6_leave 43 = .ok (.lload 5, 2) := by decide +kernel
theorem dX6_leave_45 : decode cX6_leave 45 = .ok (.lload_n 3, 1) := by decide +kernel
theorem dX6_leave_46 : decode cX6_leave 46 = .ok (.iload 7, 2) := by decide +kernel
theorem dX6_leave_48 : decode cX6_leave 48 = .ok (.iconst 1, 1) := by decide +kernel
theorem dX6_leave_49 : decode cX6_leave 49 = .ok (.isub, 1) := by decide +kernel
theorem dX6_leave_50 : decode cX6_leave 50 = .ok (.i2l, 1) := by decide +kernel
theorem dX6_leave_51 : decode cX6_leave 51 = .ok (.iload_n 0, 1) := by decide +kernel
theorem dX6_leave_52 : decode cX6_leave 52 = .ok (.iload_n 1, 1) := by decide +kernel
theorem dX6_leave_53 : decode cX6_leave 53 = .ok (.isub, 1) := by decide +kernel
theorem dX6_leave_54 : decode cX6_leave 54 = .ok (.invokestatic 277, 3) := by decide +kernel
theorem dX6_leave_57 : decode cX6_leave 57 = .ok (.lmul, 1) := by decide +kernel
theorem dX6_leave_58 : decode cX6_leave 58 = .ok (.ladd, 1) := by decide +kernel
theorem dX6_leave_59 : decode cX6_leave 59 = .ok (.lstore 5, 2) := by decide +kernel
theorem dX6_leave_61 : decode cX6_leave 61 = .ok (.iinc 7 1, 3) := by decide +kernel
theorem dX6_leave_64 : decode cX6_leave 64 = .ok (.goto (-27), 3) := by decide +kernel
theorem dX6_leave_67 : decode cX6_leave 67 = .ok (.lload 5, 2) := by decide +kernel
theorem dX6_leave_69 : decode cX6_leave 69 = .ok (.lreturn, 1) := by decide +kernel
theorem dX6_chance_0 : decode cX6_chance 0 = .ok (.iload_n 1, 1) := by decide +kernel
theorem dX6_chance_1 : decode cX6_chance 1 = .ok (.i2l, 1) := by decide +kernel
theorem dX6_chance_2 : decode cX6_chance 2 = .ok (.lconst 1, 1) := by decide +kernel
theorem dX6_chance_3 : decode cX6_chance 3 = .ok (.ldc2_w 281, 3) := by decide +kernel
theorem dX6_chance_6 : decode cX6_chance 6 = .ok (.invokestatic 45, 3) := by decide +kernel
theorem dX6_chance_9 : decode cX6_chance 9 = .ok (.ifCond .eq 38, 3) := by decide +kernel
theorem dX6_chance_12 : decode cX6_chance 12 = .ok (.iload_n 2, 1) := by decide +kernel
theorem dX6_chance_13 : decode cX6_chance 13 = .ok (.i2l, 1) := by decide +kernel
theorem dX6_chance_14 : decode cX6_chance 14 = .ok (.lconst 1, 1) := by decide +kernel
theorem dX6_chance_15 : decode cX6_chance 15 = .ok (.ldc2_w 229, 3) := by decide +kernel
theorem dX6_chance_18 : decode cX6_chance 18 = .ok (.invokestatic 45, 3) := by decide +kernel
theorem dX6_chance_21 : decode cX6_chance 21 = .ok (.ifCond .eq 26, 3) := by decide +kernel
theorem dX6_chance_24 : decode cX6_chance 24 = .ok (.iload_n 3, 1) := by decide +kernel
theorem dX6_chance_25 : decode cX6_chance 25 = .ok (.i2l, 1) := by decide +kernel
theorem dX6_chance_26 : decode cX6_chance 26 = .ok (.lconst 0, 1) := by decide +kernel
theorem dX6_chance_27 : decode cX6_chance 27 = .ok (.ldc2_w 205, 3) := by decide +kernel
theorem dX6_chance_30 : decode cX6_chance 30 = .ok (.invokestatic 45, 3) := by decide +kernel
theorem dX6_chance_33 : decode cX6_chance 33 = .ok (.ifCond .eq 14, 3) := by decide +kernel
theorem dX6_chance_36 : decode cX6_chance 36 = .ok (.iload 4, 2) := by decide +kernel
theorem dX6_chance_38 : decode cX6_chance 38 = .ok (.i2l, 1) := by decide +kernel
theorem dX6_chance_39 : decode cX6_chance 39 = .ok (.lconst 0, 1) := by decide +kernel
theorem dX6_chance_40 : decode cX6_chance 40 = .ok (.lconst 1, 1) := by decide +kernel
theorem dX6_chance_41 : decode cX6_chance 41 = .ok (.invokestatic 45, 3) := by decide +kernel
theorem dX6_chance_44 : decode cX6_chance 44 = .ok (.ifCond .ne 7, 3) := by decide +kernel
theorem dX6_chance_47 : decode cX6_chance 47 = .ok (.ldc2_w 283, 3) := by decide +kernel
theorem dX6_chance_50 : decode cX6_chance 50 = .ok (.lreturn, 1) := by decide +kernel
theorem dX6_chance_51 : decode cX6_chance 51 = .ok (.iconst 0, 1) := by decide +kernel
theorem dX6_chance_52 : decode cX6_chance 52 = .ok (.istore 5, 2) := by decide +kernel
theorem dX6_chance_54 : decode cX6_chance 54 = .ok (.iload 5, 2) := by decide +kernel
theorem dX6_chance_56 : decode cX6_chance 56 = .ok (.bipush 6, 2) := by decide +kernel
theorem dX6_chance_58 : decode cX6_chance 58 = .ok (.if_icmp .ge 27, 3) := by decide +kernel
theorem dX6_chance_61 : decode cX6_chance 61 = .ok (.aload_n 0, 1) := by decide +kernel
theorem dX6_chance_62 : decode cX6_chance 62 = .ok (.getfield 34, 3) := by decide +kernel
theorem dX6_chance_65 : decode cX6_chance 65 = .ok (.iload 5, 2) := by decide +kernel
theorem dX6_chance_67 : decode cX6_chance 67 = .ok (.iload 5, 2) := by decide +kernel
theorem dX6_chance_69 : decode cX6_chance 69 = .ok (.iload_n 1, 1) := by decide +kernel
theorem dX6_chance_70 : decode cX6_chance 70 = .ok (.if_icmp .ne 7, 3) := by decide +kernel
theorem dX6_chance_73 : decode cX6_chance 73 = .ok (.lconst 1, 1) := by decide +kernel
theorem dX6_chance_74 : decode cX6_chance 74 = .ok (.goto 4, 3) := by decide +kernel
theorem dX6_chance_77 : decode cX6_chance 77 = .ok (.lconst 0, 1) := by decide +kernel
theorem dX6_chance_78 : decode cX6_chance 78 = .ok (.lastore, 1) := by decide +kernel
theorem dX6_chance_79 : decode cX6_chance 79 = .ok (.iinc 5 1, 3) := by decide +kernel
theorem dX6_chance_82 : decode cX6_chance 82 = .ok (.goto (-28), 3) := by decide +kernel
theorem dX6_chance_85 : decode cX6_chance 85 = .ok (.lconst 1, 1) := by decide +kernel
theorem dX6_chance_86 : decode cX6_chance 86 = .ok (.lstore 5, 2) := by decide +kernel
theorem dX6_chance_88 : decode cX6_chance 88 = .ok (.iconst 0, 1) := by decide +kernel
theorem dX6_chance_89 : decode cX6_chance 89 = .ok (.istore 7, 2) := by decide +kernel
theorem dX6_chance_91 : decode cX6_chance 91 = .ok (.iload 7, 2) := by decide +kernel
theorem dX6_chance_93 : decode cX6_chance 93 = .ok (.iload_n 3, 1) := by decide +kernel
theorem dX6_chance_94 : decode cX6_chance 94 = .ok (.if_icmp .ge 158, 3) := by decide +kernel
theorem dX6_chance_97 : decode cX6_chance 97 = .ok (.iconst 1, 1) := by decide +kernel
theorem dX6_chance_98 : decode cX6_chance 98 = .ok (.istore 8, 2) := by decide +kernel
theorem dX6_chance_100 : decode cX6_chance 100 = .ok (.iload 8, 2) := by decide +kernel
theorem dX6_chance_102 : decode cX6_chance 102 = .ok (.bipush 6, 2) := by decide +kernel
theorem dX6_chance_104 : decode cX6_chance 104 = .ok (.if_icmp .ge 101, 3) := by decide +kernel
theorem dX6_chance_107 : decode cX6_chance 107 = .ok (.aload_n 0, 1) := by decide +kernel
theorem dX6_chance_108 : decode cX6_chance 108 = .ok (.getfield 38, 3) := by decide +kernel
theorem dX6_chance_111 : decode cX6_chance 111 = .ok (.iload 8, 2) := by decide +kernel
theorem dX6_chance_113 : decode cX6_chance 113 = .ok (.iload 8, 2) := by decide +kernel
theorem dX6_chance_115 : decode cX6_chance 115 = .ok (.iconst 1, 1) := by decide +kernel
theorem dX6_chance_116 : decode cX6_chance 116 = .ok (.if_icmp .ne 19, 3) := by decide +kernel
theorem dX6_chance_119 : decode cX6_chance 119 = .ok (.aload_n 0, 1) := by decide +kernel
theorem dX6_chance_120 : decode cX6_chance 120 = .ok (.getfield 34, 3) := by decide +kernel
theorem dX6_chance_123 : decode cX6_chance 123 = .ok (.iconst 1, 1) := by decide +kernel
theorem dX6_chance_124 : decode cX6_chance 124 = .ok (.laload, 1) := by decide +kernel
theorem dX6_chance_125 : decode cX6_chance 125 = .ok (.iload_n 2, 1) := by decide +kernel
theorem dX6_chance_126 : decode cX6_chance 126 = .ok (.i2l, 1) := by decide +kernel
theorem dX6_chance_127 : decode cX6_chance 127 = .ok (.iload_n 1, 1) := by decide +kernel
theorem dX6_chance_128 : decode cX6_chance 128 = .ok (.invokestatic 277, 3) := by decide +kernel
theorem dX6_chance_131 : decode cX6_chance 131 = .ok (.lmul, 1) := by decide +kernel
theorem dX6_chance_132 : decode cX6_chance 132 = .ok (.goto 4, 3) := by decide +kernel
theorem dX6_chance_135 : decode cX6_chance 135 = .ok (.lconst 0, 1) := by decide +kernel
theorem dX6_chance_136 : decode cX6_chance 136 = .ok (.lastore, 1) := by decide +kernel
theorem dX6_chance_137 : decode cX6_chance 137 = .ok (.iconst 2, 1) := by decide +kernel
theorem dX6_chance_138 : decode cX6_chance 138 = .ok (.istore 9, 2) := by decide +kernel
theorem dX6_chance_140 : decode cX6_chance 140 = .ok (.iload 9, 2) := by decide +kernel
theorem dX6_chance_142 : decode cX6_chance 142 = .ok (.iload_n 1, 1) := by decide +kernel
theorem dX6_chance_143 : decode cX6_chance 143 = .ok (.if_icmp .gt 56, 3) := by decide +kernel
theorem dX6_chance_146 : decode cX6_chance 146 = .ok (.aload_n 0, 1) := by decide +kernel
theorem dX6_chance_147 : decode cX6_chance 147 = .ok (.getfield 38, 3) := by decide +kernel
theorem dX6_chance_150 : decode cX6_chance 150 = .ok (.iload 8, 2) := by decide +kernel
theorem dX6_chance_152 : decode cX6_chance 152 = .ok (.dup2, 1) := by decide +kernel
theorem dX6_chance_153 : decode cX6_chance 153 = .ok (.laload, 1) := by decide +kernel
theorem dX6_chance_154 : decode cX6_chance 154 = .ok (.iload 9, 2) := by decide +kernel
theorem dX6_chance_156 : decode cX6_chance 156 = .ok (.iload 8, 2) := by decide +kernel
theorem dX6_chance_158 : decode cX6_chance 158 = .ok (.if_icmp .lt 32, 3) := by decide +kernel
theorem dX6_chance_161 : decode cX6_chance 161 = .ok (.aload_n 0, 1) := by decide +kernel
theorem dX6_chance_162 : decode cX6_chance 162 = .ok (.getfield 34, 3) := by decide +kernel
theorem dX6_chance_165 : decode cX6_chance 165 = .ok (.iload 9, 2) := by decide +kernel
theorem dX6_chance_167 : decode cX6_chance 167 = .ok (.laload, 1) := by decide +kernel
theorem dX6_chance_168 : decode cX6_chance 168 = .ok (.iload 9, 2) := by decide +kernel
theorem dX6_chance_170 : decode cX6_chance 170 = .ok (.iload 8, 2) := by decide +kernel
theorem dX6_chance_172 : decode cX6_chance 172 = .ok (.iload_n 2, 1) := by decide +kernel
theorem dX6_chance_173 : decode cX6_chance 173 = .ok (.invokestatic 285, 3) := by decide +kernel
theorem dX6_chance_176 : decode cX6_chance 176 = .ok (.lmul, 1) := by decide +kernel
theorem dX6_chance_177 : decode cX6_chance 177 = .ok (.iload_n 2, 1) := by decide +kernel
theorem dX6_chance_178 : decode cX6_chance 178 = .ok (.i2l, 1) := by decide +kernel
theorem dX6_chance_179 : decode cX6_chance 179 = .ok (.iload_n 1, 1) := by decide +kernel
theorem dX6_chance_180 : decode cX6_chance 180 = .ok (.iload 9, 2) := by decide +kernel
theorem dX6_chance_182 : decode cX6_chance 182 = .ok (.isub, 1) := by decide +kernel
theorem dX6_chance_183 : decode cX6_chance 183 = .ok (.invokestatic 277, 3) := by decide +kernel
theorem dX6_chance_186 : decode cX6_chance 186 = .ok (.lmul, 1) := by decide +kernel
theorem dX6_chance_187 : decode cX6_chance 187 = .ok (.goto 4, 3) := by decide +kernel
theorem dX6_chance_190 : decode cX6_chance 190 = .ok (.lconst 0, 1) := by decide +kernel
theorem dX6_chance_191 : decode cX6_chance 191 = .ok (.ladd, 1) := by decide +kernel
theorem dX6_chance_192 : decode cX6_chance 192 = .ok (.lastore, 1) := by decide +kernel
theorem dX6_chance_193 : decode cX6_chance 193 = .ok (.iinc 9 1, 3) := by decide +kernel
theorem dX6_chance_196 : decode cX6_chance 196 = .ok (.goto (-56), 3) := by decide +kernel
theorem dX6_chance_199 : decode cX6_chance 199 = .ok (.iinc 8 1, 3) := by decide +kernel
theorem dX6_chance_202 : decode cX6_chance 202 = .ok (.goto (-102), 3) := by decide +kernel
theorem dX6_chance_205 : decode cX6_chance 205 = .ok (.iconst 1, 1) := by decide +kernel
theorem dX6_chance_206 : decode cX6_chance 206 = .ok (.istore 8, 2) := by decide +kernel
theorem dX6_chance_208 : decode cX6_chance 208 = .ok (.iload 8, 2) := by decide +kernel
theorem dX6_chance_210 : decode cX6_chance 210 = .ok (.bipush 6, 2) := by decide +kernel
theorem dX6_chance_212 : decode cX6_chance 212 = .ok (.if_icmp .ge 23, 3) := by decide +kernel
theorem dX6_chance_215 : decode cX6_chance 215 = .ok (.aload_n 0, 1) := by decide +kernel
theorem dX6_chance_216 : decode cX6_chance 216 = .ok (.getfield 34, 3) := by decide +kernel
theorem dX6_chance_219 : decode cX6_chance 219 = .ok (.iload 8, 2) := by decide +kernel
theorem dX6_chance_221 : decode cX6_chance 221 = .ok (.aload_n 0, 1) := by decide +kernel
theorem dX6_chance_222 : decode cX6_chance 222 = .ok (.getfield 38, 3) := by decide +kernel
theorem dX6_chance_225 : decode cX6_chance 225 = .ok (.iload 8, 2) := by decide +kernel
theorem dX6_chance_227 : decode cX6_chance 227 = .ok (.laload, 1) := by decide +kernel
theorem dX6_chance_228 : decode cX6_chance 228 = .ok (.lastore, 1) := by decide +kernel
theorem dX6_chance_229 : decode cX6_chance 229 = .ok (.iinc 8 1, 3) := by decide +kernel
theorem dX6_chance_232 : decode cX6_chance 232 = .ok (.goto (-24), 3) := by decide +kernel
theorem dX6_chance_235 : decode cX6_chance 235 = .ok (.lload 5, 2) := by decide +kernel
theorem dX6_chance_237 : decode cX6_chance 237 = .ok (.iload_n 2, 1) := by decide +kernel
theorem dX6_chance_238 : decode cX6_chance 238 = .ok (.i2l, 1) := by decide +kernel
theorem dX6_chance_239 : decode cX6_chance 239 = .ok (.iload_n 1, 1) := by decide +kernel
theorem dX6_chance_240 : decode cX6_chance 240 = .ok (.invokestatic 277, 3) := by decide +kernel
theorem dX6_chance_243 : decode cX6_chance 243 = .ok (.lmul, 1) := by decide +kernel
theorem dX6_chance_244 : decode cX6_chance 244 = .ok (.lstore 5, 2) := by decide +kernel
theorem dX6_chance_246 : decode cX6_chance 246 = .ok (.iinc 7 1, 3) := by decide +kernel
theorem dX6_chance_249 : decode cX6_chance 249 = .ok (.goto (-158), 3) := by decide +kernel
theorem dX6_chance_252 : decode cX6_chance 252 = .ok (.aload_n 0, 1) := by decide +kernel
theorem dX6_chance_253 : decode cX6_chance 253 = .ok (.getfield 34, 3) := by decide +kernel
theorem dX6_chance_256 : decode cX6_chance 256 = .ok (.iconst 1, 1) := by decide +kernel
theorem dX6_chance_257 : decode cX6_chance 257 = .ok (.laload, 1) := by decide +kernel
theorem dX6_chance_258 : decode cX6_chance 258 = .ok (.lload 5, 2) := by decide +kernel
theorem dX6_chance_260 : decode cX6_chance 260 = .ok (.invokestatic 273, 3) := by decide +kernel
theorem dX6_chance_263 : decode cX6_chance 263 = .ok (.lstore 7, 2) := by decide +kernel
theorem dX6_chance_265 : decode cX6_chance 265 = .ok (.iload 4, 2) := by decide +kernel
theorem dX6_chance_267 : decode cX6_chance 267 = .ok (.ifCond .ne 15, 3) := by decide +kernel
theorem dX6_chance_270 : decode cX6_chance 270 = .ok (.aload_n 0, 1) := by decide +kernel
theorem dX6_chance_271 : decode cX6_chance 271 = .ok (.getfield 34, 3) := by decide +kernel
theorem dX6_chance_274 : decode cX6_chance 274 = .ok (.iconst 1, 1) := by decide +kernel
theorem dX6_chance_275 : decode cX6_chance 275 = .ok (.laload, 1) := by decide +kernel
theorem dX6_chance_276 : decode cX6_chance 276 = .ok (.lload 7, 2) := by decide +kernel
theorem dX6_chance_278 : decode cX6_chance 278 = .ok (.ldiv, 1) := by decide +kernel
theorem dX6_chance_279 : decode cX6_chance 279 = .ok (.goto 8, 3) := by decide +kernel
theorem dX6_chance_282 : decode cX6_chance 282 = .ok (.lload 5, 2) := by decide +kernel
theorem dX6_chance_284 : decode cX6_chance 284 = .ok (.lload 7, 2) := by decide +kernel
theorem dX6_chance_286 : decode cX6_chance 286 = .ok (.ldiv, 1) := by decide +kernel
theorem dX6_chance_287 : decode cX6_chance 287 = .ok (.lreturn, 1) := by decide +kernel
theorem dX6_count_0 : decode cX6_count 0 = .ok (.aload_n 0, 1) := by decide +kernel
theorem dX6_count_1 : decode cX6_count 1 = .ok (.invokevirtual 216, 3) := by decide +kernel
theorem dX6_count_4 : decode cX6_count 4 = .ok (.istore_n 2, 1) := by decide +kernel
theorem dX6_count_5 : decode cX6_count 5 = .ok (.iload_n 1, 1) := by decide +kernel
theorem dX6_count_6 : decode cX6_count 6 = .ok (.tableswitch 118 0 10 #[58, 63, 70, 77, 77, 77, 77, 77, 94, 108, 113], 58) := by decide +kernel
theorem dX6_count_64 : decode cX6_count 64 = .ok (.aload_n 0, 1) := by decide +kernel
theorem dX6_count_65 : decode cX6_count 65 = .ok (.getfield 41, 3) := by decide +kernel
theorem dX6_count_68 : decode cX6_count 68 = .ok (.ireturn, 1) := by decide +kernel
theorem dX6_count_69 : decode cX6_count 69 = .ok (.aload_n 0, 1) := by decide +kernel
theorem dX6_count_70 : decode cX6_count 70 = .ok (.getfield 16, 3) := by decide +kernel
theorem dX6_count_73 : decode cX6_count 73 = .ok (.iconst 0, 1) := by decide +kernel
theorem dX6_count_74 : decode cX6_count 74 = .ok (.iaload, 1) := by decide +kernel
theorem dX6_count_75 : decode cX6_count 75 = .ok (.ireturn, 1) := by decide +kernel
theorem dX6_count_76 : decode cX6_count 76 = .ok (.aload_n 0, 1) := by decide +kernel
theorem dX6_count_77 : decode cX6_count 77 = .ok (.getfield 16, 3) := by decide +kernel
theorem dX6_count_80 : decode cX6_count 80 = .ok (.iconst 2, 1) := by decide +kernel
theorem dX6_count_81 : decode cX6_count 81 = .ok (.iaload, 1) := by decide +kernel
theorem dX6_count_82 : decode cX6_count 82 = .ok (.ireturn, 1) := by decide +kernel
theorem dX6_count_83 : decode cX6_count 83 = .ok (.iload_n 2, 1) := by decide +kernel
theorem dX6_count_84 : decode cX6_count 84 = .ok (.ifCond .eq 14, 3) := by decide +kernel
theorem dX6_count_87 : decode cX6_count 87 = .ok (.aload_n 0, 1) := by decide +kernel
theorem dX6_count_88 : decode cX6_count 88 = .ok (.iconst 0, 1) := by decide +kernel
theorem dX6_count_89 : decode cX6_count 89 = .ok (.iload_n 1, 1) := by decide +kernel
theorem dX6_count_90 : decode cX6_count 90 = .ok (.iconst 3, 1) := by decide +kernel
theorem dX6_count_91 : decode cX6_count 91 = .ok (.isub, 1) := by decide +kernel
theorem dX6_count_92 : decode cX6_count 92 = .ok (.invokevirtual 245, 3) := by decide +kernel
theorem dX6_count_95 : decode cX6_count 95 = .ok (.goto 4, 3) := by decide +kernel
theorem dX6_count_98 : decode cX6_count 98 = .ok (.iconst 0, 1) := by decide +kernel
theorem dX6_count_99 : decode cX6_count 99 = .ok (.ireturn, 1) := by decide +kernel
theorem dX6_count_100 : decode cX6_count 100 = .ok (.iload_n 2, 1) := by decide +kernel
theorem dX6_count_101 : decode cX6_count 101 = .ok (.ifCond .eq 11, 3) := by decide +kernel
theorem dX6_count_104 : decode cX6_count 104 = .ok (.aload_n 0, 1) := by decide +kernel
theorem dX6_count_105 : decode cX6_count 105 = .ok (.iconst 0, 1) := by decide +kernel
theorem dX6_count_106 : decode cX6_count 106 = .ok (.invokevirtual 242, 3) := by decide +kernel
theorem dX6_count_109 : decode cX6_count 109 = .ok (.goto 4, 3) := by decide +kernel
theorem dX6_count_112 : decode cX6_count 112 = .ok (.iconst (-1), 1) := by decide +kernel
theorem dX6_count_113 : decode cX6_count 113 = .ok (.ireturn, 1) := by decide +kernel
theorem dX6_count_114 : decode cX6_count 114 = .ok (.aload_n 0, 1) := by decide +kernel
theorem dX6_count_115 : decode cX6_count 115 = .ok (.getfield 153, 3) := by decide +kernel
theorem dX6_count_118 : decode cX6_count 118 = .ok (.ireturn, 1) := by decide +kernel
theorem dX6_count_119 : decode cX6_count 119 = .ok (.aload_n 0, 1) := by decide +kernel
theorem dX6_count_120 : decode cX6_count 120 = .ok (.getfield 162, 3) := by decide +kernel
theorem dX6_count_123 : decode cX6_count 123 = .ok (.ireturn, 1) := by decide +kernel
theorem dX6_count_124 : decode cX6_count 124 = .ok (.ldc 161, 2) := by decide +kernel
theorem dX6_count_126 : decode cX6_count 126 = .ok (.ireturn, 1) := by decide +kernel
