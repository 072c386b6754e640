theorem dX6_init_0 : decode cX6_init 0 = .ok (.aload_n 0, 1) := by decide +kernel
theorem dX6_init_1 : decode cX6_init 1 = .ok (.invokespecial 1, 3) := by decide +kernel
theorem dX6_init_4 : decode cX6_init 4 = .ok (.aload_n 0, 1) := by decide +kernel
theorem dX6_init_5 : decode cX6_init 5 = .ok (.bipush 6, 2) := by decide +kernel
theorem dX6_init_7 : decode cX6_init 7 = .ok (.newarray .int, 2) := by decide +kernel
theorem dX6_init_9 : decode cX6_init 9 = .ok (.putfield 7, 3) := by decide +kernel
theorem dX6_init_12 : decode cX6_init 12 = .ok (.aload_n 0, 1) := by decide +kernel
theorem dX6_init_13 : decode cX6_init 13 = .ok (.bipush 6, 2) := by decide +kernel
theorem dX6_init_15 : decode cX6_init 15 = .ok (.newarray .int, 2) := by decide +kernel
theorem dX6_init_17 : decode cX6_init 17 = .ok (.putfield 13, 3) := by decide +kernel
theorem dX6_init_20 : decode cX6_init 20 = .ok (.aload_n 0, 1) := by decide +kernel
theorem dX6_init_21 : decode cX6_init 21 = .ok (.sipush 4200, 3) := by decide +kernel
theorem dX6_init_24 : decode cX6_init 24 = .ok (.newarray .int, 2) := by decide +kernel
theorem dX6_init_26 : decode cX6_init 26 = .ok (.putfield 16, 3) := by decide +kernel
theorem dX6_init_29 : decode cX6_init 29 = .ok (.aload_n 0, 1) := by decide +kernel
theorem dX6_init_30 : decode cX6_init 30 = .ok (.bipush 40, 2) := by decide +kernel
theorem dX6_init_32 : decode cX6_init 32 = .ok (.newarray .int, 2) := by decide +kernel
theorem dX6_init_34 : decode cX6_init 34 = .ok (.putfield 19, 3) := by decide +kernel
theorem dX6_init_37 : decode cX6_init 37 = .ok (.aload_n 0, 1) := by decide +kernel
theorem dX6_init_38 : decode cX6_init 38 = .ok (.bipush 6, 2) := by decide +kernel
theorem dX6_init_40 : decode cX6_init 40 = .ok (.newarray .int, 2) := by decide +kernel
theorem dX6_init_42 : decode cX6_init 42 = .ok (.putfield 22, 3) := by decide +kernel
theorem dX6_init_45 : decode cX6_init 45 = .ok (.aload_n 0, 1) := by decide +kernel
theorem dX6_init_46 : decode cX6_init 46 = .ok (.bipush 6, 2) := by decide +kernel
theorem dX6_init_48 : decode cX6_init 48 = .ok (.newarray .int, 2) := by decide +kernel
theorem dX6_init_50 : decode cX6_init 50 = .ok (.putfield 25, 3) := by decide +kernel
theorem dX6_init_53 : decode cX6_init 53 = .ok (.aload_n 0, 1) := by decide +kernel
theorem dX6_init_54 : decode cX6_init 54 = .ok (.iconst 4, 1) := by decide +kernel
theorem dX6_init_55 : decode cX6_init 55 = .ok (.newarray .int, 2) := by decide +kernel
theorem dX6_init_57 : decode cX6_init 57 = .ok (.putfield 28, 3) := by decide +kernel
theorem dX6_init_60 : decode cX6_init 60 = .ok (.aload_n 0, 1) := by decide +kernel
theorem dX6_init_61 : decode cX6_init 61 = .ok (.bipush 6, 2) := by decide +kernel
theorem dX6_init_63 : decode cX6_init 63 = .ok (.newarray .int, 2) := by decide +kernel
theorem dX6_init_65 : decode cX6_init 65 = .ok (.putfield 31, 3) := by decide +kernel
theorem dX6_init_68 : decode cX6_init 68 = .ok (.aload_n 0, 1) := by decide +kernel
theorem dX6_init_69 : decode cX6_init 69 = .ok (.bipush 6, 2) := by decide +kernel
theorem dX6_init_71 : decode cX6_init 71 = .ok (.newarray .long, 2) := by decide +kernel
theorem dX6_init_73 : decode cX6_init 73 = .ok (.putfield 34, 3) := by decide +kernel
theorem dX6_init_76 : decode cX6_init 76 = .ok (.aload_n 0, 1) := by decide +kernel
theorem dX6_init_77 : decode cX6_init 77 = .ok (.bipush 6, 2) := by decide +kernel
theorem dX6_init_79 : decode cX6_init 79 = .ok (.newarray .long, 2) := by decide +kernel
theorem dX6_init_81 : decode cX6_init 81 = .ok (.putfield 38, 3) := by decide +kernel
theorem dX6_init_84 : decode cX6_init 84 = .ok (.return_, 1) := by decide +kernel
theorem dX6_in_0 : decode cX6_in 0 = .ok (.lload_n 0, 1) := by decide +kernel
theorem dX6_in_1 : decode cX6_in 1 = .ok (.lload_n 2, 1) := by decide +kernel
theorem dX6_in_2 : decode cX6_in 2 = .ok (.lcmp, 1) := by decide +kernel
theorem dX6_in_3 : decode cX6_in 3 = .ok (.ifCond .lt 14, 3) := by decide +kernel
theorem dX6_in_6 : decode cX6_in 6 = .ok (.lload_n 0, 1) := by decide +kernel
theorem dX6_in_7 : decode cX6_in 7 = .ok (.lload 4, 2) := by decide +kernel
theorem dX6_in_9 : decode cX6_in 9 = .ok (.lcmp, 1) := by decide +kernel
theorem dX6_in_10 : decode cX6_in 10 = .ok (.ifCond .gt 7, 3) := by decide +kernel
theorem dX6_in_13 : decode cX6_in 13 = .ok (.iconst 1, 1) := by decide +kernel
theorem dX6_in_14 : decode cX6_in 14 = .ok (.goto 4, 3) := by decide +kernel
theorem dX6_in_17 : decode cX6_in 17 = .ok (.iconst 0, 1) := by decide +kernel
theorem dX6_in_18 : decode cX6_in 18 = .ok (.ireturn, 1) := by decide +kernel
theorem dX6_copies_0 : decode cX6_copies 0 = .ok (.iconst 0, 1) := by decide +kernel
theorem dX6_copies_1 : decode cX6_copies 1 = .ok (.istore_n 3, 1) := by decide +kernel
theorem dX6_copies_2 : decode cX6_copies 2 = .ok (.iload_n 3, 1) := by decide +kernel
theorem dX6_copies_3 : decode cX6_copies 3 = .ok (.sipush 168, 3) := by decide +kernel
theorem dX6_copies_6 : decode cX6_copies 6 = .ok (.if_icmp .ge 33, 3) := by decide +kernel
theorem dX6_copies_9 : decode cX6_copies 9 = .ok (.aload_n 0, 1) := by decide +kernel
theorem dX6_copies_10 : decode cX6_copies 10 = .ok (.getfield 16, 3) := by decide +kernel
theorem dX6_copies_13 : decode cX6_copies 13 = .ok (.sipush 168, 3) := by decide +kernel
theorem dX6_copies_16 : decode cX6_copies 16 = .ok (.iload_n 2, 1) := by decide +kernel
theorem dX6_copies_17 : decode cX6_copies 17 = .ok (.imul, 1) := by decide +kernel
theorem dX6_copies_18 : decode cX6_copies 18 = .ok (.iload_n 3, 1) := by decide +kernel
theorem dX6_copies_19 : decode cX6_copies 19 = .ok (.iadd, 1) := by decide +kernel
theorem dX6_copies_20 : decode cX6_copies 20 = .ok (.aload_n 0, 1) := by decide +kernel
theorem dX6_copies_21 : decode cX6_copies 21 = .ok (.getfield 16, 3) := by decide +kernel
theorem dX6_copies_24 : decode cX6_copies 24 = .ok (.sipush 168, 3) := by decide +kernel
theorem dX6_copies_27 : decode cX6_copies 27 = .ok (.iload_n 1, 1) := by decide +kernel
theorem dX6_copies_28 : decode cX6_copies 28 = .ok (.imul, 1) := by decide +kernel
theorem dX6_copies_29 : decode cX6_copies 29 = .ok (.iload_n 3, 1) := by decide +kernel
theorem dX6_copies_30 : decode cX6_copies 30 = .ok (.iadd, 1) := by decide +kernel
theorem dX6_copies_31 : decode cX6_copies 31 = .ok (.iaload, 1) := by decide +kernel
theorem dX6_copies_32 : decode cX6_copies 32 = .ok (.iastore, 1) := by decide +kernel
theorem dX6_copies_33 : decode cX6_copies 33 = .ok (.iinc 3 1, 3) := by decide +kernel
theorem dX6_copies_36 : decode cX6_copies 36 = .ok (.goto (-34), 3) := by decide +kernel
theorem dX6_copies_39 : decode cX6_copies 39 = .ok (.return_, 1) := by decide +kernel
theorem dX6_isBegun_0 : decode cX6_isBegun 0 = .ok (.aload_n 0, 1) := by decide +kernel
theorem dX6_isBegun_1 : decode cX6_isBegun 1 = .ok (.getfield 16, 3) := by decide +kernel
theorem dX6_isBegun_4 : decode cX6_isBegun 4 = .ok (.iconst 0, 1) := by decide +kernel
theorem dX6_isBegun_5 : decode cX6_isBegun 5 = .ok (.iaload, 1) := by decide +kernel
theorem dX6_isBegun_6 : decode cX6_isBegun 6 = .ok (.ifCond .le 7, 3) := by decide +kernel
theorem dX6_isBegun_9 : decode cX6_isBegun 9 = .ok (.iconst 1, 1) := by decide +kernel
theorem dX6_isBegun_10 : decode cX6_isBegun 10 = .ok (.goto 4, 3) := by decide +kernel
theorem dX6_isBegun_13 : decode cX6_isBegun 13 = .ok (.iconst 0, 1) := by decide +kernel
theorem dX6_isBegun_14 : decode cX6_isBegun 14 = .ok (.ireturn, 1) := by decide +kernel
theorem dX6_isContender_0 : decode cX6_isContender 0 = .ok (.iload_n 1, 1) := by decide +kernel
theorem dX6_isContender_1 : decode cX6_isContender 1 = .ok (.i2l, 1) := by decide +kernel
theorem dX6_isContender_2 : decode cX6_isContender 2 = .ok (.lconst 0, 1) := by decide +kernel
theorem dX6_isContender_3 : decode cX6_isContender 3 = .ok (.aload_n 0, 1) := by decide +kernel
theorem dX6_isContender_4 : decode cX6_isContender 4 = .ok (.getfield 41, 3) := by decide +kernel
theorem dX6_isContender_7 : decode cX6_isContender 7 = .ok (.iconst 1, 1) := by decide +kernel
theorem dX6_isContender_8 : decode cX6_isContender 8 = .ok (.isub, 1) := by decide +kernel
theorem dX6_isContender_9 : decode cX6_isContender 9 = .ok (.i2l, 1) := by decide +kernel
theorem dX6_isContender_10 : decode cX6_isContender 10 = .ok (.invokestatic 45, 3) := by decide +kernel
theorem dX6_isContender_13 : decode cX6_isContender 13 = .ok (.ireturn, 1) := by decide +kernel
theorem dX6_isLink_0 : decode cX6_isLink 0 = .ok (.iload_n 1, 1) := by decide +kernel
theorem dX6_isLink_1 : decode cX6_isLink 1 = .ok (.i2l, 1) := by decide +kernel
theorem dX6_isLink_2 : decode cX6_isLink 2 = .ok (.lconst 0, 1) := by decide +kernel
theorem dX6_isLink_3 : decode cX6_isLink 3 = .ok (.iconst 2, 1) := by decide +kernel
theorem dX6_isLink_4 : decode cX6_isLink 4 = .ok (.aload_n 0, 1) := by decide +kernel
theorem dX6_isLink_5 : decode cX6_isLink 5 = .ok (.getfield 41, 3) := by decide +kernel
theorem dX6_isLink_8 : decode cX6_isLink 8 = .ok (.imul, 1) := by decide +kernel
theorem dX6_isLink_9 : decode cX6_isLink 9 = .ok (.iconst 1, 1) := by decide +kernel
theorem dX6_isLink_10 : decode cX6_isLink 10 = .ok (.isub, 1) := by decide +kernel
theorem dX6_isLink_11 : decode cX6_isLink 11 = .ok (.i2l, 1) := by decide +kernel
theorem dX6_isLink_12 : decode cX6_isLink 12 = .ok (.invokestatic 45, 3) := by decide +kernel
theorem dX6_isLink_15 : decode cX6_isLink 15 = .ok (.ireturn, 1) := by decide +kernel
theorem dX6_ofContender_0 : decode cX6_ofContender 0 = .ok (.sipush 168, 3) := by decide +kernel
theorem dX6_ofContender_3 : decode cX6_ofContender 3 = .ok (.iload_n 0, 1) := by decide +kernel
theorem dX6_ofContender_4 : decode cX6_ofContender 4 = .ok (.imul, 1) := by decide +kernel
theorem dX6_ofContender_5 : decode cX6_ofContender 5 = .ok (.bipush 12, 2) := by decide +kernel
theorem dX6_ofContender_7 : decode cX6_ofContender 7 = .ok (.iadd, 1) := by decide +kernel
theorem dX6_ofContender_8 : decode cX6_ofContender 8 = .ok (.bipush 10, 2) := by decide +kernel
theorem dX6_ofContender_10 : decode cX6_ofContender 10 = .ok (.iload_n 1, 1) := by decide +kernel
theorem dX6_ofContender_11 : decode cX6_ofContender 11 = .ok (.imul, 1) := by decide +kernel
theorem dX6_ofContender_12 : decode cX6_ofContender 12 = .ok (.iadd, 1) := by decide +kernel
theorem dX6_ofContender_13 : decode cX6_ofContender 13 = .ok (.iload_n 2, 1) := by decide +kernel
theorem dX6_ofContender_14 : decode cX6_ofContender 14 = .ok (.iadd, 1) := by decide +kernel
theorem dX6_ofContender_15 : decode cX6_ofContender 15 = .ok (.ireturn, 1) := by decide +kernel
theorem dX6_ofLetter_0 : decode cX6_ofLetter 0 = .ok (.sipush 168, 3) := by decide +kernel
theorem dX6_ofLetter_3 : decode cX6_ofLetter 3 = .ok (.iload_n 0, 1) := by decide +kernel
theorem dX6_ofLetter_4 : decode cX6_ofLetter 4 = .ok (.imul, 1) := by decide +kernel
theorem dX6_ofLetter_5 : decode cX6_ofLetter 5 = .ok (.bipush 72, 2) := by decide +kernel
theorem dX6_ofLetter_7 : decode cX6_ofLetter 7 = .ok (.iadd, 1) := by decide +kernel
theorem dX6_ofLetter_8 : decode cX6_ofLetter 8 = .ok (.bipush 6, 2) := by decide +kernel
theorem dX6_ofLetter_10 : decode cX6_ofLetter 10 = .ok (.iload_n 1, 1) := by decide +kernel
theorem dX6_ofLetter_11 : decode cX6_ofLetter 11 = .ok (.imul, 1) := by decide +kernel
theorem dX6_ofLetter_12 : decode cX6_ofLetter 12 = .ok (.iadd, 1) := by decide +kernel
theorem dX6_ofLetter_13 : decode cX6_ofLetter 13 = .ok (.iload_n 2, 1) := by decide +kernel
theorem dX6_ofLetter_14 : decode cX6_ofLetter 14 = .ok (.iadd, 1) := by decide +kernel
theorem dX6_ofLetter_15 : decode cX6_ofLetter 15 = .ok (.ireturn, 1) := by decide +kernel
theorem dX6_has_0 : decode cX6_has 0 = .ok (.aload_n 0, 1) := by decide +kernel
theorem dX6_has_1 : decode cX6_has 1 = .ok (.getfield 16, 3) := by decide +kernel
theorem dX6_has_4 : decode cX6_has 4 = .ok (.iload_n 1, 1) := by decide +kernel
theorem dX6_has_5 : decode cX6_has 5 = .ok (.iload_n 2, 1) := by decide +kernel
theorem dX6_has_6 : decode cX6_has 6 = .ok (.iload_n 3, 1) := by decide +kernel
theorem dX6_has_7 : decode cX6_has 7 = .ok (.invokestatic 49, 3) := by decide +kernel
theorem dX6_has_10 : decode cX6_has 10 = .ok (.iaload, 1) := by decide +kernel
theorem dX6_has_11 : decode cX6_has 11 = .ok (.ireturn, 1) := by decide +kernel
theorem dX6_set_0 : decode cX6_set 0 = .ok (.aload_n 0, 1) := by decide +kernel
theorem dX6_set_1 : decode cX6_set 1 = .ok (.getfield 16, 3) := by decide +kernel
theorem dX6_set_4 : decode cX6_set 4 = .ok (.iload_n 1, 1) := by decide +kernel
theorem dX6_set_5 : decode cX6_set 5 = .ok (.iload_n 2, 1) := by decide +kernel
theorem dX6_set_6 : decode cX6_set 6 = .ok (.iload_n 3, 1) := by decide +kernel
theorem dX6_set_7 : decode cX6_set 7 = .ok (.invokestatic 49, 3) := by decide +kernel
theorem dX6_set_10 : decode cX6_set 10 = .ok (.iload 4, 2) := by decide +kernel
theorem dX6_set_12 : decode cX6_set 12 = .ok (.iastore, 1) := by decide +kernel
theorem dX6_set_13 : decode cX6_set 13 = .ok (.return_, 1) := by decide +kernel
theorem dX6_sends_0 : decode cX6_sends 0 = .ok (.aload_n 0, 1) := by decide +kernel
theorem dX6_sends_1 : decode cX6_sends 1 = .ok (.getfield 16, 3) := by decide +kernel
theorem dX6_sends_4 : decode cX6_sends 4 = .ok (.sipush 168, 3) := by decide +kernel
theorem dX6_sends_7 : decode cX6_sends 7 = .ok (.iload_n 1, 1) := by decide +kernel
theorem dX6_sends_8 : decode cX6_sends 8 = .ok (.imul, 1) := by decide +kernel
theorem dX6_sends_9 : decode cX6_sends 9 = .ok (.iconst 2, 1) := by decide +kernel
theorem dX6_sends_10 : decode cX6_sends 10 = .ok (.iadd, 1) := by decide +kernel
theorem dX6_sends_11 : decode cX6_sends 11 = .ok (.iaload, 1) := by decide +kernel
theorem dX6_sends_12 : decode cX6_sends 12 = .ok (.istore 8, 2) := by decide +kernel
theorem dX6_sends_14 : decode cX6_sends 14 = .ok (.aload_n 0, 1) := by decide +kernel
theorem dX6_sends_15 : decode cX6_sends 15 = .ok (.getfield 16, 3) := by decide +kernel
theorem dX6_sends_18 : decode cX6_sends 18 = .ok (.iload_n 1, 1) := by decide +kernel
theorem dX6_sends_19 : decode cX6_sends 19 = .ok (.iload 8, 2) := by decide +kernel
theorem dX6_sends_21 : decode cX6_sends 21 = .ok (.iconst 0, 1) := by decide +kernel
theorem dX6_sends_22 : decode cX6_sends 22 = .ok (.invokestatic 53, 3) := by decide +kernel
theorem dX6_sends_25 : decode cX6_sends 25 = .ok (.iload_n 2, 1) := by decide +kernel
theorem dX6_sends_26 : decode cX6_sends 26 = .ok (.iastore, 1) := by decide +kernel
theorem dX6_sends_27 : decode cX6_sends 27 = .ok (.aload_n 0, 1) := by decide +kernel
theorem dX6_sends_28 : decode cX6_sends 28 = .ok (.getfield 16, 3) := by decide +kernel
theorem dX6_sends_31 : decode cX6_sends 31 = .ok (.iload_n 1, 1) := by decide +kernel
theorem dX6_sends_32 : decode cX6_sends 32 = .ok (.iload 8, 2) := by decide +kernel
theorem dX6_sends_34 : decode cX6_sends 34 = .ok (.iconst 1, 1) := by decide +kernel
theorem dX6_sends_35 : decode cX6_sends 35 = .ok (.invokestatic 53, 3) := by decide +kernel
theorem dX6_sends_38 : decode cX6_sends 38 = .ok (.iload_n 3, 1) := by decide +kernel
theorem dX6_sends_39 : decode cX6_sends 39 = .ok (.iastore, 1) := by decide +kernel
theorem dX6_sends_40 : decode cX6_sends 40 = .ok (.aload_n 0, 1) := by decide +kernel
theorem dX6_sends_41 : decode cX6_sends 41 = .ok (.getfield 16, 3) := by decide +kernel
theorem dX6_sends_44 : decode cX6_sends 44 = .ok (.iload_n 1, 1) := by decide +kernel
theorem dX6_sends_45 : decode cX6_sends 45 = .ok (.iload 8, 2) := by decide +kernel
theorem dX6_sends_47 : decode cX6_sends 47 = .ok (.iconst 2, 1) := by decide +kernel
theorem dX6_sends_48 : decode cX6_sends 48 = .ok (.invokestatic 53, 3) := by decide +kernel
theorem dX6_sends_51 : decode cX6_sends 51 = .ok (.iload 4, 2) := by decide +kernel
theorem dX6_sends_53 : decode cX6_sends 53 = .ok (.iastore, 1) := by decide +kernel
theorem dX6_sends_54 : decode cX6_sends 54 = .ok (.aload_n 0, 1) := by decide +kernel
theorem dX6_sends_55 : decode cX6_sends 55 = .ok (.getfield 16, 3) := by decide +kernel
theorem dX6_sends_58 : decode cX6_sends 58 = .ok (.iload_n 1, 1) := by decide +kernel
theorem dX6_sends_59 : decode cX6_sends 59 = .ok (.iload 8, 2) := by decide +kernel
theorem dX6_sends_61 : decode cX6_sends 61 = .ok (.iconst 3, 1) := by decide +kernel
theorem dX6_sends_62 : decode cX6_sends 62 = .ok (.invokestatic 53, 3) := by decide +kernel
theorem dX6_sends_65 : decode cX6_sends 65 = .ok (.iload 5, 2) := by decide +kernel
theorem dX6_sends_67 : decode cX6_sends 67 = .ok (.iastore, 1) := by decide +kernel
theorem dX6_sends_68 : decode cX6_sends 68 = .ok (.aload_n 0, 1) := by decide +kernel
theorem dX6_sends_69 : decode cX6_sends 69 = .ok (.getfield 16, 3) := by decide +kernel
theorem dX6_sends_72 : decode cX6_sends 72 = .ok (.iload_n 1, 1) := by decide +kernel
theorem dX6_sends_73 : decode cX6_sends 73 = .ok (.iload 8, 2) := by decide +kernel
theorem dX6_sends_75 : decode cX6_sends 75 = .ok (.iconst 4, 1) := by decide +kernel
theorem dX6_sends_76 : decode cX6_sends 76 = .ok (.invokestatic 53, 3) := by decide +kernel
theorem dX6_sends_79 : decode cX6_sends 79 = .ok (.iload 6, 2) := by decide +kernel
theorem dX6_sends_81 : decode cX6_sends 81 = .ok (.iastore, 1) := by decide +kernel
theorem dX6_sends_82 : decode cX6_sends 82 = .ok (.aload_n 0, 1) := by decide +kernel
theorem dX6_sends_83 : decode cX6_sends 83 = .ok (.getfield 16, 3) := by decide +kernel
theorem dX6_sends_86 : decode cX6_sends 86 = .ok (.iload_n 1, 1) := by decide +kernel
theorem dX6_sends_87 : decode cX6_sends 87 = .ok (.iload 8, 2) := by decide +kernel
theorem dX6_sends_89 : decode cX6_sends 89 = .ok (.iconst 5, 1) := by decide +kernel
theorem dX6_sends_90 : decode cX6_sends 90 = .ok (.invokestatic 53, 3) := by decide +kernel
theorem dX6_sends_93 : decode cX6_sends 93 = .ok (.iload 7, 2) := by decide +kernel
theorem dX6_sends_95 : decode cX6_sends 95 = .ok (.iastore, 1) := by decide +kernel
theorem dX6_sends_96 : decode cX6_sends 96 = .ok (.aload_n 0, 1) := by decide +kernel
theorem dX6_sends_97 : decode cX6_sends 97 = .ok (.getfield 16, 3) := by decide +kernel
theorem dX6_sends_100 : decode cX6_sends 100 = .ok (.sipush 168, 3) := by decide +kernel
theorem dX6_sends_103 : decode cX6_sends 103 = .ok (.iload_n 1, 1) := by decide +kernel
theorem dX6_sends_104 : decode cX6_sends 104 = .ok (.imul, 1) := by decide +kernel
theorem dX6_sends_105 : decode cX6_sends 105 = .ok (.iconst 2, 1) := by decide +kernel
theorem dX6_sends_106 : decode cX6_sends 106 = .ok (.iadd, 1) := by decide +kernel
theorem dX6_sends_107 : decode cX6_sends 107 = .ok (.iload 8, 2) := by decide +kernel
theorem dX6_sends_109 : decode cX6_sends 109 = .ok (.iconst 1, 1) := by decide +kernel
theorem dX6_sends_110 : decode cX6_sends 110 = .ok (.iadd, 1) := by decide +kernel
theorem dX6_sends_111 : decode cX6_sends 111 = .ok (.iastore, 1) := by decide +kernel
theorem dX6_sends_112 : decode cX6_sends 112 = .ok (.aload_n 0, 1) := by decide +kernel
theorem dX6_sends_113 : decode cX6_sends 113 = .ok (.getfield 16, 3) := by decide +kernel
theorem dX6_sends_116 : decode cX6_sends 116 = .ok (.sipush 168, 3) := by decide +kernel
theorem dX6_sends_119 : decode cX6_sends 119 = .ok (.iload_n 1, 1) := by decide +kernel
theorem dX6_sends_120 : decode cX6_sends 120 = .ok (.imul, 1) := by decide +kernel
theorem dX6_sends_121 : decode cX6_sends 121 = .ok (.iconst 3, 1) := by decide +kernel
theorem dX6_sends_122 : decode cX6_sends 122 = .ok (.iadd, 1) := by decide +kernel
theorem dX6_sends_123 : decode cX6_sends 123 = .ok (.dup2, 1) := by decide +kernel
theorem dX6_sends_124 : decode cX6_sends 124 = .ok (.iaload, 1) := by decide +kernel
theorem dX6_sends_125 : decode cX6_sends 125 = .ok (.iconst 1, 1) := by decide +kernel
theorem dX6_sends_126 : decode cX6_sends 126 = .ok (.iadd, 1) := by decide +kernel
theorem dX6_sends_127 : decode cX6_sends 127 = .ok (.iastore, 1) := by decide +kernel
theorem dX6_sends_128 : decode cX6_sends 128 = .ok (.aload_n 0, 1) := by decide +kernel
theorem dX6_sends_129 : decode cX6_sends 129 = .ok (.getfield 16, 3) := by decide +kernel
theorem dX6_sends_132 : decode cX6_sends 132 = .ok (.sipush 168, 3) := by decide +kernel
theorem dX6_sends_135 : decode cX6_sends 135 = .ok (.iload_n 1, 1) := by decide +kernel
theorem dX6_sends_136 : decode cX6_sends 136 = .ok (.imul, 1) := by decide +kernel
theorem dX6_sends_137 : decode cX6_sends 137 = .ok (.iconst 3, 1) := by decide +kernel
theorem dX6_sends_138 : decode cX6_sends 138 = .ok (.iadd, 1) := by decide +kernel
theorem dX6_sends_139 : decode cX6_sends 139 = .ok (.iload_n 3, 1) := by decide +kernel
theorem dX6_sends_140 : decode cX6_sends 140 = .ok (.iadd, 1) := by decide +kernel
theorem dX6_sends_141 : decode cX6_sends 141 = .ok (.dup2, 1) := by decide +kernel
theorem dX6_sends_142 : decode cX6_sends 142 = .ok (.iaload, 1) := by decide +kernel
theorem dX6_sends_143 : decode cX6_sends 143 = .ok (.iconst 1, 1) := by decide +kernel
theorem dX6_sends_144 : decode cX6_sends 144 = .ok (.iadd, 1) := by decide +kernel
theorem dX6_sends_145 : decode cX6_sends 145 = .ok (.iastore, 1) := by decide +kernel
theorem dX6_sends_146 : decode cX6_sends 146 = .ok (.return_, 1) := by decide +kernel
theorem dX6_rightOf_0 : decode cX6_rightOf 0 = .ok (.iconst 2, 1) := by decide +kernel
theorem dX6_rightOf_1 : decode cX6_rightOf 1 = .ok (.iload_n 2, 1) := by decide +kernel
theorem dX6_rightOf_2 : decode cX6_rightOf 2 = .ok (.imul, 1) := by decide +kernel
theorem dX6_rightOf_3 : decode cX6_rightOf 3 = .ok (.aload_n 0, 1) := by decide +kernel
theorem dX6_rightOf_4 : decode cX6_rightOf 4 = .ok (.iload_n 1, 1) := by decide +kernel
theorem dX6_rightOf_5 : decode cX6_rightOf 5 = .ok (.iload_n 2, 1) := by decide +kernel
theorem dX6_rightOf_6 : decode cX6_rightOf 6 = .ok (.iconst 0, 1) := by decide +kernel
theorem dX6_rightOf_7 : decode cX6_rightOf 7 = .ok (.invokevirtual 56, 3) := by decide +kernel
theorem dX6_rightOf_10 : decode cX6_rightOf 10 = .ok (.iadd, 1) := by decide +kernel
theorem dX6_rightOf_11 : decode cX6_rightOf 11 = .ok (.ireturn, 1) := by decide +kernel
theorem dX6_letterOn_0 : decode cX6_letterOn 0 = .ok (.iload_n 3, 1) := by decide +kernel
theorem dX6_letterOn_1 : decode cX6_letterOn 1 = .ok (.istore 4, 2) := by decide +kernel
theorem dX6_letterOn_3 : decode cX6_letterOn 3 = .ok (.iconst (-1), 1) := by decide +kernel
theorem dX6_letterOn_4 : decode cX6_letterOn 4 = .ok (.istore 5, 2) := by decide +kernel
theorem dX6_letterOn_6 : decode cX6_letterOn 6 = .ok (.iconst 0, 1) := by decide +kernel
theorem dX6_letterOn_7 : decode cX6_letterOn 7 = .ok (.istore 6, 2) := by decide +kernel
theorem dX6_letterOn_9 : decode cX6_letterOn 9 = .ok (.iload 6, 2) := by decide +kernel
theorem dX6_letterOn_11 : decode cX6_letterOn 11 = .ok (.aload_n 0, 1) := by decide +kernel
theorem dX6_letterOn_12 : decode cX6_letterOn 12 = .ok (.getfield 16, 3) := by decide +kernel
theorem dX6_letterOn_15 : decode cX6_letterOn 15 = .ok (.sipush 168, 3) := by decide +kernel
theorem dX6_letterOn_18 : decode cX6_letterOn 18 = .ok (.iload_n 1, 1) := by decide +kernel
theorem dX6_letterOn_19 : decode cX6_letterOn 19 = .ok (.imul, 1) := by decide +kernel
theorem dX6_letterOn_20 : decode cX6_letterOn 20 = .ok (.iconst 2, 1) := by decide +kernel
theorem dX6_letterOn_21 : decode cX6_letterOn 21 = .ok (.iadd, 1) := by decide +kernel
theorem dX6_letterOn_22 : decode cX6_letterOn 22 = .ok (.iaload, 1) := by decide +kernel
theorem dX6_letterOn_23 : decode cX6_letterOn 23 = .ok (.if_icmp .ge 66, 3) := by decide +kernel
theorem dX6_letterOn_26 : decode cX6_letterOn 26 = .ok (.aload_n 0, 1) := by decide +kernel
theorem dX6_letterOn_27 : decode cX6_letterOn 27 = .ok (.getfield 16, 3) := by decide +kernel
theorem dX6_letterOn_30 : decode cX6_letterOn 30 = .ok (.iload_n 1, 1) := by decide +kernel
theorem dX6_letterOn_31 : decode cX6_letterOn 31 = .ok (.iload 6, 2) := by decide +kernel
theorem dX6_letterOn_33 : decode cX6_letterOn 33 = .ok (.iconst 0, 1) := by decide +kernel
theorem dX6_letterOn_34 : decode cX6_letterOn 34 = .ok (.invokestatic 53, 3) := by decide +kernel
theorem dX6_letterOn_37 : decode cX6_letterOn 37 = .ok (.iaload, 1) := by decide +kernel
theorem dX6_letterOn_38 : decode cX6_letterOn 38 = .ok (.iload_n 2, 1) := by decide +kernel
theorem dX6_letterOn_39 : decode cX6_letterOn 39 = .ok (.if_icmp .ne 7, 3) := by decide +kernel
theorem dX6_letterOn_42 : decode cX6_letterOn 42 = .ok (.iconst 1, 1) := by decide +kernel
theorem dX6_letterOn_43 : decode cX6_letterOn 43 = .ok (.goto 4, 3) := by decide +kernel
theorem dX6_letterOn_46 : decode cX6_letterOn 46 = .ok (.iconst 0, 1) := by decide +kernel
theorem dX6_letterOn_47 : decode cX6_letterOn 47 = .ok (.istore 7, 2) := by decide +kernel
theorem dX6_letterOn_49 : decode cX6_letterOn 49 = .ok (.iload 7, 2) := by decide +kernel
theorem dX6_letterOn_51 : decode cX6_letterOn 51 = .ok (.ifCond .eq 13, 3) := by decide +kernel
theorem dX6_letterOn_54 : decode cX6_letterOn 54 = .ok (.iload 4, 2) := by decide +kernel
theorem dX6_letterOn_56 : decode cX6_letterOn 56 = .ok (.ifCond .ne 8, 3) := by decide +kernel
theorem dX6_letterOn_59 : decode cX6_letterOn 59 = .ok (.iload 6, 2) := by decide +kernel
theorem dX6_letterOn_61 : decode cX6_letterOn 61 = .ok (.goto 5, 3) := by decide +kernel
theorem dX6_letterOn_64 : decode cX6_letterOn 64 = .ok (.iload 5, 2) := by decide +kernel
theorem dX6_letterOn_66 : decode cX6_letterOn 66 = .ok (.istore 5, 2) := by decide +kernel
theorem dX6_letterOn_68 : decode cX6_letterOn 68 = .ok (.iload 4, 2) := by decide +kernel
theorem dX6_letterOn_70 : decode cX6_letterOn 70 = .ok (.iload 7, 2) := by decide +kernel
theorem dX6_letterOn_72 : decode cX6_letterOn 72 = .ok (.ifCond .eq 7, 3) := by decide +kernel
theorem dX6_letterOn_75 : decode cX6_letterOn 75 = .ok (.iconst 1, 1) := by decide +kernel
theorem dX6_letterOn_76 : decode cX6_letterOn 76 = .ok (.goto 4, 3) := by decide +kernel
theorem dX6_letterOn_79 : decode cX6_letterOn 79 = .ok (.iconst 0, 1) := by decide +kernel
theorem dX6_letterOn_80 : decode cX6_letterOn 80 = .ok (.isub, 1) := by decide +kernel
theorem dX6_letterOn_81 : decode cX6_letterOn 81 = .ok (.istore 4, 2) := by decide +kernel
theorem dX6_letterOn_83 : decode cX6_letterOn 83 = .ok (.iinc 6 1, 3) := by decide +kernel
theorem dX6_letterOn_86 : decode cX6_letterOn 86 = .ok (.goto (-77), 3) := by decide +kernel
theorem dX6_letterOn_89 : decode cX6_letterOn 89 = .ok (.iload 5, 2) := by decide +kernel
theorem dX6_letterOn_91 : decode cX6_letterOn 91 = .ok (.ireturn, 1) := by decide +kernel
theorem dX6_manyOn_0 : decode cX6_manyOn 0 = .ok (.iconst 0, 1) := by decide +kernel
theorem dX6_manyOn_1 : decode cX6_manyOn 1 = .ok (.istore_n 3, 1) := by decide +kernel
theorem dX6_manyOn_2 : decode cX6_manyOn 2 = .ok (.iconst 0, 1) := by decide +kernel
theorem dX6_manyOn_3 : decode cX6_manyOn 3 = .ok (.istore 4, 2) := by decide +kernel
theorem dX6_manyOn_5 : decode cX6_manyOn 5 = .ok (.iload 4, 2) := by decide +kernel
theorem dX6_manyOn_7 : decode cX6_manyOn 7 = .ok (.aload_n 0, 1) := by decide +kernel
theorem dX6_manyOn_8 : decode cX6_manyOn 8 = .ok (.getfield 16, 3) := by decide +kernel
theorem dX6_manyOn_11 : decode cX6_manyOn 11 = .ok (.sipush 168, 3) := by decide +kernel
theorem dX6_manyOn_14 : decode cX6_manyOn 14 = .ok (.iload_n 1, 1) := by decide +kernel
theorem dX6_manyOn_15 : decode cX6_manyOn 15 = .ok (.imul, 1) := by decide +kernel
theorem dX6_manyOn_16 : decode cX6_manyOn 16 = .ok (.iconst 2, 1) := by decide +kernel
theorem dX6_manyOn_17 : decode cX6_manyOn 17 = .ok (.iadd, 1) := by decide +kernel
theorem dX6_manyOn_18 : decode cX6_manyOn 18 = .ok (.iaload, 1) := by decide +kernel
theorem dX6_manyOn_19 : decode cX6_manyOn 19 = .ok (.if_icmp .ge 33, 3) := by decide +kernel
theorem dX6_manyOn_22 : decode cX6_manyOn 22 = .ok (.iload_n 3, 1) := by decide +kernel
theorem dX6_manyOn_23 : decode cX6_manyOn 23 = .ok (.aload_n 0, 1) := by decide +kernel
theorem dX6_manyOn_24 : decode cX6_manyOn 24 = .ok (.getfield 16, 3) := by decide +kernel
theorem dX6_manyOn_27 : decode cX6_manyOn 27 = .ok (.iload_n 1, 1) := by decide +kernel
theorem dX6_manyOn_28 : decode cX6_manyOn 28 = .ok (.iload 4, 2) := by decide +kernel
theorem dX6_manyOn_30 : decode cX6_manyOn 30 = .ok (.iconst 0, 1) := by decide +kernel
theorem dX6_manyOn_31 : decode cX6_manyOn 31 = .ok (.invokestatic 53, 3) := by decide +kernel
theorem dX6_manyOn_34 : decode cX6_manyOn 34 = .ok (.iaload, 1) := by decide +kernel
theorem dX6_manyOn_35 : decode cX6_manyOn 35 = .ok (.iload_n 2, 1) := by decide +kernel
theorem dX6_manyOn_36 : decode cX6_manyOn 36 = .ok (.if_icmp .ne 7, 3) := by decide +kernel
theorem dX6_manyOn_39 : decode cX6_manyOn 39 = .ok (.iconst 1, 1) := by decide +kernel
theorem dX6_manyOn_40 : decode cX6_manyOn 40 = .ok (.goto 4, 3) := by decide +kernel
theorem dX6_manyOn_43 : decode cX6_manyOn 43 = .ok (.iconst 0, 1) := by decide +kernel
theorem dX6_manyOn_44 : decode cX6_manyOn 44 = .ok (.iadd, 1) := by decide +kernel
theorem dX6_manyOn_45 : decode cX6_manyOn 45 = .ok (.istore_n 3, 1) := by decide +kernel
theorem dX6_manyOn_46 : decode cX6_manyOn 46 = .ok (.iinc 4 1, 3) := by decide +kernel
theorem dX6_manyOn_49 : decode cX6_manyOn 49 = .ok (.goto (-44), 3) := by decide +kernel
theorem dX6_manyOn_52 : decode cX6_manyOn 52 = .ok (.iload_n 3, 1) := by decide +kernel
theorem dX6_manyOn_53 : decode cX6_manyOn 53 = .ok (.ireturn, 1) := by decide +kernel
theorem dX6_probes_0 : decode cX6_probes 0 = .ok (.aload_n 0, 1) := by decide +kernel
theorem dX6_probes_1 : decode cX6_probes 1 = .ok (.iload_n 1, 1) := by decide +kernel
theorem dX6_probes_2 : decode cX6_probes 2 = .ok (.iload_n 2, 1) := by decide +kernel
theorem dX6_probes_3 : decode cX6_probes 3 = .ok (.iconst 3, 1) := by decide +kernel
theorem dX6_probes_4 : decode cX6_probes 4 = .ok (.invokevirtual 56, 3) := by decide +kernel
theorem dX6_probes_7 : decode cX6_probes 7 = .ok (.istore_n 3, 1) := by decide +kernel
theorem dX6_probes_8 : decode cX6_probes 8 = .ok (.aload_n 0, 1) := by decide +kernel
theorem dX6_probes_9 : decode cX6_probes 9 = .ok (.iload_n 1, 1) := by decide +kernel
theorem dX6_probes_10 : decode cX6_probes 10 = .ok (.iload_n 2, 1) := by decide +kernel
theorem dX6_probes_11 : decode cX6_probes 11 = .ok (.iconst 5, 1) := by decide +kernel
theorem dX6_probes_12 : decode cX6_probes 12 = .ok (.iconst 0, 1) := by decide +kernel
theorem dX6_probes_13 : decode cX6_probes 13 = .ok (.invokevirtual 59, 3) := by decide +kernel
theorem dX6_probes_16 : decode cX6_probes 16 = .ok (.aload_n 0, 1) := by decide +kernel
theorem dX6_probes_17 : decode cX6_probes 17 = .ok (.iload_n 1, 1) := by decide +kernel
theorem dX6_probes_18 : decode cX6_probes 18 = .ok (.iconst 2, 1) := by decide +kernel
theorem dX6_probes_19 : decode cX6_probes 19 = .ok (.iload_n 2, 1) := by decide +kernel
theorem dX6_probes_20 : decode cX6_probes 20 = .ok (.imul, 1) := by decide +kernel
theorem dX6_probes_21 : decode cX6_probes 21 = .ok (.iconst 2, 1) := by decide +kernel
theorem dX6_probes_22 : decode cX6_probes 22 = .ok (.aload_n 0, 1) := by decide +kernel
theorem dX6_probes_23 : decode cX6_probes 23 = .ok (.getfield 7, 3) := by decide +kernel
theorem dX6_probes_26 : decode cX6_probes 26 = .ok (.iload_n 2, 1) := by decide +kernel
theorem dX6_probes_27 : decode cX6_probes 27 = .ok (.iaload, 1) := by decide +kernel
theorem dX6_probes_28 : decode cX6_probes 28 = .ok (.iload_n 3, 1) := by decide +kernel
theorem dX6_probes_29 : decode cX6_probes 29 = .ok (.iconst 1, 1) := by decide +kernel
theorem dX6_probes_30 : decode cX6_probes 30 = .ok (.iload_n 3, 1) := by decide +kernel
theorem dX6_probes_31 : decode cX6_probes 31 = .ok (.ishl, 1) := by decide +kernel
theorem dX6_probes_32 : decode cX6_probes 32 = .ok (.iconst (-1), 1) := by decide +kernel
theorem dX6_probes_33 : decode cX6_probes 33 = .ok (.invokevirtual 63, 3) := by decide +kernel
theorem dX6_probes_36 : decode cX6_probes 36 = .ok (.aload_n 0, 1) := by decide +kernel
theorem dX6_probes_37 : decode cX6_probes 37 = .ok (.iload_n 1, 1) := by decide +kernel
theorem dX6_probes_38 : decode cX6_probes 38 = .ok (.iconst 2, 1) := by decide +kernel
theorem dX6_probes_39 : decode cX6_probes 39 = .ok (.iload_n 2, 1) := by decide +kernel
theorem dX6_probes_40 : decode cX6_probes 40 = .ok (.imul, 1) := by decide +kernel
theorem dX6_probes_41 : decode cX6_probes 41 = .ok (.iconst 1, 1) := by decide +kernel
theorem dX6_probes_42 : decode cX6_probes 42 = .ok (.iadd, 1) := by decide +kernel
theorem dX6_probes_43 : decode cX6_probes 43 = .ok (.iconst 2, 1) := by decide +kernel
theorem dX6_probes_44 : decode cX6_probes 44 = .ok (.aload_n 0, 1) := by decide +kernel
theorem dX6_probes_45 : decode cX6_probes 45 = .ok (.getfield 7, 3) := by decide +kernel
theorem dX6_probes_48 : decode cX6_probes 48 = .ok (.iload_n 2, 1) := by decide +kernel
theorem dX6_probes_49 : decode cX6_probes 49 = .ok (.iaload, 1) := by decide +kernel
theorem dX6_probes_50 : decode cX6_probes 50 = .ok (.iload_n 3, 1) := by decide +kernel
theorem dX6_probes_51 : decode cX6_probes 51 = .ok (.iconst 1, 1) := by decide +kernel
theorem dX6_probes_52 : decode cX6_probes 52 = .ok (.iload_n 3, 1) := by decide +kernel
theorem dX6_probes_53 : decode cX6_probes 53 = .ok (.ishl, 1) := by decide +kernel
theorem dX6_probes_54 : decode cX6_probes 54 = .ok (.iconst (-1), 1) := by decide +kernel
theorem dX6_probes_55 : decode cX6_probes 55 = .ok (.invokevirtual 63, 3) := by decide +kernel
theorem dX6_probes_58 : decode cX6_probes 58 = .ok (.return_, 1) := by decide +kernel
theorem dX6_draws_0 : decode cX6_draws 0 = .ok (.aload_n 0, 1) := by decide +kernel
theorem dX6_draws_1 : decode cX6_draws 1 = .ok (.iload_n 1, 1) := by decide +kernel
theorem dX6_draws_2 : decode cX6_draws 2 = .ok (.iload_n 2, 1) := by decide +kernel
theorem dX6_draws_3 : decode cX6_draws 3 = .ok (.bipush 8, 2) := by decide +kernel
theorem dX6_draws_5 : decode cX6_draws 5 = .ok (.invokevirtual 56, 3) := by decide +kernel
theorem dX6_draws_8 : decode cX6_draws 8 = .ok (.i2l, 1) := by decide +kernel
theorem dX6_draws_9 : decode cX6_draws 9 = .ok (.ldc2_w 67, 3) := by decide +kernel
theorem dX6_draws_12 : decode cX6_draws 12 = .ok (.lmul, 1) := by decide +kernel
theorem dX6_draws_13 : decode cX6_draws 13 = .ok (.ldc2_w 69, 3) := by decide +kernel
theorem dX6_draws_16 : decode cX6_draws 16 = .ok (.lrem, 1) := by decide +kernel
theorem dX6_draws_17 : decode cX6_draws 17 = .ok (.lstore_n 3, 1) := by decide +kernel
theorem dX6_draws_18 : decode cX6_draws 18 = .ok (.aload_n 0, 1) := by decide +kernel
theorem dX6_draws_19 : decode cX6_draws 19 = .ok (.iload_n 1, 1) := by decide +kernel
theorem dX6_draws_20 : decode cX6_draws 20 = .ok (.iload_n 2, 1) := by decide +kernel
theorem dX6_draws_21 : decode cX6_draws 21 = .ok (.bipush 8, 2) := by decide +kernel
theorem dX6_draws_23 : decode cX6_draws 23 = .ok (.lload_n 3, 1) := by decide +kernel
theorem dX6_draws_24 : decode cX6_draws 24 = .ok (.l2i, 1) := by decide +kernel
theorem dX6_draws_25 : decode cX6_draws 25 = .ok (.invokevirtual 59, 3) := by decide +kernel
theorem dX6_draws_28 : decode cX6_draws 28 = .ok (.aload_n 0, 1) := by decide +kernel
theorem dX6_draws_29 : decode cX6_draws 29 = .ok (.iload_n 1, 1) := by decide +kernel
theorem dX6_draws_30 : decode cX6_draws 30 = .ok (.iload_n 2, 1) := by decide +kernel
theorem dX6_draws_31 : decode cX6_draws 31 = .ok (.iconst 2, 1) := by decide +kernel
theorem dX6_draws_32 : decode cX6_draws 32 = .ok (.iconst 1, 1) := by decide +kernel
theorem dX6_draws_33 : decode cX6_draws 33 = .ok (.lload_n 3, 1) := by decide +kernel
theorem dX6_draws_34 : decode cX6_draws 34 = .ok (.aload_n 0, 1) := by decide +kernel
theorem dX6_draws_35 : decode cX6_draws 35 = .ok (.getfield 16, 3) := by decide +kernel
theorem dX6_draws_38 : decode cX6_draws 38 = .ok (.sipush 168, 3) := by decide +kernel
theorem dX6_draws_41 : decode cX6_draws 41 = .ok (.iload_n 1, 1) := by decide +kernel
theorem dX6_draws_42 : decode cX6_draws 42 = .ok (.imul, 1) := by decide +kernel
theorem dX6_draws_43 : decode cX6_draws 43 = .ok (.iconst 1, 1) := by decide +kernel
theorem dX6_draws_44 : decode cX6_draws 44 = .ok (.iadd, 1) := by decide +kernel
theorem dX6_draws_45 : decode cX6_draws 45 = .ok (.iaload, 1) := by decide +kernel
theorem dX6_draws_46 : decode cX6_draws 46 = .ok (.i2l, 1) := by decide +kernel
theorem dX6_draws_47 : decode cX6_draws 47 = .ok (.lrem, 1) := by decide +kernel
theorem dX6_draws_48 : decode cX6_draws 48 = .ok (.l2i, 1) := by decide +kernel
theorem dX6_draws_49 : decode cX6_draws 49 = .ok (.iadd, 1) := by decide +kernel
theorem dX6_draws_50 : decode cX6_draws 50 = .ok (.invokevirtual 59, 3) := by decide +kernel
theorem dX6_draws_53 : decode cX6_draws 53 = .ok (.aload_n 0, 1) := by decide +kernel
theorem dX6_draws_54 : decode cX6_draws 54 = .ok (.iload_n 1, 1) := by decide +kernel
theorem dX6_draws_55 : decode cX6_draws 55 = .ok (.aload_n 0, 1) := by decide +kernel
theorem dX6_draws_56 : decode cX6_draws 56 = .ok (.iload_n 1, 1) := by decide +kernel
theorem dX6_draws_57 : decode cX6_draws 57 = .ok (.iload_n 2, 1) := by decide +kernel
theorem dX6_draws_58 : decode cX6_draws 58 = .ok (.invokevirtual 71, 3) := by decide +kernel
theorem dX6_draws_61 : decode cX6_draws 61 = .ok (.bipush 6, 2) := by decide +kernel
theorem dX6_draws_63 : decode cX6_draws 63 = .ok (.aload_n 0, 1) := by decide +kernel
theorem dX6_draws_64 : decode cX6_draws 64 = .ok (.iload_n 1, 1) := by decide +kernel
theorem dX6_draws_65 : decode cX6_draws 65 = .ok (.iload_n 2, 1) := by decide +kernel
theorem dX6_draws_66 : decode cX6_draws 66 = .ok (.iconst 2, 1) := by decide +kernel
theorem dX6_draws_67 : decode cX6_draws 67 = .ok (.invokevirtual 56, 3) := by decide +kernel
theorem dX6_draws_70 : decode cX6_draws 70 = .ok (.aload_n 0, 1) := by decide +kernel
theorem dX6_draws_71 : decode cX6_draws 71 = .ok (.iload_n 1, 1) := by decide +kernel
theorem dX6_draws_72 : decode cX6_draws 72 = .ok (.iload_n 2, 1) := by decide +kernel
theorem dX6_draws_73 : decode cX6_draws 73 = .ok (.iconst 3, 1) := by decide +kernel
theorem dX6_draws_74 : decode cX6_draws 74 = .ok (.invokevirtual 56, 3) := by decide +kernel
theorem dX6_draws_77 : decode cX6_draws 77 = .ok (.iconst 1, 1) := by decide +kernel
theorem dX6_draws_78 : decode cX6_draws 78 = .ok (.iconst 1, 1) := by decide +kernel
theorem dX6_draws_79 : decode cX6_draws 79 = .ok (.invokevirtual 63, 3) := by decide +kernel
theorem dX6_draws_82 : decode cX6_draws 82 = .ok (.return_, 1) := by decide +kernel
theorem dX6_begins_0 : decode cX6_begins 0 = .ok (.aload_n 0, 1) := by decide +kernel
theorem dX6_begins_1 : decode cX6_begins 1 = .ok (.iload_n 1, 1) := by decide +kernel
theorem dX6_begins_2 : decode cX6_begins 2 = .ok (.iload_n 2, 1) := by decide +kernel
theorem dX6_begins_3 : decode cX6_begins 3 = .ok (.iconst 1, 1) := by decide +kernel
theorem dX6_begins_4 : decode cX6_begins 4 = .ok (.iconst 1, 1) := by decide +kernel
theorem dX6_begins_5 : decode cX6_begins 5 = .ok (.invokevirtual 59, 3) := by decide +kernel
theorem dX6_begins_8 : decode cX6_begins 8 = .ok (.aload_n 0, 1) := by decide +kernel
theorem dX6_begins_9 : decode cX6_begins 9 = .ok (.getfield 16, 3) := by decide +kernel
theorem dX6_begins_12 : decode cX6_begins 12 = .ok (.sipush 168, 3) := by decide +kernel
theorem dX6_begins_15 : decode cX6_begins 15 = .ok (.iload_n 1, 1) := by decide +kernel
theorem dX6_begins_16 : decode cX6_begins 16 = .ok (.imul, 1) := by decide +kernel
theorem dX6_begins_17 : decode cX6_begins 17 = .ok (.iconst 0, 1) := by decide +kernel
theorem dX6_begins_18 : decode cX6_begins 18 = .ok (.iadd, 1) := by decide +kernel
theorem dX6_begins_19 : decode cX6_begins 19 = .ok (.iaload, 1) := by decide +kernel
theorem dX6_begins_20 : decode cX6_begins 20 = .ok (.istore_n 3, 1) := by decide +kernel
theorem dX6_begins_21 : decode cX6_begins 21 = .ok (.aload_n 0, 1) := by decide +kernel
theorem dX6_begins_22 : decode cX6_begins 22 = .ok (.iload_n 1, 1) := by decide +kernel
theorem dX6_begins_23 : decode cX6_begins 23 = .ok (.iload_n 2, 1) := by decide +kernel
theorem dX6_begins_24 : decode cX6_begins 24 = .ok (.iconst 3, 1) := by decide +kernel
theorem dX6_begins_25 : decode cX6_begins 25 = .ok (.iload_n 3, 1) := by decide +kernel
theorem dX6_begins_26 : decode cX6_begins 26 = .ok (.iconst 1, 1) := by decide +kernel
theorem dX6_begins_27 : decode cX6_begins 27 = .ok (.if_icmp .ne 7, 3) := by decide +kernel
theorem dX6_begins_30 : decode cX6_begins 30 = .ok (.iconst (-1), 1) := by decide +kernel
theorem dX6_begins_31 : decode cX6_begins 31 = .ok (.goto 13, 3) := by decide +kernel
theorem dX6_begins_34 : decode cX6_begins 34 = .ok (.iload_n 3, 1) := by decide +kernel
theorem dX6_begins_35 : decode cX6_begins 35 = .ok (.iconst 4, 1) := by decide +kernel
theorem dX6_begins_36 : decode cX6_begins 36 = .ok (.if_icmp .ne 7, 3) := by decide +kernel
theorem dX6_begins_39 : decode cX6_begins 39 = .ok (.iconst 1, 1) := by decide +kernel
theorem dX6_begins_40 : decode cX6_begins 40 = .ok (.goto 4, 3) := by decide +kernel
theorem dX6_begins_43 : decode cX6_begins 43 = .ok (.iconst 0, 1) := by decide +kernel
theorem dX6_begins_44 : decode cX6_begins 44 = .ok (.invokevirtual 59, 3) := by decide +kernel
theorem dX6_begins_47 : decode cX6_begins 47 = .ok (.iload_n 3, 1) := by decide +kernel
theorem dX6_begins_48 : decode cX6_begins 48 = .ok (.iconst 1, 1) := by decide +kernel
theorem dX6_begins_49 : decode cX6_begins 49 = .ok (.if_icmp .ne 27, 3) := by decide +kernel
theorem dX6_begins_52 : decode cX6_begins 52 = .ok (.aload_n 0, 1) := by decide +kernel
theorem dX6_begins_53 : decode cX6_begins 53 = .ok (.iload_n 1, 1) := by decide +kernel
theorem dX6_begins_54 : decode cX6_begins 54 = .ok (.aload_n 0, 1) := by decide +kernel
theorem dX6_begins_55 : decode cX6_begins 55 = .ok (.iload_n 1, 1) := by decide +kernel
theorem dX6_begins_56 : decode cX6_begins 56 = .ok (.iload_n 2, 1) := by decide +kernel
theorem dX6_begins_57 : decode cX6_begins 57 = .ok (.invokevirtual 71, 3) := by decide +kernel
theorem dX6_begins_60 : decode cX6_begins 60 = .ok (.iconst 1, 1) := by decide +kernel
theorem dX6_begins_61 : decode cX6_begins 61 = .ok (.aload_n 0, 1) := by decide +kernel
theorem dX6_begins_62 : decode cX6_begins 62 = .ok (.getfield 7, 3) := by decide +kernel
theorem dX6_begins_65 : decode cX6_begins 65 = .ok (.iload_n 2, 1) := by decide +kernel
theorem dX6_begins_66 : decode cX6_begins 66 = .ok (.iaload, 1) := by decide +kernel
theorem dX6_begins_67 : decode cX6_begins 67 = .ok (.iconst (-1), 1) := by decide +kernel
theorem dX6_begins_68 : decode cX6_begins 68 = .ok (.iconst (-1), 1) := by decide +kernel
theorem dX6_begins_69 : decode cX6_begins 69 = .ok (.iconst (-1), 1) := by decide +kernel
theorem dX6_begins_70 : decode cX6_begins 70 = .ok (.invokevirtual 63, 3) := by decide +kernel
theorem dX6_begins_73 : decode cX6_begins 73 = .ok (.goto 65, 3) := by decide +kernel
theorem dX6_begins_76 : decode cX6_begins 76 = .ok (.iload_n 3, 1) := by decide +kernel
theorem dX6_begins_77 : decode cX6_begins 77 = .ok (.iconst 2, 1) := by decide +kernel
theorem dX6_begins_78 : decode cX6_begins 78 = .ok (.if_icmp .ne 12, 3) := by decide +kernel
theorem dX6_begins_81 : decode cX6_begins 81 = .ok (.aload_n 0, 1) := by decide +kernel
theorem dX6_begins_82 : decode cX6_begins 82 = .ok (.iload_n 1, 1) := by decide +kernel
theorem dX6_begins_83 : decode cX6_begins 83 = .ok (.iload_n 2, 1) := by decide +kernel
theorem dX6_begins_84 : decode cX6_begins 84 = .ok (.invokevirtual 75, 3) := by decide +kernel
theorem dX6_begins_87 : decode cX6_begins 87 = .ok (.goto 51, 3) := by decide +kernel
theorem dX6_begins_90 : decode cX6_begins 90 = .ok (.iload_n 3, 1) := by decide +kernel
theorem dX6_begins_91 : decode cX6_begins 91 = .ok (.iconst 3, 1) := by decide +kernel
theorem dX6_begins_92 : decode cX6_begins 92 = .ok (.if_icmp .ne 40, 3) := by decide +kernel
theorem dX6_begins_95 : decode cX6_begins 95 = .ok (.aload_n 0, 1) := by decide +kernel
theorem dX6_begins_96 : decode cX6_begins 96 = .ok (.iload_n 1, 1) := by decide +kernel
theorem dX6_begins_97 : decode cX6_begins 97 = .ok (.iload_n 2, 1) := by decide +kernel
theorem dX6_begins_98 : decode cX6_begins 98 = .ok (.iconst 2, 1) := by decide +kernel
theorem dX6_begins_99 : decode cX6_begins 99 = .ok (.aload_n 0, 1) := by decide +kernel
theorem dX6_begins_100 : decode cX6_begins 100 = .ok (.getfield 7, 3) := by decide +kernel
theorem dX6_begins_103 : decode cX6_begins 103 = .ok (.iload_n 2, 1) := by decide +kernel
theorem dX6_begins_104 : decode cX6_begins 104 = .ok (.iaload, 1) := by decide +kernel
theorem dX6_begins_105 : decode cX6_begins 105 = .ok (.invokevirtual 59, 3) := by decide +kernel
theorem dX6_begins_108 : decode cX6_begins 108 = .ok (.aload_n 0, 1) := by decide +kernel
theorem dX6_begins_109 : decode cX6_begins 109 = .ok (.iload_n 1, 1) := by decide +kernel
theorem dX6_begins_110 : decode cX6_begins 110 = .ok (.aload_n 0, 1) := by decide +kernel
theorem dX6_begins_111 : decode cX6_begins 111 = .ok (.iload_n 1, 1) := by decide +kernel
theorem dX6_begins_112 : decode cX6_begins 112 = .ok (.iload_n 2, 1) := by decide +kernel
theorem dX6_begins_113 : decode cX6_begins 113 = .ok (.invokevirtual 71, 3) := by decide +kernel
theorem dX6_begins_116 : decode cX6_begins 116 = .ok (.iconst 4, 1) := by decide +kernel
theorem dX6_begins_117 : decode cX6_begins 117 = .ok (.aload_n 0, 1) := by decide +kernel
theorem dX6_begins_118 : decode cX6_begins 118 = .ok (.getfield 7, 3) := by decide +kernel
theorem dX6_begins_121 : decode cX6_begins 121 = .ok (.iload_n 2, 1) := by decide +kernel
theorem dX6_begins_122 : decode cX6_begins 122 = .ok (.iaload, 1) := by decide +kernel
theorem dX6_begins_123 : decode cX6_begins 123 = .ok (.iconst (-1), 1) := by decide +kernel
theorem dX6_begins_124 : decode cX6_begins 124 = .ok (.iconst (-1), 1) := by decide +kernel
theorem dX6_begins_125 : decode cX6_begins 125 = .ok (.iconst (-1), 1) := by decide +kernel
theorem dX6_begins_126 : decode cX6_begins 126 = .ok (.invokevirtual 63, 3) := by decide +kernel
theorem dX6_begins_129 : decode cX6_begins 129 = .ok (.goto 9, 3) := by decide +kernel
theorem dX6_begins_132 : decode cX6_begins 132 = .ok (.aload_n 0, 1) := by decide +kernel
theorem dX6_begins_133 : decode cX6_begins 133 = .ok (.iload_n 1, 1) := by decide +kernel
theorem dX6_begins_134 : decode cX6_begins 134 = .ok (.iload_n 2, 1) := by decide +kernel
theorem dX6_begins_135 : decode cX6_begins 135 = .ok (.invokevirtual 79, 3) := by decide +kernel
theorem dX6_begins_138 : decode cX6_begins 138 = .ok (.return_, 1) := by decide +kernel
theorem dX6_heads_0 : decode cX6_heads 0 = .ok (.aload_n 0, 1) := by decide +kernel
theorem dX6_heads_1 : decode cX6_heads 1 = .ok (.iload_n 1, 1) := by decide +kernel
theorem dX6_heads_2 : decode cX6_heads 2 = .ok (.iload_n 2, 1) := by decide +kernel
theorem dX6_heads_3 : decode cX6_heads 3 = .ok (.iconst 1, 1) := by decide +kernel
theorem dX6_heads_4 : decode cX6_heads 4 = .ok (.iconst 3, 1) := by decide +kernel
theorem dX6_heads_5 : decode cX6_heads 5 = .ok (.invokevirtual 59, 3) := by decide +kernel
theorem dX6_heads_8 : decode cX6_heads 8 = .ok (.aload_n 0, 1) := by decide +kernel
theorem dX6_heads_9 : decode cX6_heads 9 = .ok (.iload_n 1, 1) := by decide +kernel
theorem dX6_heads_10 : decode cX6_heads 10 = .ok (.iload_n 2, 1) := by decide +kernel
theorem dX6_heads_11 : decode cX6_heads 11 = .ok (.iconst 4, 1) := by decide +kernel
theorem dX6_heads_12 : decode cX6_heads 12 = .ok (.iload_n 3, 1) := by decide +kernel
theorem dX6_heads_13 : decode cX6_heads 13 = .ok (.invokevirtual 59, 3) := by decide +kernel
theorem dX6_heads_16 : decode cX6_heads 16 = .ok (.aload_n 0, 1) := by decide +kernel
theorem dX6_heads_17 : decode cX6_heads 17 = .ok (.iload_n 1, 1) := by decide +kernel
theorem dX6_heads_18 : decode cX6_heads 18 = .ok (.aload_n 0, 1) := by decide +kernel
theorem dX6_heads_19 : decode cX6_heads 19 = .ok (.iload_n 1, 1) := by decide +kernel
theorem dX6_heads_20 : decode cX6_heads 20 = .ok (.iload_n 2, 1) := by decide +kernel
theorem dX6_heads_21 : decode cX6_heads 21 = .ok (.invokevirtual 71, 3) := by decide +kernel
theorem dX6_heads_24 : decode cX6_heads 24 = .ok (.bipush 7, 2) := by decide +kernel
theorem dX6_heads_26 : decode cX6_heads 26 = .ok (.iload_n 3, 1) := by decide +kernel
theorem dX6_heads_27 : decode cX6_heads 27 = .ok (.iconst (-1), 1) := by decide +kernel
theorem dX6_heads_28 : decode cX6_heads 28 = .ok (.iconst (-1), 1) := by decide +kernel
theorem dX6_heads_29 : decode cX6_heads 29 = .ok (.iconst (-1), 1) := by decide +kernel
theorem dX6_heads_30 : decode cX6_heads 30 = .ok (.invokevirtual 63, 3) := by decide +kernel
theorem dX6_heads_33 : decode cX6_heads 33 = .ok (.return_, 1) := by decide +kernel
theorem dX6_goesOn_0 : decode cX6_goesOn 0 = .ok (.aload_n 0, 1) := by decide +kernel
theorem dX6_goesOn_1 : decode cX6_goesOn 1 = .ok (.iload_n 1, 1) := by decide +kernel
theorem dX6_goesOn_2 : decode cX6_goesOn 2 = .ok (.aload_n 0, 1) := by decide +kernel
theorem dX6_goesOn_3 : decode cX6_goesOn 3 = .ok (.getfield 82, 3) := by decide +kernel
theorem dX6_goesOn_6 : decode cX6_goesOn 6 = .ok (.aload_n 0, 1) := by decide +kernel
theorem dX6_goesOn_7 : decode cX6_goesOn 7 = .ok (.getfield 85, 3) := by decide +kernel
theorem dX6_goesOn_10 : decode cX6_goesOn 10 = .ok (.aload_n 0, 1) := by decide +kernel
theorem dX6_goesOn_11 : decode cX6_goesOn 11 = .ok (.getfield 88, 3) := by decide +kernel
theorem dX6_goesOn_14 : decode cX6_goesOn 14 = .ok (.aload_n 0, 1) := by decide +kernel
theorem dX6_goesOn_15 : decode cX6_goesOn 15 = .ok (.getfield 91, 3) := by decide +kernel
theorem dX6_goesOn_18 : decode cX6_goesOn 18 = .ok (.aload_n 0, 1) := by decide +kernel
theorem dX6_goesOn_19 : decode cX6_goesOn 19 = .ok (.getfield 94, 3) := by decide +kernel
theorem dX6_goesOn_22 : decode cX6_goesOn 22 = .ok (.aload_n 0, 1) := by decide +kernel
theorem dX6_goesOn_23 : decode cX6_goesOn 23 = .ok (.getfield 97, 3) := by decide +kernel
theorem dX6_goesOn_26 : decode cX6_goesOn 26 = .ok (.invokevirtual 63, 3) := by decide +kernel
theorem dX6_goesOn_29 : decode cX6_goesOn 29 = .ok (.return_, 1) := by decide +kernel
theorem dX6_comesByGreatest_0 : decode cX6_comesByGreatest 0 = .ok (.iload_n 3, 1) := by decide +kernel
theorem dX6_comesByGreatest_1 : decode cX6_comesByGreatest 1 = .ok (.ifCond .ne 11, 3) := by decide +kernel
theorem dX6_comesByGreatest_4 : decode cX6_comesByGreatest 4 = .ok (.aload_n 0, 1) := by decide +kernel
theorem dX6_comesByGreatest_5 : decode cX6_comesByGreatest 5 = .ok (.iload_n 1, 1) := by decide +kernel
theorem dX6_comesByGreatest_6 : decode cX6_comesByGreatest 6 = .ok (.invokevirtual 100, 3) := by decide +kernel
theorem dX6_comesByGreatest_9 : decode cX6_comesByGreatest 9 = .ok (.goto 55, 3) := by decide +kernel
theorem dX6_comesByGreatest_12 : decode cX6_comesByGreatest 12 = .ok (.aload_n 0, 1) := by decide +kernel
theorem dX6_comesByGreatest_13 : decode cX6_comesByGreatest 13 = .ok (.getfield 88, 3) := by decide +kernel
theorem dX6_comesByGreatest_16 : decode cX6_comesByGreatest 16 = .ok (.aload_n 0, 1) := by decide +kernel
theorem dX6_comesByGreatest_17 : decode cX6_comesByGreatest 17 = .ok (.getfield 7, 3) := by decide +kernel
theorem dX6_comesByGreatest_20 : decode cX6_comesByGreatest 20 = .ok (.iload_n 2, 1) := by decide +kernel
theorem dX6_comesByGreatest_21 : decode cX6_comesByGreatest 21 = .ok (.iaload, 1) := by decide +kernel
theorem dX6_comesByGreatest_22 : decode cX6_comesByGreatest 22 = .ok (.if_icmp .le 19, 3) := by decide +kernel
theorem dX6_comesByGreatest_25 : decode cX6_comesByGreatest 25 = .ok (.aload_n 0, 1) := by decide +kernel
theorem dX6_comesByGreatest_26 : decode cX6_comesByGreatest 26 = .ok (.iload_n 1, 1) := by decide +kernel
theorem dX6_comesByGreatest_27 : decode cX6_comesByGreatest 27 = .ok (.iload_n 2, 1) := by decide +kernel
theorem dX6_comesByGreatest_28 : decode cX6_comesByGreatest 28 = .ok (.iconst 1, 1) := by decide +kernel
theorem dX6_comesByGreatest_29 : decode cX6_comesByGreatest 29 = .ok (.iconst 2, 1) := by decide +kernel
theorem dX6_comesByGreatest_30 : decode cX6_comesByGreatest 30 = .ok (.invokevirtual 59, 3) := by decide +kernel
theorem dX6_comesByGreatest_33 : decode cX6_comesByGreatest 33 = .ok (.aload_n 0, 1) := by decide +kernel
theorem dX6_comesByGreatest_34 : decode cX6_comesByGreatest 34 = .ok (.iload_n 1, 1) := by decide +kernel
theorem dX6_comesByGreatest_35 : decode cX6_comesByGreatest 35 = .ok (.invokevirtual 100, 3) := by decide +kernel
theorem dX6_comesByGreatest_38 : decode cX6_comesByGreatest 38 = .ok (.goto 26, 3) := by decide +kernel
theorem dX6_comesByGreatest_41 : decode cX6_comesByGreatest 41 = .ok (.aload_n 0, 1) := by decide +kernel
theorem dX6_comesByGreatest_42 : decode cX6_comesByGreatest 42 = .ok (.getfield 88, 3) := by decide +kernel
theorem dX6_comesByGreatest_45 : decode cX6_comesByGreatest 45 = .ok (.aload_n 0, 1) := by decide +kernel
theorem dX6_comesByGreatest_46 : decode cX6_comesByGreatest 46 = .ok (.getfield 7, 3) := by decide +kernel
theorem dX6_comesByGreatest_49 : decode cX6_comesByGreatest 49 = .ok (.iload_n 2, 1) := by decide +kernel
theorem dX6_comesByGreatest_50 : decode cX6_comesByGreatest 50 = .ok (.iaload, 1) := by decide +kernel
theorem dX6_comesByGreatest_51 : decode cX6_comesByGreatest 51 = .ok (.if_icmp .ne 13, 3) := by decide +kernel
theorem dX6_comesByGreatest_54 : decode cX6_comesByGreatest 54 = .ok (.aload_n 0, 1) := by decide +kernel
theorem dX6_comesByGreatest_55 : decode cX6_comesByGreatest 55 = .ok (.iload_n 1, 1) := by decide +kernel
theorem dX6_comesByGreatest_56 : decode cX6_comesByGreatest 56 = .ok (.iload_n 2, 1) := by decide +kernel
theorem dX6_comesByGreatest_57 : decode cX6_comesByGreatest 57 = .ok (.aload_n 0, 1) := by decide +kernel
theorem dX6_comesByGreatest_58 : decode cX6_comesByGreatest 58 = .ok (.getfield 88, 3) := by decide +kernel
theorem dX6_comesByGreatest_61 : decode cX6_comesByGreatest 61 = .ok (.invokevirtual 104, 3) := by decide +kernel
theorem dX6_comesByGreatest_64 : decode cX6_comesByGreatest 64 = .ok (.return_, 1) := by decide +kernel
theorem dX6_comesProbe_0 : decode cX6_comesProbe 0 = .ok (.iload_n 3, 1) := by decide +kernel
theorem dX6_comesProbe_1 : decode cX6_comesProbe 1 = .ok (.ifCond .eq 27, 3) := by decide +kernel
theorem dX6_comesProbe_4 : decode cX6_comesProbe 4 = .ok (.aload_n 0, 1) := by decide +kernel
theorem dX6_comesProbe_5 : decode cX6_comesProbe 5 = .ok (.getfield 88, 3) := by decide +kernel
theorem dX6_comesProbe_8 : decode cX6_comesProbe 8 = .ok (.aload_n 0, 1) := by decide +kernel
theorem dX6_comesProbe_9 : decode cX6_comesProbe 9 = .ok (.getfield 7, 3) := by decide +kernel
theorem dX6_comesProbe_12 : decode cX6_comesProbe 12 = .ok (.iload_n 2, 1) := by decide +kernel
theorem dX6_comesProbe_13 : decode cX6_comesProbe 13 = .ok (.iaload, 1) := by decide +kernel
theorem dX6_comesProbe_14 : decode cX6_comesProbe 14 = .ok (.if_icmp .ne 14, 3) := by decide +kernel
theorem dX6_comesProbe_17 : decode cX6_comesProbe 17 = .ok (.aload_n 0, 1) := by decide +kernel
theorem dX6_comesProbe_18 : decode cX6_comesProbe 18 = .ok (.iload_n 1, 1) := by decide +kernel
theorem dX6_comesProbe_19 : decode cX6_comesProbe 19 = .ok (.iload_n 2, 1) := by decide +kernel
theorem dX6_comesProbe_20 : decode cX6_comesProbe 20 = .ok (.aload_n 0, 1) := by decide +kernel
theorem dX6_comesProbe_21 : decode cX6_comesProbe 21 = .ok (.getfield 88, 3) := by decide +kernel
theorem dX6_comesProbe_24 : decode cX6_comesProbe 24 = .ok (.invokevirtual 104, 3) := by decide +kernel
theorem dX6_comesProbe_27 : decode cX6_comesProbe 27 = .ok (.return_, 1) := by decide +kernel
theorem dX6_comesProbe_28 : decode cX6_comesProbe 28 = .ok (.iload_n 3, 1) := by decide +kernel
theorem dX6_comesProbe_29 : decode cX6_comesProbe 29 = .ok (.ifCond .eq 17, 3) := by decide +kernel
theorem dX6_comesProbe_32 : decode cX6_comesProbe 32 = .ok (.aload_n 0, 1) := by decide +kernel
theorem dX6_comesProbe_33 : decode cX6_comesProbe 33 = .ok (.getfield 88, 3) := by decide +kernel
theorem dX6_comesProbe_36 : decode cX6_comesProbe 36 = .ok (.aload_n 0, 1) := by decide +kernel
theorem dX6_comesProbe_37 : decode cX6_comesProbe 37 = .ok (.getfield 7, 3) := by decide +kernel
theorem dX6_comesProbe_40 : decode cX6_comesProbe 40 = .ok (.iload_n 2, 1) := by decide +kernel
theorem dX6_comesProbe_41 : decode cX6_comesProbe 41 = .ok (.iaload, 1) := by decide +kernel
theorem dX6_comesProbe_42 : decode cX6_comesProbe 42 = .ok (.if_icmp .ge 4, 3) := by decide +kernel
theorem dX6_comesProbe_45 : decode cX6_comesProbe 45 = .ok (.return_, 1) := by decide +kernel
theorem dX6_comesProbe_46 : decode cX6_comesProbe 46 = .ok (.iload_n 3, 1) := by decide +kernel
theorem dX6_comesProbe_47 : decode cX6_comesProbe 47 = .ok (.ifCond .eq 11, 3) := by decide +kernel
theorem dX6_comesProbe_50 : decode cX6_comesProbe 50 = .ok (.aload_n 0, 1) := by decide +kernel
theorem dX6_comesProbe_51 : decode cX6_comesProbe 51 = .ok (.iload_n 1, 1) := by decide +kernel
theorem dX6_comesProbe_52 : decode cX6_comesProbe 52 = .ok (.iload_n 2, 1) := by decide +kernel
theorem dX6_comesProbe_53 : decode cX6_comesProbe 53 = .ok (.iconst 1, 1) := by decide +kernel
theorem dX6_comesProbe_54 : decode cX6_comesProbe 54 = .ok (.iconst 2, 1) := by decide +kernel
theorem dX6_comesProbe_55 : decode cX6_comesProbe 55 = .ok (.invokevirtual 59, 3) := by decide +kernel
theorem dX6_comesProbe_58 : decode cX6_comesProbe 58 = .ok (.aload_n 0, 1) := by decide +kernel
theorem dX6_comesProbe_59 : decode cX6_comesProbe 59 = .ok (.dup, 1) := by decide +kernel
theorem dX6_comesProbe_60 : decode cX6_comesProbe 60 = .ok (.getfield 94, 3) := by decide +kernel
theorem dX6_comesProbe_63 : decode cX6_comesProbe 63 = .ok (.iconst 1, 1) := by decide +kernel
theorem dX6_comesProbe_64 : decode cX6_comesProbe 64 = .ok (.isub, 1) := by decide +kernel
theorem dX6_comesProbe_65 : decode cX6_comesProbe 65 = .ok (.putfield 94, 3) := by decide +kernel
theorem dX6_comesProbe_68 : decode cX6_comesProbe 68 = .ok (.aload_n 0, 1) := by decide +kernel
theorem dX6_comesProbe_69 : decode cX6_comesProbe 69 = .ok (.getfield 94, 3) := by decide +kernel
theorem dX6_comesProbe_72 : decode cX6_comesProbe 72 = .ok (.iconst 1, 1) := by decide +kernel
theorem dX6_comesProbe_73 : decode cX6_comesProbe 73 = .ok (.if_icmp .lt 11, 3) := by decide +kernel
theorem dX6_comesProbe_76 : decode cX6_comesProbe 76 = .ok (.aload_n 0, 1) := by decide +kernel
theorem dX6_comesProbe_77 : decode cX6_comesProbe 77 = .ok (.iload_n 1, 1) := by decide +kernel
theorem dX6_comesProbe_78 : decode cX6_comesProbe 78 = .ok (.invokevirtual 100, 3) := by decide +kernel
theorem dX6_comesProbe_81 : decode cX6_comesProbe 81 = .ok (.goto 23, 3) := by decide +kernel
theorem dX6_comesProbe_84 : decode cX6_comesProbe 84 = .ok (.aload_n 0, 1) := by decide +kernel
theorem dX6_comesProbe_85 : decode cX6_comesProbe 85 = .ok (.iload_n 1, 1) := by decide +kernel
theorem dX6_comesProbe_86 : decode cX6_comesProbe 86 = .ok (.aload_n 0, 1) := by decide +kernel
theorem dX6_comesProbe_87 : decode cX6_comesProbe 87 = .ok (.getfield 108, 3) := by decide +kernel
theorem dX6_comesProbe_90 : decode cX6_comesProbe 90 = .ok (.iconst 3, 1) := by decide +kernel
theorem dX6_comesProbe_91 : decode cX6_comesProbe 91 = .ok (.aload_n 0, 1) := by decide +kernel
theorem dX6_comesProbe_92 : decode cX6_comesProbe 92 = .ok (.getfield 88, 3) := by decide +kernel
theorem dX6_comesProbe_95 : decode cX6_comesProbe 95 = .ok (.aload_n 0, 1) := by decide +kernel
theorem dX6_comesProbe_96 : decode cX6_comesProbe 96 = .ok (.getfield 91, 3) := by decide +kernel
theorem dX6_comesProbe_99 : decode cX6_comesProbe 99 = .ok (.iconst (-1), 1) := by decide +kernel
theorem dX6_comesProbe_100 : decode cX6_comesProbe 100 = .ok (.iconst (-1), 1) := by decide +kernel
theorem dX6_comesProbe_101 : decode cX6_comesProbe 101 = .ok (.invokevirtual 63, 3) := by decide +kernel
theorem dX6_comesProbe_104 : decode cX6_comesProbe 104 = .ok (.return_, 1) := by decide +kernel
theorem dX6_comesReply_0 : decode cX6_comesReply 0 = .ok (.aload_n 0, 1) := by decide +kernel
theorem dX6_comesReply_1 : decode cX6_comesReply 1 = .ok (.getfield 88, 3) := by decide +kernel
theorem dX6_comesReply_4 : decode cX6_comesReply 4 = .ok (.aload_n 0, 1) := by decide +kernel
theorem dX6_comesReply_5 : decode cX6_comesReply 5 = .ok (.getfield 7, 3) := by decide +kernel
theorem dX6_comesReply_8 : decode cX6_comesReply 8 = .ok (.iload_n 2, 1) := by decide +kernel
theorem dX6_comesReply_9 : decode cX6_comesReply 9 = .ok (.iaload, 1) := by decide +kernel
theorem dX6_comesReply_10 : decode cX6_comesReply 10 = .ok (.if_icmp .eq 9, 3) := by decide +kernel
theorem dX6_comesReply_13 : decode cX6_comesReply 13 = .ok (.aload_n 0, 1) := by decide +kernel
theorem dX6_comesReply_14 : decode cX6_comesReply 14 = .ok (.iload_n 1, 1) := by decide +kernel
theorem dX6_comesReply_15 : decode cX6_comesReply 15 = .ok (.invokevirtual 100, 3) := by decide +kernel
theorem dX6_comesReply_18 : decode cX6_comesReply 18 = .ok (.return_, 1) := by decide +kernel
theorem dX6_comesReply_19 : decode cX6_comesReply 19 = .ok (.iload_n 3, 1) := by decide +kernel
theorem dX6_comesReply_20 : decode cX6_comesReply 20 = .ok (.ifCond .eq 52, 3) := by decide +kernel
theorem dX6_comesReply_23 : decode cX6_comesReply 23 = .ok (.aload_n 0, 1) := by decide +kernel
theorem dX6_comesReply_24 : decode cX6_comesReply 24 = .ok (.iload_n 1, 1) := by decide +kernel
theorem dX6_comesReply_25 : decode cX6_comesReply 25 = .ok (.iload_n 2, 1) := by decide +kernel
theorem dX6_comesReply_26 : decode cX6_comesReply 26 = .ok (.iconst 5, 1) := by decide +kernel
theorem dX6_comesReply_27 : decode cX6_comesReply 27 = .ok (.aload_n 0, 1) := by decide +kernel
theorem dX6_comesReply_28 : decode cX6_comesReply 28 = .ok (.iload_n 1, 1) := by decide +kernel
theorem dX6_comesReply_29 : decode cX6_comesReply 29 = .ok (.iload_n 2, 1) := by decide +kernel
theorem dX6_comesReply_30 : decode cX6_comesReply 30 = .ok (.iconst 5, 1) := by decide +kernel
theorem dX6_comesReply_31 : decode cX6_comesReply 31 = .ok (.invokevirtual 56, 3) := by decide +kernel
theorem dX6_comesReply_34 : decode cX6_comesReply 34 = .ok (.iconst 1, 1) := by decide +kernel
theorem dX6_comesReply_35 : decode cX6_comesReply 35 = .ok (.iadd, 1) := by decide +kernel
theorem dX6_comesReply_36 : decode cX6_comesReply 36 = .ok (.invokevirtual 59, 3) := by decide +kernel
theorem dX6_comesReply_39 : decode cX6_comesReply 39 = .ok (.aload_n 0, 1) := by decide +kernel
theorem dX6_comesReply_40 : decode cX6_comesReply 40 = .ok (.iload_n 1, 1) := by decide +kernel
theorem dX6_comesReply_41 : decode cX6_comesReply 41 = .ok (.iload_n 2, 1) := by decide +kernel
theorem dX6_comesReply_42 : decode cX6_comesReply 42 = .ok (.iconst 5, 1) := by decide +kernel
theorem dX6_comesReply_43 : decode cX6_comesReply 43 = .ok (.invokevirtual 56, 3) := by decide +kernel
theorem dX6_comesReply_46 : decode cX6_comesReply 46 = .ok (.iconst 2, 1) := by decide +kernel
theorem dX6_comesReply_47 : decode cX6_comesReply 47 = .ok (.if_icmp .ne 25, 3) := by decide +kernel
theorem dX6_comesReply_50 : decode cX6_comesReply 50 = .ok (.aload_n 0, 1) := by decide +kernel
theorem dX6_comesReply_51 : decode cX6_comesReply 51 = .ok (.iload_n 1, 1) := by decide +kernel
theorem dX6_comesReply_52 : decode cX6_comesReply 52 = .ok (.iload_n 2, 1) := by decide +kernel
theorem dX6_comesReply_53 : decode cX6_comesReply 53 = .ok (.iconst 3, 1) := by decide +kernel
theorem dX6_comesReply_54 : decode cX6_comesReply 54 = .ok (.aload_n 0, 1) := by decide +kernel
theorem dX6_comesReply_55 : decode cX6_comesReply 55 = .ok (.iload_n 1, 1) := by decide +kernel
theorem dX6_comesReply_56 : decode cX6_comesReply 56 = .ok (.iload_n 2, 1) := by decide +kernel
theorem dX6_comesReply_57 : decode cX6_comesReply 57 = .ok (.iconst 3, 1) := by decide +kernel
theorem dX6_comesReply_58 : decode cX6_comesReply 58 = .ok (.invokevirtual 56, 3) := by decide +kernel
theorem dX6_comesReply_61 : decode cX6_comesReply 61 = .ok (.iconst 1, 1) := by decide +kernel
theorem dX6_comesReply_62 : decode cX6_comesReply 62 = .ok (.iadd, 1) := by decide +kernel
theorem dX6_comesReply_63 : decode cX6_comesReply 63 = .ok (.invokevirtual 59, 3) := by decide +kernel
theorem dX6_comesReply_66 : decode cX6_comesReply 66 = .ok (.aload_n 0, 1) := by decide +kernel
theorem dX6_comesReply_67 : decode cX6_comesReply 67 = .ok (.iload_n 1, 1) := by decide +kernel
theorem dX6_comesReply_68 : decode cX6_comesReply 68 = .ok (.iload_n 2, 1) := by decide +kernel
theorem dX6_comesReply_69 : decode cX6_comesReply 69 = .ok (.invokevirtual 75, 3) := by decide +kernel
theorem dX6_comesReply_72 : decode cX6_comesReply 72 = .ok (.return_, 1) := by decide +kernel
theorem dX6_comesByPhases_0 : decode cX6_comesByPhases 0 = .ok (.iload_n 3, 1) := by decide +kernel
theorem dX6_comesByPhases_1 : decode cX6_comesByPhases 1 = .ok (.ifCond .ne 9, 3) := by decide +kernel
theorem dX6_comesByPhases_4 : decode cX6_comesByPhases 4 = .ok (.aload_n 0, 1) := by decide +kernel
theorem dX6_comesByPhases_5 : decode cX6_comesByPhases 5 = .ok (.iload_n 1, 1) := by decide +kernel
theorem dX6_comesByPhases_6 : decode cX6_comesByPhases 6 = .ok (.invokevirtual 100, 3) := by decide +kernel
theorem dX6_comesByPhases_9 : decode cX6_comesByPhases 9 = .ok (.return_, 1) := by decide +kernel
theorem dX6_comesByPhases_10 : decode cX6_comesByPhases 10 = .ok (.aload_n 0, 1) := by decide +kernel
theorem dX6_comesByPhases_11 : decode cX6_comesByPhases 11 = .ok (.iload_n 1, 1) := by decide +kernel
theorem dX6_comesByPhases_12 : decode cX6_comesByPhases 12 = .ok (.iload_n 2, 1) := by decide +kernel
theorem dX6_comesByPhases_13 : decode cX6_comesByPhases 13 = .ok (.bipush 7, 2) := by decide +kernel
theorem dX6_comesByPhases_15 : decode cX6_comesByPhases 15 = .ok (.invokevirtual 56, 3) := by decide +kernel
theorem dX6_comesByPhases_18 : decode cX6_comesByPhases 18 = .ok (.iconst 1, 1) := by decide +kernel
theorem dX6_comesByPhases_19 : decode cX6_comesByPhases 19 = .ok (.if_icmp .ne 7, 3) := by decide +kernel
theorem dX6_comesByPhases_22 : decode cX6_comesByPhases 22 = .ok (.iconst 1, 1) := by decide +kernel
theorem dX6_comesByPhases_23 : decode cX6_comesByPhases 23 = .ok (.goto 4, 3) := by decide +kernel
theorem dX6_comesByPhases_26 : decode cX6_comesByPhases 26 = .ok (.iconst 0, 1) := by decide +kernel
theorem dX6_comesByPhases_27 : decode cX6_comesByPhases 27 = .ok (.istore 4, 2) := by decide +kernel
theorem dX6_comesByPhases_29 : decode cX6_comesByPhases 29 = .ok (.aload_n 0, 1) := by decide +kernel
theorem dX6_comesByPhases_30 : decode cX6_comesByPhases 30 = .ok (.getfield 85, 3) := by decide +kernel
theorem dX6_comesByPhases_33 : decode cX6_comesByPhases 33 = .ok (.iconst 4, 1) := by decide +kernel
theorem dX6_comesByPhases_34 : decode cX6_comesByPhases 34 = .ok (.if_icmp .ne 75, 3) := by decide +kernel
theorem dX6_comesByPhases_37 : decode cX6_comesByPhases 37 = .ok (.iload 4, 2) := by decide +kernel
theorem dX6_comesByPhases_39 : decode cX6_comesByPhases 39 = .ok (.ifCond .ne 70, 3) := by decide +kernel
theorem dX6_comesByPhases_42 : decode cX6_comesByPhases 42 = .ok (.aload_n 0, 1) := by decide +kernel
theorem dX6_comesByPhases_43 : decode cX6_comesByPhases 43 = .ok (.getfield 88, 3) := by decide +kernel
theorem dX6_comesByPhases_46 : decode cX6_comesByPhases 46 = .ok (.aload_n 0, 1) := by decide +kernel
theorem dX6_comesByPhases_47 : decode cX6_comesByPhases 47 = .ok (.iload_n 1, 1) := by decide +kernel
theorem dX6_comesByPhases_48 : decode cX6_comesByPhases 48 = .ok (.iload_n 2, 1) := by decide +kernel
theorem dX6_comesByPhases_49 : decode cX6_comesByPhases 49 = .ok (.iconst 2, 1) := by decide +kernel
theorem dX6_comesByPhases_50 : decode cX6_comesByPhases 50 = .ok (.invokevirtual 56, 3) := by decide +kernel
theorem dX6_comesByPhases_53 : decode cX6_comesByPhases 53 = .ok (.if_icmp .ne 16, 3) := by decide +kernel
theorem dX6_comesByPhases_56 : decode cX6_comesByPhases 56 = .ok (.aload_n 0, 1) := by decide +kernel
theorem dX6_comesByPhases_57 : decode cX6_comesByPhases 57 = .ok (.iload_n 1, 1) := by decide +kernel
theorem dX6_comesByPhases_58 : decode cX6_comesByPhases 58 = .ok (.iload_n 2, 1) := by decide +kernel
theorem dX6_comesByPhases_59 : decode cX6_comesByPhases 59 = .ok (.aload_n 0, 1) := by decide +kernel
theorem dX6_comesByPhases_60 : decode cX6_comesByPhases 60 = .ok (.getfield 88, 3) := by decide +kernel
theorem dX6_comesByPhases_63 : decode cX6_comesByPhases 63 = .ok (.invokevirtual 104, 3) := by decide +kernel
theorem dX6_comesByPhases_66 : decode cX6_comesByPhases 66 = .ok (.goto 43, 3) := by decide +kernel
theorem dX6_comesByPhases_69 : decode cX6_comesByPhases 69 = .ok (.aload_n 0, 1) := by decide +kernel
theorem dX6_comesByPhases_70 : decode cX6_comesByPhases 70 = .ok (.iload_n 1, 1) := by decide +kernel
theorem dX6_comesByPhases_71 : decode cX6_comesByPhases 71 = .ok (.iload_n 2, 1) := by decide +kernel
theorem dX6_comesByPhases_72 : decode cX6_comesByPhases 72 = .ok (.bipush 6, 2) := by decide +kernel
theorem dX6_comesByPhases_74 : decode cX6_comesByPhases 74 = .ok (.aload_n 0, 1) := by decide +kernel
theorem dX6_comesByPhases_75 : decode cX6_comesByPhases 75 = .ok (.getfield 88, 3) := by decide +kernel
theorem dX6_comesByPhases_78 : decode cX6_comesByPhases 78 = .ok (.invokevirtual 59, 3) := by decide +kernel
theorem dX6_comesByPhases_81 : decode cX6_comesByPhases 81 = .ok (.aload_n 0, 1) := by decide +kernel
theorem dX6_comesByPhases_82 : decode cX6_comesByPhases 82 = .ok (.iload_n 1, 1) := by decide +kernel
theorem dX6_comesByPhases_83 : decode cX6_comesByPhases 83 = .ok (.iload_n 2, 1) := by decide +kernel
theorem dX6_comesByPhases_84 : decode cX6_comesByPhases 84 = .ok (.bipush 7, 2) := by decide +kernel
theorem dX6_comesByPhases_86 : decode cX6_comesByPhases 86 = .ok (.iconst 1, 1) := by decide +kernel
theorem dX6_comesByPhases_87 : decode cX6_comesByPhases 87 = .ok (.invokevirtual 59, 3) := by decide +kernel
theorem dX6_comesByPhases_90 : decode cX6_comesByPhases 90 = .ok (.aload_n 0, 1) := by decide +kernel
theorem dX6_comesByPhases_91 : decode cX6_comesByPhases 91 = .ok (.iload_n 1, 1) := by decide +kernel
theorem dX6_comesByPhases_92 : decode cX6_comesByPhases 92 = .ok (.aload_n 0, 1) := by decide +kernel
theorem dX6_comesByPhases_93 : decode cX6_comesByPhases 93 = .ok (.iload_n 1, 1) := by decide +kernel
theorem dX6_comesByPhases_94 : decode cX6_comesByPhases 94 = .ok (.iload_n 2, 1) := by decide +kernel
theorem dX6_comesByPhases_95 : decode cX6_comesByPhases 95 = .ok (.invokevirtual 71, 3) := by decide +kernel
theorem dX6_comesByPhases_98 : decode cX6_comesByPhases 98 = .ok (.iconst 5, 1) := by decide +kernel
theorem dX6_comesByPhases_99 : decode cX6_comesByPhases 99 = .ok (.aload_n 0, 1) := by decide +kernel
theorem dX6_comesByPhases_100 : decode cX6_comesByPhases 100 = .ok (.getfield 88, 3) := by decide +kernel
theorem dX6_comesByPhases_103 : decode cX6_comesByPhases 103 = .ok (.iconst (-1), 1) := by decide +kernel
theorem dX6_comesByPhases_104 : decode cX6_comesByPhases 104 = .ok (.iconst (-1), 1) := by decide +kernel
theorem dX6_comesByPhases_105 : decode cX6_comesByPhases 105 = .ok (.iconst (-1), 1) := by decide +kernel
theorem dX6_comesByPhases_106 : decode cX6_comesByPhases 106 = .ok (.invokevirtual 63, 3) := by decide +kernel
theorem dX6_comesByPhases_109 : decode cX6_comesByPhases 109 = .ok (.aload_n 0, 1) := by decide +kernel
theorem dX6_comesByPhases_110 : decode cX6_comesByPhases 110 = .ok (.getfield 85, 3) := by decide +kernel
theorem dX6_comesByPhases_113 : decode cX6_comesByPhases 113 = .ok (.iconst 5, 1) := by decide +kernel
theorem dX6_comesByPhases_114 : decode cX6_comesByPhases 114 = .ok (.if_icmp .ne 101, 3) := by decide +kernel
theorem dX6_comesByPhases_117 : decode cX6_comesByPhases 117 = .ok (.iload 4, 2) := by decide +kernel
theorem dX6_comesByPhases_119 : decode cX6_comesByPhases 119 = .ok (.ifCond .eq 96, 3) := by decide +kernel
theorem dX6_comesByPhases_122 : decode cX6_comesByPhases 122 = .ok (.aload_n 0, 1) := by decide +kernel
theorem dX6_comesByPhases_123 : decode cX6_comesByPhases 123 = .ok (.iload_n 1, 1) := by decide +kernel
theorem dX6_comesByPhases_124 : decode cX6_comesByPhases 124 = .ok (.iload_n 2, 1) := by decide +kernel
theorem dX6_comesByPhases_125 : decode cX6_comesByPhases 125 = .ok (.bipush 6, 2) := by decide +kernel
theorem dX6_comesByPhases_127 : decode cX6_comesByPhases 127 = .ok (.invokevirtual 56, 3) := by decide +kernel
theorem dX6_comesByPhases_130 : decode cX6_comesByPhases 130 = .ok (.istore 5, 2) := by decide +kernel
theorem dX6_comesByPhases_132 : decode cX6_comesByPhases 132 = .ok (.iload 5, 2) := by decide +kernel
theorem dX6_comesByPhases_134 : decode cX6_comesByPhases 134 = .ok (.aload_n 0, 1) := by decide +kernel
theorem dX6_comesByPhases_135 : decode cX6_comesByPhases 135 = .ok (.iload_n 1, 1) := by decide +kernel
theorem dX6_comesByPhases_136 : decode cX6_comesByPhases 136 = .ok (.iload_n 2, 1) := by decide +kernel
theorem dX6_comesByPhases_137 : decode cX6_comesByPhases 137 = .ok (.iconst 2, 1) := by decide +kernel
theorem dX6_comesByPhases_138 : decode cX6_comesByPhases 138 = .ok (.invokevirtual 56, 3) := by decide +kernel
theorem dX6_comesByPhases_141 : decode cX6_comesByPhases 141 = .ok (.if_icmp .le 66, 3) := by decide +kernel
theorem dX6_comesByPhases_144 : decode cX6_comesByPhases 144 = .ok (.iload 5, 2) := by decide +kernel
theorem dX6_comesByPhases_146 : decode cX6_comesByPhases 146 = .ok (.aload_n 0, 1) := by decide +kernel
theorem dX6_comesByPhases_147 : decode cX6_comesByPhases 147 = .ok (.getfield 88, 3) := by decide +kernel
theorem dX6_comesByPhases_150 : decode cX6_comesByPhases 150 = .ok (.if_icmp .le 57, 3) := by decide +kernel
theorem dX6_comesByPhases_153 : decode cX6_comesByPhases 153 = .ok (.aload_n 0, 1) := by decide +kernel
theorem dX6_comesByPhases_154 : decode cX6_comesByPhases 154 = .ok (.iload_n 1, 1) := by decide +kernel
theorem dX6_comesByPhases_155 : decode cX6_comesByPhases 155 = .ok (.iload_n 2, 1) := by decide +kernel
theorem dX6_comesByPhases_156 : decode cX6_comesByPhases 156 = .ok (.iconst 2, 1) := by decide +kernel
theorem dX6_comesByPhases_157 : decode cX6_comesByPhases 157 = .ok (.iload 5, 2) := by decide +kernel
theorem dX6_comesByPhases_159 : decode cX6_comesByPhases 159 = .ok (.invokevirtual 59, 3) := by decide +kernel
theorem dX6_comesByPhases_162 : decode cX6_comesByPhases 162 = .ok (.aload_n 0, 1) := by decide +kernel
theorem dX6_comesByPhases_163 : decode cX6_comesByPhases 163 = .ok (.iload_n 1, 1) := by decide +kernel
theorem dX6_comesByPhases_164 : decode cX6_comesByPhases 164 = .ok (.iload_n 2, 1) := by decide +kernel
theorem dX6_comesByPhases_165 : decode cX6_comesByPhases 165 = .ok (.iconst 3, 1) := by decide +kernel
theorem dX6_comesByPhases_166 : decode cX6_comesByPhases 166 = .ok (.aload_n 0, 1) := by decide +kernel
theorem dX6_comesByPhases_167 : decode cX6_comesByPhases 167 = .ok (.iload_n 1, 1) := by decide +kernel
theorem dX6_comesByPhases_168 : decode cX6_comesByPhases 168 = .ok (.iload_n 2, 1) := by decide +kernel
theorem dX6_comesByPhases_169 : decode cX6_comesByPhases 169 = .ok (.iconst 3, 1) := by decide +kernel
theorem dX6_comesByPhases_170 : decode cX6_comesByPhases 170 = .ok (.invokevirtual 56, 3) := by decide +kernel
theorem dX6_comesByPhases_173 : decode cX6_comesByPhases 173 = .ok (.iconst 1, 1) := by decide +kernel
theorem dX6_comesByPhases_174 : decode cX6_comesByPhases 174 = .ok (.iadd, 1) := by decide +kernel
theorem dX6_comesByPhases_175 : decode cX6_comesByPhases 175 = .ok (.invokevirtual 59, 3) := by decide +kernel
theorem dX6_comesByPhases_178 : decode cX6_comesByPhases 178 = .ok (.aload_n 0, 1) := by decide +kernel
theorem dX6_comesByPhases_179 : decode cX6_comesByPhases 179 = .ok (.iload_n 1, 1) := by decide +kernel
theorem dX6_comesByPhases_180 : decode cX6_comesByPhases 180 = .ok (.iload_n 2, 1) := by decide +kernel
theorem dX6_comesByPhases_181 : decode cX6_comesByPhases 181 = .ok (.bipush 7, 2) := by decide +kernel
theorem dX6_comesByPhases_183 : decode cX6_comesByPhases 183 = .ok (.iconst 0, 1) := by decide +kernel
theorem dX6_comesByPhases_184 : decode cX6_comesByPhases 184 = .ok (.invokevirtual 59, 3) := by decide +kernel
theorem dX6_comesByPhases_187 : decode cX6_comesByPhases 187 = .ok (.aload_n 0, 1) := by decide +kernel
theorem dX6_comesByPhases_188 : decode cX6_comesByPhases 188 = .ok (.iload_n 1, 1) := by decide +kernel
theorem dX6_comesByPhases_189 : decode cX6_comesByPhases 189 = .ok (.aload_n 0, 1) := by decide +kernel
theorem dX6_comesByPhases_190 : decode cX6_comesByPhases 190 = .ok (.iload_n 1, 1) := by decide +kernel
theorem dX6_comesByPhases_191 : decode cX6_comesByPhases 191 = .ok (.iload_n 2, 1) := by decide +kernel
theorem dX6_comesByPhases_192 : decode cX6_comesByPhases 192 = .ok (.invokevirtual 71, 3) := by decide +kernel
theorem dX6_comesByPhases_195 : decode cX6_comesByPhases 195 = .ok (.iconst 4, 1) := by decide +kernel
theorem dX6_comesByPhases_196 : decode cX6_comesByPhases 196 = .ok (.iload 5, 2) := by decide +kernel
theorem dX6_comesByPhases_198 : decode cX6_comesByPhases 198 = .ok (.iconst (-1), 1) := by decide +kernel
theorem dX6_comesByPhases_199 : decode cX6_comesByPhases 199 = .ok (.iconst (-1), 1) := by decide +kernel
theorem dX6_comesByPhases_200 : decode cX6_comesByPhases 200 = .ok (.iconst (-1), 1) := by decide +kernel
theorem dX6_comesByPhases_201 : decode cX6_comesByPhases 201 = .ok (.invokevirtual 63, 3) := by decide +kernel
theorem dX6_comesByPhases_204 : decode cX6_comesByPhases 204 = .ok (.goto 11, 3) := by decide +kernel
theorem dX6_comesByPhases_207 : decode cX6_comesByPhases 207 = .ok (.aload_n 0, 1) := by decide +kernel
theorem dX6_comesByPhases_208 : decode cX6_comesByPhases 208 = .ok (.iload_n 1, 1) := by decide +kernel
theorem dX6_comesByPhases_209 : decode cX6_comesByPhases 209 = .ok (.iload_n 2, 1) := by decide +kernel
theorem dX6_comesByPhases_210 : decode cX6_comesByPhases 210 = .ok (.iconst 1, 1) := by decide +kernel
theorem dX6_comesByPhases_211 : decode cX6_comesByPhases 211 = .ok (.iconst 2, 1) := by decide +kernel
theorem dX6_comesByPhases_212 : decode cX6_comesByPhases 212 = .ok (.invokevirtual 59, 3) := by decide +kernel
theorem dX6_comesByPhases_215 : decode cX6_comesByPhases 215 = .ok (.return_, 1) := by decide +kernel
theorem dX6_comesByDraws_0 : decode cX6_comesByDraws 0 = .ok (.aload_n 0, 1) := by decide +kernel
theorem dX6_comesByDraws_1 : decode cX6_comesByDraws 1 = .ok (.iload_n 1, 1) := by decide +kernel
theorem dX6_comesByDraws_2 : decode cX6_comesByDraws 2 = .ok (.iload_n 2, 1) := by decide +kernel
theorem dX6_comesByDraws_3 : decode cX6_comesByDraws 3 = .ok (.iconst 3, 1) := by decide +kernel
theorem dX6_comesByDraws_4 : decode cX6_comesByDraws 4 = .ok (.invokevirtual 56, 3) := by decide +kernel
theorem dX6_comesByDraws_7 : decode cX6_comesByDraws 7 = .ok (.istore 4, 2) := by decide +kernel
theorem dX6_comesByDraws_9 : decode cX6_comesByDraws 9 = .ok (.aload_n 0, 1) := by decide +kernel
theorem dX6_comesByDraws_10 : decode cX6_comesByDraws 10 = .ok (.iload_n 1, 1) := by decide +kernel
theorem dX6_comesByDraws_11 : decode cX6_comesByDraws 11 = .ok (.iload_n 2, 1) := by decide +kernel
theorem dX6_comesByDraws_12 : decode cX6_comesByDraws 12 = .ok (.iconst 2, 1) := by decide +kernel
theorem dX6_comesByDraws_13 : decode cX6_comesByDraws 13 = .ok (.invokevirtual 56, 3) := by decide +kernel
theorem dX6_comesByDraws_16 : decode cX6_comesByDraws 16 = .ok (.istore 5, 2) := by decide +kernel
theorem dX6_comesByDraws_18 : decode cX6_comesByDraws 18 = .ok (.aload_n 0, 1) := by decide +kernel
theorem dX6_comesByDraws_19 : decode cX6_comesByDraws 19 = .ok (.getfield 94, 3) := by decide +kernel
theorem dX6_comesByDraws_22 : decode cX6_comesByDraws 22 = .ok (.aload_n 0, 1) := by decide +kernel
theorem dX6_comesByDraws_23 : decode cX6_comesByDraws 23 = .ok (.getfield 41, 3) := by decide +kernel
theorem dX6_comesByDraws_26 : decode cX6_comesByDraws 26 = .ok (.if_icmp .ne 50, 3) := by decide +kernel
theorem dX6_comesByDraws_29 : decode cX6_comesByDraws 29 = .ok (.iload_n 3, 1) := by decide +kernel
theorem dX6_comesByDraws_30 : decode cX6_comesByDraws 30 = .ok (.ifCond .eq 24, 3) := by decide +kernel
theorem dX6_comesByDraws_33 : decode cX6_comesByDraws 33 = .ok (.aload_n 0, 1) := by decide +kernel
theorem dX6_comesByDraws_34 : decode cX6_comesByDraws 34 = .ok (.getfield 97, 3) := by decide +kernel
theorem dX6_comesByDraws_37 : decode cX6_comesByDraws 37 = .ok (.iconst 1, 1) := by decide +kernel
theorem dX6_comesByDraws_38 : decode cX6_comesByDraws 38 = .ok (.if_icmp .ne 16, 3) := by decide +kernel
theorem dX6_comesByDraws_41 : decode cX6_comesByDraws 41 = .ok (.aload_n 0, 1) := by decide +kernel
theorem dX6_comesByDraws_42 : decode cX6_comesByDraws 42 = .ok (.iload_n 1, 1) := by decide +kernel
theorem dX6_comesByDraws_43 : decode cX6_comesByDraws 43 = .ok (.iload_n 2, 1) := by decide +kernel
theorem dX6_comesByDraws_44 : decode cX6_comesByDraws 44 = .ok (.aload_n 0, 1) := by decide +kernel
theorem dX6_comesByDraws_45 : decode cX6_comesByDraws 45 = .ok (.getfield 88, 3) := by decide +kernel
theorem dX6_comesByDraws_48 : decode cX6_comesByDraws 48 = .ok (.invokevirtual 104, 3) := by decide +kernel
theorem dX6_comesByDraws_51 : decode cX6_comesByDraws 51 = .ok (.goto 24, 3) := by decide +kernel
theorem dX6_comesByDraws_54 : decode cX6_comesByDraws 54 = .ok (.iload_n 3, 1) := by decide +kernel
theorem dX6_comesByDraws_55 : decode cX6_comesByDraws 55 = .ok (.ifCond .eq 20, 3) := by decide +kernel
theorem dX6_comesByDraws_58 : decode cX6_comesByDraws 58 = .ok (.aload_n 0, 1) := by decide +kernel
theorem dX6_comesByDraws_59 : decode cX6_comesByDraws 59 = .ok (.iload_n 1, 1) := by decide +kernel
theorem dX6_comesByDraws_60 : decode cX6_comesByDraws 60 = .ok (.iload_n 2, 1) := by decide +kernel
theorem dX6_comesByDraws_61 : decode cX6_comesByDraws 61 = .ok (.iconst 3, 1) := by decide +kernel
theorem dX6_comesByDraws_62 : decode cX6_comesByDraws 62 = .ok (.iload 4, 2) := by decide +kernel
theorem dX6_comesByDraws_64 : decode cX6_comesByDraws 64 = .ok (.iconst 1, 1) := by decide +kernel
theorem dX6_comesByDraws_65 : decode cX6_comesByDraws 65 = .ok (.iadd, 1) := by decide +kernel
theorem dX6_comesByDraws_66 : decode cX6_comesByDraws 66 = .ok (.invokevirtual 59, 3) := by decide +kernel
theorem dX6_comesByDraws_69 : decode cX6_comesByDraws 69 = .ok (.aload_n 0, 1) := by decide +kernel
theorem dX6_comesByDraws_70 : decode cX6_comesByDraws 70 = .ok (.iload_n 1, 1) := by decide +kernel
theorem dX6_comesByDraws_71 : decode cX6_comesByDraws 71 = .ok (.iload_n 2, 1) := by decide +kernel
theorem dX6_comesByDraws_72 : decode cX6_comesByDraws 72 = .ok (.invokevirtual 79, 3) := by decide +kernel
theorem dX6_comesByDraws_75 : decode cX6_comesByDraws 75 = .ok (.return_, 1) := by decide +kernel
theorem dX6_comesByDraws_76 : decode cX6_comesByDraws 76 = .ok (.aload_n 0, 1) := by decide +kernel
theorem dX6_comesByDraws_77 : decode cX6_comesByDraws 77 = .ok (.getfield 91, 3) := by decide +kernel
theorem dX6_comesByDraws_80 : decode cX6_comesByDraws 80 = .ok (.iload 4, 2) := by decide +kernel
theorem dX6_comesByDraws_82 : decode cX6_comesByDraws 82 = .ok (.if_icmp .gt 21, 3) := by decide +kernel
theorem dX6_comesByDraws_85 : decode cX6_comesByDraws 85 = .ok (.aload_n 0, 1) := by decide +kernel
theorem dX6_comesByDraws_86 : decode cX6_comesByDraws 86 = .ok (.getfield 91, 3) := by decide +kernel
theorem dX6_comesByDraws_89 : decode cX6_comesByDraws 89 = .ok (.iload 4, 2) := by decide +kernel
theorem dX6_comesByDraws_91 : decode cX6_comesByDraws 91 = .ok (.if_icmp .ne 16, 3) := by decide +kernel
theorem dX6_comesByDraws_94 : decode cX6_comesByDraws 94 = .ok (.aload_n 0, 1) := by decide +kernel
theorem dX6_comesByDraws_95 : decode cX6_comesByDraws 95 = .ok (.getfield 88, 3) := by decide +kernel
theorem dX6_comesByDraws_98 : decode cX6_comesByDraws 98 = .ok (.iload 5, 2) := by decide +kernel
theorem dX6_comesByDraws_100 : decode cX6_comesByDraws 100 = .ok (.if_icmp .le 7, 3) := by decide +kernel
theorem dX6_comesByDraws_103 : decode cX6_comesByDraws 103 = .ok (.iconst 1, 1) := by decide +kernel
theorem dX6_comesByDraws_104 : decode cX6_comesByDraws 104 = .ok (.goto 4, 3) := by decide +kernel
theorem dX6_comesByDraws_107 : decode cX6_comesByDraws 107 = .ok (.iconst 0, 1) := by decide +kernel
theorem dX6_comesByDraws_108 : decode cX6_comesByDraws 108 = .ok (.istore 6, 2) := by decide +kernel
theorem dX6_comesByDraws_110 : decode cX6_comesByDraws 110 = .ok (.aload_n 0, 1) := by decide +kernel
theorem dX6_comesByDraws_111 : decode cX6_comesByDraws 111 = .ok (.getfield 91, 3) := by decide +kernel
theorem dX6_comesByDraws_114 : decode cX6_comesByDraws 114 = .ok (.iload 4, 2) := by decide +kernel
theorem dX6_comesByDraws_116 : decode cX6_comesByDraws 116 = .ok (.if_icmp .ne 16, 3) := by decide +kernel
theorem dX6_comesByDraws_119 : decode cX6_comesByDraws 119 = .ok (.aload_n 0, 1) := by decide +kernel
theorem dX6_comesByDraws_120 : decode cX6_comesByDraws 120 = .ok (.getfield 88, 3) := by decide +kernel
theorem dX6_comesByDraws_123 : decode cX6_comesByDraws 123 = .ok (.iload 5, 2) := by decide +kernel
theorem dX6_comesByDraws_125 : decode cX6_comesByDraws 125 = .ok (.if_icmp .ne 7, 3) := by decide +kernel
theorem dX6_comesByDraws_128 : decode cX6_comesByDraws 128 = .ok (.iconst 1, 1) := by decide +kernel
theorem dX6_comesByDraws_129 : decode cX6_comesByDraws 129 = .ok (.goto 4, 3) := by decide +kernel
theorem dX6_comesByDraws_132 : decode cX6_comesByDraws 132 = .ok (.iconst 0, 1) := by decide +kernel
theorem dX6_comesByDraws_133 : decode cX6_comesByDraws 133 = .ok (.istore 7, 2) := by decide +kernel
theorem dX6_comesByDraws_135 : decode cX6_comesByDraws 135 = .ok (.iload_n 3, 1) := by decide +kernel
theorem dX6_comesByDraws_136 : decode cX6_comesByDraws 136 = .ok (.ifCond .eq 14, 3) := by decide +kernel
theorem dX6_comesByDraws_139 : decode cX6_comesByDraws 139 = .ok (.iload 6, 2) := by decide +kernel
theorem dX6_comesByDraws_141 : decode cX6_comesByDraws 141 = .ok (.ifCond .ne 9, 3) := by decide +kernel
theorem dX6_comesByDraws_144 : decode cX6_comesByDraws 144 = .ok (.iload 7, 2) := by decide +kernel
theorem dX6_comesByDraws_146 : decode cX6_comesByDraws 146 = .ok (.ifCond .ne 4, 3) := by decide +kernel
theorem dX6_comesByDraws_149 : decode cX6_comesByDraws 149 = .ok (.return_, 1) := by decide +kernel
theorem dX6_comesByDraws_150 : decode cX6_comesByDraws 150 = .ok (.iload_n 3, 1) := by decide +kernel
theorem dX6_comesByDraws_151 : decode cX6_comesByDraws 151 = .ok (.ifCond .eq 16, 3) := by decide +kernel
theorem dX6_comesByDraws_154 : decode cX6_comesByDraws 154 = .ok (.iload 6, 2) := by decide +kernel
theorem dX6_comesByDraws_156 : decode cX6_comesByDraws 156 = .ok (.ifCond .eq 11, 3) := by decide +kernel
theorem dX6_comesByDraws_159 : decode cX6_comesByDraws 159 = .ok (.aload_n 0, 1) := by decide +kernel
theorem dX6_comesByDraws_160 : decode cX6_comesByDraws 160 = .ok (.iload_n 1, 1) := by decide +kernel
theorem dX6_comesByDraws_161 : decode cX6_comesByDraws 161 = .ok (.iload_n 2, 1) := by decide +kernel
theorem dX6_comesByDraws_162 : decode cX6_comesByDraws 162 = .ok (.iconst 1, 1) := by decide +kernel
theorem dX6_comesByDraws_163 : decode cX6_comesByDraws 163 = .ok (.iconst 2, 1) := by decide +kernel
theorem dX6_comesByDraws_164 : decode cX6_comesByDraws 164 = .ok (.invokevirtual 59, 3) := by decide +kernel
theorem dX6_comesByDraws_167 : decode cX6_comesByDraws 167 = .ok (.aload_n 0, 1) := by decide +kernel
theorem dX6_comesByDraws_168 : decode cX6_comesByDraws 168 = .ok (.iload_n 3, 1) := by decide +kernel
theorem dX6_comesByDraws_169 : decode cX6_comesByDraws 169 = .ok (.ifCond .eq 12, 3) := by decide +kernel
theorem dX6_comesByDraws_172 : decode cX6_comesByDraws 172 = .ok (.iload 7, 2) := by decide +kernel
theorem dX6_comesByDraws_174 : decode cX6_comesByDraws 174 = .ok (.ifCond .eq 7, 3) := by decide +kernel
theorem dX6_comesByDraws_177 : decode cX6_comesByDraws 177 = .ok (.iconst 0, 1) := by decide +kernel
theorem dX6_comesByDraws_178 : decode cX6_comesByDraws 178 = .ok (.goto 7, 3) := by decide +kernel
theorem dX6_comesByDraws_181 : decode cX6_comesByDraws 181 = .ok (.aload_n 0, 1) := by decide +kernel
theorem dX6_comesByDraws_182 : decode cX6_comesByDraws 182 = .ok (.getfield 97, 3) := by decide +kernel
theorem dX6_comesByDraws_185 : decode cX6_comesByDraws 185 = .ok (.putfield 97, 3) := by decide +kernel
theorem dX6_comesByDraws_188 : decode cX6_comesByDraws 188 = .ok (.aload_n 0, 1) := by decide +kernel
theorem dX6_comesByDraws_189 : decode cX6_comesByDraws 189 = .ok (.dup, 1) := by decide +kernel
theorem dX6_comesByDraws_190 : decode cX6_comesByDraws 190 = .ok (.getfield 94, 3) := by decide +kernel
theorem dX6_comesByDraws_193 : decode cX6_comesByDraws 193 = .ok (.iconst 1, 1) := by decide +kernel
theorem dX6_comesByDraws_194 : decode cX6_comesByDraws 194 = .ok (.iadd, 1) := by decide +kernel
theorem dX6_comesByDraws_195 : decode cX6_comesByDraws 195 = .ok (.putfield 94, 3) := by decide +kernel
theorem dX6_comesByDraws_198 : decode cX6_comesByDraws 198 = .ok (.aload_n 0, 1) := by decide +kernel
theorem dX6_comesByDraws_199 : decode cX6_comesByDraws 199 = .ok (.iload_n 1, 1) := by decide +kernel
theorem dX6_comesByDraws_200 : decode cX6_comesByDraws 200 = .ok (.invokevirtual 100, 3) := by decide +kernel
theorem dX6_comesByDraws_203 : decode cX6_comesByDraws 203 = .ok (.return_, 1) := by decide +kernel
theorem dX6_comes_0 : decode cX6_comes 0 = .ok (.aload_n 0, 1) := by decide +kernel
theorem dX6_comes_1 : decode cX6_comes 1 = .ok (.iload_n 1, 1) := by decide +kernel
theorem dX6_comes_2 : decode cX6_comes 2 = .ok (.iload_n 2, 1) := by decide +kernel
theorem dX6_comes_3 : decode cX6_comes 3 = .ok (.iconst 1, 1) := by decide +kernel
theorem dX6_comes_4 : decode cX6_comes 4 = .ok (.invokevirtual 56, 3) := by decide +kernel
theorem dX6_comes_7 : decode cX6_comes 7 = .ok (.ifCond .ne 11, 3) := by decide +kernel
theorem dX6_comes_10 : decode cX6_comes 10 = .ok (.aload_n 0, 1) := by decide +kernel
theorem dX6_comes_11 : decode cX6_comes 11 = .ok (.iload_n 1, 1) := by decide +kernel
theorem dX6_comes_12 : decode cX6_comes 12 = .ok (.iload_n 2, 1) := by decide +kernel
theorem dX6_comes_13 : decode cX6_comes 13 = .ok (.iconst 1, 1) := by decide +kernel
theorem dX6_comes_14 : decode cX6_comes 14 = .ok (.iconst 2, 1) := by decide +kernel
theorem dX6_comes_15 : decode cX6_comes 15 = .ok (.invokevirtual 59, 3) := by decide +kernel
theorem dX6_comes_18 : decode cX6_comes 18 = .ok (.aload_n 0, 1) := by decide +kernel
theorem dX6_comes_19 : decode cX6_comes 19 = .ok (.iload_n 1, 1) := by decide +kernel
theorem dX6_comes_20 : decode cX6_comes 20 = .ok (.iload_n 2, 1) := by decide +kernel
theorem dX6_comes_21 : decode cX6_comes 21 = .ok (.iconst 1, 1) := by decide +kernel
theorem dX6_comes_22 : decode cX6_comes 22 = .ok (.invokevirtual 56, 3) := by decide +kernel
theorem dX6_comes_25 : decode cX6_comes 25 = .ok (.istore 4, 2) := by decide +kernel
theorem dX6_comes_27 : decode cX6_comes 27 = .ok (.iload 4, 2) := by decide +kernel
theorem dX6_comes_29 : decode cX6_comes 29 = .ok (.iconst 3, 1) := by decide +kernel
theorem dX6_comes_30 : decode cX6_comes 30 = .ok (.if_icmp .ne 4, 3) := by decide +kernel
theorem dX6_comes_33 : decode cX6_comes 33 = .ok (.return_, 1) := by decide +kernel
theorem dX6_comes_34 : decode cX6_comes 34 = .ok (.aload_n 0, 1) := by decide +kernel
theorem dX6_comes_35 : decode cX6_comes 35 = .ok (.getfield 85, 3) := by decide +kernel
theorem dX6_comes_38 : decode cX6_comes 38 = .ok (.bipush 7, 2) := by decide +kernel
theorem dX6_comes_40 : decode cX6_comes 40 = .ok (.if_icmp .ne 36, 3) := by decide +kernel
theorem dX6_comes_43 : decode cX6_comes 43 = .ok (.aload_n 0, 1) := by decide +kernel
theorem dX6_comes_44 : decode cX6_comes 44 = .ok (.iload_n 1, 1) := by decide +kernel
theorem dX6_comes_45 : decode cX6_comes 45 = .ok (.iload_n 2, 1) := by decide +kernel
theorem dX6_comes_46 : decode cX6_comes 46 = .ok (.iconst 1, 1) := by decide +kernel
theorem dX6_comes_47 : decode cX6_comes 47 = .ok (.iconst 4, 1) := by decide +kernel
theorem dX6_comes_48 : decode cX6_comes 48 = .ok (.invokevirtual 59, 3) := by decide +kernel
theorem dX6_comes_51 : decode cX6_comes 51 = .ok (.aload_n 0, 1) := by decide +kernel
theorem dX6_comes_52 : decode cX6_comes 52 = .ok (.iload_n 1, 1) := by decide +kernel
theorem dX6_comes_53 : decode cX6_comes 53 = .ok (.iload_n 2, 1) := by decide +kernel
theorem dX6_comes_54 : decode cX6_comes 54 = .ok (.iconst 4, 1) := by decide +kernel
theorem dX6_comes_55 : decode cX6_comes 55 = .ok (.aload_n 0, 1) := by decide +kernel
theorem dX6_comes_56 : decode cX6_comes 56 = .ok (.getfield 88, 3) := by decide +kernel
theorem dX6_comes_59 : decode cX6_comes 59 = .ok (.invokevirtual 59, 3) := by decide +kernel
theorem dX6_comes_62 : decode cX6_comes 62 = .ok (.aload_n 0, 1) := by decide +kernel
theorem dX6_comes_63 : decode cX6_comes 63 = .ok (.iload_n 1, 1) := by decide +kernel
theorem dX6_comes_64 : decode cX6_comes 64 = .ok (.iload_n 2, 1) := by decide +kernel
theorem dX6_comes_65 : decode cX6_comes 65 = .ok (.iconst 0, 1) := by decide +kernel
theorem dX6_comes_66 : decode cX6_comes 66 = .ok (.iload_n 3, 1) := by decide +kernel
theorem dX6_comes_67 : decode cX6_comes 67 = .ok (.invokevirtual 59, 3) := by decide +kernel
theorem dX6_comes_70 : decode cX6_comes 70 = .ok (.aload_n 0, 1) := by decide +kernel
theorem dX6_comes_71 : decode cX6_comes 71 = .ok (.iload_n 1, 1) := by decide +kernel
theorem dX6_comes_72 : decode cX6_comes 72 = .ok (.invokevirtual 100, 3) := by decide +kernel
theorem dX6_comes_75 : decode cX6_comes 75 = .ok (.return_, 1) := by decide +kernel
theorem dX6_comes_76 : decode cX6_comes 76 = .ok (.iload 4, 2) := by decide +kernel
theorem dX6_comes_78 : decode cX6_comes 78 = .ok (.iconst 1, 1) := by decide +kernel
theorem dX6_comes_79 : decode cX6_comes 79 = .ok (.if_icmp .ne 7, 3) := by decide +kernel
theorem dX6_comes_82 : decode cX6_comes 82 = .ok (.iconst 1, 1) := by decide +kernel
theorem dX6_comes_83 : decode cX6_comes 83 = .ok (.goto 4, 3) := by decide +kernel
theorem dX6_comes_86 : decode cX6_comes 86 = .ok (.iconst 0, 1) := by decide +kernel
theorem dX6_comes_87 : decode cX6_comes 87 = .ok (.istore 5, 2) := by decide +kernel
theorem dX6_comes_89 : decode cX6_comes 89 = .ok (.aload_n 0, 1) := by decide +kernel
theorem dX6_comes_90 : decode cX6_comes 90 = .ok (.getfield 85, 3) := by decide +kernel
theorem dX6_comes_93 : decode cX6_comes 93 = .ok (.iconst 1, 1) := by decide +kernel
theorem dX6_comes_94 : decode cX6_comes 94 = .ok (.if_icmp .ne 14, 3) := by decide +kernel
theorem dX6_comes_97 : decode cX6_comes 97 = .ok (.aload_n 0, 1) := by decide +kernel
theorem dX6_comes_98 : decode cX6_comes 98 = .ok (.iload_n 1, 1) := by decide +kernel
theorem dX6_comes_99 : decode cX6_comes 99 = .ok (.iload_n 2, 1) := by decide +kernel
theorem dX6_comes_100 : decode cX6_comes 100 = .ok (.iload 5, 2) := by decide +kernel
theorem dX6_comes_102 : decode cX6_comes 102 = .ok (.invokevirtual 111, 3) := by decide +kernel
theorem dX6_comes_105 : decode cX6_comes 105 = .ok (.goto 69, 3) := by decide +kernel
theorem dX6_comes_108 : decode cX6_comes 108 = .ok (.aload_n 0, 1) := by decide +kernel
theorem dX6_comes_109 : decode cX6_comes 109 = .ok (.getfield 85, 3) := by decide +kernel
theorem dX6_comes_112 : decode cX6_comes 112 = .ok (.iconst 2, 1) := by decide +kernel
theorem dX6_comes_113 : decode cX6_comes 113 = .ok (.if_icmp .ne 14, 3) := by decide +kernel
theorem dX6_comes_116 : decode cX6_comes 116 = .ok (.aload_n 0, 1) := by decide +kernel
theorem dX6_comes_117 : decode cX6_comes 117 = .ok (.iload_n 1, 1) := by decide +kernel
theorem dX6_comes_118 : decode cX6_comes 118 = .ok (.iload_n 2, 1) := by decide +kernel
theorem dX6_comes_119 : decode cX6_comes 119 = .ok (.iload 5, 2) := by decide +kernel
theorem dX6_comes_121 : decode cX6_comes 121 = .ok (.invokevirtual 115, 3) := by decide +kernel
theorem dX6_comes_124 : decode cX6_comes 124 = .ok (.goto 50, 3) := by decide +kernel
theorem dX6_comes_127 : decode cX6_comes 127 = .ok (.aload_n 0, 1) := by decide +kernel
theorem dX6_comes_128 : decode cX6_comes 128 = .ok (.getfield 85, 3) := by decide +kernel
theorem dX6_comes_131 : decode cX6_comes 131 = .ok (.iconst 3, 1) := by decide +kernel
theorem dX6_comes_132 : decode cX6_comes 132 = .ok (.if_icmp .ne 14, 3) := by decide +kernel
theorem dX6_comes_135 : decode cX6_comes 135 = .ok (.aload_n 0, 1) := by decide +kernel
theorem dX6_comes_136 : decode cX6_comes 136 = .ok (.iload_n 1, 1) := by decide +kernel
theorem dX6_comes_137 : decode cX6_comes 137 = .ok (.iload_n 2, 1) := by decide +kernel
theorem dX6_comes_138 : decode cX6_comes 138 = .ok (.iload 5, 2) := by decide +kernel
theorem dX6_comes_140 : decode cX6_comes 140 = .ok (.invokevirtual 118, 3) := by decide +kernel
theorem dX6_comes_143 : decode cX6_comes 143 = .ok (.goto 31, 3) := by decide +kernel
theorem dX6_comes_146 : decode cX6_comes 146 = .ok (.aload_n 0, 1) := by decide +kernel
theorem dX6_comes_147 : decode cX6_comes 147 = .ok (.getfield 85, 3) := by decide +kernel
theorem dX6_comes_150 : decode cX6_comes 150 = .ok (.bipush 6, 2) := by decide +kernel
theorem dX6_comes_152 : decode cX6_comes 152 = .ok (.if_icmp .ne 14, 3) := by decide +kernel
theorem dX6_comes_155 : decode cX6_comes 155 = .ok (.aload_n 0, 1) := by decide +kernel
theorem dX6_comes_156 : decode cX6_comes 156 = .ok (.iload_n 1, 1) := by decide +kernel
theorem dX6_comes_157 : decode cX6_comes 157 = .ok (.iload_n 2, 1) := by decide +kernel
theorem dX6_comes_158 : decode cX6_comes 158 = .ok (.iload 5, 2) := by decide +kernel
theorem dX6_comes_160 : decode cX6_comes 160 = .ok (.invokevirtual 121, 3) := by decide +kernel
theorem dX6_comes_163 : decode cX6_comes 163 = .ok (.goto 11, 3) := by decide +kernel
theorem dX6_comes_166 : decode cX6_comes 166 = .ok (.aload_n 0, 1) := by decide +kernel
theorem dX6_comes_167 : decode cX6_comes 167 = .ok (.iload_n 1, 1) := by decide +kernel
theorem dX6_comes_168 : decode cX6_comes 168 = .ok (.iload_n 2, 1) := by decide +kernel
theorem dX6_comes_169 : decode cX6_comes 169 = .ok (.iload 5, 2) := by decide +kernel
theorem dX6_comes_171 : decode cX6_comes 171 = .ok (.invokevirtual 124, 3) := by decide +kernel
theorem dX6_comes_174 : decode cX6_comes 174 = .ok (.return_, 1) := by decide +kernel
theorem dX6_delivers_0 : decode cX6_delivers 0 = .ok (.aload_n 0, 1) := by decide +kernel
theorem dX6_delivers_1 : decode cX6_delivers 1 = .ok (.iload_n 1, 1) := by decide +kernel
theorem dX6_delivers_2 : decode cX6_delivers 2 = .ok (.iload_n 2, 1) := by decide +kernel
theorem dX6_delivers_3 : decode cX6_delivers 3 = .ok (.iconst 0, 1) := by decide +kernel
theorem dX6_delivers_4 : decode cX6_delivers 4 = .ok (.invokevirtual 127, 3) := by decide +kernel
theorem dX6_delivers_7 : decode cX6_delivers 7 = .ok (.istore_n 3, 1) := by decide +kernel
theorem dX6_delivers_8 : decode cX6_delivers 8 = .ok (.aload_n 0, 1) := by decide +kernel
theorem dX6_delivers_9 : decode cX6_delivers 9 = .ok (.aload_n 0, 1) := by decide +kernel
theorem dX6_delivers_10 : decode cX6_delivers 10 = .ok (.getfield 16, 3) := by decide +kernel
theorem dX6_delivers_13 : decode cX6_delivers 13 = .ok (.iload_n 1, 1) := by decide +kernel
theorem dX6_delivers_14 : decode cX6_delivers 14 = .ok (.iload_n 3, 1) := by decide +kernel
theorem dX6_delivers_15 : decode cX6_delivers 15 = .ok (.iconst 1, 1) := by decide +kernel
theorem dX6_delivers_16 : decode cX6_delivers 16 = .ok (.invokestatic 53, 3) := by decide +kernel
theorem dX6_delivers_19 : decode cX6_delivers 19 = .ok (.iaload, 1) := by decide +kernel
theorem dX6_delivers_20 : decode cX6_delivers 20 = .ok (.putfield 85, 3) := by decide +kernel
theorem dX6_delivers_23 : decode cX6_delivers 23 = .ok (.aload_n 0, 1) := by decide +kernel
theorem dX6_delivers_24 : decode cX6_delivers 24 = .ok (.aload_n 0, 1) := by decide +kernel
theorem dX6_delivers_25 : decode cX6_delivers 25 = .ok (.getfield 16, 3) := by decide +kernel
theorem dX6_delivers_28 : decode cX6_delivers 28 = .ok (.iload_n 1, 1) := by decide +kernel
theorem dX6_delivers_29 : decode cX6_delivers 29 = .ok (.iload_n 3, 1) := by decide +kernel
theorem dX6_delivers_30 : decode cX6_delivers 30 = .ok (.iconst 2, 1) := by decide +kernel
theorem dX6_delivers_31 : decode cX6_delivers 31 = .ok (.invokestatic 53, 3) := by decide +kernel
theorem dX6_delivers_34 : decode cX6_delivers 34 = .ok (.iaload, 1) := by decide +kernel
theorem dX6_delivers_35 : decode cX6_delivers 35 = .ok (.putfield 88, 3) := by decide +kernel
theorem dX6_delivers_38 : decode cX6_delivers 38 = .ok (.aload_n 0, 1) := by decide +kernel
theorem dX6_delivers_39 : decode cX6_delivers 39 = .ok (.aload_n 0, 1) := by decide +kernel
theorem dX6_delivers_40 : decode cX6_delivers 40 = .ok (.getfield 16, 3) := by decide +kernel
theorem dX6_delivers_43 : decode cX6_delivers 43 = .ok (.iload_n 1, 1) := by decide +kernel
theorem dX6_delivers_44 : decode cX6_delivers 44 = .ok (.iload_n 3, 1) := by decide +kernel
theorem dX6_delivers_45 : decode cX6_delivers 45 = .ok (.iconst 3, 1) := by decide +kernel
theorem dX6_delivers_46 : decode cX6_delivers 46 = .ok (.invokestatic 53, 3) := by decide +kernel
theorem dX6_delivers_49 : decode cX6_delivers 49 = .ok (.iaload, 1) := by decide +kernel
theorem dX6_delivers_50 : decode cX6_delivers 50 = .ok (.putfield 91, 3) := by decide +kernel
theorem dX6_delivers_53 : decode cX6_delivers 53 = .ok (.aload_n 0, 1) := by decide +kernel
theorem dX6_delivers_54 : decode cX6_delivers 54 = .ok (.aload_n 0, 1) := by decide +kernel
theorem dX6_delivers_55 : decode cX6_delivers 55 = .ok (.getfield 16, 3) := by decide +kernel
theorem dX6_delivers_58 : decode cX6_delivers 58 = .ok (.iload_n 1, 1) := by decide +kernel
theorem dX6_delivers_59 : decode cX6_delivers 59 = .ok (.iload_n 3, 1) := by decide +kernel
theorem dX6_delivers_60 : decode cX6_delivers 60 = .ok (.iconst 4, 1) := by decide +kernel
theorem dX6_delivers_61 : decode cX6_delivers 61 = .ok (.invokestatic 53, 3) := by decide +kernel
theorem dX6_delivers_64 : decode cX6_delivers 64 = .ok (.iaload, 1) := by decide +kernel
theorem dX6_delivers_65 : decode cX6_delivers 65 = .ok (.putfield 94, 3) := by decide +kernel
theorem dX6_delivers_68 : decode cX6_delivers 68 = .ok (.aload_n 0, 1) := by decide +kernel
theorem dX6_delivers_69 : decode cX6_delivers 69 = .ok (.aload_n 0, 1) := by decide +kernel
theorem dX6_delivers_70 : decode cX6_delivers 70 = .ok (.getfield 16, 3) := by decide +kernel
theorem dX6_delivers_73 : decode cX6_delivers 73 = .ok (.iload_n 1, 1) := by decide +kernel
theorem dX6_delivers_74 : decode cX6_delivers 74 = .ok (.iload_n 3, 1) := by decide +kernel
theorem dX6_delivers_75 : decode cX6_delivers 75 = .ok (.iconst 5, 1) := by decide +kernel
theorem dX6_delivers_76 : decode cX6_delivers 76 = .ok (.invokestatic 53, 3) := by decide +kernel
theorem dX6_delivers_79 : decode cX6_delivers 79 = .ok (.iaload, 1) := by decide +kernel
theorem dX6_delivers_80 : decode cX6_delivers 80 = .ok (.putfield 97, 3) := by decide +kernel
theorem dX6_delivers_83 : decode cX6_delivers 83 = .ok (.aload_n 0, 1) := by decide +kernel
theorem dX6_delivers_84 : decode cX6_delivers 84 = .ok (.getfield 16, 3) := by decide +kernel
theorem dX6_delivers_87 : decode cX6_delivers 87 = .ok (.sipush 168, 3) := by decide +kernel
theorem dX6_delivers_90 : decode cX6_delivers 90 = .ok (.iload_n 1, 1) := by decide +kernel
theorem dX6_delivers_91 : decode cX6_delivers 91 = .ok (.imul, 1) := by decide +kernel
theorem dX6_delivers_92 : decode cX6_delivers 92 = .ok (.iconst 2, 1) := by decide +kernel
theorem dX6_delivers_93 : decode cX6_delivers 93 = .ok (.iadd, 1) := by decide +kernel
theorem dX6_delivers_94 : decode cX6_delivers 94 = .ok (.dup2, 1) := by decide +kernel
theorem dX6_delivers_95 : decode cX6_delivers 95 = .ok (.iaload, 1) := by decide +kernel
theorem dX6_delivers_96 : decode cX6_delivers 96 = .ok (.iconst 1, 1) := by decide +kernel
theorem dX6_delivers_97 : decode cX6_delivers 97 = .ok (.isub, 1) := by decide +kernel
theorem dX6_delivers_98 : decode cX6_delivers 98 = .ok (.iastore, 1) := by decide +kernel
theorem dX6_delivers_99 : decode cX6_delivers 99 = .ok (.bipush 6, 2) := by decide +kernel
theorem dX6_delivers_101 : decode cX6_delivers 101 = .ok (.iload_n 3, 1) := by decide +kernel
theorem dX6_delivers_102 : decode cX6_delivers 102 = .ok (.imul, 1) := by decide +kernel
theorem dX6_delivers_103 : decode cX6_delivers 103 = .ok (.istore 4, 2) := by decide +kernel
theorem dX6_delivers_105 : decode cX6_delivers 105 = .ok (.iload 4, 2) := by decide +kernel
theorem dX6_delivers_107 : decode cX6_delivers 107 = .ok (.bipush 6, 2) := by decide +kernel
theorem dX6_delivers_109 : decode cX6_delivers 109 = .ok (.aload_n 0, 1) := by decide +kernel
theorem dX6_delivers_110 : decode cX6_delivers 110 = .ok (.getfield 16, 3) := by decide +kernel
theorem dX6_delivers_113 : decode cX6_delivers 113 = .ok (.sipush 168, 3) := by decide +kernel
theorem dX6_delivers_116 : decode cX6_delivers 116 = .ok (.iload_n 1, 1) := by decide +kernel
theorem dX6_delivers_117 : decode cX6_delivers 117 = .ok (.imul, 1) := by decide +kernel
theorem dX6_delivers_118 : decode cX6_delivers 118 = .ok (.iconst 2, 1) := by decide +kernel
theorem dX6_delivers_119 : decode cX6_delivers 119 = .ok (.iadd, 1) := by decide +kernel
theorem dX6_delivers_120 : decode cX6_delivers 120 = .ok (.iaload, 1) := by decide +kernel
theorem dX6_delivers_121 : decode cX6_delivers 121 = .ok (.imul, 1) := by decide +kernel
theorem dX6_delivers_122 : decode cX6_delivers 122 = .ok (.if_icmp .ge 44, 3) := by decide +kernel
theorem dX6_delivers_125 : decode cX6_delivers 125 = .ok (.aload_n 0, 1) := by decide +kernel
theorem dX6_delivers_126 : decode cX6_delivers 126 = .ok (.getfield 16, 3) := by decide +kernel
theorem dX6_delivers_129 : decode cX6_delivers 129 = .ok (.sipush 168, 3) := by decide +kernel
theorem dX6_delivers_132 : decode cX6_delivers 132 = .ok (.iload_n 1, 1) := by decide +kernel
theorem dX6_delivers_133 : decode cX6_delivers 133 = .ok (.imul, 1) := by decide +kernel
theorem dX6_delivers_134 : decode cX6_delivers 134 = .ok (.bipush 72, 2) := by decide +kernel
theorem dX6_delivers_136 : decode cX6_delivers 136 = .ok (.iadd, 1) := by decide +kernel
theorem dX6_delivers_137 : decode cX6_delivers 137 = .ok (.iload 4, 2) := by decide +kernel
theorem dX6_delivers_139 : decode cX6_delivers 139 = .ok (.iadd, 1) := by decide +kernel
theorem dX6_delivers_140 : decode cX6_delivers 140 = .ok (.aload_n 0, 1) := by decide +kernel
theorem dX6_delivers_141 : decode cX6_delivers 141 = .ok (.getfield 16, 3) := by decide +kernel
theorem dX6_delivers_144 : decode cX6_delivers 144 = .ok (.sipush 168, 3) := by decide +kernel
theorem dX6_delivers_147 : decode cX6_delivers 147 = .ok (.iload_n 1, 1) := by decide +kernel
theorem dX6_delivers_148 : decode cX6_delivers 148 = .ok (.imul, 1) := by decide +kernel
theorem dX6_delivers_149 : decode cX6_delivers 149 = .ok (.bipush 72, 2) := by decide +kernel
theorem dX6_delivers_151 : decode cX6_delivers 151 = .ok (.iadd, 1) := by decide +kernel
theorem dX6_delivers_152 : decode cX6_delivers 152 = .ok (.iload 4, 2) := by decide +kernel
theorem dX6_delivers_154 : decode cX6_delivers 154 = .ok (.iadd, 1) := by decide +kernel
theorem dX6_delivers_155 : decode cX6_delivers 155 = .ok (.bipush 6, 2) := by decide +kernel
theorem dX6_delivers_157 : decode cX6_delivers 157 = .ok (.iadd, 1) := by decide +kernel
theorem dX6_delivers_158 : decode cX6_delivers 158 = .ok (.iaload, 1) := by decide +kernel
theorem dX6_delivers_159 : decode cX6_delivers 159 = .ok (.iastore, 1) := by decide +kernel
theorem dX6_delivers_160 : decode cX6_delivers 160 = .ok (.iinc 4 1, 3) := by decide +kernel
theorem dX6_delivers_163 : decode cX6_delivers 163 = .ok (.goto (-58), 3) := by decide +kernel
theorem dX6_delivers_166 : decode cX6_delivers 166 = .ok (.iload_n 2, 1) := by decide +kernel
theorem dX6_delivers_167 : decode cX6_delivers 167 = .ok (.iconst 2, 1) := by decide +kernel
theorem dX6_delivers_168 : decode cX6_delivers 168 = .ok (.irem, 1) := by decide +kernel
theorem dX6_delivers_169 : decode cX6_delivers 169 = .ok (.istore 4, 2) := by decide +kernel
theorem dX6_delivers_171 : decode cX6_delivers 171 = .ok (.iload 4, 2) := by decide +kernel
theorem dX6_delivers_173 : decode cX6_delivers 173 = .ok (.ifCond .ne 16, 3) := by decide +kernel
theorem dX6_delivers_176 : decode cX6_delivers 176 = .ok (.iload_n 2, 1) := by decide +kernel
theorem dX6_delivers_177 : decode cX6_delivers 177 = .ok (.iconst 2, 1) := by decide +kernel
theorem dX6_delivers_178 : decode cX6_delivers 178 = .ok (.idiv, 1) := by decide +kernel
theorem dX6_delivers_179 : decode cX6_delivers 179 = .ok (.iconst 1, 1) := by decide +kernel
theorem dX6_delivers_180 : decode cX6_delivers 180 = .ok (.iadd, 1) := by decide +kernel
theorem dX6_delivers_181 : decode cX6_delivers 181 = .ok (.aload_n 0, 1) := by decide +kernel
theorem dX6_delivers_182 : decode cX6_delivers 182 = .ok (.getfield 41, 3) := by decide +kernel
theorem dX6_delivers_185 : decode cX6_delivers 185 = .ok (.irem, 1) := by decide +kernel
theorem dX6_delivers_186 : decode cX6_delivers 186 = .ok (.goto 18, 3) := by decide +kernel
theorem dX6_delivers_189 : decode cX6_delivers 189 = .ok (.iload_n 2, 1) := by decide +kernel
theorem dX6_delivers_190 : decode cX6_delivers 190 = .ok (.iconst 2, 1) := by decide +kernel
theorem dX6_delivers_191 : decode cX6_delivers 191 = .ok (.idiv, 1) := by decide +kernel
theorem dX6_delivers_192 : decode cX6_delivers 192 = .ok (.aload_n 0, 1) := by decide +kernel
theorem dX6_delivers_193 : decode cX6_delivers 193 = .ok (.getfield 41, 3) := by decide +kernel
theorem dX6_delivers_196 : decode cX6_delivers 196 = .ok (.iadd, 1) := by decide +kernel
theorem dX6_delivers_197 : decode cX6_delivers 197 = .ok (.iconst 1, 1) := by decide +kernel
theorem dX6_delivers_198 : decode cX6_delivers 198 = .ok (.isub, 1) := by decide +kernel
theorem dX6_delivers_199 : decode cX6_delivers 199 = .ok (.aload_n 0, 1) := by decide +kernel
theorem dX6_delivers_200 : decode cX6_delivers 200 = .ok (.getfield 41, 3) := by decide +kernel
theorem dX6_delivers_203 : decode cX6_delivers 203 = .ok (.irem, 1) := by decide +kernel
theorem dX6_delivers_204 : decode cX6_delivers 204 = .ok (.istore 5, 2) := by decide +kernel
theorem dX6_delivers_206 : decode cX6_delivers 206 = .ok (.aload_n 0, 1) := by decide +kernel
theorem dX6_delivers_207 : decode cX6_delivers 207 = .ok (.iconst 2, 1) := by decide +kernel
theorem dX6_delivers_208 : decode cX6_delivers 208 = .ok (.iload 5, 2) := by decide +kernel
theorem dX6_delivers_210 : decode cX6_delivers 210 = .ok (.imul, 1) := by decide +kernel
theorem dX6_delivers_211 : decode cX6_delivers 211 = .ok (.iload 4, 2) := by decide +kernel
theorem dX6_delivers_213 : decode cX6_delivers 213 = .ok (.iadd, 1) := by decide +kernel
theorem dX6_delivers_214 : decode cX6_delivers 214 = .ok (.putfield 82, 3) := by decide +kernel
theorem dX6_delivers_217 : decode cX6_delivers 217 = .ok (.aload_n 0, 1) := by decide +kernel
theorem dX6_delivers_218 : decode cX6_delivers 218 = .ok (.iconst 2, 1) := by decide +kernel
theorem dX6_delivers_219 : decode cX6_delivers 219 = .ok (.iload 5, 2) := by decide +kernel
theorem dX6_delivers_221 : decode cX6_delivers 221 = .ok (.imul, 1) := by decide +kernel
theorem dX6_delivers_222 : decode cX6_delivers 222 = .ok (.iconst 1, 1) := by decide +kernel
theorem dX6_delivers_223 : decode cX6_delivers 223 = .ok (.iadd, 1) := by decide +kernel
theorem dX6_delivers_224 : decode cX6_delivers 224 = .ok (.iload 4, 2) := by decide +kernel
theorem dX6_delivers_226 : decode cX6_delivers 226 = .ok (.isub, 1) := by decide +kernel
theorem dX6_delivers_227 : decode cX6_delivers 227 = .ok (.putfield 108, 3) := by decide +kernel
theorem dX6_delivers_230 : decode cX6_delivers 230 = .ok (.aload_n 0, 1) := by decide +kernel
theorem dX6_delivers_231 : decode cX6_delivers 231 = .ok (.getfield 85, 3) := by decide +kernel
theorem dX6_delivers_234 : decode cX6_delivers 234 = .ok (.istore 6, 2) := by decide +kernel
theorem dX6_delivers_236 : decode cX6_delivers 236 = .ok (.aload_n 0, 1) := by decide +kernel
theorem dX6_delivers_237 : decode cX6_delivers 237 = .ok (.iload_n 1, 1) := by decide +kernel
theorem dX6_delivers_238 : decode cX6_delivers 238 = .ok (.iload 5, 2) := by decide +kernel
theorem dX6_delivers_240 : decode cX6_delivers 240 = .ok (.iload 4, 2) := by decide +kernel
theorem dX6_delivers_242 : decode cX6_delivers 242 = .ok (.invokevirtual 130, 3) := by decide +kernel
theorem dX6_delivers_245 : decode cX6_delivers 245 = .ok (.iload 6, 2) := by decide +kernel
theorem dX6_delivers_247 : decode cX6_delivers 247 = .ok (.ireturn, 1) := by decide +kernel
theorem dX6_manyLinks_0 : decode cX6_manyLinks 0 = .ok (.iconst 0, 1) := by decide +kernel
theorem dX6_manyLinks_1 : decode cX6_manyLinks 1 = .ok (.istore_n 2, 1) := by decide +kernel
theorem dX6_manyLinks_2 : decode cX6_manyLinks 2 = .ok (.iconst 0, 1) := by decide +kernel
theorem dX6_manyLinks_3 : decode cX6_manyLinks 3 = .ok (.istore_n 3, 1) := by decide +kernel
theorem dX6_manyLinks_4 : decode cX6_manyLinks 4 = .ok (.iload_n 3, 1) := by decide +kernel
theorem dX6_manyLinks_5 : decode cX6_manyLinks 5 = .ok (.iconst 2, 1) := by decide +kernel
theorem dX6_manyLinks_6 : decode cX6_manyLinks 6 = .ok (.aload_n 0, 1) := by decide +kernel
theorem dX6_manyLinks_7 : decode cX6_manyLinks 7 = .ok (.getfield 41, 3) := by decide +kernel
theorem dX6_manyLinks_10 : decode cX6_manyLinks 10 = .ok (.imul, 1) := by decide +kernel
theorem dX6_manyLinks_11 : decode cX6_manyLinks 11 = .ok (.if_icmp .ge 26, 3) := by decide +kernel
theorem dX6_manyLinks_14 : decode cX6_manyLinks 14 = .ok (.iload_n 2, 1) := by decide +kernel
theorem dX6_manyLinks_15 : decode cX6_manyLinks 15 = .ok (.aload_n 0, 1) := by decide +kernel
theorem dX6_manyLinks_16 : decode cX6_manyLinks 16 = .ok (.iload_n 1, 1) := by decide +kernel
theorem dX6_manyLinks_17 : decode cX6_manyLinks 17 = .ok (.iload_n 3, 1) := by decide +kernel
theorem dX6_manyLinks_18 : decode cX6_manyLinks 18 = .ok (.invokevirtual 133, 3) := by decide +kernel
theorem dX6_manyLinks_21 : decode cX6_manyLinks 21 = .ok (.ifCond .le 7, 3) := by decide +kernel
theorem dX6_manyLinks_24 : decode cX6_manyLinks 24 = .ok (.iconst 1, 1) := by decide +kernel
theorem dX6_manyLinks_25 : decode cX6_manyLinks 25 = .ok (.goto 4, 3) := by decide +kernel
theorem dX6_manyLinks_28 : decode cX6_manyLinks 28 = .ok (.iconst 0, 1) := by decide +kernel
theorem dX6_manyLinks_29 : decode cX6_manyLinks 29 = .ok (.iadd, 1) := by decide +kernel
theorem dX6_manyLinks_30 : decode cX6_manyLinks 30 = .ok (.istore_n 2, 1) := by decide +kernel
theorem dX6_manyLinks_31 : decode cX6_manyLinks 31 = .ok (.iinc 3 1, 3) := by decide +kernel
theorem dX6_manyLinks_34 : decode cX6_manyLinks 34 = .ok (.goto (-30), 3) := by decide +kernel
theorem dX6_manyLinks_37 : decode cX6_manyLinks 37 = .ok (.iload_n 2, 1) := by decide +kernel
theorem dX6_manyLinks_38 : decode cX6_manyLinks 38 = .ok (.ireturn, 1) := by decide +kernel
theorem dX6_linkBy_0 : decode cX6_linkBy 0 = .ok (.iload_n 2, 1) := by decide +kernel
theorem dX6_linkBy_1 : decode cX6_linkBy 1 = .ok (.istore_n 3, 1) := by decide +kernel
theorem dX6_linkBy_2 : decode cX6_linkBy 2 = .ok (.iconst (-1), 1) := by decide +kernel
theorem dX6_linkBy_3 : decode cX6_linkBy 3 = .ok (.istore 4, 2) := by decide +kernel
theorem dX6_linkBy_5 : decode cX6_linkBy 5 = .ok (.iconst 0, 1) := by decide +kernel
theorem dX6_linkBy_6 : decode cX6_linkBy 6 = .ok (.istore 5, 2) := by decide +kernel
theorem dX6_linkBy_8 : decode cX6_linkBy 8 = .ok (.iload 5, 2) := by decide +kernel
theorem dX6_linkBy_10 : decode cX6_linkBy 10 = .ok (.iconst 2, 1) := by decide +kernel
theorem dX6_linkBy_11 : decode cX6_linkBy 11 = .ok (.aload_n 0, 1) := by decide +kernel
theorem dX6_linkBy_12 : decode cX6_linkBy 12 = .ok (.getfield 41, 3) := by decide +kernel
theorem dX6_linkBy_15 : decode cX6_linkBy 15 = .ok (.imul, 1) := by decide +kernel
theorem dX6_linkBy_16 : decode cX6_linkBy 16 = .ok (.if_icmp .ge 57, 3) := by decide +kernel
theorem dX6_linkBy_19 : decode cX6_linkBy 19 = .ok (.aload_n 0, 1) := by decide +kernel
theorem dX6_linkBy_20 : decode cX6_linkBy 20 = .ok (.iload_n 1, 1) := by decide +kernel
theorem dX6_linkBy_21 : decode cX6_linkBy 21 = .ok (.iload 5, 2) := by decide +kernel
theorem dX6_linkBy_23 : decode cX6_linkBy 23 = .ok (.invokevirtual 133, 3) := by decide +kernel
theorem dX6_linkBy_26 : decode cX6_linkBy 26 = .ok (.ifCond .le 7, 3) := by decide +kernel
theorem dX6_linkBy_29 : decode cX6_linkBy 29 = .ok (.iconst 1, 1) := by decide +kernel
theorem dX6_linkBy_30 : decode cX6_linkBy 30 = .ok (.goto 4, 3) := by decide +kernel
theorem dX6_linkBy_33 : decode cX6_linkBy 33 = .ok (.iconst 0, 1) := by decide +kernel
theorem dX6_linkBy_34 : decode cX6_linkBy 34 = .ok (.istore 6, 2) := by decide +kernel
theorem dX6_linkBy_36 : decode cX6_linkBy 36 = .ok (.iload 6, 2) := by decide +kernel
theorem dX6_linkBy_38 : decode cX6_linkBy 38 = .ok (.ifCond .eq 12, 3) := by decide +kernel
theorem dX6_linkBy_41 : decode cX6_linkBy 41 = .ok (.iload_n 3, 1) := by decide +kernel
theorem dX6_linkBy_42 : decode cX6_linkBy 42 = .ok (.ifCond .ne 8, 3) := by decide +kernel
theorem dX6_linkBy_45 : decode cX6_linkBy 45 = .ok (.iload 5, 2) := by decide +kernel
theorem dX6_linkBy_47 : decode cX6_linkBy 47 = .ok (.goto 5, 3) := by decide +kernel
theorem dX6_linkBy_50 : decode cX6_linkBy 50 = .ok (.iload 4, 2) := by decide +kernel
theorem dX6_linkBy_52 : decode cX6_linkBy 52 = .ok (.istore 4, 2) := by decide +kernel
theorem dX6_linkBy_54 : decode cX6_linkBy 54 = .ok (.iload_n 3, 1) := by decide +kernel
theorem dX6_linkBy_55 : decode cX6_linkBy 55 = .ok (.iload 6, 2) := by decide +kernel
theorem dX6_linkBy_57 : decode cX6_linkBy 57 = .ok (.ifCond .eq 7, 3) := by decide +kernel
theorem dX6_linkBy_60 : decode cX6_linkBy 60 = .ok (.iconst 1, 1) := by decide +kernel
theorem dX6_linkBy_61 : decode cX6_linkBy 61 = .ok (.goto 4, 3) := by decide +kernel
theorem dX6_linkBy_64 : decode cX6_linkBy 64 = .ok (.iconst 0, 1) := by decide +kernel
theorem dX6_linkBy_65 : decode cX6_linkBy 65 = .ok (.isub, 1) := by decide +kernel
theorem dX6_linkBy_66 : decode cX6_linkBy 66 = .ok (.istore_n 3, 1) := by decide +kernel
theorem dX6_linkBy_67 : decode cX6_linkBy 67 = .ok (.iinc 5 1, 3) := by decide +kernel
theorem dX6_linkBy_70 : decode cX6_linkBy 70 = .ok (.goto (-62), 3) := by decide +kernel
theorem dX6_linkBy_73 : decode cX6_linkBy 73 = .ok (.iload 4, 2) := by decide +kernel
theorem dX6_linkBy_75 : decode cX6_linkBy 75 = .ok (.ireturn, 1) := by decide +kernel
theorem dX6_nextLink_0 : decode cX6_nextLink 0 = .ok (.aload_n 0, 1) := by decide +kernel
theorem dX6_nextLink_1 : decode cX6_nextLink 1 = .ok (.iload_n 1, 1) := by decide +kernel
theorem dX6_nextLink_2 : decode cX6_nextLink 2 = .ok (.invokevirtual 136, 3) := by decide +kernel
theorem dX6_nextLink_5 : decode cX6_nextLink 5 = .ok (.istore 4, 2) := by decide +kernel
theorem dX6_nextLink_7 : decode cX6_nextLink 7 = .ok (.iload_n 2, 1) := by decide +kernel
theorem dX6_nextLink_8 : decode cX6_nextLink 8 = .ok (.ifCond .ne 10, 3) := by decide +kernel
theorem dX6_nextLink_11 : decode cX6_nextLink 11 = .ok (.aload_n 0, 1) := by decide +kernel
theorem dX6_nextLink_12 : decode cX6_nextLink 12 = .ok (.iload_n 1, 1) := by decide +kernel
theorem dX6_nextLink_13 : decode cX6_nextLink 13 = .ok (.iconst 0, 1) := by decide +kernel
theorem dX6_nextLink_14 : decode cX6_nextLink 14 = .ok (.invokevirtual 140, 3) := by decide +kernel
theorem dX6_nextLink_17 : decode cX6_nextLink 17 = .ok (.ireturn, 1) := by decide +kernel
theorem dX6_nextLink_18 : decode cX6_nextLink 18 = .ok (.iload_n 2, 1) := by decide +kernel
theorem dX6_nextLink_19 : decode cX6_nextLink 19 = .ok (.iconst 1, 1) := by decide +kernel
theorem dX6_nextLink_20 : decode cX6_nextLink 20 = .ok (.if_icmp .ne 13, 3) := by decide +kernel
theorem dX6_nextLink_23 : decode cX6_nextLink 23 = .ok (.aload_n 0, 1) := by decide +kernel
theorem dX6_nextLink_24 : decode cX6_nextLink 24 = .ok (.iload_n 1, 1) := by decide +kernel
theorem dX6_nextLink_25 : decode cX6_nextLink 25 = .ok (.iload 4, 2) := by decide +kernel
theorem dX6_nextLink_27 : decode cX6_nextLink 27 = .ok (.iconst 1, 1) := by decide +kernel
theorem dX6_nextLink_28 : decode cX6_nextLink 28 = .ok (.isub, 1) := by decide +kernel
theorem dX6_nextLink_29 : decode cX6_nextLink 29 = .ok (.invokevirtual 140, 3) := by decide +kernel
theorem dX6_nextLink_32 : decode cX6_nextLink 32 = .ok (.ireturn, 1) := by decide +kernel
theorem dX6_nextLink_33 : decode cX6_nextLink 33 = .ok (.iload_n 2, 1) := by decide +kernel
theorem dX6_nextLink_34 : decode cX6_nextLink 34 = .ok (.iconst 3, 1) := by decide +kernel
theorem dX6_nextLink_35 : decode cX6_nextLink 35 = .ok (.if_icmp .ne 34, 3) := by decide +kernel
theorem dX6_nextLink_38 : decode cX6_nextLink 38 = .ok (.aload_n 0, 1) := by decide +kernel
theorem dX6_nextLink_39 : decode cX6_nextLink 39 = .ok (.aload_n 0, 1) := by decide +kernel
theorem dX6_nextLink_40 : decode cX6_nextLink 40 = .ok (.getfield 143, 3) := by decide +kernel
theorem dX6_nextLink_43 : decode cX6_nextLink 43 = .ok (.ldc2_w 67, 3) := by decide +kernel
theorem dX6_nextLink_46 : decode cX6_nextLink 46 = .ok (.lmul, 1) := by decide +kernel
theorem dX6_nextLink_47 : decode cX6_nextLink 47 = .ok (.ldc2_w 69, 3) := by decide +kernel
theorem dX6_nextLink_50 : decode cX6_nextLink 50 = .ok (.lrem, 1) := by decide +kernel
theorem dX6_nextLink_51 : decode cX6_nextLink 51 = .ok (.putfield 143, 3) := by decide +kernel
theorem dX6_nextLink_54 : decode cX6_nextLink 54 = .ok (.aload_n 0, 1) := by decide +kernel
theorem dX6_nextLink_55 : decode cX6_nextLink 55 = .ok (.iload_n 1, 1) := by decide +kernel
theorem dX6_nextLink_56 : decode cX6_nextLink 56 = .ok (.aload_n 0, 1) := by decide +kernel
theorem dX6_nextLink_57 : decode cX6_nextLink 57 = .ok (.getfield 143, 3) := by decide +kernel
theorem dX6_nextLink_60 : decode cX6_nextLink 60 = .ok (.iload 4, 2) := by decide +kernel
theorem dX6_nextLink_62 : decode cX6_nextLink 62 = .ok (.i2l, 1) := by decide +kernel
theorem dX6_nextLink_63 : decode cX6_nextLink 63 = .ok (.lrem, 1) := by decide +kernel
theorem dX6_nextLink_64 : decode cX6_nextLink 64 = .ok (.l2i, 1) := by decide +kernel
theorem dX6_nextLink_65 : decode cX6_nextLink 65 = .ok (.invokevirtual 140, 3) := by decide +kernel
theorem dX6_nextLink_68 : decode cX6_nextLink 68 = .ok (.ireturn, 1) := by decide +kernel
theorem dX6_nextLink_69 : decode cX6_nextLink 69 = .ok (.iload_n 3, 1) := by decide +kernel
theorem dX6_nextLink_70 : decode cX6_nextLink 70 = .ok (.iconst 1, 1) := by decide +kernel
theorem dX6_nextLink_71 : decode cX6_nextLink 71 = .ok (.iadd, 1) := by decide +kernel
theorem dX6_nextLink_72 : decode cX6_nextLink 72 = .ok (.iconst 2, 1) := by decide +kernel
theorem dX6_nextLink_73 : decode cX6_nextLink 73 = .ok (.aload_n 0, 1) := by decide +kernel
theorem dX6_nextLink_74 : decode cX6_nextLink 74 = .ok (.getfield 41, 3) := by decide +kernel
theorem dX6_nextLink_77 : decode cX6_nextLink 77 = .ok (.imul, 1) := by decide +kernel
theorem dX6_nextLink_78 : decode cX6_nextLink 78 = .ok (.irem, 1) := by decide +kernel
theorem dX6_nextLink_79 : decode cX6_nextLink 79 = .ok (.istore 5, 2) := by decide +kernel
theorem dX6_nextLink_81 : decode cX6_nextLink 81 = .ok (.aload_n 0, 1) := by decide +kernel
theorem dX6_nextLink_82 : decode cX6_nextLink 82 = .ok (.iload_n 1, 1) := by decide +kernel
theorem dX6_nextLink_83 : decode cX6_nextLink 83 = .ok (.iload 5, 2) := by decide +kernel
theorem dX6_nextLink_85 : decode cX6_nextLink 85 = .ok (.invokevirtual 133, 3) := by decide +kernel
theorem dX6_nextLink_88 : decode cX6_nextLink 88 = .ok (.ifCond .ne 19, 3) := by decide +kernel
theorem dX6_nextLink_91 : decode cX6_nextLink 91 = .ok (.iload 5, 2) := by decide +kernel
theorem dX6_nextLink_93 : decode cX6_nextLink 93 = .ok (.iconst 1, 1) := by decide +kernel
theorem dX6_nextLink_94 : decode cX6_nextLink 94 = .ok (.iadd, 1) := by decide +kernel
theorem dX6_nextLink_95 : decode cX6_nextLink 95 = .ok (.iconst 2, 1) := by decide +kernel
theorem dX6_nextLink_96 : decode cX6_nextLink 96 = .ok (.aload_n 0, 1) := by decide +kernel
theorem dX6_nextLink_97 : decode cX6_nextLink 97 = .ok (.getfield 41, 3) := by decide +kernel
theorem dX6_nextLink_100 : decode cX6_nextLink 100 = .ok (.imul, 1) := by decide +kernel
theorem dX6_nextLink_101 : decode cX6_nextLink 101 = .ok (.irem, 1) := by decide +kernel
theorem dX6_nextLink_102 : decode cX6_nextLink 102 = .ok (.istore 5, 2) := by decide +kernel
theorem dX6_nextLink_104 : decode cX6_nextLink 104 = .ok (.goto (-23), 3) := by decide +kernel
theorem dX6_nextLink_107 : decode cX6_nextLink 107 = .ok (.iload 5, 2) := by decide +kernel
theorem dX6_nextLink_109 : decode cX6_nextLink 109 = .ok (.ireturn, 1) := by decide +kernel
theorem dX6_runs_0 : decode cX6_runs 0 = .ok (.aload_n 0, 1) := by decide +kernel
theorem dX6_runs_1 : decode cX6_runs 1 = .ok (.iload_n 3, 1) := by decide +kernel
theorem dX6_runs_2 : decode cX6_runs 2 = .ok (.i2l, 1) := by decide +kernel
theorem dX6_runs_3 : decode cX6_runs 3 = .ok (.putfield 143, 3) := by decide +kernel
theorem dX6_runs_6 : decode cX6_runs 6 = .ok (.iconst 0, 1) := by decide +kernel
theorem dX6_runs_7 : decode cX6_runs 7 = .ok (.istore 5, 2) := by decide +kernel
theorem dX6_runs_9 : decode cX6_runs 9 = .ok (.iconst (-1), 1) := by decide +kernel
theorem dX6_runs_10 : decode cX6_runs 10 = .ok (.istore 6, 2) := by decide +kernel
theorem dX6_runs_12 : decode cX6_runs 12 = .ok (.iload 5, 2) := by decide +kernel
theorem dX6_runs_14 : decode cX6_runs 14 = .ok (.iload 4, 2) := by decide +kernel
theorem dX6_runs_16 : decode cX6_runs 16 = .ok (.if_icmp .ge 55, 3) := by decide +kernel
theorem dX6_runs_19 : decode cX6_runs 19 = .ok (.aload_n 0, 1) := by decide +kernel
theorem dX6_runs_20 : decode cX6_runs 20 = .ok (.getfield 16, 3) := by decide +kernel
theorem dX6_runs_23 : decode cX6_runs 23 = .ok (.sipush 168, 3) := by decide +kernel
theorem dX6_runs_26 : decode cX6_runs 26 = .ok (.iload_n 1, 1) := by decide +kernel
theorem dX6_runs_27 : decode cX6_runs 27 = .ok (.imul, 1) := by decide +kernel
theorem dX6_runs_28 : decode cX6_runs 28 = .ok (.iconst 2, 1) := by decide +kernel
theorem dX6_runs_29 : decode cX6_runs 29 = .ok (.iadd, 1) := by decide +kernel
theorem dX6_runs_30 : decode cX6_runs 30 = .ok (.iaload, 1) := by decide +kernel
theorem dX6_runs_31 : decode cX6_runs 31 = .ok (.ifCond .le 40, 3) := by decide +kernel
theorem dX6_runs_34 : decode cX6_runs 34 = .ok (.aload_n 0, 1) := by decide +kernel
theorem dX6_runs_35 : decode cX6_runs 35 = .ok (.iload_n 1, 1) := by decide +kernel
theorem dX6_runs_36 : decode cX6_runs 36 = .ok (.iload_n 2, 1) := by decide +kernel
theorem dX6_runs_37 : decode cX6_runs 37 = .ok (.iload 6, 2) := by decide +kernel
theorem dX6_runs_39 : decode cX6_runs 39 = .ok (.invokevirtual 147, 3) := by decide +kernel
theorem dX6_runs_42 : decode cX6_runs 42 = .ok (.istore 6, 2) := by decide +kernel
theorem dX6_runs_44 : decode cX6_runs 44 = .ok (.aload_n 0, 1) := by decide +kernel
theorem dX6_runs_45 : decode cX6_runs 45 = .ok (.iload_n 1, 1) := by decide +kernel
theorem dX6_runs_46 : decode cX6_runs 46 = .ok (.iload 6, 2) := by decide +kernel
theorem dX6_runs_48 : decode cX6_runs 48 = .ok (.invokevirtual 150, 3) := by decide +kernel
theorem dX6_runs_51 : decode cX6_runs 51 = .ok (.istore 7, 2) := by decide +kernel
theorem dX6_runs_53 : decode cX6_runs 53 = .ok (.iload 5, 2) := by decide +kernel
theorem dX6_runs_55 : decode cX6_runs 55 = .ok (.iload 7, 2) := by decide +kernel
theorem dX6_runs_57 : decode cX6_runs 57 = .ok (.ifCond .le 7, 3) := by decide +kernel
theorem dX6_runs_60 : decode cX6_runs 60 = .ok (.iconst 1, 1) := by decide +kernel
theorem dX6_runs_61 : decode cX6_runs 61 = .ok (.goto 4, 3) := by decide +kernel
theorem dX6_runs_64 : decode cX6_runs 64 = .ok (.iconst 0, 1) := by decide +kernel
theorem dX6_runs_65 : decode cX6_runs 65 = .ok (.iadd, 1) := by decide +kernel
theorem dX6_runs_66 : decode cX6_runs 66 = .ok (.istore 5, 2) := by decide +kernel
theorem dX6_runs_68 : decode cX6_runs 68 = .ok (.goto (-56), 3) := by decide +kernel
theorem dX6_runs_71 : decode cX6_runs 71 = .ok (.iload 5, 2) := by decide +kernel
theorem dX6_runs_73 : decode cX6_runs 73 = .ok (.ireturn, 1) := by decide +kernel
theorem dX6_notes_0 : decode cX6_notes 0 = .ok (.aload_n 0, 1) := by decide +kernel
theorem dX6_notes_1 : decode cX6_notes 1 = .ok (.getfield 153, 3) := by decide +kernel
theorem dX6_notes_4 : decode cX6_notes 4 = .ok (.bipush 20, 2) := by decide +kernel
theorem dX6_notes_6 : decode cX6_notes 6 = .ok (.if_icmp .ne 35, 3) := by decide +kernel
theorem dX6_notes_9 : decode cX6_notes 9 = .ok (.iconst 1, 1) := by decide +kernel
theorem dX6_notes_10 : decode cX6_notes 10 = .ok (.istore_n 1, 1) := by decide +kernel
theorem dX6_notes_11 : decode cX6_notes 11 = .ok (.iload_n 1, 1) := by decide +kernel
theorem dX6_notes_12 : decode cX6_notes 12 = .ok (.bipush 20, 2) := by decide +kernel
theorem dX6_notes_14 : decode cX6_notes 14 = .ok (.if_icmp .ge 17, 3) := by decide +kernel
theorem dX6_notes_17 : decode cX6_notes 17 = .ok (.aload_n 0, 1) := by decide +kernel
theorem dX6_notes_18 : decode cX6_notes 18 = .ok (.iload_n 1, 1) := by decide +kernel
theorem dX6_notes_19 : decode cX6_notes 19 = .ok (.iconst 1, 1) := by decide +kernel
theorem dX6_notes_20 : decode cX6_notes 20 = .ok (.iadd, 1) := by decide +kernel
theorem dX6_notes_21 : decode cX6_notes 21 = .ok (.iload_n 1, 1) := by decide +kernel
theorem dX6_notes_22 : decode cX6_notes 22 = .ok (.invokevirtual 156, 3) := by decide +kernel
theorem dX6_notes_25 : decode cX6_notes 25 = .ok (.iinc 1 1, 3) := by decide +kernel
theorem dX6_notes_28 : decode cX6_notes 28 = .ok (.goto (-17), 3) := by decide +kernel
theorem dX6_notes_31 : decode cX6_notes 31 = .ok (.aload_n 0, 1) := by decide +kernel
theorem dX6_notes_32 : decode cX6_notes 32 = .ok (.dup, 1) := by decide +kernel
theorem dX6_notes_33 : decode cX6_notes 33 = .ok (.getfield 153, 3) := by decide +kernel
theorem dX6_notes_36 : decode cX6_notes 36 = .ok (.iconst 1, 1) := by decide +kernel
theorem dX6_notes_37 : decode cX6_notes 37 = .ok (.isub, 1) := by decide +kernel
theorem dX6_notes_38 : decode cX6_notes 38 = .ok (.putfield 153, 3) := by decide +kernel
theorem dX6_notes_41 : decode cX6_notes 41 = .ok (.aload_n 0, 1) := by decide +kernel
theorem dX6_notes_42 : decode cX6_notes 42 = .ok (.dup, 1) := by decide +kernel
theorem dX6_notes_43 : decode cX6_notes 43 = .ok (.getfield 153, 3) := by decide +kernel
theorem dX6_notes_46 : decode cX6_notes 46 = .ok (.iconst 1, 1) := by decide +kernel
theorem dX6_notes_47 : decode cX6_notes 47 = .ok (.iadd, 1) := by decide +kernel
theorem dX6_notes_48 : decode cX6_notes 48 = .ok (.putfield 153, 3) := by decide +kernel
theorem dX6_notes_51 : decode cX6_notes 51 = .ok (.aload_n 0, 1) := by decide +kernel
theorem dX6_notes_52 : decode cX6_notes 52 = .ok (.iconst 0, 1) := by decide +kernel
theorem dX6_notes_53 : decode cX6_notes 53 = .ok (.aload_n 0, 1) := by decide +kernel
theorem dX6_notes_54 : decode cX6_notes 54 = .ok (.getfield 153, 3) := by decide +kernel
theorem dX6_notes_57 : decode cX6_notes 57 = .ok (.invokevirtual 156, 3) := by decide +kernel
theorem dX6_notes_60 : decode cX6_notes 60 = .ok (.return_, 1) := by decide +kernel
theorem dX6_write_0 : decode cX6_write 0 = .ok (.iload_n 1, 1) := by decide +kernel
theorem dX6_write_1 : decode cX6_write 1 = .ok (.i2l, 1) := by decide +kernel
theorem dX6_write_2 : decode cX6_write 2 = .ok (.lconst 0, 1) := by decide +kernel
theorem dX6_write_3 : decode cX6_write 3 = .ok (.ldc2_w 159, 3) := by decide +kernel
theorem dX6_write_6 : decode cX6_write 6 = .ok (.invokestatic 45, 3) := by decide +kernel
theorem dX6_write_9 : decode cX6_write 9 = .ok (.ifCond .ne 6, 3) := by decide +kernel
theorem dX6_write_12 : decode cX6_write 12 = .ok (.ldc 161, 2) := by decide +kernel
theorem dX6_write_14 : decode cX6_write 14 = .ok (.ireturn, 1) := by decide +kernel
theorem dX6_write_15 : decode cX6_write 15 = .ok (.aload_n 0, 1) := by decide +kernel
theorem dX6_write_16 : decode cX6_write 16 = .ok (.getfield 162, 3) := by decide +kernel
theorem dX6_write_19 : decode cX6_write 19 = .ok (.bipush 40, 2) := by decide +kernel
theorem dX6_write_21 : decode cX6_write 21 = .ok (.if_icmp .ne 6, 3) := by decide +kernel
theorem dX6_write_24 : decode cX6_write 24 = .ok (.ldc 165, 2) := by decide +kernel
theorem dX6_write_26 : decode cX6_write 26 = .ok (.ireturn, 1) := by decide +kernel
theorem dX6_write_27 : decode cX6_write 27 = .ok (.aload_n 0, 1) := by decide +kernel
theorem dX6_write_28 : decode cX6_write 28 = .ok (.getfield 19, 3) := by decide +kernel
theorem dX6_write_31 : decode cX6_write 31 = .ok (.aload_n 0, 1) := by decide +kernel
theorem dX6_write_32 : decode cX6_write 32 = .ok (.getfield 162, 3) := by decide +kernel
theorem dX6_write_35 : decode cX6_write 35 = .ok (.iload_n 1, 1) := by decide +kernel
theorem dX6_write_36 : decode cX6_write 36 = .ok (.iastore, 1) := by decide +kernel
theorem dX6_write_37 : decode cX6_write 37 = .ok (.aload_n 0, 1) := by decide +kernel
theorem dX6_write_38 : decode cX6_write 38 = .ok (.dup, 1) := by decide +kernel
theorem dX6_write_39 : decode cX6_write 39 = .ok (.getfield 162, 3) := by decide +kernel
theorem dX6_write_42 : decode cX6_write 42 = .ok (.iconst 1, 1) := by decide +kernel
theorem dX6_write_43 : decode cX6_write 43 = .ok (.iadd, 1) := by decide +kernel
theorem dX6_write_44 : decode cX6_write 44 = .ok (.putfield 162, 3) := by decide +kernel
theorem dX6_write_47 : decode cX6_write 47 = .ok (.aload_n 0, 1) := by decide +kernel
theorem dX6_write_48 : decode cX6_write 48 = .ok (.getfield 162, 3) := by decide +kernel
theorem dX6_write_51 : decode cX6_write 51 = .ok (.ireturn, 1) := by decide +kernel
theorem dX6_isDigit_0 : decode cX6_isDigit 0 = .ok (.iload_n 1, 1) := by decide +kernel
theorem dX6_isDigit_1 : decode cX6_isDigit 1 = .ok (.aload_n 0, 1) := by decide +kernel
theorem dX6_isDigit_2 : decode cX6_isDigit 2 = .ok (.getfield 162, 3) := by decide +kernel
theorem dX6_isDigit_5 : decode cX6_isDigit 5 = .ok (.if_icmp .ge 26, 3) := by decide +kernel
theorem dX6_isDigit_8 : decode cX6_isDigit 8 = .ok (.aload_n 0, 1) := by decide +kernel
theorem dX6_isDigit_9 : decode cX6_isDigit 9 = .ok (.getfield 19, 3) := by decide +kernel
theorem dX6_isDigit_12 : decode cX6_isDigit 12 = .ok (.iload_n 1, 1) := by decide +kernel
theorem dX6_isDigit_13 : decode cX6_isDigit 13 = .ok (.iaload, 1) := by decide +kernel
theorem dX6_isDigit_14 : decode cX6_isDigit 14 = .ok (.i2l, 1) := by decide +kernel
theorem dX6_isDigit_15 : decode cX6_isDigit 15 = .ok (.ldc2_w 166, 3) := by decide +kernel
theorem dX6_isDigit_18 : decode cX6_isDigit 18 = .ok (.ldc2_w 168, 3) := by decide +kernel
theorem dX6_isDigit_21 : decode cX6_isDigit 21 = .ok (.invokestatic 45, 3) := by decide +kernel
theorem dX6_isDigit_24 : decode cX6_isDigit 24 = .ok (.ifCond .eq 7, 3) := by decide +kernel
theorem dX6_isDigit_27 : decode cX6_isDigit 27 = .ok (.iconst 1, 1) := by decide +kernel
theorem dX6_isDigit_28 : decode cX6_isDigit 28 = .ok (.goto 4, 3) := by decide +kernel
theorem dX6_isDigit_31 : decode cX6_isDigit 31 = .ok (.iconst 0, 1) := by decide +kernel
theorem dX6_isDigit_32 : decode cX6_isDigit 32 = .ok (.ireturn, 1) := by decide +kernel
theorem dX6_reads_0 : decode cX6_reads 0 = .ok (.aload_n 0, 1) := by decide +kernel
theorem dX6_reads_1 : decode cX6_reads 1 = .ok (.getfield 170, 3) := by decide +kernel
theorem dX6_reads_4 : decode cX6_reads 4 = .ok (.aload_n 0, 1) := by decide +kernel
theorem dX6_reads_5 : decode cX6_reads 5 = .ok (.getfield 162, 3) := by decide +kernel
theorem dX6_reads_8 : decode cX6_reads 8 = .ok (.if_icmp .ge 30, 3) := by decide +kernel
theorem dX6_reads_11 : decode cX6_reads 11 = .ok (.aload_n 0, 1) := by decide +kernel
theorem dX6_reads_12 : decode cX6_reads 12 = .ok (.getfield 19, 3) := by decide +kernel
theorem dX6_reads_15 : decode cX6_reads 15 = .ok (.aload_n 0, 1) := by decide +kernel
theorem dX6_reads_16 : decode cX6_reads 16 = .ok (.getfield 170, 3) := by decide +kernel
theorem dX6_reads_19 : decode cX6_reads 19 = .ok (.iaload, 1) := by decide +kernel
theorem dX6_reads_20 : decode cX6_reads 20 = .ok (.bipush 32, 2) := by decide +kernel
theorem dX6_reads_22 : decode cX6_reads 22 = .ok (.if_icmp .ne 16, 3) := by decide +kernel
theorem dX6_reads_25 : decode cX6_reads 25 = .ok (.aload_n 0, 1) := by decide +kernel
theorem dX6_reads_26 : decode cX6_reads 26 = .ok (.dup, 1) := by decide +kernel
theorem dX6_reads_27 : decode cX6_reads 27 = .ok (.getfield 170, 3) := by decide +kernel
theorem dX6_reads_30 : decode cX6_reads 30 = .ok (.iconst 1, 1) := by decide +kernel
theorem dX6_reads_31 : decode cX6_reads 31 = .ok (.iadd, 1) := by decide +kernel
theorem dX6_reads_32 : decode cX6_reads 32 = .ok (.putfield 170, 3) := by decide +kernel
theorem dX6_reads_35 : decode cX6_reads 35 = .ok (.goto (-35), 3) := by decide +kernel
theorem dX6_reads_38 : decode cX6_reads 38 = .ok (.aload_n 0, 1) := by decide +kernel
theorem dX6_reads_39 : decode cX6_reads 39 = .ok (.aload_n 0, 1) := by decide +kernel
theorem dX6_reads_40 : decode cX6_reads 40 = .ok (.getfield 170, 3) := by decide +kernel
theorem dX6_reads_43 : decode cX6_reads 43 = .ok (.putfield 173, 3) := by decide +kernel
theorem dX6_reads_46 : decode cX6_reads 46 = .ok (.aload_n 0, 1) := by decide +kernel
theorem dX6_reads_47 : decode cX6_reads 47 = .ok (.getfield 170, 3) := by decide +kernel
theorem dX6_reads_50 : decode cX6_reads 50 = .ok (.aload_n 0, 1) := by decide +kernel
theorem dX6_reads_51 : decode cX6_reads 51 = .ok (.getfield 162, 3) := by decide +kernel
theorem dX6_reads_54 : decode cX6_reads 54 = .ok (.if_icmp .ne 9, 3) := by decide +kernel
theorem dX6_reads_57 : decode cX6_reads 57 = .ok (.aload_n 0, 1) := by decide +kernel
theorem dX6_reads_58 : decode cX6_reads 58 = .ok (.iconst (-1), 1) := by decide +kernel
theorem dX6_reads_59 : decode cX6_reads 59 = .ok (.putfield 176, 3) := by decide +kernel
theorem dX6_reads_62 : decode cX6_reads 62 = .ok (.return_, 1) := by decide +kernel
theorem dX6_reads_63 : decode cX6_reads 63 = .ok (.aload_n 0, 1) := by decide +kernel
theorem dX6_reads_64 : decode cX6_reads 64 = .ok (.aload_n 0, 1) := by decide +kernel
