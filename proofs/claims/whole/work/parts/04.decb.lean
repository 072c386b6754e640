theorem dX2_keep_21 : decode cX2_keep 21 = .ok (.getfield 17, 3) := by decide +kernel
theorem dX2_keep_24 : decode cX2_keep 24 = .ok (.iconst 1, 1) := by decide +kernel
theorem dX2_keep_25 : decode cX2_keep 25 = .ok (.iadd, 1) := by decide +kernel
theorem dX2_keep_26 : decode cX2_keep 26 = .ok (.bipush 20, 2) := by decide +kernel
theorem dX2_keep_28 : decode cX2_keep 28 = .ok (.if_icmp .ge 12, 3) := by decide +kernel
theorem dX2_keep_31 : decode cX2_keep 31 = .ok (.aload_n 0, 1) := by decide +kernel
theorem dX2_keep_32 : decode cX2_keep 32 = .ok (.getfield 17, 3) := by decide +kernel
theorem dX2_keep_35 : decode cX2_keep 35 = .ok (.iconst 1, 1) := by decide +kernel
theorem dX2_keep_36 : decode cX2_keep 36 = .ok (.iadd, 1) := by decide +kernel
theorem dX2_keep_37 : decode cX2_keep 37 = .ok (.goto 4, 3) := by decide +kernel
theorem dX2_keep_40 : decode cX2_keep 40 = .ok (.iconst 0, 1) := by decide +kernel
theorem dX2_keep_41 : decode cX2_keep 41 = .ok (.putfield 17, 3) := by decide +kernel
theorem dX2_keep_44 : decode cX2_keep 44 = .ok (.aload_n 0, 1) := by decide +kernel
theorem dX2_keep_45 : decode cX2_keep 45 = .ok (.aload_n 0, 1) := by decide +kernel
theorem dX2_keep_46 : decode cX2_keep 46 = .ok (.getfield 21, 3) := by decide +kernel
theorem dX2_keep_49 : decode cX2_keep 49 = .ok (.bipush 20, 2) := by decide +kernel
theorem dX2_keep_51 : decode cX2_keep 51 = .ok (.if_icmp .ge 12, 3) := by decide +kernel
theorem dX2_keep_54 : decode cX2_keep 54 = .ok (.aload_n 0, 1) := by decide +kernel
theorem dX2_keep_55 : decode cX2_keep 55 = .ok (.getfield 21, 3) := by decide +kernel
theorem dX2_keep_58 : decode cX2_keep 58 = .ok (.iconst 1, 1) := by decide +kernel
theorem dX2_keep_59 : decode cX2_keep 59 = .ok (.iadd, 1) := by decide +kernel
theorem dX2_keep_60 : decode cX2_keep 60 = .ok (.goto 5, 3) := by decide +kernel
theorem dX2_keep_63 : decode cX2_keep 63 = .ok (.bipush 20, 2) := by decide +kernel
theorem dX2_keep_65 : decode cX2_keep 65 = .ok (.putfield 21, 3) := by decide +kernel
theorem dX2_keep_68 : decode cX2_keep 68 = .ok (.return_, 1) := by decide +kernel
theorem dX2_giveBack_0 : decode cX2_giveBack 0 = .ok (.aload_n 0, 1) := by decide +kernel
theorem dX2_giveBack_1 : decode cX2_giveBack 1 = .ok (.getfield 17, 3) := by decide +kernel
theorem dX2_giveBack_4 : decode cX2_giveBack 4 = .ok (.ifCond .le 12, 3) := by decide +kernel
theorem dX2_giveBack_7 : decode cX2_giveBack 7 = .ok (.aload_n 0, 1) := by decide +kernel
theorem dX2_giveBack_8 : decode cX2_giveBack 8 = .ok (.getfield 17, 3) := by decide +kernel
theorem dX2_giveBack_11 : decode cX2_giveBack 11 = .ok (.iconst 1, 1) := by decide +kernel
theorem dX2_giveBack_12 : decode cX2_giveBack 12 = .ok (.isub, 1) := by decide +kernel
theorem dX2_giveBack_13 : decode cX2_giveBack 13 = .ok (.goto 5, 3) := by decide +kernel
theorem dX2_giveBack_16 : decode cX2_giveBack 16 = .ok (.bipush 19, 2) := by decide +kernel
theorem dX2_giveBack_18 : decode cX2_giveBack 18 = .ok (.istore_n 2, 1) := by decide +kernel
theorem dX2_giveBack_19 : decode cX2_giveBack 19 = .ok (.aload_n 0, 1) := by decide +kernel
theorem dX2_giveBack_20 : decode cX2_giveBack 20 = .ok (.iload_n 2, 1) := by decide +kernel
theorem dX2_giveBack_21 : decode cX2_giveBack 21 = .ok (.invokevirtual 27, 3) := by decide +kernel
theorem dX2_giveBack_24 : decode cX2_giveBack 24 = .ok (.astore_n 3, 1) := by decide +kernel
theorem dX2_giveBack_25 : decode cX2_giveBack 25 = .ok (.aload_n 0, 1) := by decide +kernel
theorem dX2_giveBack_26 : decode cX2_giveBack 26 = .ok (.getfield 21, 3) := by decide +kernel
theorem dX2_giveBack_29 : decode cX2_giveBack 29 = .ok (.ifCond .eq 7, 3) := by decide +kernel
theorem dX2_giveBack_32 : decode cX2_giveBack 32 = .ok (.aload_n 3, 1) := by decide +kernel
theorem dX2_giveBack_33 : decode cX2_giveBack 33 = .ok (.ifnonnull 5, 3) := by decide +kernel
theorem dX2_giveBack_36 : decode cX2_giveBack 36 = .ok (.iconst 0, 1) := by decide +kernel
theorem dX2_giveBack_37 : decode cX2_giveBack 37 = .ok (.ireturn, 1) := by decide +kernel
theorem dX2_giveBack_38 : decode cX2_giveBack 38 = .ok (.aload_n 1, 1) := by decide +kernel
theorem dX2_giveBack_39 : decode cX2_giveBack 39 = .ok (.aload_n 3, 1) := by decide +kernel
theorem dX2_giveBack_40 : decode cX2_giveBack 40 = .ok (.invokevirtual 31, 3) := by decide +kernel
theorem dX2_giveBack_43 : decode cX2_giveBack 43 = .ok (.aload_n 0, 1) := by decide +kernel
theorem dX2_giveBack_44 : decode cX2_giveBack 44 = .ok (.iload_n 2, 1) := by decide +kernel
theorem dX2_giveBack_45 : decode cX2_giveBack 45 = .ok (.putfield 17, 3) := by decide +kernel
theorem dX2_giveBack_48 : decode cX2_giveBack 48 = .ok (.aload_n 0, 1) := by decide +kernel
theorem dX2_giveBack_49 : decode cX2_giveBack 49 = .ok (.dup, 1) := by decide +kernel
theorem dX2_giveBack_50 : decode cX2_giveBack 50 = .ok (.getfield 21, 3) := by decide +kernel
theorem dX2_giveBack_53 : decode cX2_giveBack 53 = .ok (.iconst 1, 1) := by decide +kernel
theorem dX2_giveBack_54 : decode cX2_giveBack 54 = .ok (.isub, 1) := by decide +kernel
theorem dX2_giveBack_55 : decode cX2_giveBack 55 = .ok (.putfield 21, 3) := by decide +kernel
theorem dX2_giveBack_58 : decode cX2_giveBack 58 = .ok (.iconst 1, 1) := by decide +kernel
theorem dX2_giveBack_59 : decode cX2_giveBack 59 = .ok (.ireturn, 1) := by decide +kernel
theorem dX2_keptAt_0 : decode cX2_keptAt 0 = .ok (.iload_n 1, 1) := by decide +kernel
theorem dX2_keptAt_1 : decode cX2_keptAt 1 = .ok (.ifCond .lt 18, 3) := by decide +kernel
theorem dX2_keptAt_4 : decode cX2_keptAt 4 = .ok (.iload_n 1, 1) := by decide +kernel
theorem dX2_keptAt_5 : decode cX2_keptAt 5 = .ok (.bipush 20, 2) := by decide +kernel
theorem dX2_keptAt_7 : decode cX2_keptAt 7 = .ok (.if_icmp .ge 12, 3) := by decide +kernel
theorem dX2_keptAt_10 : decode cX2_keptAt 10 = .ok (.aload_n 0, 1) := by decide +kernel
theorem dX2_keptAt_11 : decode cX2_keptAt 11 = .ok (.getfield 11, 3) := by decide +kernel
theorem dX2_keptAt_14 : decode cX2_keptAt 14 = .ok (.iload_n 1, 1) := by decide +kernel
theorem dX2_keptAt_15 : decode cX2_keptAt 15 = .ok (.aaload, 1) := by decide +kernel
theorem dX2_keptAt_16 : decode cX2_keptAt 16 = .ok (.goto 4, 3) := by decide +kernel
theorem dX2_keptAt_19 : decode cX2_keptAt 19 = .ok (.aconst_null, 1) := by decide +kernel
theorem dX2_keptAt_20 : decode cX2_keptAt 20 = .ok (.areturn, 1) := by decide +kernel
theorem dX3_init_0 : decode cX3_init 0 = .ok (.aload_n 0, 1) := by decide +kernel
theorem dX3_init_1 : decode cX3_init 1 = .ok (.invokespecial 3, 3) := by decide +kernel
theorem dX3_init_4 : decode cX3_init 4 = .ok (.aload_n 0, 1) := by decide +kernel
theorem dX3_init_5 : decode cX3_init 5 = .ok (.iconst 0, 1) := by decide +kernel
theorem dX3_init_6 : decode cX3_init 6 = .ok (.putfield 9, 3) := by decide +kernel
theorem dX3_init_9 : decode cX3_init 9 = .ok (.aload_n 0, 1) := by decide +kernel
theorem dX3_init_10 : decode cX3_init 10 = .ok (.bipush 6, 2) := by decide +kernel
theorem dX3_init_12 : decode cX3_init 12 = .ok (.newarray .int, 2) := by decide +kernel
theorem dX3_init_14 : decode cX3_init 14 = .ok (.putfield 15, 3) := by decide +kernel
theorem dX3_init_17 : decode cX3_init 17 = .ok (.aload_n 0, 1) := by decide +kernel
theorem dX3_init_18 : decode cX3_init 18 = .ok (.bipush 6, 2) := by decide +kernel
theorem dX3_init_20 : decode cX3_init 20 = .ok (.newarray .int, 2) := by decide +kernel
theorem dX3_init_22 : decode cX3_init 22 = .ok (.putfield 19, 3) := by decide +kernel
theorem dX3_init_25 : decode cX3_init 25 = .ok (.return_, 1) := by decide +kernel
theorem dX3_copyFrom_0 : decode cX3_copyFrom 0 = .ok (.aload_n 0, 1) := by decide +kernel
theorem dX3_copyFrom_1 : decode cX3_copyFrom 1 = .ok (.aload_n 1, 1) := by decide +kernel
theorem dX3_copyFrom_2 : decode cX3_copyFrom 2 = .ok (.getfield 9, 3) := by decide +kernel
theorem dX3_copyFrom_5 : decode cX3_copyFrom 5 = .ok (.putfield 9, 3) := by decide +kernel
theorem dX3_copyFrom_8 : decode cX3_copyFrom 8 = .ok (.aload_n 1, 1) := by decide +kernel
theorem dX3_copyFrom_9 : decode cX3_copyFrom 9 = .ok (.getfield 15, 3) := by decide +kernel
theorem dX3_copyFrom_12 : decode cX3_copyFrom 12 = .ok (.iconst 0, 1) := by decide +kernel
theorem dX3_copyFrom_13 : decode cX3_copyFrom 13 = .ok (.aload_n 0, 1) := by decide +kernel
theorem dX3_copyFrom_14 : decode cX3_copyFrom 14 = .ok (.getfield 15, 3) := by decide +kernel
theorem dX3_copyFrom_17 : decode cX3_copyFrom 17 = .ok (.iconst 0, 1) := by decide +kernel
theorem dX3_copyFrom_18 : decode cX3_copyFrom 18 = .ok (.bipush 6, 2) := by decide +kernel
theorem dX3_copyFrom_20 : decode cX3_copyFrom 20 = .ok (.invokestatic 22, 3) := by decide +kernel
theorem dX3_copyFrom_23 : decode cX3_copyFrom 23 = .ok (.aload_n 1, 1) := by decide +kernel
theorem dX3_copyFrom_24 : decode cX3_copyFrom 24 = .ok (.getfield 19, 3) := by decide +kernel
theorem dX3_copyFrom_27 : decode cX3_copyFrom 27 = .ok (.iconst 0, 1) := by decide +kernel
theorem dX3_copyFrom_28 : decode cX3_copyFrom 28 = .ok (.aload_n 0, 1) := by decide +kernel
theorem dX3_copyFrom_29 : decode cX3_copyFrom 29 = .ok (.getfield 19, 3) := by decide +kernel
theorem dX3_copyFrom_32 : decode cX3_copyFrom 32 = .ok (.iconst 0, 1) := by decide +kernel
theorem dX3_copyFrom_33 : decode cX3_copyFrom 33 = .ok (.bipush 6, 2) := by decide +kernel
theorem dX3_copyFrom_35 : decode cX3_copyFrom 35 = .ok (.invokestatic 22, 3) := by decide +kernel
theorem dX3_copyFrom_38 : decode cX3_copyFrom 38 = .ok (.return_, 1) := by decide +kernel
theorem dX3_isFull_0 : decode cX3_isFull 0 = .ok (.aload_n 0, 1) := by decide +kernel
theorem dX3_isFull_1 : decode cX3_isFull 1 = .ok (.getfield 9, 3) := by decide +kernel
theorem dX3_isFull_4 : decode cX3_isFull 4 = .ok (.bipush 6, 2) := by decide +kernel
theorem dX3_isFull_6 : decode cX3_isFull 6 = .ok (.if_icmp .lt 7, 3) := by decide +kernel
theorem dX3_isFull_9 : decode cX3_isFull 9 = .ok (.iconst 1, 1) := by decide +kernel
theorem dX3_isFull_10 : decode cX3_isFull 10 = .ok (.goto 4, 3) := by decide +kernel
theorem dX3_isFull_13 : decode cX3_isFull 13 = .ok (.iconst 0, 1) := by decide +kernel
theorem dX3_isFull_14 : decode cX3_isFull 14 = .ok (.ireturn, 1) := by decide +kernel
theorem dX3_addName_0 : decode cX3_addName 0 = .ok (.aload_n 0, 1) := by decide +kernel
theorem dX3_addName_1 : decode cX3_addName 1 = .ok (.getfield 9, 3) := by decide +kernel
theorem dX3_addName_4 : decode cX3_addName 4 = .ok (.ifCond .lt 32, 3) := by decide +kernel
theorem dX3_addName_7 : decode cX3_addName 7 = .ok (.aload_n 0, 1) := by decide +kernel
theorem dX3_addName_8 : decode cX3_addName 8 = .ok (.getfield 9, 3) := by decide +kernel
theorem dX3_addName_11 : decode cX3_addName 11 = .ok (.bipush 6, 2) := by decide +kernel
theorem dX3_addName_13 : decode cX3_addName 13 = .ok (.if_icmp .ge 23, 3) := by decide +kernel
theorem dX3_addName_16 : decode cX3_addName 16 = .ok (.aload_n 0, 1) := by decide +kernel
theorem dX3_addName_17 : decode cX3_addName 17 = .ok (.getfield 15, 3) := by decide +kernel
theorem dX3_addName_20 : decode cX3_addName 20 = .ok (.aload_n 0, 1) := by decide +kernel
theorem dX3_addName_21 : decode cX3_addName 21 = .ok (.getfield 9, 3) := by decide +kernel
theorem dX3_addName_24 : decode cX3_addName 24 = .ok (.iload_n 1, 1) := by decide +kernel
theorem dX3_addName_25 : decode cX3_addName 25 = .ok (.iastore, 1) := by decide +kernel
theorem dX3_addName_26 : decode cX3_addName 26 = .ok (.aload_n 0, 1) := by decide +kernel
theorem dX3_addName_27 : decode cX3_addName 27 = .ok (.dup, 1) := by decide +kernel
theorem dX3_addName_28 : decode cX3_addName 28 = .ok (.getfield 9, 3) := by decide +kernel
theorem dX3_addName_31 : decode cX3_addName 31 = .ok (.iconst 1, 1) := by decide +kernel
theorem dX3_addName_32 : decode cX3_addName 32 = .ok (.iadd, 1) := by decide +kernel
theorem dX3_addName_33 : decode cX3_addName 33 = .ok (.putfield 9, 3) := by decide +kernel
theorem dX3_addName_36 : decode cX3_addName 36 = .ok (.return_, 1) := by decide +kernel
theorem dX3_setLastSense_0 : decode cX3_setLastSense 0 = .ok (.aload_n 0, 1) := by decide +kernel
theorem dX3_setLastSense_1 : decode cX3_setLastSense 1 = .ok (.getfield 9, 3) := by decide +kernel
theorem dX3_setLastSense_4 : decode cX3_setLastSense 4 = .ok (.iconst 1, 1) := by decide +kernel
theorem dX3_setLastSense_5 : decode cX3_setLastSense 5 = .ok (.if_icmp .lt 24, 3) := by decide +kernel
theorem dX3_setLastSense_8 : decode cX3_setLastSense 8 = .ok (.aload_n 0, 1) := by decide +kernel
theorem dX3_setLastSense_9 : decode cX3_setLastSense 9 = .ok (.getfield 9, 3) := by decide +kernel
theorem dX3_setLastSense_12 : decode cX3_setLastSense 12 = .ok (.bipush 6, 2) := by decide +kernel
theorem dX3_setLastSense_14 : decode cX3_setLastSense 14 = .ok (.if_icmp .gt 15, 3) := by decide +kernel
theorem dX3_setLastSense_17 : decode cX3_setLastSense 17 = .ok (.aload_n 0, 1) := by decide +kernel
theorem dX3_setLastSense_18 : decode cX3_setLastSense 18 = .ok (.getfield 19, 3) := by decide +kernel
theorem dX3_setLastSense_21 : decode cX3_setLastSense 21 = .ok (.aload_n 0, 1) := by decide +kernel
theorem dX3_setLastSense_22 : decode cX3_setLastSense 22 = .ok (.getfield 9, 3) := by decide +kernel
theorem dX3_setLastSense_25 : decode cX3_setLastSense 25 = .ok (.iconst 1, 1) := by decide +kernel
theorem dX3_setLastSense_26 : decode cX3_setLastSense 26 = .ok (.isub, 1) := by decide +kernel
theorem dX3_setLastSense_27 : decode cX3_setLastSense 27 = .ok (.iload_n 1, 1) := by decide +kernel
theorem dX3_setLastSense_28 : decode cX3_setLastSense 28 = .ok (.iastore, 1) := by decide +kernel
theorem dX3_setLastSense_29 : decode cX3_setLastSense 29 = .ok (.return_, 1) := by decide +kernel
theorem dX3_hasContender_0 : decode cX3_hasContender 0 = .ok (.iload_n 1, 1) := by decide +kernel
theorem dX3_hasContender_1 : decode cX3_hasContender 1 = .ok (.iconst 0, 1) := by decide +kernel
theorem dX3_hasContender_2 : decode cX3_hasContender 2 = .ok (.aload_n 0, 1) := by decide +kernel
theorem dX3_hasContender_3 : decode cX3_hasContender 3 = .ok (.getfield 9, 3) := by decide +kernel
theorem dX3_hasContender_6 : decode cX3_hasContender 6 = .ok (.iconst 1, 1) := by decide +kernel
theorem dX3_hasContender_7 : decode cX3_hasContender 7 = .ok (.isub, 1) := by decide +kernel
theorem dX3_hasContender_8 : decode cX3_hasContender 8 = .ok (.invokestatic 28, 3) := by decide +kernel
theorem dX3_hasContender_11 : decode cX3_hasContender 11 = .ok (.ireturn, 1) := by decide +kernel
theorem dX3_hasLink_0 : decode cX3_hasLink 0 = .ok (.iload_n 1, 1) := by decide +kernel
theorem dX3_hasLink_1 : decode cX3_hasLink 1 = .ok (.iconst 0, 1) := by decide +kernel
theorem dX3_hasLink_2 : decode cX3_hasLink 2 = .ok (.iconst 2, 1) := by decide +kernel
theorem dX3_hasLink_3 : decode cX3_hasLink 3 = .ok (.aload_n 0, 1) := by decide +kernel
theorem dX3_hasLink_4 : decode cX3_hasLink 4 = .ok (.getfield 9, 3) := by decide +kernel
theorem dX3_hasLink_7 : decode cX3_hasLink 7 = .ok (.imul, 1) := by decide +kernel
theorem dX3_hasLink_8 : decode cX3_hasLink 8 = .ok (.iconst 1, 1) := by decide +kernel
theorem dX3_hasLink_9 : decode cX3_hasLink 9 = .ok (.isub, 1) := by decide +kernel
theorem dX3_hasLink_10 : decode cX3_hasLink 10 = .ok (.invokestatic 28, 3) := by decide +kernel
theorem dX3_hasLink_13 : decode cX3_hasLink 13 = .ok (.ireturn, 1) := by decide +kernel
theorem dX3_hasName_0 : decode cX3_hasName 0 = .ok (.iconst 0, 1) := by decide +kernel
theorem dX3_hasName_1 : decode cX3_hasName 1 = .ok (.istore_n 2, 1) := by decide +kernel
theorem dX3_hasName_2 : decode cX3_hasName 2 = .ok (.iload_n 2, 1) := by decide +kernel
theorem dX3_hasName_3 : decode cX3_hasName 3 = .ok (.aload_n 0, 1) := by decide +kernel
theorem dX3_hasName_4 : decode cX3_hasName 4 = .ok (.getfield 9, 3) := by decide +kernel
theorem dX3_hasName_7 : decode cX3_hasName 7 = .ok (.if_icmp .ge 27, 3) := by decide +kernel
theorem dX3_hasName_10 : decode cX3_hasName 10 = .ok (.iload_n 2, 1) := by decide +kernel
theorem dX3_hasName_11 : decode cX3_hasName 11 = .ok (.bipush 6, 2) := by decide +kernel
theorem dX3_hasName_13 : decode cX3_hasName 13 = .ok (.if_icmp .ge 21, 3) := by decide +kernel
theorem dX3_hasName_16 : decode cX3_hasName 16 = .ok (.aload_n 0, 1) := by decide +kernel
theorem dX3_hasName_17 : decode cX3_hasName 17 = .ok (.getfield 15, 3) := by decide +kernel
theorem dX3_hasName_20 : decode cX3_hasName 20 = .ok (.iload_n 2, 1) := by decide +kernel
theorem dX3_hasName_21 : decode cX3_hasName 21 = .ok (.iaload, 1) := by decide +kernel
theorem dX3_hasName_22 : decode cX3_hasName 22 = .ok (.iload_n 1, 1) := by decide +kernel
theorem dX3_hasName_23 : decode cX3_hasName 23 = .ok (.if_icmp .ne 5, 3) := by decide +kernel
theorem dX3_hasName_26 : decode cX3_hasName 26 = .ok (.iconst 1, 1) := by decide +kernel
theorem dX3_hasName_27 : decode cX3_hasName 27 = .ok (.ireturn, 1) := by decide +kernel
theorem dX3_hasName_28 : decode cX3_hasName 28 = .ok (.iinc 2 1, 3) := by decide +kernel
theorem dX3_hasName_31 : decode cX3_hasName 31 = .ok (.goto (-29), 3) := by decide +kernel
theorem dX3_hasName_34 : decode cX3_hasName 34 = .ok (.iconst 0, 1) := by decide +kernel
theorem dX3_hasName_35 : decode cX3_hasName 35 = .ok (.ireturn, 1) := by decide +kernel
theorem dX3_sensesAgree_0 : decode cX3_sensesAgree 0 = .ok (.iconst 1, 1) := by decide +kernel
theorem dX3_sensesAgree_1 : decode cX3_sensesAgree 1 = .ok (.istore_n 1, 1) := by decide +kernel
theorem dX3_sensesAgree_2 : decode cX3_sensesAgree 2 = .ok (.iload_n 1, 1) := by decide +kernel
theorem dX3_sensesAgree_3 : decode cX3_sensesAgree 3 = .ok (.aload_n 0, 1) := by decide +kernel
theorem dX3_sensesAgree_4 : decode cX3_sensesAgree 4 = .ok (.getfield 9, 3) := by decide +kernel
theorem dX3_sensesAgree_7 : decode cX3_sensesAgree 7 = .ok (.if_icmp .ge 32, 3) := by decide +kernel
theorem dX3_sensesAgree_10 : decode cX3_sensesAgree 10 = .ok (.iload_n 1, 1) := by decide +kernel
theorem dX3_sensesAgree_11 : decode cX3_sensesAgree 11 = .ok (.bipush 6, 2) := by decide +kernel
theorem dX3_sensesAgree_13 : decode cX3_sensesAgree 13 = .ok (.if_icmp .ge 26, 3) := by decide +kernel
theorem dX3_sensesAgree_16 : decode cX3_sensesAgree 16 = .ok (.aload_n 0, 1) := by decide +kernel
theorem dX3_sensesAgree_17 : decode cX3_sensesAgree 17 = .ok (.getfield 19, 3) := by decide +kernel
theorem dX3_sensesAgree_20 : decode cX3_sensesAgree 20 = .ok (.iload_n 1, 1) := by decide +kernel
theorem dX3_sensesAgree_21 : decode cX3_sensesAgree 21 = .ok (.iaload, 1) := by decide +kernel
theorem dX3_sensesAgree_22 : decode cX3_sensesAgree 22 = .ok (.aload_n 0, 1) := by decide +kernel
theorem dX3_sensesAgree_23 : decode cX3_sensesAgree 23 = .ok (.getfield 19, 3) := by decide +kernel
theorem dX3_sensesAgree_26 : decode cX3_sensesAgree 26 = .ok (.iconst 0, 1) := by decide +kernel
theorem dX3_sensesAgree_27 : decode cX3_sensesAgree 27 = .ok (.iaload, 1) := by decide +kernel
theorem dX3_sensesAgree_28 : decode cX3_sensesAgree 28 = .ok (.if_icmp .eq 5, 3) := by decide +kernel
theorem dX3_sensesAgree_31 : decode cX3_sensesAgree 31 = .ok (.iconst 0, 1) := by decide +kernel
theorem dX3_sensesAgree_32 : decode cX3_sensesAgree 32 = .ok (.ireturn, 1) := by decide +kernel
theorem dX3_sensesAgree_33 : decode cX3_sensesAgree 33 = .ok (.iinc 1 1, 3) := by decide +kernel
theorem dX3_sensesAgree_36 : decode cX3_sensesAgree 36 = .ok (.goto (-34), 3) := by decide +kernel
theorem dX3_sensesAgree_39 : decode cX3_sensesAgree 39 = .ok (.iconst 1, 1) := by decide +kernel
theorem dX3_sensesAgree_40 : decode cX3_sensesAgree 40 = .ok (.ireturn, 1) := by decide +kernel
theorem dX3_nameOf_0 : decode cX3_nameOf 0 = .ok (.iload_n 1, 1) := by decide +kernel
theorem dX3_nameOf_1 : decode cX3_nameOf 1 = .ok (.iconst 0, 1) := by decide +kernel
theorem dX3_nameOf_2 : decode cX3_nameOf 2 = .ok (.iconst 5, 1) := by decide +kernel
theorem dX3_nameOf_3 : decode cX3_nameOf 3 = .ok (.invokestatic 28, 3) := by decide +kernel
theorem dX3_nameOf_6 : decode cX3_nameOf 6 = .ok (.ifCond .eq 12, 3) := by decide +kernel
theorem dX3_nameOf_9 : decode cX3_nameOf 9 = .ok (.aload_n 0, 1) := by decide +kernel
theorem dX3_nameOf_10 : decode cX3_nameOf 10 = .ok (.getfield 15, 3) := by decide +kernel
theorem dX3_nameOf_13 : decode cX3_nameOf 13 = .ok (.iload_n 1, 1) := by decide +kernel
theorem dX3_nameOf_14 : decode cX3_nameOf 14 = .ok (.iaload, 1) := by decide +kernel
theorem dX3_nameOf_15 : decode cX3_nameOf 15 = .ok (.goto 4, 3) := by decide +kernel
theorem dX3_nameOf_18 : decode cX3_nameOf 18 = .ok (.iconst (-1), 1) := by decide +kernel
theorem dX3_nameOf_19 : decode cX3_nameOf 19 = .ok (.ireturn, 1) := by decide +kernel
theorem dX3_senseOf_0 : decode cX3_senseOf 0 = .ok (.iload_n 1, 1) := by decide +kernel
theorem dX3_senseOf_1 : decode cX3_senseOf 1 = .ok (.iconst 0, 1) := by decide +kernel
theorem dX3_senseOf_2 : decode cX3_senseOf 2 = .ok (.iconst 5, 1) := by decide +kernel
theorem dX3_senseOf_3 : decode cX3_senseOf 3 = .ok (.invokestatic 28, 3) := by decide +kernel
theorem dX3_senseOf_6 : decode cX3_senseOf 6 = .ok (.ifCond .eq 12, 3) := by decide +kernel
theorem dX3_senseOf_9 : decode cX3_senseOf 9 = .ok (.aload_n 0, 1) := by decide +kernel
theorem dX3_senseOf_10 : decode cX3_senseOf 10 = .ok (.getfield 19, 3) := by decide +kernel
theorem dX3_senseOf_13 : decode cX3_senseOf 13 = .ok (.iload_n 1, 1) := by decide +kernel
theorem dX3_senseOf_14 : decode cX3_senseOf 14 = .ok (.iaload, 1) := by decide +kernel
theorem dX3_senseOf_15 : decode cX3_senseOf 15 = .ok (.goto 4, 3) := by decide +kernel
theorem dX3_senseOf_18 : decode cX3_senseOf 18 = .ok (.iconst 0, 1) := by decide +kernel
theorem dX3_senseOf_19 : decode cX3_senseOf 19 = .ok (.ireturn, 1) := by decide +kernel
theorem dX3_receiverOf_0 : decode cX3_receiverOf 0 = .ok (.iload_n 1, 1) := by decide +kernel
theorem dX3_receiverOf_1 : decode cX3_receiverOf 1 = .ok (.iconst 2, 1) := by decide +kernel
theorem dX3_receiverOf_2 : decode cX3_receiverOf 2 = .ok (.idiv, 1) := by decide +kernel
theorem dX3_receiverOf_3 : decode cX3_receiverOf 3 = .ok (.istore_n 2, 1) := by decide +kernel
theorem dX3_receiverOf_4 : decode cX3_receiverOf 4 = .ok (.iload_n 1, 1) := by decide +kernel
theorem dX3_receiverOf_5 : decode cX3_receiverOf 5 = .ok (.invokestatic 32, 3) := by decide +kernel
theorem dX3_receiverOf_8 : decode cX3_receiverOf 8 = .ok (.ifCond .ne 21, 3) := by decide +kernel
theorem dX3_receiverOf_11 : decode cX3_receiverOf 11 = .ok (.iload_n 2, 1) := by decide +kernel
theorem dX3_receiverOf_12 : decode cX3_receiverOf 12 = .ok (.iconst 1, 1) := by decide +kernel
theorem dX3_receiverOf_13 : decode cX3_receiverOf 13 = .ok (.iadd, 1) := by decide +kernel
theorem dX3_receiverOf_14 : decode cX3_receiverOf 14 = .ok (.aload_n 0, 1) := by decide +kernel
theorem dX3_receiverOf_15 : decode cX3_receiverOf 15 = .ok (.getfield 9, 3) := by decide +kernel
theorem dX3_receiverOf_18 : decode cX3_receiverOf 18 = .ok (.if_icmp .ge 9, 3) := by decide +kernel
theorem dX3_receiverOf_21 : decode cX3_receiverOf 21 = .ok (.iload_n 2, 1) := by decide +kernel
theorem dX3_receiverOf_22 : decode cX3_receiverOf 22 = .ok (.iconst 1, 1) := by decide +kernel
theorem dX3_receiverOf_23 : decode cX3_receiverOf 23 = .ok (.iadd, 1) := by decide +kernel
theorem dX3_receiverOf_24 : decode cX3_receiverOf 24 = .ok (.goto 4, 3) := by decide +kernel
theorem dX3_receiverOf_27 : decode cX3_receiverOf 27 = .ok (.iconst 0, 1) := by decide +kernel
theorem dX3_receiverOf_28 : decode cX3_receiverOf 28 = .ok (.ireturn, 1) := by decide +kernel
theorem dX3_receiverOf_29 : decode cX3_receiverOf 29 = .ok (.iload_n 2, 1) := by decide +kernel
theorem dX3_receiverOf_30 : decode cX3_receiverOf 30 = .ok (.ifCond .le 9, 3) := by decide +kernel
theorem dX3_receiverOf_33 : decode cX3_receiverOf 33 = .ok (.iload_n 2, 1) := by decide +kernel
theorem dX3_receiverOf_34 : decode cX3_receiverOf 34 = .ok (.iconst 1, 1) := by decide +kernel
theorem dX3_receiverOf_35 : decode cX3_receiverOf 35 = .ok (.isub, 1) := by decide +kernel
theorem dX3_receiverOf_36 : decode cX3_receiverOf 36 = .ok (.goto 9, 3) := by decide +kernel
theorem dX3_receiverOf_39 : decode cX3_receiverOf 39 = .ok (.aload_n 0, 1) := by decide +kernel
theorem dX3_receiverOf_40 : decode cX3_receiverOf 40 = .ok (.getfield 9, 3) := by decide +kernel
theorem dX3_receiverOf_43 : decode cX3_receiverOf 43 = .ok (.iconst 1, 1) := by decide +kernel
theorem dX3_receiverOf_44 : decode cX3_receiverOf 44 = .ok (.isub, 1) := by decide +kernel
theorem dX3_receiverOf_45 : decode cX3_receiverOf 45 = .ok (.ireturn, 1) := by decide +kernel
theorem dX3_directionOf_0 : decode cX3_directionOf 0 = .ok (.iload_n 0, 1) := by decide +kernel
theorem dX3_directionOf_1 : decode cX3_directionOf 1 = .ok (.iconst 1, 1) := by decide +kernel
theorem dX3_directionOf_2 : decode cX3_directionOf 2 = .ok (.iand, 1) := by decide +kernel
theorem dX3_directionOf_3 : decode cX3_directionOf 3 = .ok (.ireturn, 1) := by decide +kernel
theorem dX3_lineFrom_0 : decode cX3_lineFrom 0 = .ok (.iconst 2, 1) := by decide +kernel
theorem dX3_lineFrom_1 : decode cX3_lineFrom 1 = .ok (.iload_n 0, 1) := by decide +kernel
theorem dX3_lineFrom_2 : decode cX3_lineFrom 2 = .ok (.imul, 1) := by decide +kernel
theorem dX3_lineFrom_3 : decode cX3_lineFrom 3 = .ok (.iload_n 1, 1) := by decide +kernel
theorem dX3_lineFrom_4 : decode cX3_lineFrom 4 = .ok (.iadd, 1) := by decide +kernel
theorem dX3_lineFrom_5 : decode cX3_lineFrom 5 = .ok (.ireturn, 1) := by decide +kernel
theorem dX4_init_0 : decode cX4_init 0 = .ok (.aload_n 0, 1) := by decide +kernel
theorem dX4_init_1 : decode cX4_init 1 = .ok (.invokespecial 3, 3) := by decide +kernel
theorem dX4_init_4 : decode cX4_init 4 = .ok (.aload_n 0, 1) := by decide +kernel
theorem dX4_init_5 : decode cX4_init 5 = .ok (.bipush 40, 2) := by decide +kernel
theorem dX4_init_7 : decode cX4_init 7 = .ok (.newarray .int, 2) := by decide +kernel
theorem dX4_init_9 : decode cX4_init 9 = .ok (.putfield 9, 3) := by decide +kernel
theorem dX4_init_12 : decode cX4_init 12 = .ok (.aload_n 0, 1) := by decide +kernel
theorem dX4_init_13 : decode cX4_init 13 = .ok (.iconst 0, 1) := by decide +kernel
theorem dX4_init_14 : decode cX4_init 14 = .ok (.putfield 15, 3) := by decide +kernel
theorem dX4_init_17 : decode cX4_init 17 = .ok (.aload_n 0, 1) := by decide +kernel
theorem dX4_init_18 : decode cX4_init 18 = .ok (.iconst 0, 1) := by decide +kernel
theorem dX4_init_19 : decode cX4_init 19 = .ok (.putfield 19, 3) := by decide +kernel
theorem dX4_init_22 : decode cX4_init 22 = .ok (.aload_n 0, 1) := by decide +kernel
theorem dX4_init_23 : decode cX4_init 23 = .ok (.iconst 0, 1) := by decide +kernel
theorem dX4_init_24 : decode cX4_init 24 = .ok (.putfield 22, 3) := by decide +kernel
theorem dX4_init_27 : decode cX4_init 27 = .ok (.aload_n 0, 1) := by decide +kernel
theorem dX4_init_28 : decode cX4_init 28 = .ok (.iconst 0, 1) := by decide +kernel
theorem dX4_init_29 : decode cX4_init 29 = .ok (.putfield 25, 3) := by decide +kernel
theorem dX4_init_32 : decode cX4_init 32 = .ok (.return_, 1) := by decide +kernel
theorem dX4_append_0 : decode cX4_append 0 = .ok (.aload_n 0, 1) := by decide +kernel
theorem dX4_append_1 : decode cX4_append 1 = .ok (.getfield 15, 3) := by decide +kernel
theorem dX4_append_4 : decode cX4_append 4 = .ok (.ifCond .lt 12, 3) := by decide +kernel
theorem dX4_append_7 : decode cX4_append 7 = .ok (.aload_n 0, 1) := by decide +kernel
theorem dX4_append_8 : decode cX4_append 8 = .ok (.getfield 15, 3) := by decide +kernel
theorem dX4_append_11 : decode cX4_append 11 = .ok (.bipush 40, 2) := by decide +kernel
theorem dX4_append_13 : decode cX4_append 13 = .ok (.if_icmp .lt 5, 3) := by decide +kernel
theorem dX4_append_16 : decode cX4_append 16 = .ok (.iconst 0, 1) := by decide +kernel
theorem dX4_append_17 : decode cX4_append 17 = .ok (.ireturn, 1) := by decide +kernel
theorem dX4_append_18 : decode cX4_append 18 = .ok (.aload_n 0, 1) := by decide +kernel
theorem dX4_append_19 : decode cX4_append 19 = .ok (.getfield 9, 3) := by decide +kernel
theorem dX4_append_22 : decode cX4_append 22 = .ok (.aload_n 0, 1) := by decide +kernel
theorem dX4_append_23 : decode cX4_append 23 = .ok (.getfield 15, 3) := by decide +kernel
theorem dX4_append_26 : decode cX4_append 26 = .ok (.iload_n 1, 1) := by decide +kernel
theorem dX4_append_27 : decode cX4_append 27 = .ok (.iastore, 1) := by decide +kernel
theorem dX4_append_28 : decode cX4_append 28 = .ok (.aload_n 0, 1) := by decide +kernel
theorem dX4_append_29 : decode cX4_append 29 = .ok (.dup, 1) := by decide +kernel
theorem dX4_append_30 : decode cX4_append 30 = .ok (.getfield 15, 3) := by decide +kernel
theorem dX4_append_33 : decode cX4_append 33 = .ok (.iconst 1, 1) := by decide +kernel
theorem dX4_append_34 : decode cX4_append 34 = .ok (.iadd, 1) := by decide +kernel
theorem dX4_append_35 : decode cX4_append 35 = .ok (.putfield 15, 3) := by decide +kernel
theorem dX4_append_38 : decode cX4_append 38 = .ok (.iconst 1, 1) := by decide +kernel
theorem dX4_append_39 : decode cX4_append 39 = .ok (.ireturn, 1) := by decide +kernel
theorem dX4_readInto_0 : decode cX4_readInto 0 = .ok (.aload_n 1, 1) := by decide +kernel
theorem dX4_readInto_1 : decode cX4_readInto 1 = .ok (.iconst 0, 1) := by decide +kernel
theorem dX4_readInto_2 : decode cX4_readInto 2 = .ok (.putfield 28, 3) := by decide +kernel
theorem dX4_readInto_5 : decode cX4_readInto 5 = .ok (.aload_n 0, 1) := by decide +kernel
theorem dX4_readInto_6 : decode cX4_readInto 6 = .ok (.iconst 0, 1) := by decide +kernel
theorem dX4_readInto_7 : decode cX4_readInto 7 = .ok (.putfield 25, 3) := by decide +kernel
theorem dX4_readInto_10 : decode cX4_readInto 10 = .ok (.iconst 0, 1) := by decide +kernel
theorem dX4_readInto_11 : decode cX4_readInto 11 = .ok (.istore_n 2, 1) := by decide +kernel
theorem dX4_readInto_12 : decode cX4_readInto 12 = .ok (.iconst 0, 1) := by decide +kernel
theorem dX4_readInto_13 : decode cX4_readInto 13 = .ok (.istore_n 3, 1) := by decide +kernel
theorem dX4_readInto_14 : decode cX4_readInto 14 = .ok (.iload_n 3, 1) := by decide +kernel
theorem dX4_readInto_15 : decode cX4_readInto 15 = .ok (.bipush 40, 2) := by decide +kernel
theorem dX4_readInto_17 : decode cX4_readInto 17 = .ok (.if_icmp .gt 112, 3) := by decide +kernel
theorem dX4_readInto_20 : decode cX4_readInto 20 = .ok (.aload_n 0, 1) := by decide +kernel
theorem dX4_readInto_21 : decode cX4_readInto 21 = .ok (.invokevirtual 33, 3) := by decide +kernel
theorem dX4_readInto_24 : decode cX4_readInto 24 = .ok (.iload_n 2, 1) := by decide +kernel
theorem dX4_readInto_25 : decode cX4_readInto 25 = .ok (.ifCond .ne 15, 3) := by decide +kernel
theorem dX4_readInto_28 : decode cX4_readInto 28 = .ok (.aload_n 1, 1) := by decide +kernel
theorem dX4_readInto_29 : decode cX4_readInto 29 = .ok (.getfield 28, 3) := by decide +kernel
theorem dX4_readInto_32 : decode cX4_readInto 32 = .ok (.iconst 2, 1) := by decide +kernel
theorem dX4_readInto_33 : decode cX4_readInto 33 = .ok (.if_icmp .lt 7, 3) := by decide +kernel
theorem dX4_readInto_36 : decode cX4_readInto 36 = .ok (.iconst 1, 1) := by decide +kernel
theorem dX4_readInto_37 : decode cX4_readInto 37 = .ok (.goto 4, 3) := by decide +kernel
theorem dX4_readInto_40 : decode cX4_readInto 40 = .ok (.iconst 0, 1) := by decide +kernel
theorem dX4_readInto_41 : decode cX4_readInto 41 = .ok (.istore 4, 2) := by decide +kernel
theorem dX4_readInto_43 : decode cX4_readInto 43 = .ok (.aload_n 0, 1) := by decide +kernel
theorem dX4_readInto_44 : decode cX4_readInto 44 = .ok (.getfield 22, 3) := by decide +kernel
theorem dX4_readInto_47 : decode cX4_readInto 47 = .ok (.aload_n 0, 1) := by decide +kernel
theorem dX4_readInto_48 : decode cX4_readInto 48 = .ok (.getfield 15, 3) := by decide +kernel
theorem dX4_readInto_51 : decode cX4_readInto 51 = .ok (.if_icmp .lt 31, 3) := by decide +kernel
theorem dX4_readInto_54 : decode cX4_readInto 54 = .ok (.aload_n 0, 1) := by decide +kernel
theorem dX4_readInto_55 : decode cX4_readInto 55 = .ok (.iload 4, 2) := by decide +kernel
theorem dX4_readInto_57 : decode cX4_readInto 57 = .ok (.ifCond .eq 7, 3) := by decide +kernel
theorem dX4_readInto_60 : decode cX4_readInto 60 = .ok (.iconst 0, 1) := by decide +kernel
theorem dX4_readInto_61 : decode cX4_readInto 61 = .ok (.goto 4, 3) := by decide +kernel
theorem dX4_readInto_64 : decode cX4_readInto 64 = .ok (.iconst 1, 1) := by decide +kernel
theorem dX4_readInto_65 : decode cX4_readInto 65 = .ok (.putfield 19, 3) := by decide +kernel
theorem dX4_readInto_68 : decode cX4_readInto 68 = .ok (.iload 4, 2) := by decide +kernel
theorem dX4_readInto_70 : decode cX4_readInto 70 = .ok (.ifCond .eq 7, 3) := by decide +kernel
theorem dX4_readInto_73 : decode cX4_readInto 73 = .ok (.iconst (-1), 1) := by decide +kernel
theorem dX4_readInto_74 : decode cX4_readInto 74 = .ok (.goto 7, 3) := by decide +kernel
theorem dX4_readInto_77 : decode cX4_readInto 77 = .ok (.aload_n 0, 1) := by decide +kernel
theorem dX4_readInto_78 : decode cX4_readInto 78 = .ok (.getfield 22, 3) := by decide +kernel
theorem dX4_readInto_81 : decode cX4_readInto 81 = .ok (.ireturn, 1) := by decide +kernel
theorem dX4_readInto_82 : decode cX4_readInto 82 = .ok (.aload_n 0, 1) := by decide +kernel
theorem dX4_readInto_83 : decode cX4_readInto 83 = .ok (.aload_n 0, 1) := by decide +kernel
theorem dX4_readInto_84 : decode cX4_readInto 84 = .ok (.iload_n 2, 1) := by decide +kernel
theorem dX4_readInto_85 : decode cX4_readInto 85 = .ok (.aload_n 1, 1) := by decide +kernel
theorem dX4_readInto_86 : decode cX4_readInto 86 = .ok (.invokevirtual 36, 3) := by decide +kernel
theorem dX4_readInto_89 : decode cX4_readInto 89 = .ok (.putfield 19, 3) := by decide +kernel
theorem dX4_readInto_92 : decode cX4_readInto 92 = .ok (.aload_n 0, 1) := by decide +kernel
theorem dX4_readInto_93 : decode cX4_readInto 93 = .ok (.getfield 19, 3) := by decide +kernel
theorem dX4_readInto_96 : decode cX4_readInto 96 = .ok (.ifCond .eq 8, 3) := by decide +kernel
theorem dX4_readInto_99 : decode cX4_readInto 99 = .ok (.aload_n 0, 1) := by decide +kernel
theorem dX4_readInto_100 : decode cX4_readInto 100 = .ok (.getfield 22, 3) := by decide +kernel
theorem dX4_readInto_103 : decode cX4_readInto 103 = .ok (.ireturn, 1) := by decide +kernel
theorem dX4_readInto_104 : decode cX4_readInto 104 = .ok (.aload_n 0, 1) := by decide +kernel
theorem dX4_readInto_105 : decode cX4_readInto 105 = .ok (.iload_n 2, 1) := by decide +kernel
theorem dX4_readInto_106 : decode cX4_readInto 106 = .ok (.aload_n 1, 1) := by decide +kernel
theorem dX4_readInto_107 : decode cX4_readInto 107 = .ok (.invokevirtual 40, 3) := by decide +kernel
theorem dX4_readInto_110 : decode cX4_readInto 110 = .ok (.iload_n 2, 1) := by decide +kernel
theorem dX4_readInto_111 : decode cX4_readInto 111 = .ok (.iconst 2, 1) := by decide +kernel
theorem dX4_readInto_112 : decode cX4_readInto 112 = .ok (.if_icmp .ne 7, 3) := by decide +kernel
theorem dX4_readInto_115 : decode cX4_readInto 115 = .ok (.iconst 0, 1) := by decide +kernel
theorem dX4_readInto_116 : decode cX4_readInto 116 = .ok (.goto 6, 3) := by decide +kernel
theorem dX4_readInto_119 : decode cX4_readInto 119 = .ok (.iload_n 2, 1) := by decide +kernel
theorem dX4_readInto_120 : decode cX4_readInto 120 = .ok (.iconst 1, 1) := by decide +kernel
theorem dX4_readInto_121 : decode cX4_readInto 121 = .ok (.iadd, 1) := by decide +kernel
theorem dX4_readInto_122 : decode cX4_readInto 122 = .ok (.istore_n 2, 1) := by decide +kernel
theorem dX4_readInto_123 : decode cX4_readInto 123 = .ok (.iinc 3 1, 3) := by decide +kernel
theorem dX4_readInto_126 : decode cX4_readInto 126 = .ok (.goto (-112), 3) := by decide +kernel
theorem dX4_readInto_129 : decode cX4_readInto 129 = .ok (.iconst (-1), 1) := by decide +kernel
theorem dX4_readInto_130 : decode cX4_readInto 130 = .ok (.ireturn, 1) := by decide +kernel
theorem dX4_findToken_0 : decode cX4_findToken 0 = .ok (.aload_n 0, 1) := by decide +kernel
theorem dX4_findToken_1 : decode cX4_findToken 1 = .ok (.aload_n 0, 1) := by decide +kernel
theorem dX4_findToken_2 : decode cX4_findToken 2 = .ok (.getfield 25, 3) := by decide +kernel
theorem dX4_findToken_5 : decode cX4_findToken 5 = .ok (.putfield 22, 3) := by decide +kernel
theorem dX4_findToken_8 : decode cX4_findToken 8 = .ok (.aload_n 0, 1) := by decide +kernel
theorem dX4_findToken_9 : decode cX4_findToken 9 = .ok (.getfield 22, 3) := by decide +kernel
theorem dX4_findToken_12 : decode cX4_findToken 12 = .ok (.aload_n 0, 1) := by decide +kernel
theorem dX4_findToken_13 : decode cX4_findToken 13 = .ok (.getfield 15, 3) := by decide +kernel
theorem dX4_findToken_16 : decode cX4_findToken 16 = .ok (.if_icmp .ge 29, 3) := by decide +kernel
theorem dX4_findToken_19 : decode cX4_findToken 19 = .ok (.aload_n 0, 1) := by decide +kernel
theorem dX4_findToken_20 : decode cX4_findToken 20 = .ok (.aload_n 0, 1) := by decide +kernel
theorem dX4_findToken_21 : decode cX4_findToken 21 = .ok (.getfield 22, 3) := by decide +kernel
theorem dX4_findToken_24 : decode cX4_findToken 24 = .ok (.invokevirtual 44, 3) := by decide +kernel
theorem dX4_findToken_27 : decode cX4_findToken 27 = .ok (.bipush 32, 2) := by decide +kernel
theorem dX4_findToken_29 : decode cX4_findToken 29 = .ok (.if_icmp .ne 16, 3) := by decide +kernel
theorem dX4_findToken_32 : decode cX4_findToken 32 = .ok (.aload_n 0, 1) := by decide +kernel
theorem dX4_findToken_33 : decode cX4_findToken 33 = .ok (.dup, 1) := by decide +kernel
theorem dX4_findToken_34 : decode cX4_findToken 34 = .ok (.getfield 22, 3) := by decide +kernel
theorem dX4_findToken_37 : decode cX4_findToken 37 = .ok (.iconst 1, 1) := by decide +kernel
theorem dX4_findToken_38 : decode cX4_findToken 38 = .ok (.iadd, 1) := by decide +kernel
theorem dX4_findToken_39 : decode cX4_findToken 39 = .ok (.putfield 22, 3) := by decide +kernel
theorem dX4_findToken_42 : decode cX4_findToken 42 = .ok (.goto (-34), 3) := by decide +kernel
theorem dX4_findToken_45 : decode cX4_findToken 45 = .ok (.aload_n 0, 1) := by decide +kernel
theorem dX4_findToken_46 : decode cX4_findToken 46 = .ok (.aload_n 0, 1) := by decide +kernel
theorem dX4_findToken_47 : decode cX4_findToken 47 = .ok (.getfield 22, 3) := by decide +kernel
theorem dX4_findToken_50 : decode cX4_findToken 50 = .ok (.putfield 25, 3) := by decide +kernel
theorem dX4_findToken_53 : decode cX4_findToken 53 = .ok (.aload_n 0, 1) := by decide +kernel
theorem dX4_findToken_54 : decode cX4_findToken 54 = .ok (.getfield 25, 3) := by decide +kernel
theorem dX4_findToken_57 : decode cX4_findToken 57 = .ok (.aload_n 0, 1) := by decide +kernel
theorem dX4_findToken_58 : decode cX4_findToken 58 = .ok (.getfield 15, 3) := by decide +kernel
theorem dX4_findToken_61 : decode cX4_findToken 61 = .ok (.if_icmp .ge 30, 3) := by decide +kernel
theorem dX4_findToken_64 : decode cX4_findToken 64 = .ok (.aload_n 0, 1) := by decide +kernel
theorem dX4_findToken_65 : decode cX4_findToken 65 = .ok (.aload_n 0, 1) := by decide +kernel
theorem dX4_findToken_66 : decode cX4_findToken 66 = .ok (.getfield 25, 3) := by decide +kernel
theorem dX4_findToken_69 : decode cX4_findToken 69 = .ok (.invokevirtual 44, 3) := by decide +kernel
theorem dX4_findToken_72 : decode cX4_findToken 72 = .ok (.invokestatic 48, 3) := by decide +kernel
theorem dX4_findToken_75 : decode cX4_findToken 75 = .ok (.ifCond .eq 16, 3) := by decide +kernel
theorem dX4_findToken_78 : decode cX4_findToken 78 = .ok (.aload_n 0, 1) := by decide +kernel
theorem dX4_findToken_79 : decode cX4_findToken 79 = .ok (.dup, 1) := by decide +kernel
theorem dX4_findToken_80 : decode cX4_findToken 80 = .ok (.getfield 25, 3) := by decide +kernel
theorem dX4_findToken_83 : decode cX4_findToken 83 = .ok (.iconst 1, 1) := by decide +kernel
theorem dX4_findToken_84 : decode cX4_findToken 84 = .ok (.iadd, 1) := by decide +kernel
theorem dX4_findToken_85 : decode cX4_findToken 85 = .ok (.putfield 25, 3) := by decide +kernel
theorem dX4_findToken_88 : decode cX4_findToken 88 = .ok (.goto (-35), 3) := by decide +kernel
theorem dX4_findToken_91 : decode cX4_findToken 91 = .ok (.aload_n 0, 1) := by decide +kernel
theorem dX4_findToken_92 : decode cX4_findToken 92 = .ok (.getfield 25, 3) := by decide +kernel
theorem dX4_findToken_95 : decode cX4_findToken 95 = .ok (.aload_n 0, 1) := by decide +kernel
theorem dX4_findToken_96 : decode cX4_findToken 96 = .ok (.getfield 22, 3) := by decide +kernel
theorem dX4_findToken_99 : decode cX4_findToken 99 = .ok (.if_icmp .ne 24, 3) := by decide +kernel
theorem dX4_findToken_102 : decode cX4_findToken 102 = .ok (.aload_n 0, 1) := by decide +kernel
theorem dX4_findToken_103 : decode cX4_findToken 103 = .ok (.getfield 22, 3) := by decide +kernel
theorem dX4_findToken_106 : decode cX4_findToken 106 = .ok (.aload_n 0, 1) := by decide +kernel
theorem dX4_findToken_107 : decode cX4_findToken 107 = .ok (.getfield 15, 3) := by decide +kernel
theorem dX4_findToken_110 : decode cX4_findToken 110 = .ok (.if_icmp .ge 13, 3) := by decide +kernel
theorem dX4_findToken_113 : decode cX4_findToken 113 = .ok (.aload_n 0, 1) := by decide +kernel
theorem dX4_findToken_114 : decode cX4_findToken 114 = .ok (.dup, 1) := by decide +kernel
theorem dX4_findToken_115 : decode cX4_findToken 115 = .ok (.getfield 25, 3) := by decide +kernel
theorem dX4_findToken_118 : decode cX4_findToken 118 = .ok (.iconst 1, 1) := by decide +kernel
theorem dX4_findToken_119 : decode cX4_findToken 119 = .ok (.iadd, 1) := by decide +kernel
theorem dX4_findToken_120 : decode cX4_findToken 120 = .ok (.putfield 25, 3) := by decide +kernel
theorem dX4_findToken_123 : decode cX4_findToken 123 = .ok (.return_, 1) := by decide +kernel
theorem dX4_faultOfToken_0 : decode cX4_faultOfToken 0 = .ok (.aload_n 0, 1) := by decide +kernel
theorem dX4_faultOfToken_1 : decode cX4_faultOfToken 1 = .ok (.aload_n 0, 1) := by decide +kernel
theorem dX4_faultOfToken_2 : decode cX4_faultOfToken 2 = .ok (.getfield 22, 3) := by decide +kernel
theorem dX4_faultOfToken_5 : decode cX4_faultOfToken 5 = .ok (.invokevirtual 44, 3) := by decide +kernel
theorem dX4_faultOfToken_8 : decode cX4_faultOfToken 8 = .ok (.istore_n 3, 1) := by decide +kernel
theorem dX4_faultOfToken_9 : decode cX4_faultOfToken 9 = .ok (.iload_n 1, 1) := by decide +kernel
theorem dX4_faultOfToken_10 : decode cX4_faultOfToken 10 = .ok (.lookupswitch 61 #[(0, 26), (1, 43)], 26) := by decide +kernel
theorem dX4_faultOfToken_36 : decode cX4_faultOfToken 36 = .ok (.iload_n 3, 1) := by decide +kernel
theorem dX4_faultOfToken_37 : decode cX4_faultOfToken 37 = .ok (.invokestatic 48, 3) := by decide +kernel
theorem dX4_faultOfToken_40 : decode cX4_faultOfToken 40 = .ok (.ifCond .eq 11, 3) := by decide +kernel
theorem dX4_faultOfToken_43 : decode cX4_faultOfToken 43 = .ok (.aload_n 0, 1) := by decide +kernel
theorem dX4_faultOfToken_44 : decode cX4_faultOfToken 44 = .ok (.aload_n 2, 1) := by decide +kernel
theorem dX4_faultOfToken_45 : decode cX4_faultOfToken 45 = .ok (.invokevirtual 52, 3) := by decide +kernel
theorem dX4_faultOfToken_48 : decode cX4_faultOfToken 48 = .ok (.goto 4, 3) := by decide +kernel
theorem dX4_faultOfToken_51 : decode cX4_faultOfToken 51 = .ok (.iconst 1, 1) := by decide +kernel
theorem dX4_faultOfToken_52 : decode cX4_faultOfToken 52 = .ok (.ireturn, 1) := by decide +kernel
theorem dX4_faultOfToken_53 : decode cX4_faultOfToken 53 = .ok (.iload_n 3, 1) := by decide +kernel
theorem dX4_faultOfToken_54 : decode cX4_faultOfToken 54 = .ok (.bipush 114, 2) := by decide +kernel
theorem dX4_faultOfToken_56 : decode cX4_faultOfToken 56 = .ok (.if_icmp .eq 9, 3) := by decide +kernel
theorem dX4_faultOfToken_59 : decode cX4_faultOfToken 59 = .ok (.iload_n 3, 1) := by decide +kernel
theorem dX4_faultOfToken_60 : decode cX4_faultOfToken 60 = .ok (.bipush 98, 2) := by decide +kernel
theorem dX4_faultOfToken_62 : decode cX4_faultOfToken 62 = .ok (.if_icmp .ne 7, 3) := by decide +kernel
theorem dX4_faultOfToken_65 : decode cX4_faultOfToken 65 = .ok (.iconst 0, 1) := by decide +kernel
theorem dX4_faultOfToken_66 : decode cX4_faultOfToken 66 = .ok (.goto 4, 3) := by decide +kernel
theorem dX4_faultOfToken_69 : decode cX4_faultOfToken 69 = .ok (.iconst 1, 1) := by decide +kernel
theorem dX4_faultOfToken_70 : decode cX4_faultOfToken 70 = .ok (.ireturn, 1) := by decide +kernel
theorem dX4_faultOfToken_71 : decode cX4_faultOfToken 71 = .ok (.iload_n 3, 1) := by decide +kernel
theorem dX4_faultOfToken_72 : decode cX4_faultOfToken 72 = .ok (.bipush 59, 2) := by decide +kernel
theorem dX4_faultOfToken_74 : decode cX4_faultOfToken 74 = .ok (.if_icmp .ne 7, 3) := by decide +kernel
theorem dX4_faultOfToken_77 : decode cX4_faultOfToken 77 = .ok (.iconst 0, 1) := by decide +kernel
theorem dX4_faultOfToken_78 : decode cX4_faultOfToken 78 = .ok (.goto 4, 3) := by decide +kernel
theorem dX4_faultOfToken_81 : decode cX4_faultOfToken 81 = .ok (.iconst 1, 1) := by decide +kernel
theorem dX4_faultOfToken_82 : decode cX4_faultOfToken 82 = .ok (.ireturn, 1) := by decide +kernel
theorem dX4_faultOfFigures_0 : decode cX4_faultOfFigures 0 = .ok (.aload_n 0, 1) := by decide +kernel
theorem dX4_faultOfFigures_1 : decode cX4_faultOfFigures 1 = .ok (.getfield 25, 3) := by decide +kernel
theorem dX4_faultOfFigures_4 : decode cX4_faultOfFigures 4 = .ok (.aload_n 0, 1) := by decide +kernel
theorem dX4_faultOfFigures_5 : decode cX4_faultOfFigures 5 = .ok (.getfield 22, 3) := by decide +kernel
theorem dX4_faultOfFigures_8 : decode cX4_faultOfFigures 8 = .ok (.isub, 1) := by decide +kernel
theorem dX4_faultOfFigures_9 : decode cX4_faultOfFigures 9 = .ok (.iconst 2, 1) := by decide +kernel
theorem dX4_faultOfFigures_10 : decode cX4_faultOfFigures 10 = .ok (.if_icmp .gt 21, 3) := by decide +kernel
theorem dX4_faultOfFigures_13 : decode cX4_faultOfFigures 13 = .ok (.aload_n 0, 1) := by decide +kernel
theorem dX4_faultOfFigures_14 : decode cX4_faultOfFigures 14 = .ok (.invokevirtual 56, 3) := by decide +kernel
theorem dX4_faultOfFigures_17 : decode cX4_faultOfFigures 17 = .ok (.ifCond .eq 14, 3) := by decide +kernel
theorem dX4_faultOfFigures_20 : decode cX4_faultOfFigures 20 = .ok (.aload_n 1, 1) := by decide +kernel
theorem dX4_faultOfFigures_21 : decode cX4_faultOfFigures 21 = .ok (.aload_n 0, 1) := by decide +kernel
theorem dX4_faultOfFigures_22 : decode cX4_faultOfFigures 22 = .ok (.invokevirtual 56, 3) := by decide +kernel
theorem dX4_faultOfFigures_25 : decode cX4_faultOfFigures 25 = .ok (.invokevirtual 60, 3) := by decide +kernel
theorem dX4_faultOfFigures_28 : decode cX4_faultOfFigures 28 = .ok (.ifCond .eq 5, 3) := by decide +kernel
theorem dX4_faultOfFigures_31 : decode cX4_faultOfFigures 31 = .ok (.iconst 2, 1) := by decide +kernel
theorem dX4_faultOfFigures_32 : decode cX4_faultOfFigures 32 = .ok (.ireturn, 1) := by decide +kernel
theorem dX4_faultOfFigures_33 : decode cX4_faultOfFigures 33 = .ok (.aload_n 1, 1) := by decide +kernel
theorem dX4_faultOfFigures_34 : decode cX4_faultOfFigures 34 = .ok (.invokevirtual 63, 3) := by decide +kernel
theorem dX4_faultOfFigures_37 : decode cX4_faultOfFigures 37 = .ok (.ifCond .eq 7, 3) := by decide +kernel
theorem dX4_faultOfFigures_40 : decode cX4_faultOfFigures 40 = .ok (.iconst 3, 1) := by decide +kernel
theorem dX4_faultOfFigures_41 : decode cX4_faultOfFigures 41 = .ok (.goto 4, 3) := by decide +kernel
theorem dX4_faultOfFigures_44 : decode cX4_faultOfFigures 44 = .ok (.iconst 0, 1) := by decide +kernel
theorem dX4_faultOfFigures_45 : decode cX4_faultOfFigures 45 = .ok (.ireturn, 1) := by decide +kernel
theorem dX4_takeToken_0 : decode cX4_takeToken 0 = .ok (.iload_n 1, 1) := by decide +kernel
theorem dX4_takeToken_1 : decode cX4_takeToken 1 = .ok (.ifCond .ne 14, 3) := by decide +kernel
theorem dX4_takeToken_4 : decode cX4_takeToken 4 = .ok (.aload_n 2, 1) := by decide +kernel
theorem dX4_takeToken_5 : decode cX4_takeToken 5 = .ok (.aload_n 0, 1) := by decide +kernel
theorem dX4_takeToken_6 : decode cX4_takeToken 6 = .ok (.invokevirtual 56, 3) := by decide +kernel
theorem dX4_takeToken_9 : decode cX4_takeToken 9 = .ok (.invokevirtual 67, 3) := by decide +kernel
theorem dX4_takeToken_12 : decode cX4_takeToken 12 = .ok (.goto 30, 3) := by decide +kernel
theorem dX4_takeToken_15 : decode cX4_takeToken 15 = .ok (.iload_n 1, 1) := by decide +kernel
theorem dX4_takeToken_16 : decode cX4_takeToken 16 = .ok (.iconst 1, 1) := by decide +kernel
theorem dX4_takeToken_17 : decode cX4_takeToken 17 = .ok (.if_icmp .ne 25, 3) := by decide +kernel
theorem dX4_takeToken_20 : decode cX4_takeToken 20 = .ok (.aload_n 2, 1) := by decide +kernel
theorem dX4_takeToken_21 : decode cX4_takeToken 21 = .ok (.aload_n 0, 1) := by decide +kernel
theorem dX4_takeToken_22 : decode cX4_takeToken 22 = .ok (.aload_n 0, 1) := by decide +kernel
theorem dX4_takeToken_23 : decode cX4_takeToken 23 = .ok (.getfield 22, 3) := by decide +kernel
theorem dX4_takeToken_26 : decode cX4_takeToken 26 = .ok (.invokevirtual 44, 3) := by decide +kernel
theorem dX4_takeToken_29 : decode cX4_takeToken 29 = .ok (.bipush 98, 2) := by decide +kernel
theorem dX4_takeToken_31 : decode cX4_takeToken 31 = .ok (.if_icmp .ne 7, 3) := by decide +kernel
theorem dX4_takeToken_34 : decode cX4_takeToken 34 = .ok (.iconst 1, 1) := by decide +kernel
theorem dX4_takeToken_35 : decode cX4_takeToken 35 = .ok (.goto 4, 3) := by decide +kernel
theorem dX4_takeToken_38 : decode cX4_takeToken 38 = .ok (.iconst 0, 1) := by decide +kernel
theorem dX4_takeToken_39 : decode cX4_takeToken 39 = .ok (.invokevirtual 71, 3) := by decide +kernel
theorem dX4_takeToken_42 : decode cX4_takeToken 42 = .ok (.return_, 1) := by decide +kernel
theorem dX4_tokenValue_0 : decode cX4_tokenValue 0 = .ok (.iconst 0, 1) := by decide +kernel
theorem dX4_tokenValue_1 : decode cX4_tokenValue 1 = .ok (.istore_n 1, 1) := by decide +kernel
theorem dX4_tokenValue_2 : decode cX4_tokenValue 2 = .ok (.aload_n 0, 1) := by decide +kernel
theorem dX4_tokenValue_3 : decode cX4_tokenValue 3 = .ok (.getfield 22, 3) := by decide +kernel
theorem dX4_tokenValue_6 : decode cX4_tokenValue 6 = .ok (.istore_n 2, 1) := by decide +kernel
theorem dX4_tokenValue_7 : decode cX4_tokenValue 7 = .ok (.iload_n 2, 1) := by decide +kernel
theorem dX4_tokenValue_8 : decode cX4_tokenValue 8 = .ok (.aload_n 0, 1) := by decide +kernel
theorem dX4_tokenValue_9 : decode cX4_tokenValue 9 = .ok (.getfield 25, 3) := by decide +kernel
theorem dX4_tokenValue_12 : decode cX4_tokenValue 12 = .ok (.if_icmp .ge 23, 3) := by decide +kernel
theorem dX4_tokenValue_15 : decode cX4_tokenValue 15 = .ok (.iload_n 1, 1) := by decide +kernel
theorem dX4_tokenValue_16 : decode cX4_tokenValue 16 = .ok (.bipush 10, 2) := by decide +kernel
theorem dX4_tokenValue_18 : decode cX4_tokenValue 18 = .ok (.imul, 1) := by decide +kernel
theorem dX4_tokenValue_19 : decode cX4_tokenValue 19 = .ok (.aload_n 0, 1) := by decide +kernel
theorem dX4_tokenValue_20 : decode cX4_tokenValue 20 = .ok (.iload_n 2, 1) := by decide +kernel
theorem dX4_tokenValue_21 : decode cX4_tokenValue 21 = .ok (.invokevirtual 44, 3) := by decide +kernel
theorem dX4_tokenValue_24 : decode cX4_tokenValue 24 = .ok (.iadd, 1) := by decide +kernel
theorem dX4_tokenValue_25 : decode cX4_tokenValue 25 = .ok (.bipush 48, 2) := by decide +kernel
theorem dX4_tokenValue_27 : decode cX4_tokenValue 27 = .ok (.isub, 1) := by decide +kernel
theorem dX4_tokenValue_28 : decode cX4_tokenValue 28 = .ok (.istore_n 1, 1) := by decide +kernel
theorem dX4_tokenValue_29 : decode cX4_tokenValue 29 = .ok (.iinc 2 1, 3) := by decide +kernel
theorem dX4_tokenValue_32 : decode cX4_tokenValue 32 = .ok (.goto (-25), 3) := by decide +kernel
theorem dX4_tokenValue_35 : decode cX4_tokenValue 35 = .ok (.iload_n 1, 1) := by decide +kernel
theorem dX4_tokenValue_36 : decode cX4_tokenValue 36 = .ok (.ireturn, 1) := by decide +kernel
theorem dX4_byteAt_0 : decode cX4_byteAt 0 = .ok (.iload_n 1, 1) := by decide +kernel
theorem dX4_byteAt_1 : decode cX4_byteAt 1 = .ok (.ifCond .lt 18, 3) := by decide +kernel
theorem dX4_byteAt_4 : decode cX4_byteAt 4 = .ok (.iload_n 1, 1) := by decide +kernel
theorem dX4_byteAt_5 : decode cX4_byteAt 5 = .ok (.bipush 40, 2) := by decide +kernel
theorem dX4_byteAt_7 : decode cX4_byteAt 7 = .ok (.if_icmp .ge 12, 3) := by decide +kernel
theorem dX4_byteAt_10 : decode cX4_byteAt 10 = .ok (.aload_n 0, 1) := by decide +kernel
theorem dX4_byteAt_11 : decode cX4_byteAt 11 = .ok (.getfield 9, 3) := by decide +kernel
theorem dX4_byteAt_14 : decode cX4_byteAt 14 = .ok (.iload_n 1, 1) := by decide +kernel
theorem dX4_byteAt_15 : decode cX4_byteAt 15 = .ok (.iaload, 1) := by decide +kernel
theorem dX4_byteAt_16 : decode cX4_byteAt 16 = .ok (.goto 4, 3) := by decide +kernel
theorem dX4_byteAt_19 : decode cX4_byteAt 19 = .ok (.iconst (-1), 1) := by decide +kernel
theorem dX4_byteAt_20 : decode cX4_byteAt 20 = .ok (.ireturn, 1) := by decide +kernel
theorem dX4_isDigit_0 : decode cX4_isDigit 0 = .ok (.iload_n 0, 1) := by decide +kernel
theorem dX4_isDigit_1 : decode cX4_isDigit 1 = .ok (.bipush 48, 2) := by decide +kernel
theorem dX4_isDigit_3 : decode cX4_isDigit 3 = .ok (.if_icmp .lt 13, 3) := by decide +kernel
theorem dX4_isDigit_6 : decode cX4_isDigit 6 = .ok (.iload_n 0, 1) := by decide +kernel
theorem dX4_isDigit_7 : decode cX4_isDigit 7 = .ok (.bipush 57, 2) := by decide +kernel
theorem dX4_isDigit_9 : decode cX4_isDigit 9 = .ok (.if_icmp .gt 7, 3) := by decide +kernel
theorem dX4_isDigit_12 : decode cX4_isDigit 12 = .ok (.iconst 1, 1) := by decide +kernel
theorem dX4_isDigit_13 : decode cX4_isDigit 13 = .ok (.goto 4, 3) := by decide +kernel
theorem dX4_isDigit_16 : decode cX4_isDigit 16 = .ok (.iconst 0, 1) := by decide +kernel
theorem dX4_isDigit_17 : decode cX4_isDigit 17 = .ok (.ireturn, 1) := by decide +kernel
theorem dX5_init_0 : decode cX5_init 0 = .ok (.aload_n 0, 1) := by decide +kernel
theorem dX5_init_1 : decode cX5_init 1 = .ok (.invokespecial 1, 3) := by decide +kernel
theorem dX5_init_4 : decode cX5_init 4 = .ok (.aload_n 0, 1) := by decide +kernel
theorem dX5_init_5 : decode cX5_init 5 = .ok (.new 7, 3) := by decide +kernel
theorem dX5_init_8 : decode cX5_init 8 = .ok (.dup, 1) := by decide +kernel
theorem dX5_init_9 : decode cX5_init 9 = .ok (.invokespecial 9, 3) := by decide +kernel
theorem dX5_init_12 : decode cX5_init 12 = .ok (.putfield 10, 3) := by decide +kernel
theorem dX5_init_15 : decode cX5_init 15 = .ok (.aload_n 0, 1) := by decide +kernel
theorem dX5_init_16 : decode cX5_init 16 = .ok (.new 16, 3) := by decide +kernel
theorem dX5_init_19 : decode cX5_init 19 = .ok (.dup, 1) := by decide +kernel
theorem dX5_init_20 : decode cX5_init 20 = .ok (.invokespecial 18, 3) := by decide +kernel
theorem dX5_init_23 : decode cX5_init 23 = .ok (.putfield 19, 3) := by decide +kernel
theorem dX5_init_26 : decode cX5_init 26 = .ok (.aload_n 0, 1) := by decide +kernel
theorem dX5_init_27 : decode cX5_init 27 = .ok (.new 16, 3) := by decide +kernel
theorem dX5_init_30 : decode cX5_init 30 = .ok (.dup, 1) := by decide +kernel
theorem dX5_init_31 : decode cX5_init 31 = .ok (.invokespecial 18, 3) := by decide +kernel
theorem dX5_init_34 : decode cX5_init 34 = .ok (.putfield 23, 3) := by decide +kernel
theorem dX5_init_37 : decode cX5_init 37 = .ok (.aload_n 0, 1) := by decide +kernel
theorem dX5_init_38 : decode cX5_init 38 = .ok (.new 26, 3) := by decide +kernel
theorem dX5_init_41 : decode cX5_init 41 = .ok (.dup, 1) := by decide +kernel
theorem dX5_init_42 : decode cX5_init 42 = .ok (.aload_n 0, 1) := by decide +kernel
theorem dX5_init_43 : decode cX5_init 43 = .ok (.getfield 19, 3) := by decide +kernel
theorem dX5_init_46 : decode cX5_init 46 = .ok (.invokespecial 28, 3) := by decide +kernel
theorem dX5_init_49 : decode cX5_init 49 = .ok (.putfield 31, 3) := by decide +kernel
theorem dX5_init_52 : decode cX5_init 52 = .ok (.aload_n 0, 1) := by decide +kernel
theorem dX5_init_53 : decode cX5_init 53 = .ok (.new 26, 3) := by decide +kernel
theorem dX5_init_56 : decode cX5_init 56 = .ok (.dup, 1) := by decide +kernel
theorem dX5_init_57 : decode cX5_init 57 = .ok (.aload_n 0, 1) := by decide +kernel
theorem dX5_init_58 : decode cX5_init 58 = .ok (.getfield 19, 3) := by decide +kernel
theorem dX5_init_61 : decode cX5_init 61 = .ok (.invokespecial 28, 3) := by decide +kernel
theorem dX5_init_64 : decode cX5_init 64 = .ok (.putfield 35, 3) := by decide +kernel
theorem dX5_init_67 : decode cX5_init 67 = .ok (.aload_n 0, 1) := by decide +kernel
theorem dX5_init_68 : decode cX5_init 68 = .ok (.new 38, 3) := by decide +kernel
theorem dX5_init_71 : decode cX5_init 71 = .ok (.dup, 1) := by decide +kernel
theorem dX5_init_72 : decode cX5_init 72 = .ok (.aload_n 0, 1) := by decide +kernel
theorem dX5_init_73 : decode cX5_init 73 = .ok (.getfield 19, 3) := by decide +kernel
theorem dX5_init_76 : decode cX5_init 76 = .ok (.invokespecial 40, 3) := by decide +kernel
theorem dX5_init_79 : decode cX5_init 79 = .ok (.putfield 41, 3) := by decide +kernel
theorem dX5_init_82 : decode cX5_init 82 = .ok (.aload_n 0, 1) := by decide +kernel
theorem dX5_init_83 : decode cX5_init 83 = .ok (.new 45, 3) := by decide +kernel
theorem dX5_init_86 : decode cX5_init 86 = .ok (.dup, 1) := by decide +kernel
theorem dX5_init_87 : decode cX5_init 87 = .ok (.aload_n 0, 1) := by decide +kernel
theorem dX5_init_88 : decode cX5_init 88 = .ok (.getfield 19, 3) := by decide +kernel
theorem dX5_init_91 : decode cX5_init 91 = .ok (.invokespecial 47, 3) := by decide +kernel
theorem dX5_init_94 : decode cX5_init 94 = .ok (.putfield 48, 3) := by decide +kernel
theorem dX5_init_97 : decode cX5_init 97 = .ok (.return_, 1) := by decide +kernel
theorem dX5_write_0 : decode cX5_write 0 = .ok (.iload_n 1, 1) := by decide +kernel
theorem dX5_write_1 : decode cX5_write 1 = .ok (.iconst 0, 1) := by decide +kernel
theorem dX5_write_2 : decode cX5_write 2 = .ok (.sipush 255, 3) := by decide +kernel
theorem dX5_write_5 : decode cX5_write 5 = .ok (.invokestatic 52, 3) := by decide +kernel
theorem dX5_write_8 : decode cX5_write 8 = .ok (.ifCond .ne 6, 3) := by decide +kernel
theorem dX5_write_11 : decode cX5_write 11 = .ok (.ldc 56, 2) := by decide +kernel
theorem dX5_write_13 : decode cX5_write 13 = .ok (.ireturn, 1) := by decide +kernel
theorem dX5_write_14 : decode cX5_write 14 = .ok (.aload_n 0, 1) := by decide +kernel
theorem dX5_write_15 : decode cX5_write 15 = .ok (.getfield 10, 3) := by decide +kernel
theorem dX5_write_18 : decode cX5_write 18 = .ok (.iload_n 1, 1) := by decide +kernel
theorem dX5_write_19 : decode cX5_write 19 = .ok (.invokevirtual 57, 3) := by decide +kernel
theorem dX5_write_22 : decode cX5_write 22 = .ok (.ifCond .eq 13, 3) := by decide +kernel
theorem dX5_write_25 : decode cX5_write 25 = .ok (.aload_n 0, 1) := by decide +kernel
theorem dX5_write_26 : decode cX5_write 26 = .ok (.getfield 10, 3) := by decide +kernel
theorem dX5_write_29 : decode cX5_write 29 = .ok (.getfield 61, 3) := by decide +kernel
theorem dX5_write_32 : decode cX5_write 32 = .ok (.goto 5, 3) := by decide +kernel
theorem dX5_write_35 : decode cX5_write 35 = .ok (.ldc 65, 2) := by decide +kernel
theorem dX5_write_37 : decode cX5_write 37 = .ok (.ireturn, 1) := by decide +kernel
theorem dX5_ring_0 : decode cX5_ring 0 = .ok (.aload_n 0, 1) := by decide +kernel
theorem dX5_ring_1 : decode cX5_ring 1 = .ok (.getfield 10, 3) := by decide +kernel
theorem dX5_ring_4 : decode cX5_ring 4 = .ok (.aload_n 0, 1) := by decide +kernel
theorem dX5_ring_5 : decode cX5_ring 5 = .ok (.getfield 23, 3) := by decide +kernel
theorem dX5_ring_8 : decode cX5_ring 8 = .ok (.invokevirtual 66, 3) := by decide +kernel
theorem dX5_ring_11 : decode cX5_ring 11 = .ok (.istore_n 1, 1) := by decide +kernel
theorem dX5_ring_12 : decode cX5_ring 12 = .ok (.aload_n 0, 1) := by decide +kernel
theorem dX5_ring_13 : decode cX5_ring 13 = .ok (.getfield 10, 3) := by decide +kernel
theorem dX5_ring_16 : decode cX5_ring 16 = .ok (.iconst 0, 1) := by decide +kernel
theorem dX5_ring_17 : decode cX5_ring 17 = .ok (.putfield 61, 3) := by decide +kernel
theorem dX5_ring_20 : decode cX5_ring 20 = .ok (.iload_n 1, 1) := by decide +kernel
theorem dX5_ring_21 : decode cX5_ring 21 = .ok (.iconst (-1), 1) := by decide +kernel
theorem dX5_ring_22 : decode cX5_ring 22 = .ok (.if_icmp .eq 8, 3) := by decide +kernel
theorem dX5_ring_25 : decode cX5_ring 25 = .ok (.bipush (-100), 2) := by decide +kernel
theorem dX5_ring_27 : decode cX5_ring 27 = .ok (.iload_n 1, 1) := by decide +kernel
theorem dX5_ring_28 : decode cX5_ring 28 = .ok (.isub, 1) := by decide +kernel
theorem dX5_ring_29 : decode cX5_ring 29 = .ok (.ireturn, 1) := by decide +kernel
theorem dX5_ring_30 : decode cX5_ring 30 = .ok (.aload_n 0, 1) := by decide +kernel
theorem dX5_ring_31 : decode cX5_ring 31 = .ok (.getfield 19, 3) := by decide +kernel
theorem dX5_ring_34 : decode cX5_ring 34 = .ok (.aload_n 0, 1) := by decide +kernel
theorem dX5_ring_35 : decode cX5_ring 35 = .ok (.getfield 23, 3) := by decide +kernel
theorem dX5_ring_38 : decode cX5_ring 38 = .ok (.invokevirtual 70, 3) := by decide +kernel
theorem dX5_ring_41 : decode cX5_ring 41 = .ok (.aload_n 0, 1) := by decide +kernel
theorem dX5_ring_42 : decode cX5_ring 42 = .ok (.getfield 31, 3) := by decide +kernel
theorem dX5_ring_45 : decode cX5_ring 45 = .ok (.iconst 0, 1) := by decide +kernel
theorem dX5_ring_46 : decode cX5_ring 46 = .ok (.iconst 1, 1) := by decide +kernel
theorem dX5_ring_47 : decode cX5_ring 47 = .ok (.iconst 1, 1) := by decide +kernel
theorem dX5_ring_48 : decode cX5_ring 48 = .ok (.invokevirtual 73, 3) := by decide +kernel
theorem dX5_ring_51 : decode cX5_ring 51 = .ok (.aload_n 0, 1) := by decide +kernel
theorem dX5_ring_52 : decode cX5_ring 52 = .ok (.getfield 41, 3) := by decide +kernel
theorem dX5_ring_55 : decode cX5_ring 55 = .ok (.invokevirtual 77, 3) := by decide +kernel
theorem dX5_ring_58 : decode cX5_ring 58 = .ok (.aload_n 0, 1) := by decide +kernel
theorem dX5_ring_59 : decode cX5_ring 59 = .ok (.getfield 19, 3) := by decide +kernel
theorem dX5_ring_62 : decode cX5_ring 62 = .ok (.getfield 80, 3) := by decide +kernel
theorem dX5_ring_65 : decode cX5_ring 65 = .ok (.ireturn, 1) := by decide +kernel
theorem dX5_fault_0 : decode cX5_fault 0 = .ok (.aload_n 0, 1) := by decide +kernel
theorem dX5_fault_1 : decode cX5_fault 1 = .ok (.getfield 10, 3) := by decide +kernel
theorem dX5_fault_4 : decode cX5_fault 4 = .ok (.getfield 83, 3) := by decide +kernel
theorem dX5_fault_7 : decode cX5_fault 7 = .ok (.ireturn, 1) := by decide +kernel
theorem dX5_begin_0 : decode cX5_begin 0 = .ok (.iload_n 1, 1) := by decide +kernel
theorem dX5_begin_1 : decode cX5_begin 1 = .ok (.iconst 1, 1) := by decide +kernel
theorem dX5_begin_2 : decode cX5_begin 2 = .ok (.iconst 4, 1) := by decide +kernel
theorem dX5_begin_3 : decode cX5_begin 3 = .ok (.invokestatic 52, 3) := by decide +kernel
theorem dX5_begin_6 : decode cX5_begin 6 = .ok (.ifCond .eq 23, 3) := by decide +kernel
theorem dX5_begin_9 : decode cX5_begin 9 = .ok (.iload_n 2, 1) := by decide +kernel
theorem dX5_begin_10 : decode cX5_begin 10 = .ok (.iconst 1, 1) := by decide +kernel
theorem dX5_begin_11 : decode cX5_begin 11 = .ok (.bipush 9, 2) := by decide +kernel
theorem dX5_begin_13 : decode cX5_begin 13 = .ok (.invokestatic 52, 3) := by decide +kernel
theorem dX5_begin_16 : decode cX5_begin 16 = .ok (.ifCond .eq 13, 3) := by decide +kernel
theorem dX5_begin_19 : decode cX5_begin 19 = .ok (.iload_n 3, 1) := by decide +kernel
theorem dX5_begin_20 : decode cX5_begin 20 = .ok (.iconst 1, 1) := by decide +kernel
theorem dX5_begin_21 : decode cX5_begin 21 = .ok (.ldc 86, 2) := by decide +kernel
theorem dX5_begin_23 : decode cX5_begin 23 = .ok (.invokestatic 52, 3) := by decide +kernel
theorem dX5_begin_26 : decode cX5_begin 26 = .ok (.ifCond .ne 6, 3) := by decide +kernel
theorem dX5_begin_29 : decode cX5_begin 29 = .ok (.ldc 56, 2) := by decide +kernel
theorem dX5_begin_31 : decode cX5_begin 31 = .ok (.ireturn, 1) := by decide +kernel
theorem dX5_begin_32 : decode cX5_begin 32 = .ok (.iload_n 1, 1) := by decide +kernel
theorem dX5_begin_33 : decode cX5_begin 33 = .ok (.iconst 3, 1) := by decide +kernel
theorem dX5_begin_34 : decode cX5_begin 34 = .ok (.if_icmp .eq 8, 3) := by decide +kernel
theorem dX5_begin_37 : decode cX5_begin 37 = .ok (.iload_n 1, 1) := by decide +kernel
theorem dX5_begin_38 : decode cX5_begin 38 = .ok (.iconst 4, 1) := by decide +kernel
theorem dX5_begin_39 : decode cX5_begin 39 = .ok (.if_icmp .ne 7, 3) := by decide +kernel
theorem dX5_begin_42 : decode cX5_begin 42 = .ok (.iconst 1, 1) := by decide +kernel
theorem dX5_begin_43 : decode cX5_begin 43 = .ok (.goto 4, 3) := by decide +kernel
theorem dX5_begin_46 : decode cX5_begin 46 = .ok (.iconst 0, 1) := by decide +kernel
theorem dX5_begin_47 : decode cX5_begin 47 = .ok (.istore 4, 2) := by decide +kernel
theorem dX5_begin_49 : decode cX5_begin 49 = .ok (.aload_n 0, 1) := by decide +kernel
theorem dX5_begin_50 : decode cX5_begin 50 = .ok (.getfield 19, 3) := by decide +kernel
theorem dX5_begin_53 : decode cX5_begin 53 = .ok (.getfield 80, 3) := by decide +kernel
theorem dX5_begin_56 : decode cX5_begin 56 = .ok (.ifCond .eq 18, 3) := by decide +kernel
theorem dX5_begin_59 : decode cX5_begin 59 = .ok (.iload 4, 2) := by decide +kernel
theorem dX5_begin_61 : decode cX5_begin 61 = .ok (.ifCond .eq 16, 3) := by decide +kernel
theorem dX5_begin_64 : decode cX5_begin 64 = .ok (.aload_n 0, 1) := by decide +kernel
theorem dX5_begin_65 : decode cX5_begin 65 = .ok (.getfield 19, 3) := by decide +kernel
theorem dX5_begin_68 : decode cX5_begin 68 = .ok (.invokevirtual 87, 3) := by decide +kernel
theorem dX5_begin_71 : decode cX5_begin 71 = .ok (.ifCond .ne 6, 3) := by decide +kernel
theorem dX5_begin_74 : decode cX5_begin 74 = .ok (.ldc 91, 2) := by decide +kernel
theorem dX5_begin_76 : decode cX5_begin 76 = .ok (.ireturn, 1) := by decide +kernel
theorem dX5_begin_77 : decode cX5_begin 77 = .ok (.aload_n 0, 1) := by decide +kernel
theorem dX5_begin_78 : decode cX5_begin 78 = .ok (.getfield 31, 3) := by decide +kernel
theorem dX5_begin_81 : decode cX5_begin 81 = .ok (.iload_n 1, 1) := by decide +kernel
theorem dX5_begin_82 : decode cX5_begin 82 = .ok (.iload_n 2, 1) := by decide +kernel
theorem dX5_begin_83 : decode cX5_begin 83 = .ok (.iload_n 3, 1) := by decide +kernel
theorem dX5_begin_84 : decode cX5_begin 84 = .ok (.invokevirtual 73, 3) := by decide +kernel
theorem dX5_begin_87 : decode cX5_begin 87 = .ok (.aload_n 0, 1) := by decide +kernel
theorem dX5_begin_88 : decode cX5_begin 88 = .ok (.getfield 41, 3) := by decide +kernel
theorem dX5_begin_91 : decode cX5_begin 91 = .ok (.invokevirtual 77, 3) := by decide +kernel
theorem dX5_begin_94 : decode cX5_begin 94 = .ok (.iconst 1, 1) := by decide +kernel
theorem dX5_begin_95 : decode cX5_begin 95 = .ok (.ireturn, 1) := by decide +kernel
theorem dX5_wake_0 : decode cX5_wake 0 = .ok (.aload_n 0, 1) := by decide +kernel
theorem dX5_wake_1 : decode cX5_wake 1 = .ok (.getfield 19, 3) := by decide +kernel
theorem dX5_wake_4 : decode cX5_wake 4 = .ok (.iload_n 1, 1) := by decide +kernel
theorem dX5_wake_5 : decode cX5_wake 5 = .ok (.invokevirtual 92, 3) := by decide +kernel
theorem dX5_wake_8 : decode cX5_wake 8 = .ok (.ifCond .ne 6, 3) := by decide +kernel
theorem dX5_wake_11 : decode cX5_wake 11 = .ok (.ldc 95, 2) := by decide +kernel
theorem dX5_wake_13 : decode cX5_wake 13 = .ok (.ireturn, 1) := by decide +kernel
theorem dX5_wake_14 : decode cX5_wake 14 = .ok (.aload_n 0, 1) := by decide +kernel
theorem dX5_wake_15 : decode cX5_wake 15 = .ok (.getfield 31, 3) := by decide +kernel
theorem dX5_wake_18 : decode cX5_wake 18 = .ok (.invokevirtual 96, 3) := by decide +kernel
theorem dX5_wake_21 : decode cX5_wake 21 = .ok (.ifCond .eq 15, 3) := by decide +kernel
theorem dX5_wake_24 : decode cX5_wake 24 = .ok (.aload_n 0, 1) := by decide +kernel
theorem dX5_wake_25 : decode cX5_wake 25 = .ok (.getfield 31, 3) := by decide +kernel
theorem dX5_wake_28 : decode cX5_wake 28 = .ok (.iload_n 1, 1) := by decide +kernel
theorem dX5_wake_29 : decode cX5_wake 29 = .ok (.iconst 0, 1) := by decide +kernel
theorem dX5_wake_30 : decode cX5_wake 30 = .ok (.invokevirtual 99, 3) := by decide +kernel
theorem dX5_wake_33 : decode cX5_wake 33 = .ok (.ifCond .eq 6, 3) := by decide +kernel
theorem dX5_wake_36 : decode cX5_wake 36 = .ok (.ldc 91, 2) := by decide +kernel
theorem dX5_wake_38 : decode cX5_wake 38 = .ok (.ireturn, 1) := by decide +kernel
theorem dX5_wake_39 : decode cX5_wake 39 = .ok (.aload_n 0, 1) := by decide +kernel
theorem dX5_wake_40 : decode cX5_wake 40 = .ok (.getfield 41, 3) := by decide +kernel
theorem dX5_wake_43 : decode cX5_wake 43 = .ok (.aload_n 0, 1) := by decide +kernel
theorem dX5_wake_44 : decode cX5_wake 44 = .ok (.getfield 31, 3) := by decide +kernel
theorem dX5_wake_47 : decode cX5_wake 47 = .ok (.invokevirtual 103, 3) := by decide +kernel
theorem dX5_wake_50 : decode cX5_wake 50 = .ok (.aload_n 0, 1) := by decide +kernel
theorem dX5_wake_51 : decode cX5_wake 51 = .ok (.getfield 31, 3) := by decide +kernel
theorem dX5_wake_54 : decode cX5_wake 54 = .ok (.iconst 0, 1) := by decide +kernel
theorem dX5_wake_55 : decode cX5_wake 55 = .ok (.invokevirtual 107, 3) := by decide +kernel
theorem dX5_wake_58 : decode cX5_wake 58 = .ok (.istore_n 2, 1) := by decide +kernel
theorem dX5_wake_59 : decode cX5_wake 59 = .ok (.aload_n 0, 1) := by decide +kernel
theorem dX5_wake_60 : decode cX5_wake 60 = .ok (.getfield 31, 3) := by decide +kernel
theorem dX5_wake_63 : decode cX5_wake 63 = .ok (.iload_n 1, 1) := by decide +kernel
theorem dX5_wake_64 : decode cX5_wake 64 = .ok (.invokevirtual 111, 3) := by decide +kernel
theorem dX5_wake_67 : decode cX5_wake 67 = .ok (.aload_n 0, 1) := by decide +kernel
theorem dX5_wake_68 : decode cX5_wake 68 = .ok (.getfield 31, 3) := by decide +kernel
theorem dX5_wake_71 : decode cX5_wake 71 = .ok (.iconst 0, 1) := by decide +kernel
theorem dX5_wake_72 : decode cX5_wake 72 = .ok (.invokevirtual 107, 3) := by decide +kernel
theorem dX5_wake_75 : decode cX5_wake 75 = .ok (.iload_n 2, 1) := by decide +kernel
theorem dX5_wake_76 : decode cX5_wake 76 = .ok (.isub, 1) := by decide +kernel
theorem dX5_wake_77 : decode cX5_wake 77 = .ok (.ireturn, 1) := by decide +kernel
theorem dX5_deliver_0 : decode cX5_deliver 0 = .ok (.aload_n 0, 1) := by decide +kernel
theorem dX5_deliver_1 : decode cX5_deliver 1 = .ok (.getfield 19, 3) := by decide +kernel
theorem dX5_deliver_4 : decode cX5_deliver 4 = .ok (.iload_n 1, 1) := by decide +kernel
theorem dX5_deliver_5 : decode cX5_deliver 5 = .ok (.invokevirtual 115, 3) := by decide +kernel
theorem dX5_deliver_8 : decode cX5_deliver 8 = .ok (.ifCond .ne 6, 3) := by decide +kernel
theorem dX5_deliver_11 : decode cX5_deliver 11 = .ok (.ldc 95, 2) := by decide +kernel
theorem dX5_deliver_13 : decode cX5_deliver 13 = .ok (.ireturn, 1) := by decide +kernel
theorem dX5_deliver_14 : decode cX5_deliver 14 = .ok (.aload_n 0, 1) := by decide +kernel
theorem dX5_deliver_15 : decode cX5_deliver 15 = .ok (.getfield 31, 3) := by decide +kernel
theorem dX5_deliver_18 : decode cX5_deliver 18 = .ok (.iload_n 1, 1) := by decide +kernel
theorem dX5_deliver_19 : decode cX5_deliver 19 = .ok (.invokevirtual 118, 3) := by decide +kernel
theorem dX5_deliver_22 : decode cX5_deliver 22 = .ok (.ifCond .ne 6, 3) := by decide +kernel
theorem dX5_deliver_25 : decode cX5_deliver 25 = .ok (.ldc 91, 2) := by decide +kernel
theorem dX5_deliver_27 : decode cX5_deliver 27 = .ok (.ireturn, 1) := by decide +kernel
theorem dX5_deliver_28 : decode cX5_deliver 28 = .ok (.aload_n 0, 1) := by decide +kernel
theorem dX5_deliver_29 : decode cX5_deliver 29 = .ok (.getfield 41, 3) := by decide +kernel
theorem dX5_deliver_32 : decode cX5_deliver 32 = .ok (.aload_n 0, 1) := by decide +kernel
theorem dX5_deliver_33 : decode cX5_deliver 33 = .ok (.getfield 31, 3) := by decide +kernel
theorem dX5_deliver_36 : decode cX5_deliver 36 = .ok (.invokevirtual 103, 3) := by decide +kernel
theorem dX5_deliver_39 : decode cX5_deliver 39 = .ok (.aload_n 0, 1) := by decide +kernel
theorem dX5_deliver_40 : decode cX5_deliver 40 = .ok (.getfield 31, 3) := by decide +kernel
theorem dX5_deliver_43 : decode cX5_deliver 43 = .ok (.iload_n 1, 1) := by decide +kernel
theorem dX5_deliver_44 : decode cX5_deliver 44 = .ok (.invokevirtual 121, 3) := by decide +kernel
theorem dX5_deliver_47 : decode cX5_deliver 47 = .ok (.ireturn, 1) := by decide +kernel
theorem dX5_run_0 : decode cX5_run 0 = .ok (.iload_n 1, 1) := by decide +kernel
theorem dX5_run_1 : decode cX5_run 1 = .ok (.iconst 0, 1) := by decide +kernel
theorem dX5_run_2 : decode cX5_run 2 = .ok (.iconst 3, 1) := by decide +kernel
theorem dX5_run_3 : decode cX5_run 3 = .ok (.invokestatic 52, 3) := by decide +kernel
theorem dX5_run_6 : decode cX5_run 6 = .ok (.ifCond .eq 24, 3) := by decide +kernel
theorem dX5_run_9 : decode cX5_run 9 = .ok (.iload_n 2, 1) := by decide +kernel
theorem dX5_run_10 : decode cX5_run 10 = .ok (.iconst 1, 1) := by decide +kernel
theorem dX5_run_11 : decode cX5_run 11 = .ok (.ldc 86, 2) := by decide +kernel
theorem dX5_run_13 : decode cX5_run 13 = .ok (.invokestatic 52, 3) := by decide +kernel
theorem dX5_run_16 : decode cX5_run 16 = .ok (.ifCond .eq 14, 3) := by decide +kernel
theorem dX5_run_19 : decode cX5_run 19 = .ok (.iload_n 3, 1) := by decide +kernel
theorem dX5_run_20 : decode cX5_run 20 = .ok (.iconst 0, 1) := by decide +kernel
theorem dX5_run_21 : decode cX5_run 21 = .ok (.sipush 200, 3) := by decide +kernel
theorem dX5_run_24 : decode cX5_run 24 = .ok (.invokestatic 52, 3) := by decide +kernel
theorem dX5_run_27 : decode cX5_run 27 = .ok (.ifCond .ne 6, 3) := by decide +kernel
theorem dX5_run_30 : decode cX5_run 30 = .ok (.ldc 56, 2) := by decide +kernel
theorem dX5_run_32 : decode cX5_run 32 = .ok (.ireturn, 1) := by decide +kernel
theorem dX5_run_33 : decode cX5_run 33 = .ok (.aload_n 0, 1) := by decide +kernel
theorem dX5_run_34 : decode cX5_run 34 = .ok (.getfield 31, 3) := by decide +kernel
theorem dX5_run_37 : decode cX5_run 37 = .ok (.invokevirtual 96, 3) := by decide +kernel
theorem dX5_run_40 : decode cX5_run 40 = .ok (.ifCond .ne 6, 3) := by decide +kernel
theorem dX5_run_43 : decode cX5_run 43 = .ok (.ldc 91, 2) := by decide +kernel
theorem dX5_run_45 : decode cX5_run 45 = .ok (.ireturn, 1) := by decide +kernel
theorem dX5_run_46 : decode cX5_run 46 = .ok (.iload_n 3, 1) := by decide +kernel
theorem dX5_run_47 : decode cX5_run 47 = .ok (.ifCond .eq 13, 3) := by decide +kernel
theorem dX5_run_50 : decode cX5_run 50 = .ok (.aload_n 0, 1) := by decide +kernel
theorem dX5_run_51 : decode cX5_run 51 = .ok (.getfield 31, 3) := by decide +kernel
theorem dX5_run_54 : decode cX5_run 54 = .ok (.getfield 124, 3) := by decide +kernel
theorem dX5_run_57 : decode cX5_run 57 = .ok (.ifCond .ne 5, 3) := by decide +kernel
theorem dX5_run_60 : decode cX5_run 60 = .ok (.iconst 0, 1) := by decide +kernel
theorem dX5_run_61 : decode cX5_run 61 = .ok (.ireturn, 1) := by decide +kernel
theorem dX5_run_62 : decode cX5_run 62 = .ok (.aload_n 0, 1) := by decide +kernel
theorem dX5_run_63 : decode cX5_run 63 = .ok (.getfield 41, 3) := by decide +kernel
theorem dX5_run_66 : decode cX5_run 66 = .ok (.aload_n 0, 1) := by decide +kernel
theorem dX5_run_67 : decode cX5_run 67 = .ok (.getfield 31, 3) := by decide +kernel
theorem dX5_run_70 : decode cX5_run 70 = .ok (.invokevirtual 103, 3) := by decide +kernel
theorem dX5_run_73 : decode cX5_run 73 = .ok (.aload_n 0, 1) := by decide +kernel
theorem dX5_run_74 : decode cX5_run 74 = .ok (.getfield 31, 3) := by decide +kernel
theorem dX5_run_77 : decode cX5_run 77 = .ok (.iload_n 1, 1) := by decide +kernel
theorem dX5_run_78 : decode cX5_run 78 = .ok (.iload_n 2, 1) := by decide +kernel
theorem dX5_run_79 : decode cX5_run 79 = .ok (.iload_n 3, 1) := by decide +kernel
theorem dX5_run_80 : decode cX5_run 80 = .ok (.invokevirtual 127, 3) := by decide +kernel
theorem dX5_run_83 : decode cX5_run 83 = .ok (.ireturn, 1) := by decide +kernel
theorem dX5_undo_0 : decode cX5_undo 0 = .ok (.aload_n 0, 1) := by decide +kernel
theorem dX5_undo_1 : decode cX5_undo 1 = .ok (.getfield 41, 3) := by decide +kernel
theorem dX5_undo_4 : decode cX5_undo 4 = .ok (.aload_n 0, 1) := by decide +kernel
theorem dX5_undo_5 : decode cX5_undo 5 = .ok (.getfield 31, 3) := by decide +kernel
theorem dX5_undo_8 : decode cX5_undo 8 = .ok (.invokevirtual 131, 3) := by decide +kernel
theorem dX5_undo_11 : decode cX5_undo 11 = .ok (.ifCond .ne 6, 3) := by decide +kernel
theorem dX5_undo_14 : decode cX5_undo 14 = .ok (.ldc 91, 2) := by decide +kernel
theorem dX5_undo_16 : decode cX5_undo 16 = .ok (.ireturn, 1) := by decide +kernel
theorem dX5_undo_17 : decode cX5_undo 17 = .ok (.aload_n 0, 1) := by decide +kernel
theorem dX5_undo_18 : decode cX5_undo 18 = .ok (.getfield 41, 3) := by decide +kernel
theorem dX5_undo_21 : decode cX5_undo 21 = .ok (.getfield 135, 3) := by decide +kernel
theorem dX5_undo_24 : decode cX5_undo 24 = .ok (.ireturn, 1) := by decide +kernel
theorem dX5_contender_0 : decode cX5_contender 0 = .ok (.aload_n 0, 1) := by decide +kernel
theorem dX5_contender_1 : decode cX5_contender 1 = .ok (.getfield 19, 3) := by decide +kernel
theorem dX5_contender_4 : decode cX5_contender 4 = .ok (.iload_n 1, 1) := by decide +kernel
theorem dX5_contender_5 : decode cX5_contender 5 = .ok (.invokevirtual 92, 3) := by decide +kernel
theorem dX5_contender_8 : decode cX5_contender 8 = .ok (.ifCond .ne 6, 3) := by decide +kernel
theorem dX5_contender_11 : decode cX5_contender 11 = .ok (.ldc 95, 2) := by decide +kernel
theorem dX5_contender_13 : decode cX5_contender 13 = .ok (.ireturn, 1) := by decide +kernel
theorem dX5_contender_14 : decode cX5_contender 14 = .ok (.iload_n 2, 1) := by decide +kernel
theorem dX5_contender_15 : decode cX5_contender 15 = .ok (.tableswitch 110 0 6 #[41, 50, 60, 70, 80, 90, 100], 41) := by decide +kernel
theorem dX5_contender_56 : decode cX5_contender 56 = .ok (.aload_n 0, 1) := by decide +kernel
theorem dX5_contender_57 : decode cX5_contender 57 = .ok (.getfield 19, 3) := by decide +kernel
theorem dX5_contender_60 : decode cX5_contender 60 = .ok (.iload_n 1, 1) := by decide +kernel
theorem dX5_contender_61 : decode cX5_contender 61 = .ok (.invokevirtual 136, 3) := by decide +kernel
theorem dX5_contender_64 : decode cX5_contender 64 = .ok (.ireturn, 1) := by decide +kernel
theorem dX5_contender_65 : decode cX5_contender 65 = .ok (.aload_n 0, 1) := by decide +kernel
theorem dX5_contender_66 : decode cX5_contender 66 = .ok (.getfield 31, 3) := by decide +kernel
theorem dX5_contender_69 : decode cX5_contender 69 = .ok (.iload_n 1, 1) := by decide +kernel
theorem dX5_contender_70 : decode cX5_contender 70 = .ok (.iconst 1, 1) := by decide +kernel
theorem dX5_contender_71 : decode cX5_contender 71 = .ok (.invokevirtual 99, 3) := by decide +kernel
theorem dX5_contender_74 : decode cX5_contender 74 = .ok (.ireturn, 1) := by decide +kernel
theorem dX5_contender_75 : decode cX5_contender 75 = .ok (.aload_n 0, 1) := by decide +kernel
theorem dX5_contender_76 : decode cX5_contender 76 = .ok (.getfield 31, 3) := by decide +kernel
theorem dX5_contender_79 : decode cX5_contender 79 = .ok (.iload_n 1, 1) := by decide +kernel
theorem dX5_contender_80 : decode cX5_contender 80 = .ok (.iconst 0, 1) := by decide +kernel
theorem dX5_contender_81 : decode cX5_contender 81 = .ok (.invokevirtual 99, 3) := by decide +kernel
theorem dX5_contender_84 : decode cX5_contender 84 = .ok (.ireturn, 1) := by decide +kernel
theorem dX5_contender_85 : decode cX5_contender 85 = .ok (.aload_n 0, 1) := by decide +kernel
theorem dX5_contender_86 : decode cX5_contender 86 = .ok (.getfield 31, 3) := by decide +kernel
theorem dX5_contender_89 : decode cX5_contender 89 = .ok (.iload_n 1, 1) := by decide +kernel
theorem dX5_contender_90 : decode cX5_contender 90 = .ok (.iconst 2, 1) := by decide +kernel
theorem dX5_contender_91 : decode cX5_contender 91 = .ok (.invokevirtual 99, 3) := by decide +kernel
theorem dX5_contender_94 : decode cX5_contender 94 = .ok (.ireturn, 1) := by decide +kernel
theorem dX5_contender_95 : decode cX5_contender 95 = .ok (.aload_n 0, 1) := by decide +kernel
theorem dX5_contender_96 : decode cX5_contender 96 = .ok (.getfield 31, 3) := by decide +kernel
theorem dX5_contender_99 : decode cX5_contender 99 = .ok (.iload_n 1, 1) := by decide +kernel
theorem dX5_contender_100 : decode cX5_contender 100 = .ok (.iconst 3, 1) := by decide +kernel
theorem dX5_contender_101 : decode cX5_contender 101 = .ok (.invokevirtual 99, 3) := by decide +kernel
theorem dX5_contender_104 : decode cX5_contender 104 = .ok (.ireturn, 1) := by decide +kernel
theorem dX5_contender_105 : decode cX5_contender 105 = .ok (.aload_n 0, 1) := by decide +kernel
theorem dX5_contender_106 : decode cX5_contender 106 = .ok (.getfield 31, 3) := by decide +kernel
theorem dX5_contender_109 : decode cX5_contender 109 = .ok (.iload_n 1, 1) := by decide +kernel
theorem dX5_contender_110 : decode cX5_contender 110 = .ok (.iconst 4, 1) := by decide +kernel
theorem dX5_contender_111 : decode cX5_contender 111 = .ok (.invokevirtual 99, 3) := by decide +kernel
theorem dX5_contender_114 : decode cX5_contender 114 = .ok (.ireturn, 1) := by decide +kernel
theorem dX5_contender_115 : decode cX5_contender 115 = .ok (.aload_n 0, 1) := by decide +kernel
theorem dX5_contender_116 : decode cX5_contender 116 = .ok (.getfield 31, 3) := by decide +kernel
theorem dX5_contender_119 : decode cX5_contender 119 = .ok (.iload_n 1, 1) := by decide +kernel
theorem dX5_contender_120 : decode cX5_contender 120 = .ok (.iconst 5, 1) := by decide +kernel
theorem dX5_contender_121 : decode cX5_contender 121 = .ok (.invokevirtual 99, 3) := by decide +kernel
theorem dX5_contender_124 : decode cX5_contender 124 = .ok (.ireturn, 1) := by decide +kernel
theorem dX5_contender_125 : decode cX5_contender 125 = .ok (.ldc 56, 2) := by decide +kernel
theorem dX5_contender_127 : decode cX5_contender 127 = .ok (.ireturn, 1) := by decide +kernel
theorem dX5_link_0 : decode cX5_link 0 = .ok (.aload_n 0, 1) := by decide +kernel
theorem dX5_link_1 : decode cX5_link 1 = .ok (.getfield 19, 3) := by decide +kernel
theorem dX5_link_4 : decode cX5_link 4 = .ok (.iload_n 1, 1) := by decide +kernel
theorem dX5_link_5 : decode cX5_link 5 = .ok (.invokevirtual 115, 3) := by decide +kernel
theorem dX5_link_8 : decode cX5_link 8 = .ok (.ifCond .eq 14, 3) := by decide +kernel
theorem dX5_link_11 : decode cX5_link 11 = .ok (.aload_n 0, 1) := by decide +kernel
theorem dX5_link_12 : decode cX5_link 12 = .ok (.getfield 31, 3) := by decide +kernel
theorem dX5_link_15 : decode cX5_link 15 = .ok (.iload_n 1, 1) := by decide +kernel
theorem dX5_link_16 : decode cX5_link 16 = .ok (.invokevirtual 139, 3) := by decide +kernel
theorem dX5_link_19 : decode cX5_link 19 = .ok (.goto 5, 3) := by decide +kernel
theorem dX5_link_22 : decode cX5_link 22 = .ok (.ldc 95, 2) := by decide +kernel
theorem dX5_link_24 : decode cX5_link 24 = .ok (.ireturn, 1) := by decide +kernel
theorem dX5_letter_0 : decode cX5_letter 0 = .ok (.aload_n 0, 1) := by decide +kernel
theorem dX5_letter_1 : decode cX5_letter 1 = .ok (.getfield 19, 3) := by decide +kernel
theorem dX5_letter_4 : decode cX5_letter 4 = .ok (.iload_n 1, 1) := by decide +kernel
theorem dX5_letter_5 : decode cX5_letter 5 = .ok (.invokevirtual 115, 3) := by decide +kernel
theorem dX5_letter_8 : decode cX5_letter 8 = .ok (.ifCond .ne 6, 3) := by decide +kernel
theorem dX5_letter_11 : decode cX5_letter 11 = .ok (.ldc 95, 2) := by decide +kernel
theorem dX5_letter_13 : decode cX5_letter 13 = .ok (.ireturn, 1) := by decide +kernel
theorem dX5_letter_14 : decode cX5_letter 14 = .ok (.aload_n 0, 1) := by decide +kernel
theorem dX5_letter_15 : decode cX5_letter 15 = .ok (.getfield 31, 3) := by decide +kernel
theorem dX5_letter_18 : decode cX5_letter 18 = .ok (.iload_n 1, 1) := by decide +kernel
theorem dX5_letter_19 : decode cX5_letter 19 = .ok (.iload_n 2, 1) := by decide +kernel
theorem dX5_letter_20 : decode cX5_letter 20 = .ok (.invokevirtual 142, 3) := by decide +kernel
theorem dX5_letter_23 : decode cX5_letter 23 = .ok (.istore 4, 2) := by decide +kernel
theorem dX5_letter_25 : decode cX5_letter 25 = .ok (.iload 4, 2) := by decide +kernel
theorem dX5_letter_27 : decode cX5_letter 27 = .ok (.iconst (-1), 1) := by decide +kernel
theorem dX5_letter_28 : decode cX5_letter 28 = .ok (.if_icmp .ne 6, 3) := by decide +kernel
theorem dX5_letter_31 : decode cX5_letter 31 = .ok (.ldc 95, 2) := by decide +kernel
theorem dX5_letter_33 : decode cX5_letter 33 = .ok (.ireturn, 1) := by decide +kernel
theorem dX5_letter_34 : decode cX5_letter 34 = .ok (.iload_n 3, 1) := by decide +kernel
theorem dX5_letter_35 : decode cX5_letter 35 = .ok (.tableswitch 88 0 4 #[33, 44, 55, 66, 77], 33) := by decide +kernel
theorem dX5_letter_68 : decode cX5_letter 68 = .ok (.aload_n 0, 1) := by decide +kernel
theorem dX5_letter_69 : decode cX5_letter 69 = .ok (.getfield 31, 3) := by decide +kernel
theorem dX5_letter_72 : decode cX5_letter 72 = .ok (.iload 4, 2) := by decide +kernel
theorem dX5_letter_74 : decode cX5_letter 74 = .ok (.iconst 1, 1) := by decide +kernel
theorem dX5_letter_75 : decode cX5_letter 75 = .ok (.invokevirtual 145, 3) := by decide +kernel
theorem dX5_letter_78 : decode cX5_letter 78 = .ok (.ireturn, 1) := by decide +kernel
theorem dX5_letter_79 : decode cX5_letter 79 = .ok (.aload_n 0, 1) := by decide +kernel
theorem dX5_letter_80 : decode cX5_letter 80 = .ok (.getfield 31, 3) := by decide +kernel
theorem dX5_letter_83 : decode cX5_letter 83 = .ok (.iload 4, 2) := by decide +kernel
theorem dX5_letter_85 : decode cX5_letter 85 = .ok (.iconst 2, 1) := by decide +kernel
theorem dX5_letter_86 : decode cX5_letter 86 = .ok (.invokevirtual 145, 3) := by decide +kernel
theorem dX5_letter_89 : decode cX5_letter 89 = .ok (.ireturn, 1) := by decide +kernel
theorem dX5_letter_90 : decode cX5_letter 90 = .ok (.aload_n 0, 1) := by decide +kernel
theorem dX5_letter_91 : decode cX5_letter 91 = .ok (.getfield 31, 3) := by decide +kernel
theorem dX5_letter_94 : decode cX5_letter 94 = .ok (.iload 4, 2) := by decide +kernel
theorem dX5_letter_96 : decode cX5_letter 96 = .ok (.iconst 3, 1) := by decide +kernel
theorem dX5_letter_97 : decode cX5_letter 97 = .ok (.invokevirtual 145, 3) := by decide +kernel
theorem dX5_letter_100 : decode cX5_letter 100 = .ok (.ireturn, 1) := by decide +kernel
theorem dX5_letter_101 : decode cX5_letter 101 = .ok (.aload_n 0, 1) := by decide +kernel
theorem dX5_letter_102 : decode cX5_letter 102 = .ok (.getfield 31, 3) := by decide +kernel
theorem dX5_letter_105 : decode cX5_letter 105 = .ok (.iload 4, 2) := by decide +kernel
theorem dX5_letter_107 : decode cX5_letter 107 = .ok (.iconst 4, 1) := by decide +kernel
theorem dX5_letter_108 : decode cX5_letter 108 = .ok (.invokevirtual 145, 3) := by decide +kernel
theorem dX5_letter_111 : decode cX5_letter 111 = .ok (.ireturn, 1) := by decide +kernel
theorem dX5_letter_112 : decode cX5_letter 112 = .ok (.aload_n 0, 1) := by decide +kernel
theorem dX5_letter_113 : decode cX5_letter 113 = .ok (.getfield 31, 3) := by decide +kernel
theorem dX5_letter_116 : decode cX5_letter 116 = .ok (.iload 4, 2) := by decide +kernel
theorem dX5_letter_118 : decode cX5_letter 118 = .ok (.iconst 5, 1) := by decide +kernel
theorem dX5_letter_119 : decode cX5_letter 119 = .ok (.invokevirtual 145, 3) := by decide +kernel
theorem dX5_letter_122 : decode cX5_letter 122 = .ok (.ireturn, 1) := by decide +kernel
theorem dX5_letter_123 : decode cX5_letter 123 = .ok (.ldc 56, 2) := by decide +kernel
theorem dX5_letter_125 : decode cX5_letter 125 = .ok (.ireturn, 1) := by decide +kernel
theorem dX5_sent_0 : decode cX5_sent 0 = .ok (.iload_n 1, 1) := by decide +kernel
theorem dX5_sent_1 : decode cX5_sent 1 = .ok (.iconst 0, 1) := by decide +kernel
theorem dX5_sent_2 : decode cX5_sent 2 = .ok (.bipush 7, 2) := by decide +kernel
theorem dX5_sent_4 : decode cX5_sent 4 = .ok (.invokestatic 52, 3) := by decide +kernel
theorem dX5_sent_7 : decode cX5_sent 7 = .ok (.ifCond .eq 14, 3) := by decide +kernel
theorem dX5_sent_10 : decode cX5_sent 10 = .ok (.aload_n 0, 1) := by decide +kernel
theorem dX5_sent_11 : decode cX5_sent 11 = .ok (.getfield 31, 3) := by decide +kernel
theorem dX5_sent_14 : decode cX5_sent 14 = .ok (.iload_n 1, 1) := by decide +kernel
theorem dX5_sent_15 : decode cX5_sent 15 = .ok (.invokevirtual 107, 3) := by decide +kernel
theorem dX5_sent_18 : decode cX5_sent 18 = .ok (.goto 5, 3) := by decide +kernel
theorem dX5_sent_21 : decode cX5_sent 21 = .ok (.ldc 56, 2) := by decide +kernel
theorem dX5_sent_23 : decode cX5_sent 23 = .ok (.ireturn, 1) := by decide +kernel
theorem dX5_would_0 : decode cX5_would 0 = .ok (.iload_n 1, 1) := by decide +kernel
theorem dX5_would_1 : decode cX5_would 1 = .ok (.iconst 0, 1) := by decide +kernel
theorem dX5_would_2 : decode cX5_would 2 = .ok (.iconst 3, 1) := by decide +kernel
theorem dX5_would_3 : decode cX5_would 3 = .ok (.invokestatic 52, 3) := by decide +kernel
theorem dX5_would_6 : decode cX5_would 6 = .ok (.ifCond .eq 22, 3) := by decide +kernel
theorem dX5_would_9 : decode cX5_would 9 = .ok (.iload_n 2, 1) := by decide +kernel
theorem dX5_would_10 : decode cX5_would 10 = .ok (.iconst 1, 1) := by decide +kernel
theorem dX5_would_11 : decode cX5_would 11 = .ok (.ldc 86, 2) := by decide +kernel
theorem dX5_would_13 : decode cX5_would 13 = .ok (.invokestatic 52, 3) := by decide +kernel
theorem dX5_would_16 : decode cX5_would 16 = .ok (.ifCond .eq 12, 3) := by decide +kernel
theorem dX5_would_19 : decode cX5_would 19 = .ok (.iload_n 3, 1) := by decide +kernel
theorem dX5_would_20 : decode cX5_would 20 = .ok (.iconst 0, 1) := by decide +kernel
theorem dX5_would_21 : decode cX5_would 21 = .ok (.iconst 4, 1) := by decide +kernel
theorem dX5_would_22 : decode cX5_would 22 = .ok (.invokestatic 52, 3) := by decide +kernel
theorem dX5_would_25 : decode cX5_would 25 = .ok (.ifCond .ne 6, 3) := by decide +kernel
theorem dX5_would_28 : decode cX5_would 28 = .ok (.ldc 56, 2) := by decide +kernel
theorem dX5_would_30 : decode cX5_would 30 = .ok (.ireturn, 1) := by decide +kernel
theorem dX5_would_31 : decode cX5_would 31 = .ok (.aload_n 0, 1) := by decide +kernel
theorem dX5_would_32 : decode cX5_would 32 = .ok (.getfield 31, 3) := by decide +kernel
theorem dX5_would_35 : decode cX5_would 35 = .ok (.invokevirtual 96, 3) := by decide +kernel
theorem dX5_would_38 : decode cX5_would 38 = .ok (.ifCond .ne 6, 3) := by decide +kernel
theorem dX5_would_41 : decode cX5_would 41 = .ok (.ldc 91, 2) := by decide +kernel
theorem dX5_would_43 : decode cX5_would 43 = .ok (.ireturn, 1) := by decide +kernel
theorem dX5_would_44 : decode cX5_would 44 = .ok (.aload_n 0, 1) := by decide +kernel
theorem dX5_would_45 : decode cX5_would 45 = .ok (.getfield 35, 3) := by decide +kernel
theorem dX5_would_48 : decode cX5_would 48 = .ok (.aload_n 0, 1) := by decide +kernel
theorem dX5_would_49 : decode cX5_would 49 = .ok (.getfield 31, 3) := by decide +kernel
theorem dX5_would_52 : decode cX5_would 52 = .ok (.invokevirtual 148, 3) := by decide +kernel
theorem dX5_would_55 : decode cX5_would 55 = .ok (.aload_n 0, 1) := by decide +kernel
theorem dX5_would_56 : decode cX5_would 56 = .ok (.getfield 35, 3) := by decide +kernel
theorem dX5_would_59 : decode cX5_would 59 = .ok (.iload_n 1, 1) := by decide +kernel
theorem dX5_would_60 : decode cX5_would 60 = .ok (.iload_n 2, 1) := by decide +kernel
theorem dX5_would_61 : decode cX5_would 61 = .ok (.sipush 300, 3) := by decide +kernel
theorem dX5_would_64 : decode cX5_would 64 = .ok (.invokevirtual 127, 3) := by decide +kernel
theorem dX5_would_67 : decode cX5_would 67 = .ok (.istore 4, 2) := by decide +kernel
theorem dX5_would_69 : decode cX5_would 69 = .ok (.iload_n 3, 1) := by decide +kernel
theorem dX5_would_70 : decode cX5_would 70 = .ok (.tableswitch 77 0 3 #[30, 33, 51, 59], 30) := by decide +kernel
theorem dX5_would_100 : decode cX5_would 100 = .ok (.iload 4, 2) := by decide +kernel
theorem dX5_would_102 : decode cX5_would 102 = .ok (.ireturn, 1) := by decide +kernel
theorem dX5_would_103 : decode cX5_would 103 = .ok (.aload_n 0, 1) := by decide +kernel
theorem dX5_would_104 : decode cX5_would 104 = .ok (.getfield 35, 3) := by decide +kernel
theorem dX5_would_107 : decode cX5_would 107 = .ok (.iconst 0, 1) := by decide +kernel
theorem dX5_would_108 : decode cX5_would 108 = .ok (.invokevirtual 107, 3) := by decide +kernel
theorem dX5_would_111 : decode cX5_would 111 = .ok (.aload_n 0, 1) := by decide +kernel
theorem dX5_would_112 : decode cX5_would 112 = .ok (.getfield 31, 3) := by decide +kernel
theorem dX5_would_115 : decode cX5_would 115 = .ok (.iconst 0, 1) := by decide +kernel
theorem dX5_would_116 : decode cX5_would 116 = .ok (.invokevirtual 107, 3) := by decide +kernel
theorem dX5_would_119 : decode cX5_would 119 = .ok (.isub, 1) := by decide +kernel
theorem dX5_would_120 : decode cX5_would 120 = .ok (.ireturn, 1) := by decide +kernel
theorem dX5_would_121 : decode cX5_would 121 = .ok (.aload_n 0, 1) := by decide +kernel
theorem dX5_would_122 : decode cX5_would 122 = .ok (.getfield 35, 3) := by decide +kernel
theorem dX5_would_125 : decode cX5_would 125 = .ok (.invokevirtual 150, 3) := by decide +kernel
theorem dX5_would_128 : decode cX5_would 128 = .ok (.ireturn, 1) := by decide +kernel
theorem dX5_would_129 : decode cX5_would 129 = .ok (.aload_n 0, 1) := by decide +kernel
theorem dX5_would_130 : decode cX5_would 130 = .ok (.getfield 35, 3) := by decide +kernel
theorem dX5_would_133 : decode cX5_would 133 = .ok (.iconst 3, 1) := by decide +kernel
theorem dX5_would_134 : decode cX5_would 134 = .ok (.invokevirtual 154, 3) := by decide +kernel
theorem dX5_would_137 : decode cX5_would 137 = .ok (.aload_n 0, 1) := by decide +kernel
theorem dX5_would_138 : decode cX5_would 138 = .ok (.getfield 35, 3) := by decide +kernel
theorem dX5_would_141 : decode cX5_would 141 = .ok (.iconst 4, 1) := by decide +kernel
theorem dX5_would_142 : decode cX5_would 142 = .ok (.invokevirtual 154, 3) := by decide +kernel
theorem dX5_would_145 : decode cX5_would 145 = .ok (.iadd, 1) := by decide +kernel
theorem dX5_would_146 : decode cX5_would 146 = .ok (.ireturn, 1) := by decide +kernel
theorem dX5_would_147 : decode cX5_would 147 = .ok (.aload_n 0, 1) := by decide +kernel
theorem dX5_would_148 : decode cX5_would 148 = .ok (.getfield 35, 3) := by decide +kernel
theorem dX5_would_151 : decode cX5_would 151 = .ok (.getfield 124, 3) := by decide +kernel
theorem dX5_would_154 : decode cX5_would 154 = .ok (.ifCond .ne 7, 3) := by decide +kernel
theorem dX5_would_157 : decode cX5_would 157 = .ok (.iconst 1, 1) := by decide +kernel
theorem dX5_would_158 : decode cX5_would 158 = .ok (.goto 4, 3) := by decide +kernel
theorem dX5_would_161 : decode cX5_would 161 = .ok (.iconst 0, 1) := by decide +kernel
theorem dX5_would_162 : decode cX5_would 162 = .ok (.ireturn, 1) := by decide +kernel
theorem dX5_foresee_0 : decode cX5_foresee 0 = .ok (.iload_n 1, 1) := by decide +kernel
theorem dX5_foresee_1 : decode cX5_foresee 1 = .ok (.iconst 1, 1) := by decide +kernel
theorem dX5_foresee_2 : decode cX5_foresee 2 = .ok (.iconst 3, 1) := by decide +kernel
theorem dX5_foresee_3 : decode cX5_foresee 3 = .ok (.invokestatic 52, 3) := by decide +kernel
theorem dX5_foresee_6 : decode cX5_foresee 6 = .ok (.ifCond .eq 12, 3) := by decide +kernel
theorem dX5_foresee_9 : decode cX5_foresee 9 = .ok (.iload_n 2, 1) := by decide +kernel
theorem dX5_foresee_10 : decode cX5_foresee 10 = .ok (.iconst 0, 1) := by decide +kernel
theorem dX5_foresee_11 : decode cX5_foresee 11 = .ok (.iconst 3, 1) := by decide +kernel
theorem dX5_foresee_12 : decode cX5_foresee 12 = .ok (.invokestatic 52, 3) := by decide +kernel
theorem dX5_foresee_15 : decode cX5_foresee 15 = .ok (.ifCond .ne 6, 3) := by decide +kernel
theorem dX5_foresee_18 : decode cX5_foresee 18 = .ok (.ldc 56, 2) := by decide +kernel
theorem dX5_foresee_20 : decode cX5_foresee 20 = .ok (.ireturn, 1) := by decide +kernel
theorem dX5_foresee_21 : decode cX5_foresee 21 = .ok (.aload_n 0, 1) := by decide +kernel
theorem dX5_foresee_22 : decode cX5_foresee 22 = .ok (.getfield 31, 3) := by decide +kernel
theorem dX5_foresee_25 : decode cX5_foresee 25 = .ok (.invokevirtual 96, 3) := by decide +kernel
theorem dX5_foresee_28 : decode cX5_foresee 28 = .ok (.ifCond .ne 6, 3) := by decide +kernel
theorem dX5_foresee_31 : decode cX5_foresee 31 = .ok (.ldc 91, 2) := by decide +kernel
theorem dX5_foresee_33 : decode cX5_foresee 33 = .ok (.ireturn, 1) := by decide +kernel
theorem dX5_foresee_34 : decode cX5_foresee 34 = .ok (.aload_n 0, 1) := by decide +kernel
theorem dX5_foresee_35 : decode cX5_foresee 35 = .ok (.getfield 31, 3) := by decide +kernel
theorem dX5_foresee_38 : decode cX5_foresee 38 = .ok (.invokevirtual 157, 3) := by decide +kernel
theorem dX5_foresee_41 : decode cX5_foresee 41 = .ok (.bipush 6, 2) := by decide +kernel
theorem dX5_foresee_43 : decode cX5_foresee 43 = .ok (.if_icmp .le 6, 3) := by decide +kernel
theorem dX5_foresee_46 : decode cX5_foresee 46 = .ok (.ldc 65, 2) := by decide +kernel
theorem dX5_foresee_48 : decode cX5_foresee 48 = .ok (.ireturn, 1) := by decide +kernel
theorem dX5_foresee_49 : decode cX5_foresee 49 = .ok (.aload_n 0, 1) := by decide +kernel
theorem dX5_foresee_50 : decode cX5_foresee 50 = .ok (.getfield 48, 3) := by decide +kernel
theorem dX5_foresee_53 : decode cX5_foresee 53 = .ok (.aload_n 0, 1) := by decide +kernel
theorem dX5_foresee_54 : decode cX5_foresee 54 = .ok (.getfield 31, 3) := by decide +kernel
theorem dX5_foresee_57 : decode cX5_foresee 57 = .ok (.invokevirtual 160, 3) := by decide +kernel
theorem dX5_foresee_60 : decode cX5_foresee 60 = .ok (.aload_n 0, 1) := by decide +kernel
theorem dX5_foresee_61 : decode cX5_foresee 61 = .ok (.getfield 48, 3) := by decide +kernel
theorem dX5_foresee_64 : decode cX5_foresee 64 = .ok (.aload_n 0, 1) := by decide +kernel
theorem dX5_foresee_65 : decode cX5_foresee 65 = .ok (.getfield 31, 3) := by decide +kernel
theorem dX5_foresee_68 : decode cX5_foresee 68 = .ok (.iload_n 1, 1) := by decide +kernel
theorem dX5_foresee_69 : decode cX5_foresee 69 = .ok (.invokestatic 163, 3) := by decide +kernel
theorem dX5_foresee_72 : decode cX5_foresee 72 = .ok (.iload_n 2, 1) := by decide +kernel
theorem dX5_foresee_73 : decode cX5_foresee 73 = .ok (.tableswitch 51 0 2 #[27, 35, 43], 27) := by decide +kernel
theorem dX5_foresee_100 : decode cX5_foresee 100 = .ok (.aload_n 0, 1) := by decide +kernel
theorem dX5_foresee_101 : decode cX5_foresee 101 = .ok (.getfield 48, 3) := by decide +kernel
theorem dX5_foresee_104 : decode cX5_foresee 104 = .ok (.getfield 167, 3) := by decide +kernel
theorem dX5_foresee_107 : decode cX5_foresee 107 = .ok (.ireturn, 1) := by decide +kernel
theorem dX5_foresee_108 : decode cX5_foresee 108 = .ok (.aload_n 0, 1) := by decide +kernel
theorem dX5_foresee_109 : decode cX5_foresee 109 = .ok (.getfield 48, 3) := by decide +kernel
theorem dX5_foresee_112 : decode cX5_foresee 112 = .ok (.getfield 170, 3) := by decide +kernel
theorem dX5_foresee_115 : decode cX5_foresee 115 = .ok (.ireturn, 1) := by decide +kernel
theorem dX5_foresee_116 : decode cX5_foresee 116 = .ok (.aload_n 0, 1) := by decide +kernel
theorem dX5_foresee_117 : decode cX5_foresee 117 = .ok (.getfield 48, 3) := by decide +kernel
theorem dX5_foresee_120 : decode cX5_foresee 120 = .ok (.getfield 173, 3) := by decide +kernel
theorem dX5_foresee_123 : decode cX5_foresee 123 = .ok (.ireturn, 1) := by decide +kernel
theorem dX5_foresee_124 : decode cX5_foresee 124 = .ok (.aload_n 0, 1) := by decide +kernel
theorem dX5_foresee_125 : decode cX5_foresee 125 = .ok (.getfield 48, 3) := by decide +kernel
theorem dX5_foresee_128 : decode cX5_foresee 128 = .ok (.getfield 176, 3) := by decide +kernel
theorem dX5_foresee_131 : decode cX5_foresee 131 = .ok (.ireturn, 1) := by decide +kernel
theorem dX5_sit_0 : decode cX5_sit 0 = .ok (.iload_n 1, 1) := by decide +kernel
theorem dX5_sit_1 : decode cX5_sit 1 = .ok (.iconst 0, 1) := by decide +kernel
theorem dX5_sit_2 : decode cX5_sit 2 = .ok (.iconst 3, 1) := by decide +kernel
theorem dX5_sit_3 : decode cX5_sit 3 = .ok (.invokestatic 52, 3) := by decide +kernel
theorem dX5_sit_6 : decode cX5_sit 6 = .ok (.ifCond .ne 6, 3) := by decide +kernel
theorem dX5_sit_9 : decode cX5_sit 9 = .ok (.ldc 56, 2) := by decide +kernel
theorem dX5_sit_11 : decode cX5_sit 11 = .ok (.ireturn, 1) := by decide +kernel
theorem dX5_sit_12 : decode cX5_sit 12 = .ok (.aload_n 0, 1) := by decide +kernel
theorem dX5_sit_13 : decode cX5_sit 13 = .ok (.getfield 19, 3) := by decide +kernel
theorem dX5_sit_16 : decode cX5_sit 16 = .ok (.getfield 80, 3) := by decide +kernel
theorem dX5_sit_19 : decode cX5_sit 19 = .ok (.istore_n 2, 1) := by decide +kernel
theorem dX5_sit_20 : decode cX5_sit 20 = .ok (.iload_n 2, 1) := by decide +kernel
theorem dX5_sit_21 : decode cX5_sit 21 = .ok (.ifCond .ne 6, 3) := by decide +kernel
theorem dX5_sit_24 : decode cX5_sit 24 = .ok (.ldc 91, 2) := by decide +kernel
theorem dX5_sit_26 : decode cX5_sit 26 = .ok (.ireturn, 1) := by decide +kernel
theorem dX5_sit_27 : decode cX5_sit 27 = .ok (.iload_n 1, 1) := by decide +kernel
theorem dX5_sit_28 : decode cX5_sit 28 = .ok (.tableswitch 55 0 2 #[28, 34, 42], 28) := by decide +kernel
theorem dX5_sit_56 : decode cX5_sit 56 = .ok (.iconst 2, 1) := by decide +kernel
theorem dX5_sit_57 : decode cX5_sit 57 = .ok (.iload_n 2, 1) := by decide +kernel
theorem dX5_sit_58 : decode cX5_sit 58 = .ok (.imul, 1) := by decide +kernel
theorem dX5_sit_59 : decode cX5_sit 59 = .ok (.iconst 1, 1) := by decide +kernel
theorem dX5_sit_60 : decode cX5_sit 60 = .ok (.isub, 1) := by decide +kernel
theorem dX5_sit_61 : decode cX5_sit 61 = .ok (.ireturn, 1) := by decide +kernel
theorem dX5_sit_62 : decode cX5_sit 62 = .ok (.iload_n 2, 1) := by decide +kernel
theorem dX5_sit_63 : decode cX5_sit 63 = .ok (.iload_n 2, 1) := by decide +kernel
theorem dX5_sit_64 : decode cX5_sit 64 = .ok (.iconst 1, 1) := by decide +kernel
theorem dX5_sit_65 : decode cX5_sit 65 = .ok (.iadd, 1) := by decide +kernel
theorem dX5_sit_66 : decode cX5_sit 66 = .ok (.imul, 1) := by decide +kernel
theorem dX5_sit_67 : decode cX5_sit 67 = .ok (.iconst 2, 1) := by decide +kernel
theorem dX5_sit_68 : decode cX5_sit 68 = .ok (.idiv, 1) := by decide +kernel
theorem dX5_sit_69 : decode cX5_sit 69 = .ok (.ireturn, 1) := by decide +kernel
theorem dX5_sit_70 : decode cX5_sit 70 = .ok (.iload_n 2, 1) := by decide +kernel
theorem dX5_sit_71 : decode cX5_sit 71 = .ok (.invokestatic 179, 3) := by decide +kernel
theorem dX5_sit_74 : decode cX5_sit 74 = .ok (.ldc2_w 183, 3) := by decide +kernel
theorem dX5_sit_77 : decode cX5_sit 77 = .ok (.iconst 1, 1) := by decide +kernel
theorem dX5_sit_78 : decode cX5_sit 78 = .ok (.invokestatic 185, 3) := by decide +kernel
theorem dX5_sit_81 : decode cX5_sit 81 = .ok (.l2i, 1) := by decide +kernel
theorem dX5_sit_82 : decode cX5_sit 82 = .ok (.ireturn, 1) := by decide +kernel
theorem dX5_sit_83 : decode cX5_sit 83 = .ok (.iload_n 2, 1) := by decide +kernel
theorem dX5_sit_84 : decode cX5_sit 84 = .ok (.invokestatic 179, 3) := by decide +kernel
theorem dX5_sit_87 : decode cX5_sit 87 = .ok (.ldc2_w 183, 3) := by decide +kernel
theorem dX5_sit_90 : decode cX5_sit 90 = .ok (.iconst 0, 1) := by decide +kernel
theorem dX5_sit_91 : decode cX5_sit 91 = .ok (.invokestatic 185, 3) := by decide +kernel
theorem dX5_sit_94 : decode cX5_sit 94 = .ok (.l2i, 1) := by decide +kernel
theorem dX5_sit_95 : decode cX5_sit 95 = .ok (.ireturn, 1) := by decide +kernel
theorem dX5_chance_0 : decode cX5_chance 0 = .ok (.iload_n 1, 1) := by decide +kernel
theorem dX5_chance_1 : decode cX5_chance 1 = .ok (.iconst 1, 1) := by decide +kernel
theorem dX5_chance_2 : decode cX5_chance 2 = .ok (.iconst 5, 1) := by decide +kernel
theorem dX5_chance_3 : decode cX5_chance 3 = .ok (.invokestatic 52, 3) := by decide +kernel
theorem dX5_chance_6 : decode cX5_chance 6 = .ok (.ifCond .eq 31, 3) := by decide +kernel
theorem dX5_chance_9 : decode cX5_chance 9 = .ok (.iload_n 2, 1) := by decide +kernel
theorem dX5_chance_10 : decode cX5_chance 10 = .ok (.iconst 1, 1) := by decide +kernel
theorem dX5_chance_11 : decode cX5_chance 11 = .ok (.iconst 3, 1) := by decide +kernel
theorem dX5_chance_12 : decode cX5_chance 12 = .ok (.invokestatic 52, 3) := by decide +kernel
theorem dX5_chance_15 : decode cX5_chance 15 = .ok (.ifCond .eq 22, 3) := by decide +kernel
theorem dX5_chance_18 : decode cX5_chance 18 = .ok (.iload_n 3, 1) := by decide +kernel
theorem dX5_chance_19 : decode cX5_chance 19 = .ok (.iconst 0, 1) := by decide +kernel
theorem dX5_chance_20 : decode cX5_chance 20 = .ok (.iconst 4, 1) := by decide +kernel
theorem dX5_chance_21 : decode cX5_chance 21 = .ok (.invokestatic 52, 3) := by decide +kernel
theorem dX5_chance_24 : decode cX5_chance 24 = .ok (.ifCond .eq 13, 3) := by decide +kernel
theorem dX5_chance_27 : decode cX5_chance 27 = .ok (.iload 4, 2) := by decide +kernel
theorem dX5_chance_29 : decode cX5_chance 29 = .ok (.iconst 0, 1) := by decide +kernel
theorem dX5_chance_30 : decode cX5_chance 30 = .ok (.iconst 1, 1) := by decide +kernel
theorem dX5_chance_31 : decode cX5_chance 31 = .ok (.invokestatic 52, 3) := by decide +kernel
theorem dX5_chance_34 : decode cX5_chance 34 = .ok (.ifCond .ne 7, 3) := by decide +kernel
theorem dX5_chance_37 : decode cX5_chance 37 = .ok (.ldc2_w 189, 3) := by decide +kernel
theorem dX5_chance_40 : decode cX5_chance 40 = .ok (.lreturn, 1) := by decide +kernel
theorem dX5_chance_41 : decode cX5_chance 41 = .ok (.iload_n 1, 1) := by decide +kernel
theorem dX5_chance_42 : decode cX5_chance 42 = .ok (.iload_n 2, 1) := by decide +kernel
theorem dX5_chance_43 : decode cX5_chance 43 = .ok (.iload_n 3, 1) := by decide +kernel
theorem dX5_chance_44 : decode cX5_chance 44 = .ok (.invokestatic 191, 3) := by decide +kernel
theorem dX5_chance_47 : decode cX5_chance 47 = .ok (.iload_n 2, 1) := by decide +kernel
theorem dX5_chance_48 : decode cX5_chance 48 = .ok (.i2l, 1) := by decide +kernel
theorem dX5_chance_49 : decode cX5_chance 49 = .ok (.iconst 5, 1) := by decide +kernel
theorem dX5_chance_50 : decode cX5_chance 50 = .ok (.iload_n 3, 1) := by decide +kernel
theorem dX5_chance_51 : decode cX5_chance 51 = .ok (.imul, 1) := by decide +kernel
theorem dX5_chance_52 : decode cX5_chance 52 = .ok (.invokestatic 195, 3) := by decide +kernel
theorem dX5_chance_55 : decode cX5_chance 55 = .ok (.iload 4, 2) := by decide +kernel
theorem dX5_chance_57 : decode cX5_chance 57 = .ok (.ifCond .ne 7, 3) := by decide +kernel
theorem dX5_chance_60 : decode cX5_chance 60 = .ok (.iconst 1, 1) := by decide +kernel
theorem dX5_chance_61 : decode cX5_chance 61 = .ok (.goto 4, 3) := by decide +kernel
theorem dX5_chance_64 : decode cX5_chance 64 = .ok (.iconst 0, 1) := by decide +kernel
theorem dX5_chance_65 : decode cX5_chance 65 = .ok (.invokestatic 185, 3) := by decide +kernel
theorem dX5_chance_68 : decode cX5_chance 68 = .ok (.lreturn, 1) := by decide +kernel
theorem dX5_count_0 : decode cX5_count 0 = .ok (.iload_n 1, 1) := by decide +kernel
theorem dX5_count_1 : decode cX5_count 1 = .ok (.tableswitch 152 0 10 #[59, 67, 75, 83, 92, 101, 110, 119, 128, 136, 144], 59) := by decide +kernel
theorem dX5_count_60 : decode cX5_count 60 = .ok (.aload_n 0, 1) := by decide +kernel
theorem dX5_count_61 : decode cX5_count 61 = .ok (.getfield 19, 3) := by decide +kernel
theorem dX5_count_64 : decode cX5_count 64 = .ok (.getfield 80, 3) := by decide +kernel
theorem dX5_count_67 : decode cX5_count 67 = .ok (.ireturn, 1) := by decide +kernel
theorem dX5_count_68 : decode cX5_count 68 = .ok (.aload_n 0, 1) := by decide +kernel
theorem dX5_count_69 : decode cX5_count 69 = .ok (.getfield 31, 3) := by decide +kernel
theorem dX5_count_72 : decode cX5_count 72 = .ok (.getfield 199, 3) := by decide +kernel
theorem dX5_count_75 : decode cX5_count 75 = .ok (.ireturn, 1) := by decide +kernel
theorem dX5_count_76 : decode cX5_count 76 = .ok (.aload_n 0, 1) := by decide +kernel
theorem dX5_count_77 : decode cX5_count 77 = .ok (.getfield 31, 3) := by decide +kernel
theorem dX5_count_80 : decode cX5_count 80 = .ok (.getfield 124, 3) := by decide +kernel
theorem dX5_count_83 : decode cX5_count 83 = .ok (.ireturn, 1) := by decide +kernel
theorem dX5_count_84 : decode cX5_count 84 = .ok (.aload_n 0, 1) := by decide +kernel
theorem dX5_count_85 : decode cX5_count 85 = .ok (.getfield 31, 3) := by decide +kernel
theorem dX5_count_88 : decode cX5_count 88 = .ok (.iconst 0, 1) := by decide +kernel
theorem dX5_count_89 : decode cX5_count 89 = .ok (.invokevirtual 154, 3) := by decide +kernel
theorem dX5_count_92 : decode cX5_count 92 = .ok (.ireturn, 1) := by decide +kernel
theorem dX5_count_93 : decode cX5_count 93 = .ok (.aload_n 0, 1) := by decide +kernel
theorem dX5_count_94 : decode cX5_count 94 = .ok (.getfield 31, 3) := by decide +kernel
theorem dX5_count_97 : decode cX5_count 97 = .ok (.iconst 1, 1) := by decide +kernel
theorem dX5_count_98 : decode cX5_count 98 = .ok (.invokevirtual 154, 3) := by decide +kernel
theorem dX5_count_101 : decode cX5_count 101 = .ok (.ireturn, 1) := by decide +kernel
theorem dX5_count_102 : decode cX5_count 102 = .ok (.aload_n 0, 1) := by decide +kernel
theorem dX5_count_103 : decode cX5_count 103 = .ok (.getfield 31, 3) := by decide +kernel
theorem dX5_count_106 : decode cX5_count 106 = .ok (.iconst 2, 1) := by decide +kernel
theorem dX5_count_107 : decode cX5_count 107 = .ok (.invokevirtual 154, 3) := by decide +kernel
theorem dX5_count_110 : decode cX5_count 110 = .ok (.ireturn, 1) := by decide +kernel
theorem dX5_count_111 : decode cX5_count 111 = .ok (.aload_n 0, 1) := by decide +kernel
theorem dX5_count_112 : decode cX5_count 112 = .ok (.getfield 31, 3) := by decide +kernel
theorem dX5_count_115 : decode cX5_count 115 = .ok (.iconst 3, 1) := by decide +kernel
theorem dX5_count_116 : decode cX5_count 116 = .ok (.invokevirtual 154, 3) := by decide +kernel
theorem dX5_count_119 : decode cX5_count 119 = .ok (.ireturn, 1) := by decide +kernel
theorem dX5_count_120 : decode cX5_count 120 = .ok (.aload_n 0, 1) := by decide +kernel
theorem dX5_count_121 : decode cX5_count 121 = .ok (.getfield 31, 3) := by decide +kernel
theorem dX5_count_124 : decode cX5_count 124 = .ok (.iconst 4, 1) := by decide +kernel
theorem dX5_count_125 : decode cX5_count 125 = .ok (.invokevirtual 154, 3) := by decide +kernel
theorem dX5_count_128 : decode cX5_count 128 = .ok (.ireturn, 1) := by decide +kernel
theorem dX5_count_129 : decode cX5_count 129 = .ok (.aload_n 0, 1) := by decide +kernel
theorem dX5_count_130 : decode cX5_count 130 = .ok (.getfield 31, 3) := by decide +kernel
theorem dX5_count_133 : decode cX5_count 133 = .ok (.invokevirtual 150, 3) := by decide +kernel
theorem dX5_count_136 : decode cX5_count 136 = .ok (.ireturn, 1) := by decide +kernel
theorem dX5_count_137 : decode cX5_count 137 = .ok (.aload_n 0, 1) := by decide +kernel
theorem dX5_count_138 : decode cX5_count 138 = .ok (.getfield 41, 3) := by decide +kernel
theorem dX5_count_141 : decode cX5_count 141 = .ok (.getfield 135, 3) := by decide +kernel
theorem dX5_count_144 : decode cX5_count 144 = .ok (.ireturn, 1) := by decide +kernel
theorem dX5_count_145 : decode cX5_count 145 = .ok (.aload_n 0, 1) := by decide +kernel
theorem dX5_count_146 : decode cX5_count 146 = .ok (.getfield 10, 3) := by decide +kernel
theorem dX5_count_149 : decode cX5_count 149 = .ok (.getfield 61, 3) := by decide +kernel
theorem dX5_count_152 : decode cX5_count 152 = .ok (.ireturn, 1) := by decide +kernel
theorem dX5_count_153 : decode cX5_count 153 = .ok (.ldc 56, 2) := by decide +kernel
theorem dX5_count_155 : decode cX5_count 155 = .ok (.ireturn, 1) := by decide +kernel
theorem dX5_within_0 : decode cX5_within 0 = .ok (.iload_n 0, 1) := by decide +kernel
theorem dX5_within_1 : decode cX5_within 1 = .ok (.iload_n 1, 1) := by decide +kernel
theorem dX5_within_2 : decode cX5_within 2 = .ok (.if_icmp .lt 12, 3) := by decide +kernel
theorem dX5_within_5 : decode cX5_within 5 = .ok (.iload_n 0, 1) := by decide +kernel
theorem dX5_within_6 : decode cX5_within 6 = .ok (.iload_n 2, 1) := by decide +kernel
theorem dX5_within_7 : decode cX5_within 7 = .ok (.if_icmp .gt 7, 3) := by decide +kernel
theorem dX5_within_10 : decode cX5_within 10 = .ok (.iconst 1, 1) := by decide +kernel
theorem dX5_within_11 : decode cX5_within 11 = .ok (.goto 4, 3) := by decide +kernel
theorem dX5_within_14 : decode cX5_within 14 = .ok (.iconst 0, 1) := by decide +kernel
theorem dX5_within_15 : decode cX5_within 15 = .ok (.ireturn, 1) := by decide +kernel
theorem dX5_following_0 : decode cX5_following 0 = .ok (.iload_n 0, 1) := by decide +kernel
theorem dX5_following_1 : decode cX5_following 1 = .ok (.i2l, 1) := by decide +kernel
theorem dX5_following_2 : decode cX5_following 2 = .ok (.ldc2_w 202, 3) := by decide +kernel
theorem dX5_following_5 : decode cX5_following 5 = .ok (.lmul, 1) := by decide +kernel
theorem dX5_following_6 : decode cX5_following 6 = .ok (.ldc2_w 204, 3) := by decide +kernel
theorem dX5_following_9 : decode cX5_following 9 = .ok (.lrem, 1) := by decide +kernel
theorem dX5_following_10 : decode cX5_following 10 = .ok (.l2i, 1) := by decide +kernel
theorem dX5_following_11 : decode cX5_following 11 = .ok (.ireturn, 1) := by decide +kernel
theorem dX5_sixtiethsOfMean_0 : decode cX5_sixtiethsOfMean 0 = .ok (.lconst 0, 1) := by decide +kernel
theorem dX5_sixtiethsOfMean_1 : decode cX5_sixtiethsOfMean 1 = .ok (.lstore_n 1, 1) := by decide +kernel
theorem dX5_sixtiethsOfMean_2 : decode cX5_sixtiethsOfMean 2 = .ok (.iconst 1, 1) := by decide +kernel
theorem dX5_sixtiethsOfMean_3 : decode cX5_sixtiethsOfMean 3 = .ok (.istore_n 3, 1) := by decide +kernel
theorem dX5_sixtiethsOfMean_4 : decode cX5_sixtiethsOfMean 4 = .ok (.iload_n 3, 1) := by decide +kernel
theorem dX5_sixtiethsOfMean_5 : decode cX5_sixtiethsOfMean 5 = .ok (.bipush 6, 2) := by decide +kernel
theorem dX5_sixtiethsOfMean_7 : decode cX5_sixtiethsOfMean 7 = .ok (.if_icmp .gt 28, 3) := by decide +kernel
theorem dX5_sixtiethsOfMean_10 : decode cX5_sixtiethsOfMean 10 = .ok (.lload_n 1, 1) := by decide +kernel
theorem dX5_sixtiethsOfMean_11 : decode cX5_sixtiethsOfMean 11 = .ok (.iload_n 3, 1) := by decide +kernel
theorem dX5_sixtiethsOfMean_12 : decode cX5_sixtiethsOfMean 12 = .ok (.iload_n 0, 1) := by decide +kernel
theorem dX5_sixtiethsOfMean_13 : decode cX5_sixtiethsOfMean 13 = .ok (.if_icmp .gt 13, 3) := by decide +kernel
theorem dX5_sixtiethsOfMean_16 : decode cX5_sixtiethsOfMean 16 = .ok (.iload_n 0, 1) := by decide +kernel
theorem dX5_sixtiethsOfMean_17 : decode cX5_sixtiethsOfMean 17 = .ok (.bipush 60, 2) := by decide +kernel
theorem dX5_sixtiethsOfMean_19 : decode cX5_sixtiethsOfMean 19 = .ok (.imul, 1) := by decide +kernel
theorem dX5_sixtiethsOfMean_20 : decode cX5_sixtiethsOfMean 20 = .ok (.iload_n 3, 1) := by decide +kernel
theorem dX5_sixtiethsOfMean_21 : decode cX5_sixtiethsOfMean 21 = .ok (.idiv, 1) := by decide +kernel
theorem dX5_sixtiethsOfMean_22 : decode cX5_sixtiethsOfMean 22 = .ok (.i2l, 1) := by decide +kernel
theorem dX5_sixtiethsOfMean_23 : decode cX5_sixtiethsOfMean 23 = .ok (.goto 4, 3) := by decide +kernel
theorem dX5_sixtiethsOfMean_26 : decode cX5_sixtiethsOfMean 26 = .ok (.lconst 0, 1) := by decide +kernel
theorem dX5_sixtiethsOfMean_27 : decode cX5_sixtiethsOfMean 27 = .ok (.ladd, 1) := by decide +kernel
theorem dX5_sixtiethsOfMean_28 : decode cX5_sixtiethsOfMean 28 = .ok (.lstore_n 1, 1) := by decide +kernel
theorem dX5_sixtiethsOfMean_29 : decode cX5_sixtiethsOfMean 29 = .ok (.iinc 3 1, 3) := by decide +kernel
theorem dX5_sixtiethsOfMean_32 : decode cX5_sixtiethsOfMean 32 = .ok (.goto (-28), 3) := by decide +kernel
theorem dX5_sixtiethsOfMean_35 : decode cX5_sixtiethsOfMean 35 = .ok (.lload_n 1, 1) := by decide +kernel
theorem dX5_sixtiethsOfMean_36 : decode cX5_sixtiethsOfMean 36 = .ok (.lreturn, 1) := by decide +kernel
theorem dX5_waysToOne_0 : decode cX5_waysToOne 0 = .ok (.bipush 6, 2) := by decide +kernel
theorem dX5_waysToOne_2 : decode cX5_waysToOne 2 = .ok (.newarray .long, 2) := by decide +kernel
theorem dX5_waysToOne_4 : decode cX5_waysToOne 4 = .ok (.dup, 1) := by decide +kernel
theorem dX5_waysToOne_5 : decode cX5_waysToOne 5 = .ok (.iconst 0, 1) := by decide +kernel
theorem dX5_waysToOne_6 : decode cX5_waysToOne 6 = .ok (.lconst 0, 1) := by decide +kernel
theorem dX5_waysToOne_7 : decode cX5_waysToOne 7 = .ok (.lastore, 1) := by decide +kernel
theorem dX5_waysToOne_8 : decode cX5_waysToOne 8 = .ok (.dup, 1) := by decide +kernel
theorem dX5_waysToOne_9 : decode cX5_waysToOne 9 = .ok (.iconst 1, 1) := by decide +kernel
theorem dX5_waysToOne_10 : decode cX5_waysToOne 10 = .ok (.lconst 1, 1) := by decide +kernel
theorem dX5_waysToOne_11 : decode cX5_waysToOne 11 = .ok (.lastore, 1) := by decide +kernel
theorem dX5_waysToOne_12 : decode cX5_waysToOne 12 = .ok (.dup, 1) := by decide +kernel
theorem dX5_waysToOne_13 : decode cX5_waysToOne 13 = .ok (.iconst 2, 1) := by decide +kernel
theorem dX5_waysToOne_14 : decode cX5_waysToOne 14 = .ok (.lconst 0, 1) := by decide +kernel
theorem dX5_waysToOne_15 : decode cX5_waysToOne 15 = .ok (.lastore, 1) := by decide +kernel
theorem dX5_waysToOne_16 : decode cX5_waysToOne 16 = .ok (.dup, 1) := by decide +kernel
theorem dX5_waysToOne_17 : decode cX5_waysToOne 17 = .ok (.iconst 3, 1) := by decide +kernel
theorem dX5_waysToOne_18 : decode cX5_waysToOne 18 = .ok (.lconst 0, 1) := by decide +kernel
theorem dX5_waysToOne_19 : decode cX5_waysToOne 19 = .ok (.lastore, 1) := by decide +kernel
theorem dX5_waysToOne_20 : decode cX5_waysToOne 20 = .ok (.dup, 1) := by decide +kernel
theorem dX5_waysToOne_21 : decode cX5_waysToOne 21 = .ok (.iconst 4, 1) := by decide +kernel
theorem dX5_waysToOne_22 : decode cX5_waysToOne 22 = .ok (.lconst 0, 1) := by decide +kernel
theorem dX5_waysToOne_23 : decode cX5_waysToOne 23 = .ok (.lastore, 1) := by decide +kernel
theorem dX5_waysToOne_24 : decode cX5_waysToOne 24 = .ok (.dup, 1) := by decide +kernel
theorem dX5_waysToOne_25 : decode cX5_waysToOne 25 = .ok (.iconst 5, 1) := by decide +kernel
theorem dX5_waysToOne_26 : decode cX5_waysToOne 26 = .ok (.lconst 0, 1) := by decide +kernel
theorem dX5_waysToOne_27 : decode cX5_waysToOne 27 = .ok (.lastore, 1) := by decide +kernel
theorem dX5_waysToOne_28 : decode cX5_waysToOne 28 = .ok (.astore_n 3, 1) := by decide +kernel
theorem dX5_waysToOne_29 : decode cX5_waysToOne 29 = .ok (.iconst 1, 1) := by decide +kernel
theorem dX5_waysToOne_30 : decode cX5_waysToOne 30 = .ok (.istore 4, 2) := by decide +kernel
theorem dX5_waysToOne_32 : decode cX5_waysToOne 32 = .ok (.iload 4, 2) := by decide +kernel
theorem dX5_waysToOne_34 : decode cX5_waysToOne 34 = .ok (.iload_n 2, 1) := by decide +kernel
theorem dX5_waysToOne_35 : decode cX5_waysToOne 35 = .ok (.if_icmp .gt 87, 3) := by decide +kernel
theorem dX5_waysToOne_38 : decode cX5_waysToOne 38 = .ok (.bipush 6, 2) := by decide +kernel
theorem dX5_waysToOne_40 : decode cX5_waysToOne 40 = .ok (.newarray .long, 2) := by decide +kernel
theorem dX5_waysToOne_42 : decode cX5_waysToOne 42 = .ok (.astore 5, 2) := by decide +kernel
theorem dX5_waysToOne_44 : decode cX5_waysToOne 44 = .ok (.iconst 1, 1) := by decide +kernel
theorem dX5_waysToOne_45 : decode cX5_waysToOne 45 = .ok (.istore 6, 2) := by decide +kernel
theorem dX5_waysToOne_47 : decode cX5_waysToOne 47 = .ok (.iload 6, 2) := by decide +kernel
theorem dX5_waysToOne_49 : decode cX5_waysToOne 49 = .ok (.iconst 5, 1) := by decide +kernel
theorem dX5_waysToOne_50 : decode cX5_waysToOne 50 = .ok (.if_icmp .gt 63, 3) := by decide +kernel
theorem dX5_waysToOne_53 : decode cX5_waysToOne 53 = .ok (.lconst 0, 1) := by decide +kernel
theorem dX5_waysToOne_54 : decode cX5_waysToOne 54 = .ok (.lstore 7, 2) := by decide +kernel
theorem dX5_waysToOne_56 : decode cX5_waysToOne 56 = .ok (.iconst 1, 1) := by decide +kernel
theorem dX5_waysToOne_57 : decode cX5_waysToOne 57 = .ok (.istore 9, 2) := by decide +kernel
theorem dX5_waysToOne_59 : decode cX5_waysToOne 59 = .ok (.iload 9, 2) := by decide +kernel
theorem dX5_waysToOne_61 : decode cX5_waysToOne 61 = .ok (.iload 6, 2) := by decide +kernel
theorem dX5_waysToOne_63 : decode cX5_waysToOne 63 = .ok (.if_icmp .gt 27, 3) := by decide +kernel
theorem dX5_waysToOne_66 : decode cX5_waysToOne 66 = .ok (.lload 7, 2) := by decide +kernel
theorem dX5_waysToOne_68 : decode cX5_waysToOne 68 = .ok (.iload 6, 2) := by decide +kernel
theorem dX5_waysToOne_70 : decode cX5_waysToOne 70 = .ok (.iload 9, 2) := by decide +kernel
theorem dX5_waysToOne_72 : decode cX5_waysToOne 72 = .ok (.iload_n 1, 1) := by decide +kernel
theorem dX5_waysToOne_73 : decode cX5_waysToOne 73 = .ok (.invokestatic 206, 3) := by decide +kernel
theorem dX5_waysToOne_76 : decode cX5_waysToOne 76 = .ok (.aload_n 3, 1) := by decide +kernel
theorem dX5_waysToOne_77 : decode cX5_waysToOne 77 = .ok (.iload 9, 2) := by decide +kernel
theorem dX5_waysToOne_79 : decode cX5_waysToOne 79 = .ok (.laload, 1) := by decide +kernel
theorem dX5_waysToOne_80 : decode cX5_waysToOne 80 = .ok (.lmul, 1) := by decide +kernel
theorem dX5_waysToOne_81 : decode cX5_waysToOne 81 = .ok (.ladd, 1) := by decide +kernel
theorem dX5_waysToOne_82 : decode cX5_waysToOne 82 = .ok (.lstore 7, 2) := by decide +kernel
theorem dX5_waysToOne_84 : decode cX5_waysToOne 84 = .ok (.iinc 9 1, 3) := by decide +kernel
theorem dX5_waysToOne_87 : decode cX5_waysToOne 87 = .ok (.goto (-28), 3) := by decide +kernel
theorem dX5_waysToOne_90 : decode cX5_waysToOne 90 = .ok (.aload 5, 2) := by decide +kernel
theorem dX5_waysToOne_92 : decode cX5_waysToOne 92 = .ok (.iload 6, 2) := by decide +kernel
theorem dX5_waysToOne_94 : decode cX5_waysToOne 94 = .ok (.lload 7, 2) := by decide +kernel
theorem dX5_waysToOne_96 : decode cX5_waysToOne 96 = .ok (.iload_n 1, 1) := by decide +kernel
theorem dX5_waysToOne_97 : decode cX5_waysToOne 97 = .ok (.i2l, 1) := by decide +kernel
theorem dX5_waysToOne_98 : decode cX5_waysToOne 98 = .ok (.iconst 5, 1) := by decide +kernel
theorem dX5_waysToOne_99 : decode cX5_waysToOne 99 = .ok (.iload 6, 2) := by decide +kernel
theorem dX5_waysToOne_101 : decode cX5_waysToOne 101 = .ok (.isub, 1) := by decide +kernel
theorem dX5_waysToOne_102 : decode cX5_waysToOne 102 = .ok (.invokestatic 195, 3) := by decide +kernel
theorem dX5_waysToOne_105 : decode cX5_waysToOne 105 = .ok (.lmul, 1) := by decide +kernel
theorem dX5_waysToOne_106 : decode cX5_waysToOne 106 = .ok (.lastore, 1) := by decide +kernel
theorem dX5_waysToOne_107 : decode cX5_waysToOne 107 = .ok (.iinc 6 1, 3) := by decide +kernel
theorem dX5_waysToOne_110 : decode cX5_waysToOne 110 = .ok (.goto (-63), 3) := by decide +kernel
theorem dX5_waysToOne_113 : decode cX5_waysToOne 113 = .ok (.aload 5, 2) := by decide +kernel
theorem dX5_waysToOne_115 : decode cX5_waysToOne 115 = .ok (.astore_n 3, 1) := by decide +kernel
theorem dX5_waysToOne_116 : decode cX5_waysToOne 116 = .ok (.iinc 4 1, 3) := by decide +kernel
theorem dX5_waysToOne_119 : decode cX5_waysToOne 119 = .ok (.goto (-87), 3) := by decide +kernel
theorem dX5_waysToOne_122 : decode cX5_waysToOne 122 = .ok (.iload_n 0, 1) := by decide +kernel
theorem dX5_waysToOne_123 : decode cX5_waysToOne 123 = .ok (.iconst 1, 1) := by decide +kernel
theorem dX5_waysToOne_124 : decode cX5_waysToOne 124 = .ok (.if_icmp .lt 15, 3) := by decide +kernel
theorem dX5_waysToOne_127 : decode cX5_waysToOne 127 = .ok (.iload_n 0, 1) := by decide +kernel
theorem dX5_waysToOne_128 : decode cX5_waysToOne 128 = .ok (.aload_n 3, 1) := by decide +kernel
theorem dX5_waysToOne_129 : decode cX5_waysToOne 129 = .ok (.arraylength, 1) := by decide +kernel
theorem dX5_waysToOne_130 : decode cX5_waysToOne 130 = .ok (.if_icmp .ge 9, 3) := by decide +kernel
theorem dX5_waysToOne_133 : decode cX5_waysToOne 133 = .ok (.aload_n 3, 1) := by decide +kernel
theorem dX5_waysToOne_134 : decode cX5_waysToOne 134 = .ok (.iload_n 0, 1) := by decide +kernel
theorem dX5_waysToOne_135 : decode cX5_waysToOne 135 = .ok (.laload, 1) := by decide +kernel
theorem dX5_waysToOne_136 : decode cX5_waysToOne 136 = .ok (.goto 4, 3) := by decide +kernel
theorem dX5_waysToOne_139 : decode cX5_waysToOne 139 = .ok (.lconst 0, 1) := by decide +kernel
theorem dX5_waysToOne_140 : decode cX5_waysToOne 140 = .ok (.lreturn, 1) := by decide +kernel
theorem dX5_waysToLeave_0 : decode cX5_waysToLeave 0 = .ok (.lconst 0, 1) := by decide +kernel
theorem dX5_waysToLeave_1 : decode cX5_waysToLeave 1 = .ok (.lstore_n 3, 1) := by decide +kernel
theorem dX5_waysToLeave_2 : decode cX5_waysToLeave 2 = .ok (.iconst 1, 1) := by decide +kernel
theorem dX5_waysToLeave_3 : decode cX5_waysToLeave 3 = .ok (.istore 5, 2) := by decide +kernel
theorem dX5_waysToLeave_5 : decode cX5_waysToLeave 5 = .ok (.iload 5, 2) := by decide +kernel
theorem dX5_waysToLeave_7 : decode cX5_waysToLeave 7 = .ok (.iload_n 2, 1) := by decide +kernel
theorem dX5_waysToLeave_8 : decode cX5_waysToLeave 8 = .ok (.if_icmp .gt 23, 3) := by decide +kernel
theorem dX5_waysToLeave_11 : decode cX5_waysToLeave 11 = .ok (.lload_n 3, 1) := by decide +kernel
theorem dX5_waysToLeave_12 : decode cX5_waysToLeave 12 = .ok (.iload 5, 2) := by decide +kernel
theorem dX5_waysToLeave_14 : decode cX5_waysToLeave 14 = .ok (.iconst 1, 1) := by decide +kernel
theorem dX5_waysToLeave_15 : decode cX5_waysToLeave 15 = .ok (.isub, 1) := by decide +kernel
theorem dX5_waysToLeave_16 : decode cX5_waysToLeave 16 = .ok (.i2l, 1) := by decide +kernel
theorem dX5_waysToLeave_17 : decode cX5_waysToLeave 17 = .ok (.iload_n 0, 1) := by decide +kernel
theorem dX5_waysToLeave_18 : decode cX5_waysToLeave 18 = .ok (.iload_n 1, 1) := by decide +kernel
theorem dX5_waysToLeave_19 : decode cX5_waysToLeave 19 = .ok (.isub, 1) := by decide +kernel
theorem dX5_waysToLeave_20 : decode cX5_waysToLeave 20 = .ok (.invokestatic 195, 3) := by decide +kernel
theorem dX5_waysToLeave_23 : decode cX5_waysToLeave 23 = .ok (.ladd, 1) := by decide +kernel
theorem dX5_waysToLeave_24 : decode cX5_waysToLeave 24 = .ok (.lstore_n 3, 1) := by decide +kernel
theorem dX5_waysToLeave_25 : decode cX5_waysToLeave 25 = .ok (.iinc 5 1, 3) := by decide +kernel
theorem dX5_waysToLeave_28 : decode cX5_waysToLeave 28 = .ok (.goto (-23), 3) := by decide +kernel
theorem dX5_waysToLeave_31 : decode cX5_waysToLeave 31 = .ok (.lload_n 3, 1) := by decide +kernel
theorem dX5_waysToLeave_32 : decode cX5_waysToLeave 32 = .ok (.iload_n 0, 1) := by decide +kernel
theorem dX5_waysToLeave_33 : decode cX5_waysToLeave 33 = .ok (.iload_n 1, 1) := by decide +kernel
theorem dX5_waysToLeave_34 : decode cX5_waysToLeave 34 = .ok (.invokestatic 209, 3) := by decide +kernel
theorem dX5_waysToLeave_37 : decode cX5_waysToLeave 37 = .ok (.lmul, 1) := by decide +kernel
theorem dX5_waysToLeave_38 : decode cX5_waysToLeave 38 = .ok (.lreturn, 1) := by decide +kernel
theorem dX5_choices_0 : decode cX5_choices 0 = .ok (.lconst 1, 1) := by decide +kernel
theorem dX5_choices_1 : decode cX5_choices 1 = .ok (.lstore_n 2, 1) := by decide +kernel
theorem dX5_choices_2 : decode cX5_choices 2 = .ok (.iconst 1, 1) := by decide +kernel
theorem dX5_choices_3 : decode cX5_choices 3 = .ok (.istore 4, 2) := by decide +kernel
theorem dX5_choices_5 : decode cX5_choices 5 = .ok (.iload 4, 2) := by decide +kernel
theorem dX5_choices_7 : decode cX5_choices 7 = .ok (.iload_n 1, 1) := by decide +kernel
theorem dX5_choices_8 : decode cX5_choices 8 = .ok (.if_icmp .gt 23, 3) := by decide +kernel
theorem dX5_choices_11 : decode cX5_choices 11 = .ok (.lload_n 2, 1) := by decide +kernel
theorem dX5_choices_12 : decode cX5_choices 12 = .ok (.iload_n 0, 1) := by decide +kernel
theorem dX5_choices_13 : decode cX5_choices 13 = .ok (.iload_n 1, 1) := by decide +kernel
theorem dX5_choices_14 : decode cX5_choices 14 = .ok (.isub, 1) := by decide +kernel
theorem dX5_choices_15 : decode cX5_choices 15 = .ok (.iload 4, 2) := by decide +kernel
theorem dX5_choices_17 : decode cX5_choices 17 = .ok (.iadd, 1) := by decide +kernel
theorem dX5_choices_18 : decode cX5_choices 18 = .ok (.i2l, 1) := by decide +kernel
theorem dX5_choices_19 : decode cX5_choices 19 = .ok (.lmul, 1) := by decide +kernel
theorem dX5_choices_20 : decode cX5_choices 20 = .ok (.iload 4, 2) := by decide +kernel
theorem dX5_choices_22 : decode cX5_choices 22 = .ok (.i2l, 1) := by decide +kernel
theorem dX5_choices_23 : decode cX5_choices 23 = .ok (.ldiv, 1) := by decide +kernel
theorem dX5_choices_24 : decode cX5_choices 24 = .ok (.lstore_n 2, 1) := by decide +kernel
theorem dX5_choices_25 : decode cX5_choices 25 = .ok (.iinc 4 1, 3) := by decide +kernel
theorem dX5_choices_28 : decode cX5_choices 28 = .ok (.goto (-23), 3) := by decide +kernel
theorem dX5_choices_31 : decode cX5_choices 31 = .ok (.lload_n 2, 1) := by decide +kernel
theorem dX5_choices_32 : decode cX5_choices 32 = .ok (.lreturn, 1) := by decide +kernel
theorem dX5_power_0 : decode cX5_power 0 = .ok (.lconst 1, 1) := by decide +kernel
theorem dX5_power_1 : decode cX5_power 1 = .ok (.lstore_n 3, 1) := by decide +kernel
theorem dX5_power_2 : decode cX5_power 2 = .ok (.iconst 0, 1) := by decide +kernel
theorem dX5_power_3 : decode cX5_power 3 = .ok (.istore 5, 2) := by decide +kernel
theorem dX5_power_5 : decode cX5_power 5 = .ok (.iload 5, 2) := by decide +kernel
theorem dX5_power_7 : decode cX5_power 7 = .ok (.iload_n 2, 1) := by decide +kernel
theorem dX5_power_8 : decode cX5_power 8 = .ok (.if_icmp .ge 13, 3) := by decide +kernel
theorem dX5_power_11 : decode cX5_power 11 = .ok (.lload_n 3, 1) := by decide +kernel
theorem dX5_power_12 : decode cX5_power 12 = .ok (.lload_n 0, 1) := by decide +kernel
theorem dX5_power_13 : decode cX5_power 13 = .ok (.lmul, 1) := by decide +kernel
theorem dX5_power_14 : decode cX5_power 14 = .ok (.lstore_n 3, 1) := by decide +kernel
theorem dX5_power_15 : decode cX5_power 15 = .ok (.iinc 5 1, 3) := by decide +kernel
theorem dX5_power_18 : decode cX5_power 18 = .ok (.goto (-13), 3) := by decide +kernel
theorem dX5_power_21 : decode cX5_power 21 = .ok (.lload_n 3, 1) := by decide +kernel
theorem dX5_power_22 : decode cX5_power 22 = .ok (.lreturn, 1) := by decide +kernel
theorem dX5_lowest_0 : decode cX5_lowest 0 = .ok (.lload_n 0, 1) := by decide +kernel
theorem dX5_lowest_1 : decode cX5_lowest 1 = .ok (.lload_n 2, 1) := by decide +kernel
theorem dX5_lowest_2 : decode cX5_lowest 2 = .ok (.invokestatic 213, 3) := by decide +kernel
theorem dX5_lowest_5 : decode cX5_lowest 5 = .ok (.lstore 5, 2) := by decide +kernel
theorem dX5_lowest_7 : decode cX5_lowest 7 = .ok (.iload 4, 2) := by decide +kernel
theorem dX5_lowest_9 : decode cX5_lowest 9 = .ok (.ifCond .eq 7, 3) := by decide +kernel
theorem dX5_lowest_12 : decode cX5_lowest 12 = .ok (.lload_n 0, 1) := by decide +kernel
theorem dX5_lowest_13 : decode cX5_lowest 13 = .ok (.goto 4, 3) := by decide +kernel
theorem dX5_lowest_16 : decode cX5_lowest 16 = .ok (.lload_n 2, 1) := by decide +kernel
theorem dX5_lowest_17 : decode cX5_lowest 17 = .ok (.lstore 7, 2) := by decide +kernel
theorem dX5_lowest_19 : decode cX5_lowest 19 = .ok (.lload 5, 2) := by decide +kernel
theorem dX5_lowest_21 : decode cX5_lowest 21 = .ok (.lconst 0, 1) := by decide +kernel
theorem dX5_lowest_22 : decode cX5_lowest 22 = .ok (.lcmp, 1) := by decide +kernel
theorem dX5_lowest_23 : decode cX5_lowest 23 = .ok (.ifCond .ne 8, 3) := by decide +kernel
theorem dX5_lowest_26 : decode cX5_lowest 26 = .ok (.lload 7, 2) := by decide +kernel
theorem dX5_lowest_28 : decode cX5_lowest 28 = .ok (.goto 8, 3) := by decide +kernel
theorem dX5_lowest_31 : decode cX5_lowest 31 = .ok (.lload 7, 2) := by decide +kernel
theorem dX5_lowest_33 : decode cX5_lowest 33 = .ok (.lload 5, 2) := by decide +kernel
theorem dX5_lowest_35 : decode cX5_lowest 35 = .ok (.ldiv, 1) := by decide +kernel
theorem dX5_lowest_36 : decode cX5_lowest 36 = .ok (.lreturn, 1) := by decide +kernel
theorem dX5_commonDivisor_0 : decode cX5_commonDivisor 0 = .ok (.lload_n 0, 1) := by decide +kernel
theorem dX5_commonDivisor_1 : decode cX5_commonDivisor 1 = .ok (.lstore 4, 2) := by decide +kernel
theorem dX5_commonDivisor_3 : decode cX5_commonDivisor 3 = .ok (.lload_n 2, 1) := by decide +kernel
theorem dX5_commonDivisor_4 : decode cX5_commonDivisor 4 = .ok (.lstore 6, 2) := by decide +kernel
theorem dX5_commonDivisor_6 : decode cX5_commonDivisor 6 = .ok (.iconst 0, 1) := by decide +kernel
theorem dX5_commonDivisor_7 : decode cX5_commonDivisor 7 = .ok (.istore 8, 2) := by decide +kernel
theorem dX5_commonDivisor_9 : decode cX5_commonDivisor 9 = .ok (.iload 8, 2) := by decide +kernel
theorem dX5_commonDivisor_11 : decode cX5_commonDivisor 11 = .ok (.sipush 200, 3) := by decide +kernel
theorem dX5_commonDivisor_14 : decode cX5_commonDivisor 14 = .ok (.if_icmp .ge 31, 3) := by decide +kernel
theorem dX5_commonDivisor_17 : decode cX5_commonDivisor 17 = .ok (.lload 6, 2) := by decide +kernel
theorem dX5_commonDivisor_19 : decode cX5_commonDivisor 19 = .ok (.lconst 0, 1) := by decide +kernel
theorem dX5_commonDivisor_20 : decode cX5_commonDivisor 20 = .ok (.lcmp, 1) := by decide +kernel
theorem dX5_commonDivisor_21 : decode cX5_commonDivisor 21 = .ok (.ifCond .eq 24, 3) := by decide +kernel
theorem dX5_commonDivisor_24 : decode cX5_commonDivisor 24 = .ok (.lload 4, 2) := by decide +kernel
theorem dX5_commonDivisor_26 : decode cX5_commonDivisor 26 = .ok (.lload 6, 2) := by decide +kernel
theorem dX5_commonDivisor_28 : decode cX5_commonDivisor 28 = .ok (.lrem, 1) := by decide +kernel
theorem dX5_commonDivisor_29 : decode cX5_commonDivisor 29 = .ok (.lstore 9, 2) := by decide +kernel
theorem dX5_commonDivisor_31 : decode cX5_commonDivisor 31 = .ok (.lload 6, 2) := by decide +kernel
theorem dX5_commonDivisor_33 : decode cX5_commonDivisor 33 = .ok (.lstore 4, 2) := by decide +kernel
theorem dX5_commonDivisor_35 : decode cX5_commonDivisor 35 = .ok (.lload 9, 2) := by decide +kernel
theorem dX5_commonDivisor_37 : decode cX5_commonDivisor 37 = .ok (.lstore 6, 2) := by decide +kernel
theorem dX5_commonDivisor_39 : decode cX5_commonDivisor 39 = .ok (.iinc 8 1, 3) := by decide +kernel
theorem dX5_commonDivisor_42 : decode cX5_commonDivisor 42 = .ok (.goto (-33), 3) := by decide +kernel
theorem dX5_commonDivisor_45 : decode cX5_commonDivisor 45 = .ok (.lload 4, 2) := by decide +kernel
theorem dX5_commonDivisor_47 : decode cX5_commonDivisor 47 = .ok (.lreturn, 1) := by decide +kernel
theorem dJ9_max_7cf53_0 : decode cJ9_max_7cf53 0 = .ok (.iload_n 0, 1) := by decide +kernel
theorem dJ9_max_7cf53_1 : decode cJ9_max_7cf53 1 = .ok (.iload_n 1, 1) := by decide +kernel
theorem dJ9_max_7cf53_2 : decode cJ9_max_7cf53 2 = .ok (.if_icmp .lt 7, 3) := by decide +kernel
theorem dJ9_max_7cf53_5 : decode cJ9_max_7cf53 5 = .ok (.iload_n 0, 1) := by decide +kernel
theorem dJ9_max_7cf53_6 : decode cJ9_max_7cf53 6 = .ok (.goto 4, 3) := by decide +kernel
theorem dJ9_max_7cf53_9 : decode cJ9_max_7cf53 9 = .ok (.iload_n 1, 1) := by decide +kernel
theorem dJ9_max_7cf53_10 : decode cJ9_max_7cf53 10 = .ok (.ireturn, 1) := by decide +kernel
theorem dJ9_min_7cf53_0 : decode cJ9_min_7cf53 0 = .ok (.iload_n 0, 1) := by decide +kernel
theorem dJ9_min_7cf53_1 : decode cJ9_min_7cf53 1 = .ok (.iload_n 1, 1) := by decide +kernel
theorem dJ9_min_7cf53_2 : decode cJ9_min_7cf53 2 = .ok (.if_icmp .gt 7, 3) := by decide +kernel
theorem dJ9_min_7cf53_5 : decode cJ9_min_7cf53 5 = .ok (.iload_n 0, 1) := by decide +kernel
theorem dJ9_min_7cf53_6 : decode cJ9_min_7cf53 6 = .ok (.goto 4, 3) := by decide +kernel
theorem dJ9_min_7cf53_9 : decode cJ9_min_7cf53 9 = .ok (.iload_n 1, 1) := by decide +kernel
theorem dJ9_min_7cf53_10 : decode cJ9_min_7cf53 10 = .ok (.ireturn, 1) := by decide +kernel
