theorem dX0_init_0 : decode cX0_init 0 = .ok (.aload_n 0, 1) := by decide +kernel
theorem dX0_init_1 : decode cX0_init 1 = .ok (.invokespecial 1, 3) := by decide +kernel
theorem dX0_init_4 : decode cX0_init 4 = .ok (.aload_n 0, 1) := by decide +kernel
theorem dX0_init_5 : decode cX0_init 5 = .ok (.iload_n 1, 1) := by decide +kernel
theorem dX0_init_6 : decode cX0_init 6 = .ok (.putfield 7, 3) := by decide +kernel
theorem dX0_init_9 : decode cX0_init 9 = .ok (.aload_n 0, 1) := by decide +kernel
theorem dX0_init_10 : decode cX0_init 10 = .ok (.iload_n 2, 1) := by decide +kernel
theorem dX0_init_11 : decode cX0_init 11 = .ok (.putfield 13, 3) := by decide +kernel
theorem dX0_init_14 : decode cX0_init 14 = .ok (.return_, 1) := by decide +kernel
theorem dX1_init_0 : decode cX1_init 0 = .ok (.aload_n 0, 1) := by decide +kernel
theorem dX1_init_1 : decode cX1_init 1 = .ok (.invokespecial 3, 3) := by decide +kernel
theorem dX1_init_4 : decode cX1_init 4 = .ok (.aload_n 0, 1) := by decide +kernel
theorem dX1_init_5 : decode cX1_init 5 = .ok (.iconst 0, 1) := by decide +kernel
theorem dX1_init_6 : decode cX1_init 6 = .ok (.putfield 9, 3) := by decide +kernel
theorem dX1_init_9 : decode cX1_init 9 = .ok (.aload_n 0, 1) := by decide +kernel
theorem dX1_init_10 : decode cX1_init 10 = .ok (.iconst 0, 1) := by decide +kernel
theorem dX1_init_11 : decode cX1_init 11 = .ok (.putfield 15, 3) := by decide +kernel
theorem dX1_init_14 : decode cX1_init 14 = .ok (.aload_n 0, 1) := by decide +kernel
theorem dX1_init_15 : decode cX1_init 15 = .ok (.iconst 0, 1) := by decide +kernel
theorem dX1_init_16 : decode cX1_init 16 = .ok (.putfield 18, 3) := by decide +kernel
theorem dX1_init_19 : decode cX1_init 19 = .ok (.aload_n 0, 1) := by decide +kernel
theorem dX1_init_20 : decode cX1_init 20 = .ok (.iconst 0, 1) := by decide +kernel
theorem dX1_init_21 : decode cX1_init 21 = .ok (.putfield 21, 3) := by decide +kernel
theorem dX1_init_24 : decode cX1_init 24 = .ok (.return_, 1) := by decide +kernel
theorem dX1_isLorryTime_0 : decode cX1_isLorryTime 0 = .ok (.aload_n 0, 1) := by decide +kernel
theorem dX1_isLorryTime_1 : decode cX1_isLorryTime 1 = .ok (.getfield 9, 3) := by decide +kernel
theorem dX1_isLorryTime_4 : decode cX1_isLorryTime 4 = .ok (.sipush 1440, 3) := by decide +kernel
theorem dX1_isLorryTime_7 : decode cX1_isLorryTime 7 = .ok (.irem, 1) := by decide +kernel
theorem dX1_isLorryTime_8 : decode cX1_isLorryTime 8 = .ok (.istore_n 1, 1) := by decide +kernel
theorem dX1_isLorryTime_9 : decode cX1_isLorryTime 9 = .ok (.iload_n 1, 1) := by decide +kernel
theorem dX1_isLorryTime_10 : decode cX1_isLorryTime 10 = .ok (.sipush 360, 3) := by decide +kernel
theorem dX1_isLorryTime_13 : decode cX1_isLorryTime 13 = .ok (.if_icmp .lt 14, 3) := by decide +kernel
theorem dX1_isLorryTime_16 : decode cX1_isLorryTime 16 = .ok (.iload_n 1, 1) := by decide +kernel
theorem dX1_isLorryTime_17 : decode cX1_isLorryTime 17 = .ok (.sipush 1320, 3) := by decide +kernel
theorem dX1_isLorryTime_20 : decode cX1_isLorryTime 20 = .ok (.if_icmp .ge 7, 3) := by decide +kernel
theorem dX1_isLorryTime_23 : decode cX1_isLorryTime 23 = .ok (.iconst 1, 1) := by decide +kernel
theorem dX1_isLorryTime_24 : decode cX1_isLorryTime 24 = .ok (.goto 4, 3) := by decide +kernel
theorem dX1_isLorryTime_27 : decode cX1_isLorryTime 27 = .ok (.iconst 0, 1) := by decide +kernel
theorem dX1_isLorryTime_28 : decode cX1_isLorryTime 28 = .ok (.ireturn, 1) := by decide +kernel
theorem dX1_forAllElse_0 : decode cX1_forAllElse 0 = .ok (.aload_n 0, 1) := by decide +kernel
theorem dX1_forAllElse_1 : decode cX1_forAllElse 1 = .ok (.getfield 15, 3) := by decide +kernel
theorem dX1_forAllElse_4 : decode cX1_forAllElse 4 = .ok (.aload_n 0, 1) := by decide +kernel
theorem dX1_forAllElse_5 : decode cX1_forAllElse 5 = .ok (.getfield 18, 3) := by decide +kernel
theorem dX1_forAllElse_8 : decode cX1_forAllElse 8 = .ok (.iadd, 1) := by decide +kernel
theorem dX1_forAllElse_9 : decode cX1_forAllElse 9 = .ok (.aload_n 0, 1) := by decide +kernel
theorem dX1_forAllElse_10 : decode cX1_forAllElse 10 = .ok (.getfield 21, 3) := by decide +kernel
theorem dX1_forAllElse_13 : decode cX1_forAllElse 13 = .ok (.iadd, 1) := by decide +kernel
theorem dX1_forAllElse_14 : decode cX1_forAllElse 14 = .ok (.ireturn, 1) := by decide +kernel
theorem dX2_init_0 : decode cX2_init 0 = .ok (.aload_n 0, 1) := by decide +kernel
theorem dX2_init_1 : decode cX2_init 1 = .ok (.invokespecial 3, 3) := by decide +kernel
theorem dX2_init_4 : decode cX2_init 4 = .ok (.aload_n 0, 1) := by decide +kernel
theorem dX2_init_5 : decode cX2_init 5 = .ok (.getstatic 9, 3) := by decide +kernel
theorem dX2_init_8 : decode cX2_init 8 = .ok (.invokevirtual 13, 3) := by decide +kernel
theorem dX2_init_11 : decode cX2_init 11 = .ok (.checkcast 14, 3) := by decide +kernel
theorem dX2_init_14 : decode cX2_init 14 = .ok (.putfield 18, 3) := by decide +kernel
theorem dX2_init_17 : decode cX2_init 17 = .ok (.aload_n 0, 1) := by decide +kernel
theorem dX2_init_18 : decode cX2_init 18 = .ok (.getstatic 23, 3) := by decide +kernel
theorem dX2_init_21 : decode cX2_init 21 = .ok (.arraylength, 1) := by decide +kernel
theorem dX2_init_22 : decode cX2_init 22 = .ok (.newarray .int, 2) := by decide +kernel
theorem dX2_init_24 : decode cX2_init 24 = .ok (.putfield 26, 3) := by decide +kernel
theorem dX2_init_27 : decode cX2_init 27 = .ok (.return_, 1) := by decide +kernel
theorem dX2_addWait_0 : decode cX2_addWait 0 = .ok (.iload_n 3, 1) := by decide +kernel
theorem dX2_addWait_1 : decode cX2_addWait 1 = .ok (.bipush 45, 2) := by decide +kernel
theorem dX2_addWait_3 : decode cX2_addWait 3 = .ok (.if_icmp .eq 26, 3) := by decide +kernel
theorem dX2_addWait_6 : decode cX2_addWait 6 = .ok (.aload_n 0, 1) := by decide +kernel
theorem dX2_addWait_7 : decode cX2_addWait 7 = .ok (.getfield 18, 3) := by decide +kernel
theorem dX2_addWait_10 : decode cX2_addWait 10 = .ok (.iload_n 3, 1) := by decide +kernel
theorem dX2_addWait_11 : decode cX2_addWait 11 = .ok (.invokestatic 30, 3) := by decide +kernel
theorem dX2_addWait_14 : decode cX2_addWait 14 = .ok (.aload_n 0, 1) := by decide +kernel
theorem dX2_addWait_15 : decode cX2_addWait 15 = .ok (.getfield 18, 3) := by decide +kernel
theorem dX2_addWait_18 : decode cX2_addWait 18 = .ok (.iload_n 2, 1) := by decide +kernel
theorem dX2_addWait_19 : decode cX2_addWait 19 = .ok (.invokestatic 30, 3) := by decide +kernel
theorem dX2_addWait_22 : decode cX2_addWait 22 = .ok (.if_icmp .ge 7, 3) := by decide +kernel
theorem dX2_addWait_25 : decode cX2_addWait 25 = .ok (.iconst 1, 1) := by decide +kernel
theorem dX2_addWait_26 : decode cX2_addWait 26 = .ok (.goto 4, 3) := by decide +kernel
theorem dX2_addWait_29 : decode cX2_addWait 29 = .ok (.iconst 0, 1) := by decide +kernel
theorem dX2_addWait_30 : decode cX2_addWait 30 = .ok (.istore 4, 2) := by decide +kernel
theorem dX2_addWait_32 : decode cX2_addWait 32 = .ok (.iload 4, 2) := by decide +kernel
theorem dX2_addWait_34 : decode cX2_addWait 34 = .ok (.ifCond .eq 7, 3) := by decide +kernel
theorem dX2_addWait_37 : decode cX2_addWait 37 = .ok (.iload_n 3, 1) := by decide +kernel
theorem dX2_addWait_38 : decode cX2_addWait 38 = .ok (.goto 4, 3) := by decide +kernel
theorem dX2_addWait_41 : decode cX2_addWait 41 = .ok (.iload_n 2, 1) := by decide +kernel
theorem dX2_addWait_42 : decode cX2_addWait 42 = .ok (.invokestatic 34, 3) := by decide +kernel
theorem dX2_addWait_45 : decode cX2_addWait 45 = .ok (.istore 5, 2) := by decide +kernel
theorem dX2_addWait_47 : decode cX2_addWait 47 = .ok (.aload_n 0, 1) := by decide +kernel
theorem dX2_addWait_48 : decode cX2_addWait 48 = .ok (.getfield 26, 3) := by decide +kernel
theorem dX2_addWait_51 : decode cX2_addWait 51 = .ok (.iload 5, 2) := by decide +kernel
theorem dX2_addWait_53 : decode cX2_addWait 53 = .ok (.aload_n 0, 1) := by decide +kernel
theorem dX2_addWait_54 : decode cX2_addWait 54 = .ok (.getfield 26, 3) := by decide +kernel
theorem dX2_addWait_57 : decode cX2_addWait 57 = .ok (.iload 5, 2) := by decide +kernel
theorem dX2_addWait_59 : decode cX2_addWait 59 = .ok (.invokestatic 38, 3) := by decide +kernel
theorem dX2_addWait_62 : decode cX2_addWait 62 = .ok (.iload_n 1, 1) := by decide +kernel
theorem dX2_addWait_63 : decode cX2_addWait 63 = .ok (.iadd, 1) := by decide +kernel
theorem dX2_addWait_64 : decode cX2_addWait 64 = .ok (.invokestatic 42, 3) := by decide +kernel
theorem dX2_addWait_67 : decode cX2_addWait 67 = .ok (.return_, 1) := by decide +kernel
theorem dX2_putFirst_0 : decode cX2_putFirst 0 = .ok (.iload_n 1, 1) := by decide +kernel
theorem dX2_putFirst_1 : decode cX2_putFirst 1 = .ok (.ifCond .le 12, 3) := by decide +kernel
theorem dX2_putFirst_4 : decode cX2_putFirst 4 = .ok (.iload_n 1, 1) := by decide +kernel
theorem dX2_putFirst_5 : decode cX2_putFirst 5 = .ok (.aload_n 0, 1) := by decide +kernel
theorem dX2_putFirst_6 : decode cX2_putFirst 6 = .ok (.getfield 18, 3) := by decide +kernel
theorem dX2_putFirst_9 : decode cX2_putFirst 9 = .ok (.arraylength, 1) := by decide +kernel
theorem dX2_putFirst_10 : decode cX2_putFirst 10 = .ok (.if_icmp .lt 4, 3) := by decide +kernel
theorem dX2_putFirst_13 : decode cX2_putFirst 13 = .ok (.return_, 1) := by decide +kernel
theorem dX2_putFirst_14 : decode cX2_putFirst 14 = .ok (.aload_n 0, 1) := by decide +kernel
theorem dX2_putFirst_15 : decode cX2_putFirst 15 = .ok (.getfield 18, 3) := by decide +kernel
theorem dX2_putFirst_18 : decode cX2_putFirst 18 = .ok (.iload_n 1, 1) := by decide +kernel
theorem dX2_putFirst_19 : decode cX2_putFirst 19 = .ok (.caload, 1) := by decide +kernel
theorem dX2_putFirst_20 : decode cX2_putFirst 20 = .ok (.istore_n 2, 1) := by decide +kernel
theorem dX2_putFirst_21 : decode cX2_putFirst 21 = .ok (.iload_n 1, 1) := by decide +kernel
theorem dX2_putFirst_22 : decode cX2_putFirst 22 = .ok (.istore_n 3, 1) := by decide +kernel
theorem dX2_putFirst_23 : decode cX2_putFirst 23 = .ok (.iload_n 3, 1) := by decide +kernel
theorem dX2_putFirst_24 : decode cX2_putFirst 24 = .ok (.ifCond .le 23, 3) := by decide +kernel
theorem dX2_putFirst_27 : decode cX2_putFirst 27 = .ok (.aload_n 0, 1) := by decide +kernel
theorem dX2_putFirst_28 : decode cX2_putFirst 28 = .ok (.getfield 18, 3) := by decide +kernel
theorem dX2_putFirst_31 : decode cX2_putFirst 31 = .ok (.iload_n 3, 1) := by decide +kernel
theorem dX2_putFirst_32 : decode cX2_putFirst 32 = .ok (.aload_n 0, 1) := by decide +kernel
theorem dX2_putFirst_33 : decode cX2_putFirst 33 = .ok (.getfield 18, 3) := by decide +kernel
theorem dX2_putFirst_36 : decode cX2_putFirst 36 = .ok (.iload_n 3, 1) := by decide +kernel
theorem dX2_putFirst_37 : decode cX2_putFirst 37 = .ok (.iconst 1, 1) := by decide +kernel
theorem dX2_putFirst_38 : decode cX2_putFirst 38 = .ok (.isub, 1) := by decide +kernel
theorem dX2_putFirst_39 : decode cX2_putFirst 39 = .ok (.caload, 1) := by decide +kernel
theorem dX2_putFirst_40 : decode cX2_putFirst 40 = .ok (.castore, 1) := by decide +kernel
theorem dX2_putFirst_41 : decode cX2_putFirst 41 = .ok (.iinc 3 (-1), 3) := by decide +kernel
theorem dX2_putFirst_44 : decode cX2_putFirst 44 = .ok (.goto (-21), 3) := by decide +kernel
theorem dX2_putFirst_47 : decode cX2_putFirst 47 = .ok (.aload_n 0, 1) := by decide +kernel
theorem dX2_putFirst_48 : decode cX2_putFirst 48 = .ok (.getfield 18, 3) := by decide +kernel
theorem dX2_putFirst_51 : decode cX2_putFirst 51 = .ok (.iconst 0, 1) := by decide +kernel
theorem dX2_putFirst_52 : decode cX2_putFirst 52 = .ok (.iload_n 2, 1) := by decide +kernel
theorem dX2_putFirst_53 : decode cX2_putFirst 53 = .ok (.castore, 1) := by decide +kernel
theorem dX2_putFirst_54 : decode cX2_putFirst 54 = .ok (.return_, 1) := by decide +kernel
theorem dX2_allWaits_0 : decode cX2_allWaits 0 = .ok (.iconst 0, 1) := by decide +kernel
theorem dX2_allWaits_1 : decode cX2_allWaits 1 = .ok (.istore_n 1, 1) := by decide +kernel
theorem dX2_allWaits_2 : decode cX2_allWaits 2 = .ok (.iconst 0, 1) := by decide +kernel
theorem dX2_allWaits_3 : decode cX2_allWaits 3 = .ok (.istore_n 2, 1) := by decide +kernel
theorem dX2_allWaits_4 : decode cX2_allWaits 4 = .ok (.iload_n 2, 1) := by decide +kernel
theorem dX2_allWaits_5 : decode cX2_allWaits 5 = .ok (.aload_n 0, 1) := by decide +kernel
theorem dX2_allWaits_6 : decode cX2_allWaits 6 = .ok (.getfield 26, 3) := by decide +kernel
theorem dX2_allWaits_9 : decode cX2_allWaits 9 = .ok (.arraylength, 1) := by decide +kernel
theorem dX2_allWaits_10 : decode cX2_allWaits 10 = .ok (.if_icmp .ge 18, 3) := by decide +kernel
theorem dX2_allWaits_13 : decode cX2_allWaits 13 = .ok (.iload_n 1, 1) := by decide +kernel
theorem dX2_allWaits_14 : decode cX2_allWaits 14 = .ok (.aload_n 0, 1) := by decide +kernel
theorem dX2_allWaits_15 : decode cX2_allWaits 15 = .ok (.getfield 26, 3) := by decide +kernel
theorem dX2_allWaits_18 : decode cX2_allWaits 18 = .ok (.iload_n 2, 1) := by decide +kernel
theorem dX2_allWaits_19 : decode cX2_allWaits 19 = .ok (.iaload, 1) := by decide +kernel
theorem dX2_allWaits_20 : decode cX2_allWaits 20 = .ok (.iadd, 1) := by decide +kernel
theorem dX2_allWaits_21 : decode cX2_allWaits 21 = .ok (.istore_n 1, 1) := by decide +kernel
theorem dX2_allWaits_22 : decode cX2_allWaits 22 = .ok (.iinc 2 1, 3) := by decide +kernel
theorem dX2_allWaits_25 : decode cX2_allWaits 25 = .ok (.goto (-21), 3) := by decide +kernel
theorem dX2_allWaits_28 : decode cX2_allWaits 28 = .ok (.iload_n 1, 1) := by decide +kernel
theorem dX2_allWaits_29 : decode cX2_allWaits 29 = .ok (.ireturn, 1) := by decide +kernel
theorem dX2_ownerOf_0 : decode cX2_ownerOf 0 = .ok (.iload_n 0, 1) := by decide +kernel
theorem dX2_ownerOf_1 : decode cX2_ownerOf 1 = .ok (.bipush 103, 2) := by decide +kernel
theorem dX2_ownerOf_3 : decode cX2_ownerOf 3 = .ok (.if_icmp .eq 9, 3) := by decide +kernel
theorem dX2_ownerOf_6 : decode cX2_ownerOf 6 = .ok (.iload_n 0, 1) := by decide +kernel
theorem dX2_ownerOf_7 : decode cX2_ownerOf 7 = .ok (.bipush 104, 2) := by decide +kernel
theorem dX2_ownerOf_9 : decode cX2_ownerOf 9 = .ok (.if_icmp .ne 12, 3) := by decide +kernel
theorem dX2_ownerOf_12 : decode cX2_ownerOf 12 = .ok (.getstatic 23, 3) := by decide +kernel
theorem dX2_ownerOf_15 : decode cX2_ownerOf 15 = .ok (.bipush 107, 2) := by decide +kernel
theorem dX2_ownerOf_17 : decode cX2_ownerOf 17 = .ok (.invokestatic 30, 3) := by decide +kernel
theorem dX2_ownerOf_20 : decode cX2_ownerOf 20 = .ok (.ireturn, 1) := by decide +kernel
theorem dX2_ownerOf_21 : decode cX2_ownerOf 21 = .ok (.getstatic 23, 3) := by decide +kernel
theorem dX2_ownerOf_24 : decode cX2_ownerOf 24 = .ok (.iload_n 0, 1) := by decide +kernel
theorem dX2_ownerOf_25 : decode cX2_ownerOf 25 = .ok (.bipush 119, 2) := by decide +kernel
theorem dX2_ownerOf_27 : decode cX2_ownerOf 27 = .ok (.if_icmp .ne 8, 3) := by decide +kernel
theorem dX2_ownerOf_30 : decode cX2_ownerOf 30 = .ok (.bipush 110, 2) := by decide +kernel
theorem dX2_ownerOf_32 : decode cX2_ownerOf 32 = .ok (.goto 5, 3) := by decide +kernel
theorem dX2_ownerOf_35 : decode cX2_ownerOf 35 = .ok (.bipush 98, 2) := by decide +kernel
theorem dX2_ownerOf_37 : decode cX2_ownerOf 37 = .ok (.invokestatic 30, 3) := by decide +kernel
theorem dX2_ownerOf_40 : decode cX2_ownerOf 40 = .ok (.ireturn, 1) := by decide +kernel
theorem dX3_init_0 : decode cX3_init 0 = .ok (.aload_n 0, 1) := by decide +kernel
theorem dX3_init_1 : decode cX3_init 1 = .ok (.invokespecial 1, 3) := by decide +kernel
theorem dX3_init_4 : decode cX3_init 4 = .ok (.aload_n 0, 1) := by decide +kernel
theorem dX3_init_5 : decode cX3_init 5 = .ok (.iconst 0, 1) := by decide +kernel
theorem dX3_init_6 : decode cX3_init 6 = .ok (.putfield 7, 3) := by decide +kernel
theorem dX3_init_9 : decode cX3_init 9 = .ok (.aload_n 0, 1) := by decide +kernel
theorem dX3_init_10 : decode cX3_init 10 = .ok (.iconst 0, 1) := by decide +kernel
theorem dX3_init_11 : decode cX3_init 11 = .ok (.putfield 13, 3) := by decide +kernel
theorem dX3_init_14 : decode cX3_init 14 = .ok (.aload_n 0, 1) := by decide +kernel
theorem dX3_init_15 : decode cX3_init 15 = .ok (.iconst 0, 1) := by decide +kernel
theorem dX3_init_16 : decode cX3_init 16 = .ok (.putfield 16, 3) := by decide +kernel
theorem dX3_init_19 : decode cX3_init 19 = .ok (.aload_n 0, 1) := by decide +kernel
theorem dX3_init_20 : decode cX3_init 20 = .ok (.iconst 0, 1) := by decide +kernel
theorem dX3_init_21 : decode cX3_init 21 = .ok (.putfield 19, 3) := by decide +kernel
theorem dX3_init_24 : decode cX3_init 24 = .ok (.return_, 1) := by decide +kernel
theorem dX3_startAtLine_0 : decode cX3_startAtLine 0 = .ok (.aload_n 0, 1) := by decide +kernel
theorem dX3_startAtLine_1 : decode cX3_startAtLine 1 = .ok (.iconst 0, 1) := by decide +kernel
theorem dX3_startAtLine_2 : decode cX3_startAtLine 2 = .ok (.putfield 7, 3) := by decide +kernel
theorem dX3_startAtLine_5 : decode cX3_startAtLine 5 = .ok (.aload_n 0, 1) := by decide +kernel
theorem dX3_startAtLine_6 : decode cX3_startAtLine 6 = .ok (.iconst 0, 1) := by decide +kernel
theorem dX3_startAtLine_7 : decode cX3_startAtLine 7 = .ok (.putfield 13, 3) := by decide +kernel
theorem dX3_startAtLine_10 : decode cX3_startAtLine 10 = .ok (.aload_n 0, 1) := by decide +kernel
theorem dX3_startAtLine_11 : decode cX3_startAtLine 11 = .ok (.iconst 0, 1) := by decide +kernel
theorem dX3_startAtLine_12 : decode cX3_startAtLine 12 = .ok (.putfield 16, 3) := by decide +kernel
theorem dX3_startAtLine_15 : decode cX3_startAtLine 15 = .ok (.aload_n 0, 1) := by decide +kernel
theorem dX3_startAtLine_16 : decode cX3_startAtLine 16 = .ok (.iconst 0, 1) := by decide +kernel
theorem dX3_startAtLine_17 : decode cX3_startAtLine 17 = .ok (.putfield 19, 3) := by decide +kernel
theorem dX3_startAtLine_20 : decode cX3_startAtLine 20 = .ok (.return_, 1) := by decide +kernel
theorem dX3_startAt_0 : decode cX3_startAt 0 = .ok (.aload_n 0, 1) := by decide +kernel
theorem dX3_startAt_1 : decode cX3_startAt 1 = .ok (.aload_n 1, 1) := by decide +kernel
theorem dX3_startAt_2 : decode cX3_startAt 2 = .ok (.getfield 7, 3) := by decide +kernel
theorem dX3_startAt_5 : decode cX3_startAt 5 = .ok (.putfield 7, 3) := by decide +kernel
theorem dX3_startAt_8 : decode cX3_startAt 8 = .ok (.aload_n 0, 1) := by decide +kernel
theorem dX3_startAt_9 : decode cX3_startAt 9 = .ok (.aload_n 1, 1) := by decide +kernel
theorem dX3_startAt_10 : decode cX3_startAt 10 = .ok (.getfield 13, 3) := by decide +kernel
theorem dX3_startAt_13 : decode cX3_startAt 13 = .ok (.putfield 13, 3) := by decide +kernel
theorem dX3_startAt_16 : decode cX3_startAt 16 = .ok (.aload_n 0, 1) := by decide +kernel
theorem dX3_startAt_17 : decode cX3_startAt 17 = .ok (.aload_n 1, 1) := by decide +kernel
theorem dX3_startAt_18 : decode cX3_startAt 18 = .ok (.getfield 16, 3) := by decide +kernel
theorem dX3_startAt_21 : decode cX3_startAt 21 = .ok (.putfield 16, 3) := by decide +kernel
theorem dX3_startAt_24 : decode cX3_startAt 24 = .ok (.aload_n 0, 1) := by decide +kernel
theorem dX3_startAt_25 : decode cX3_startAt 25 = .ok (.aload_n 1, 1) := by decide +kernel
theorem dX3_startAt_26 : decode cX3_startAt 26 = .ok (.getfield 19, 3) := by decide +kernel
theorem dX3_startAt_29 : decode cX3_startAt 29 = .ok (.putfield 19, 3) := by decide +kernel
theorem dX3_startAt_32 : decode cX3_startAt 32 = .ok (.return_, 1) := by decide +kernel
theorem dX3_go_0 : decode cX3_go 0 = .ok (.aload_n 0, 1) := by decide +kernel
theorem dX3_go_1 : decode cX3_go 1 = .ok (.dup, 1) := by decide +kernel
theorem dX3_go_2 : decode cX3_go 2 = .ok (.getfield 7, 3) := by decide +kernel
theorem dX3_go_5 : decode cX3_go 5 = .ok (.iload_n 1, 1) := by decide +kernel
theorem dX3_go_6 : decode cX3_go 6 = .ok (.iadd, 1) := by decide +kernel
theorem dX3_go_7 : decode cX3_go 7 = .ok (.putfield 7, 3) := by decide +kernel
theorem dX3_go_10 : decode cX3_go 10 = .ok (.aload_n 0, 1) := by decide +kernel
theorem dX3_go_11 : decode cX3_go 11 = .ok (.dup, 1) := by decide +kernel
theorem dX3_go_12 : decode cX3_go 12 = .ok (.getfield 13, 3) := by decide +kernel
theorem dX3_go_15 : decode cX3_go 15 = .ok (.iload_n 2, 1) := by decide +kernel
theorem dX3_go_16 : decode cX3_go 16 = .ok (.iadd, 1) := by decide +kernel
theorem dX3_go_17 : decode cX3_go 17 = .ok (.putfield 13, 3) := by decide +kernel
theorem dX3_go_20 : decode cX3_go 20 = .ok (.aload_n 0, 1) := by decide +kernel
theorem dX3_go_21 : decode cX3_go 21 = .ok (.dup, 1) := by decide +kernel
theorem dX3_go_22 : decode cX3_go 22 = .ok (.getfield 16, 3) := by decide +kernel
theorem dX3_go_25 : decode cX3_go 25 = .ok (.aload_n 0, 1) := by decide +kernel
theorem dX3_go_26 : decode cX3_go 26 = .ok (.getfield 7, 3) := by decide +kernel
theorem dX3_go_29 : decode cX3_go 29 = .ok (.iadd, 1) := by decide +kernel
theorem dX3_go_30 : decode cX3_go 30 = .ok (.putfield 16, 3) := by decide +kernel
theorem dX3_go_33 : decode cX3_go 33 = .ok (.aload_n 0, 1) := by decide +kernel
theorem dX3_go_34 : decode cX3_go 34 = .ok (.dup, 1) := by decide +kernel
theorem dX3_go_35 : decode cX3_go 35 = .ok (.getfield 19, 3) := by decide +kernel
theorem dX3_go_38 : decode cX3_go 38 = .ok (.aload_n 0, 1) := by decide +kernel
theorem dX3_go_39 : decode cX3_go 39 = .ok (.getfield 13, 3) := by decide +kernel
theorem dX3_go_42 : decode cX3_go 42 = .ok (.iadd, 1) := by decide +kernel
theorem dX3_go_43 : decode cX3_go 43 = .ok (.putfield 19, 3) := by decide +kernel
theorem dX3_go_46 : decode cX3_go 46 = .ok (.return_, 1) := by decide +kernel
theorem dX3_square_0 : decode cX3_square 0 = .ok (.aload_n 0, 1) := by decide +kernel
theorem dX3_square_1 : decode cX3_square 1 = .ok (.getfield 16, 3) := by decide +kernel
theorem dX3_square_4 : decode cX3_square 4 = .ok (.i2l, 1) := by decide +kernel
theorem dX3_square_5 : decode cX3_square 5 = .ok (.aload_n 0, 1) := by decide +kernel
theorem dX3_square_6 : decode cX3_square 6 = .ok (.getfield 16, 3) := by decide +kernel
theorem dX3_square_9 : decode cX3_square 9 = .ok (.i2l, 1) := by decide +kernel
theorem dX3_square_10 : decode cX3_square 10 = .ok (.lmul, 1) := by decide +kernel
theorem dX3_square_11 : decode cX3_square 11 = .ok (.aload_n 0, 1) := by decide +kernel
theorem dX3_square_12 : decode cX3_square 12 = .ok (.getfield 19, 3) := by decide +kernel
theorem dX3_square_15 : decode cX3_square 15 = .ok (.i2l, 1) := by decide +kernel
theorem dX3_square_16 : decode cX3_square 16 = .ok (.aload_n 0, 1) := by decide +kernel
theorem dX3_square_17 : decode cX3_square 17 = .ok (.getfield 19, 3) := by decide +kernel
theorem dX3_square_20 : decode cX3_square 20 = .ok (.i2l, 1) := by decide +kernel
theorem dX3_square_21 : decode cX3_square 21 = .ok (.lmul, 1) := by decide +kernel
theorem dX3_square_22 : decode cX3_square 22 = .ok (.ladd, 1) := by decide +kernel
theorem dX3_square_23 : decode cX3_square 23 = .ok (.lreturn, 1) := by decide +kernel
theorem dX3_isLike_0 : decode cX3_isLike 0 = .ok (.aload_n 0, 1) := by decide +kernel
theorem dX3_isLike_1 : decode cX3_isLike 1 = .ok (.getfield 7, 3) := by decide +kernel
theorem dX3_isLike_4 : decode cX3_isLike 4 = .ok (.aload_n 1, 1) := by decide +kernel
theorem dX3_isLike_5 : decode cX3_isLike 5 = .ok (.getfield 7, 3) := by decide +kernel
theorem dX3_isLike_8 : decode cX3_isLike 8 = .ok (.if_icmp .ne 40, 3) := by decide +kernel
theorem dX3_isLike_11 : decode cX3_isLike 11 = .ok (.aload_n 0, 1) := by decide +kernel
theorem dX3_isLike_12 : decode cX3_isLike 12 = .ok (.getfield 13, 3) := by decide +kernel
theorem dX3_isLike_15 : decode cX3_isLike 15 = .ok (.aload_n 1, 1) := by decide +kernel
theorem dX3_isLike_16 : decode cX3_isLike 16 = .ok (.getfield 13, 3) := by decide +kernel
theorem dX3_isLike_19 : decode cX3_isLike 19 = .ok (.if_icmp .ne 29, 3) := by decide +kernel
theorem dX3_isLike_22 : decode cX3_isLike 22 = .ok (.aload_n 0, 1) := by decide +kernel
theorem dX3_isLike_23 : decode cX3_isLike 23 = .ok (.getfield 16, 3) := by decide +kernel
theorem dX3_isLike_26 : decode cX3_isLike 26 = .ok (.aload_n 1, 1) := by decide +kernel
theorem dX3_isLike_27 : decode cX3_isLike 27 = .ok (.getfield 16, 3) := by decide +kernel
theorem dX3_isLike_30 : decode cX3_isLike 30 = .ok (.if_icmp .ne 18, 3) := by decide +kernel
theorem dX3_isLike_33 : decode cX3_isLike 33 = .ok (.aload_n 0, 1) := by decide +kernel
theorem dX3_isLike_34 : decode cX3_isLike 34 = .ok (.getfield 19, 3) := by decide +kernel
theorem dX3_isLike_37 : decode cX3_isLike 37 = .ok (.aload_n 1, 1) := by decide +kernel
theorem dX3_isLike_38 : decode cX3_isLike 38 = .ok (.getfield 19, 3) := by decide +kernel
theorem dX3_isLike_41 : decode cX3_isLike 41 = .ok (.if_icmp .ne 7, 3) := by decide +kernel
theorem dX3_isLike_44 : decode cX3_isLike 44 = .ok (.iconst 1, 1) := by decide +kernel
theorem dX3_isLike_45 : decode cX3_isLike 45 = .ok (.goto 4, 3) := by decide +kernel
theorem dX3_isLike_48 : decode cX3_isLike 48 = .ok (.iconst 0, 1) := by decide +kernel
theorem dX3_isLike_49 : decode cX3_isLike 49 = .ok (.ireturn, 1) := by decide +kernel
theorem dX4_init_0 : decode cX4_init 0 = .ok (.aload_n 0, 1) := by decide +kernel
theorem dX4_init_1 : decode cX4_init 1 = .ok (.invokespecial 3, 3) := by decide +kernel
theorem dX4_init_4 : decode cX4_init 4 = .ok (.aload_n 0, 1) := by decide +kernel
theorem dX4_init_5 : decode cX4_init 5 = .ok (.iconst 0, 1) := by decide +kernel
theorem dX4_init_6 : decode cX4_init 6 = .ok (.putfield 9, 3) := by decide +kernel
theorem dX4_init_9 : decode cX4_init 9 = .ok (.aload_n 0, 1) := by decide +kernel
theorem dX4_init_10 : decode cX4_init 10 = .ok (.iconst 0, 1) := by decide +kernel
theorem dX4_init_11 : decode cX4_init 11 = .ok (.putfield 15, 3) := by decide +kernel
theorem dX4_init_14 : decode cX4_init 14 = .ok (.aload_n 0, 1) := by decide +kernel
theorem dX4_init_15 : decode cX4_init 15 = .ok (.iconst 0, 1) := by decide +kernel
theorem dX4_init_16 : decode cX4_init 16 = .ok (.putfield 18, 3) := by decide +kernel
theorem dX4_init_19 : decode cX4_init 19 = .ok (.aload_n 0, 1) := by decide +kernel
theorem dX4_init_20 : decode cX4_init 20 = .ok (.iconst 0, 1) := by decide +kernel
theorem dX4_init_21 : decode cX4_init 21 = .ok (.putfield 22, 3) := by decide +kernel
theorem dX4_init_24 : decode cX4_init 24 = .ok (.aload_n 0, 1) := by decide +kernel
theorem dX4_init_25 : decode cX4_init 25 = .ok (.iload_n 1, 1) := by decide +kernel
theorem dX4_init_26 : decode cX4_init 26 = .ok (.putfield 25, 3) := by decide +kernel
theorem dX4_init_29 : decode cX4_init 29 = .ok (.aload_n 0, 1) := by decide +kernel
theorem dX4_init_30 : decode cX4_init 30 = .ok (.iload_n 2, 1) := by decide +kernel
theorem dX4_init_31 : decode cX4_init 31 = .ok (.putfield 28, 3) := by decide +kernel
theorem dX4_init_34 : decode cX4_init 34 = .ok (.aload_n 0, 1) := by decide +kernel
theorem dX4_init_35 : decode cX4_init 35 = .ok (.iload_n 3, 1) := by decide +kernel
theorem dX4_init_36 : decode cX4_init 36 = .ok (.putfield 31, 3) := by decide +kernel
theorem dX4_init_39 : decode cX4_init 39 = .ok (.return_, 1) := by decide +kernel
theorem dX4_awayFrom_0 : decode cX4_awayFrom 0 = .ok (.aload_n 0, 1) := by decide +kernel
theorem dX4_awayFrom_1 : decode cX4_awayFrom 1 = .ok (.getfield 25, 3) := by decide +kernel
theorem dX4_awayFrom_4 : decode cX4_awayFrom 4 = .ok (.iload_n 1, 1) := by decide +kernel
theorem dX4_awayFrom_5 : decode cX4_awayFrom 5 = .ok (.isub, 1) := by decide +kernel
theorem dX4_awayFrom_6 : decode cX4_awayFrom 6 = .ok (.iload_n 1, 1) := by decide +kernel
theorem dX4_awayFrom_7 : decode cX4_awayFrom 7 = .ok (.aload_n 0, 1) := by decide +kernel
theorem dX4_awayFrom_8 : decode cX4_awayFrom 8 = .ok (.getfield 28, 3) := by decide +kernel
theorem dX4_awayFrom_11 : decode cX4_awayFrom 11 = .ok (.isub, 1) := by decide +kernel
theorem dX4_awayFrom_12 : decode cX4_awayFrom 12 = .ok (.invokestatic 34, 3) := by decide +kernel
theorem dX4_awayFrom_15 : decode cX4_awayFrom 15 = .ok (.iconst 0, 1) := by decide +kernel
theorem dX4_awayFrom_16 : decode cX4_awayFrom 16 = .ok (.invokestatic 34, 3) := by decide +kernel
theorem dX4_awayFrom_19 : decode cX4_awayFrom 19 = .ok (.ireturn, 1) := by decide +kernel
theorem dX4_colour_0 : decode cX4_colour 0 = .ok (.aload_n 0, 1) := by decide +kernel
theorem dX4_colour_1 : decode cX4_colour 1 = .ok (.getfield 18, 3) := by decide +kernel
theorem dX4_colour_4 : decode cX4_colour 4 = .ok (.ifCond .ne 6, 3) := by decide +kernel
theorem dX4_colour_7 : decode cX4_colour 7 = .ok (.bipush 45, 2) := by decide +kernel
theorem dX4_colour_9 : decode cX4_colour 9 = .ok (.ireturn, 1) := by decide +kernel
theorem dX4_colour_10 : decode cX4_colour 10 = .ok (.aload_n 0, 1) := by decide +kernel
theorem dX4_colour_11 : decode cX4_colour 11 = .ok (.getfield 22, 3) := by decide +kernel
theorem dX4_colour_14 : decode cX4_colour 14 = .ok (.bipush 20, 2) := by decide +kernel
theorem dX4_colour_16 : decode cX4_colour 16 = .ok (.if_icmp .ge 6, 3) := by decide +kernel
theorem dX4_colour_19 : decode cX4_colour 19 = .ok (.bipush 103, 2) := by decide +kernel
theorem dX4_colour_21 : decode cX4_colour 21 = .ok (.ireturn, 1) := by decide +kernel
theorem dX4_colour_22 : decode cX4_colour 22 = .ok (.aload_n 0, 1) := by decide +kernel
theorem dX4_colour_23 : decode cX4_colour 23 = .ok (.getfield 22, 3) := by decide +kernel
theorem dX4_colour_26 : decode cX4_colour 26 = .ok (.bipush 50, 2) := by decide +kernel
theorem dX4_colour_28 : decode cX4_colour 28 = .ok (.if_icmp .ge 8, 3) := by decide +kernel
theorem dX4_colour_31 : decode cX4_colour 31 = .ok (.bipush 121, 2) := by decide +kernel
theorem dX4_colour_33 : decode cX4_colour 33 = .ok (.goto 5, 3) := by decide +kernel
theorem dX4_colour_36 : decode cX4_colour 36 = .ok (.bipush 114, 2) := by decide +kernel
theorem dX4_colour_38 : decode cX4_colour 38 = .ok (.ireturn, 1) := by decide +kernel
theorem dX5_init_0 : decode cX5_init 0 = .ok (.aload_n 0, 1) := by decide +kernel
theorem dX5_init_1 : decode cX5_init 1 = .ok (.invokespecial 3, 3) := by decide +kernel
theorem dX5_init_4 : decode cX5_init 4 = .ok (.aload_n 0, 1) := by decide +kernel
theorem dX5_init_5 : decode cX5_init 5 = .ok (.iconst 0, 1) := by decide +kernel
theorem dX5_init_6 : decode cX5_init 6 = .ok (.putfield 9, 3) := by decide +kernel
theorem dX5_init_9 : decode cX5_init 9 = .ok (.aload_n 0, 1) := by decide +kernel
theorem dX5_init_10 : decode cX5_init 10 = .ok (.iconst 0, 1) := by decide +kernel
theorem dX5_init_11 : decode cX5_init 11 = .ok (.putfield 15, 3) := by decide +kernel
theorem dX5_init_14 : decode cX5_init 14 = .ok (.aload_n 0, 1) := by decide +kernel
theorem dX5_init_15 : decode cX5_init 15 = .ok (.iconst 0, 1) := by decide +kernel
theorem dX5_init_16 : decode cX5_init 16 = .ok (.putfield 18, 3) := by decide +kernel
theorem dX5_init_19 : decode cX5_init 19 = .ok (.aload_n 0, 1) := by decide +kernel
theorem dX5_init_20 : decode cX5_init 20 = .ok (.iconst 0, 1) := by decide +kernel
theorem dX5_init_21 : decode cX5_init 21 = .ok (.putfield 21, 3) := by decide +kernel
theorem dX5_init_24 : decode cX5_init 24 = .ok (.aload_n 0, 1) := by decide +kernel
theorem dX5_init_25 : decode cX5_init 25 = .ok (.iconst 0, 1) := by decide +kernel
theorem dX5_init_26 : decode cX5_init 26 = .ok (.putfield 24, 3) := by decide +kernel
theorem dX5_init_29 : decode cX5_init 29 = .ok (.aload_n 0, 1) := by decide +kernel
theorem dX5_init_30 : decode cX5_init 30 = .ok (.iconst 0, 1) := by decide +kernel
theorem dX5_init_31 : decode cX5_init 31 = .ok (.putfield 27, 3) := by decide +kernel
theorem dX5_init_34 : decode cX5_init 34 = .ok (.aload_n 0, 1) := by decide +kernel
theorem dX5_init_35 : decode cX5_init 35 = .ok (.iconst 0, 1) := by decide +kernel
theorem dX5_init_36 : decode cX5_init 36 = .ok (.putfield 31, 3) := by decide +kernel
theorem dX5_init_39 : decode cX5_init 39 = .ok (.aload_n 0, 1) := by decide +kernel
theorem dX5_init_40 : decode cX5_init 40 = .ok (.iconst 0, 1) := by decide +kernel
theorem dX5_init_41 : decode cX5_init 41 = .ok (.putfield 34, 3) := by decide +kernel
theorem dX5_init_44 : decode cX5_init 44 = .ok (.aload_n 0, 1) := by decide +kernel
theorem dX5_init_45 : decode cX5_init 45 = .ok (.iconst 0, 1) := by decide +kernel
theorem dX5_init_46 : decode cX5_init 46 = .ok (.putfield 37, 3) := by decide +kernel
theorem dX5_init_49 : decode cX5_init 49 = .ok (.aload_n 0, 1) := by decide +kernel
theorem dX5_init_50 : decode cX5_init 50 = .ok (.iload_n 1, 1) := by decide +kernel
theorem dX5_init_51 : decode cX5_init 51 = .ok (.putfield 40, 3) := by decide +kernel
theorem dX5_init_54 : decode cX5_init 54 = .ok (.aload_n 0, 1) := by decide +kernel
theorem dX5_init_55 : decode cX5_init 55 = .ok (.iload_n 2, 1) := by decide +kernel
theorem dX5_init_56 : decode cX5_init 56 = .ok (.putfield 43, 3) := by decide +kernel
theorem dX5_init_59 : decode cX5_init 59 = .ok (.aload_n 0, 1) := by decide +kernel
theorem dX5_init_60 : decode cX5_init 60 = .ok (.aload_n 3, 1) := by decide +kernel
theorem dX5_init_61 : decode cX5_init 61 = .ok (.getfield 46, 3) := by decide +kernel
theorem dX5_init_64 : decode cX5_init 64 = .ok (.putfield 51, 3) := by decide +kernel
theorem dX5_init_67 : decode cX5_init 67 = .ok (.aload_n 0, 1) := by decide +kernel
theorem dX5_init_68 : decode cX5_init 68 = .ok (.aload_n 3, 1) := by decide +kernel
theorem dX5_init_69 : decode cX5_init 69 = .ok (.getfield 52, 3) := by decide +kernel
theorem dX5_init_72 : decode cX5_init 72 = .ok (.putfield 55, 3) := by decide +kernel
theorem dX5_init_75 : decode cX5_init 75 = .ok (.aload_n 0, 1) := by decide +kernel
theorem dX5_init_76 : decode cX5_init 76 = .ok (.aload_n 3, 1) := by decide +kernel
theorem dX5_init_77 : decode cX5_init 77 = .ok (.getfield 56, 3) := by decide +kernel
theorem dX5_init_80 : decode cX5_init 80 = .ok (.putfield 59, 3) := by decide +kernel
theorem dX5_init_83 : decode cX5_init 83 = .ok (.return_, 1) := by decide +kernel
theorem dX5_isOff_0 : decode cX5_isOff 0 = .ok (.aload_n 0, 1) := by decide +kernel
theorem dX5_isOff_1 : decode cX5_isOff 1 = .ok (.getfield 9, 3) := by decide +kernel
theorem dX5_isOff_4 : decode cX5_isOff 4 = .ok (.invokestatic 62, 3) := by decide +kernel
theorem dX5_isOff_7 : decode cX5_isOff 7 = .ok (.bipush 50, 2) := by decide +kernel
theorem dX5_isOff_9 : decode cX5_isOff 9 = .ok (.if_icmp .gt 15, 3) := by decide +kernel
theorem dX5_isOff_12 : decode cX5_isOff 12 = .ok (.aload_n 0, 1) := by decide +kernel
theorem dX5_isOff_13 : decode cX5_isOff 13 = .ok (.getfield 15, 3) := by decide +kernel
theorem dX5_isOff_16 : decode cX5_isOff 16 = .ok (.invokestatic 62, 3) := by decide +kernel
theorem dX5_isOff_19 : decode cX5_isOff 19 = .ok (.bipush 50, 2) := by decide +kernel
theorem dX5_isOff_21 : decode cX5_isOff 21 = .ok (.if_icmp .le 7, 3) := by decide +kernel
theorem dX5_isOff_24 : decode cX5_isOff 24 = .ok (.iconst 1, 1) := by decide +kernel
theorem dX5_isOff_25 : decode cX5_isOff 25 = .ok (.goto 4, 3) := by decide +kernel
theorem dX5_isOff_28 : decode cX5_isOff 28 = .ok (.iconst 0, 1) := by decide +kernel
theorem dX5_isOff_29 : decode cX5_isOff 29 = .ok (.ireturn, 1) := by decide +kernel
theorem dX5_isEvent_0 : decode cX5_isEvent 0 = .ok (.aload_n 0, 1) := by decide +kernel
theorem dX5_isEvent_1 : decode cX5_isEvent 1 = .ok (.getfield 24, 3) := by decide +kernel
theorem dX5_isEvent_4 : decode cX5_isEvent 4 = .ok (.ifCond .le 7, 3) := by decide +kernel
theorem dX5_isEvent_7 : decode cX5_isEvent 7 = .ok (.iconst 1, 1) := by decide +kernel
theorem dX5_isEvent_8 : decode cX5_isEvent 8 = .ok (.goto 4, 3) := by decide +kernel
theorem dX5_isEvent_11 : decode cX5_isEvent 11 = .ok (.iconst 0, 1) := by decide +kernel
theorem dX5_isEvent_12 : decode cX5_isEvent 12 = .ok (.ireturn, 1) := by decide +kernel
theorem dX5_gap_0 : decode cX5_gap 0 = .ok (.bipush 100, 2) := by decide +kernel
theorem dX5_gap_2 : decode cX5_gap 2 = .ok (.bipush 10, 2) := by decide +kernel
theorem dX5_gap_4 : decode cX5_gap 4 = .ok (.getstatic 68, 3) := by decide +kernel
theorem dX5_gap_7 : decode cX5_gap 7 = .ok (.aload_n 0, 1) := by decide +kernel
theorem dX5_gap_8 : decode cX5_gap 8 = .ok (.getfield 43, 3) := by decide +kernel
theorem dX5_gap_11 : decode cX5_gap 11 = .ok (.invokestatic 72, 3) := by decide +kernel
theorem dX5_gap_14 : decode cX5_gap 14 = .ok (.imul, 1) := by decide +kernel
theorem dX5_gap_15 : decode cX5_gap 15 = .ok (.iadd, 1) := by decide +kernel
theorem dX5_gap_16 : decode cX5_gap 16 = .ok (.ireturn, 1) := by decide +kernel
theorem dX5_room_0 : decode cX5_room 0 = .ok (.aload_n 0, 1) := by decide +kernel
theorem dX5_room_1 : decode cX5_room 1 = .ok (.invokevirtual 76, 3) := by decide +kernel
theorem dX5_room_4 : decode cX5_room 4 = .ok (.aload_n 0, 1) := by decide +kernel
theorem dX5_room_5 : decode cX5_room 5 = .ok (.invokevirtual 76, 3) := by decide +kernel
theorem dX5_room_8 : decode cX5_room 8 = .ok (.iconst 5, 1) := by decide +kernel
theorem dX5_room_9 : decode cX5_room 9 = .ok (.idiv, 1) := by decide +kernel
theorem dX5_room_10 : decode cX5_room 10 = .ok (.iadd, 1) := by decide +kernel
theorem dX5_room_11 : decode cX5_room 11 = .ok (.aload_n 0, 1) := by decide +kernel
theorem dX5_room_12 : decode cX5_room 12 = .ok (.getfield 34, 3) := by decide +kernel
theorem dX5_room_15 : decode cX5_room 15 = .ok (.isub, 1) := by decide +kernel
theorem dX5_room_16 : decode cX5_room 16 = .ok (.ireturn, 1) := by decide +kernel
theorem dX5_missing_0 : decode cX5_missing 0 = .ok (.aload_n 0, 1) := by decide +kernel
theorem dX5_missing_1 : decode cX5_missing 1 = .ok (.invokevirtual 76, 3) := by decide +kernel
theorem dX5_missing_4 : decode cX5_missing 4 = .ok (.aload_n 0, 1) := by decide +kernel
theorem dX5_missing_5 : decode cX5_missing 5 = .ok (.getfield 34, 3) := by decide +kernel
theorem dX5_missing_8 : decode cX5_missing 8 = .ok (.isub, 1) := by decide +kernel
theorem dX5_missing_9 : decode cX5_missing 9 = .ok (.iconst 0, 1) := by decide +kernel
theorem dX5_missing_10 : decode cX5_missing 10 = .ok (.invokestatic 80, 3) := by decide +kernel
theorem dX5_missing_13 : decode cX5_missing 13 = .ok (.ireturn, 1) := by decide +kernel
theorem dX5_hasSet_0 : decode cX5_hasSet 0 = .ok (.aload_n 0, 1) := by decide +kernel
theorem dX5_hasSet_1 : decode cX5_hasSet 1 = .ok (.getfield 34, 3) := by decide +kernel
theorem dX5_hasSet_4 : decode cX5_hasSet 4 = .ok (.ifCond .le 19, 3) := by decide +kernel
theorem dX5_hasSet_7 : decode cX5_hasSet 7 = .ok (.iload_n 1, 1) := by decide +kernel
theorem dX5_hasSet_8 : decode cX5_hasSet 8 = .ok (.aload_n 0, 1) := by decide +kernel
theorem dX5_hasSet_9 : decode cX5_hasSet 9 = .ok (.getfield 37, 3) := by decide +kernel
theorem dX5_hasSet_12 : decode cX5_hasSet 12 = .ok (.isub, 1) := by decide +kernel
theorem dX5_hasSet_13 : decode cX5_hasSet 13 = .ok (.sipush 600, 3) := by decide +kernel
theorem dX5_hasSet_16 : decode cX5_hasSet 16 = .ok (.if_icmp .lt 7, 3) := by decide +kernel
theorem dX5_hasSet_19 : decode cX5_hasSet 19 = .ok (.iconst 1, 1) := by decide +kernel
theorem dX5_hasSet_20 : decode cX5_hasSet 20 = .ok (.goto 4, 3) := by decide +kernel
theorem dX5_hasSet_23 : decode cX5_hasSet 23 = .ok (.iconst 0, 1) := by decide +kernel
theorem dX5_hasSet_24 : decode cX5_hasSet 24 = .ok (.ireturn, 1) := by decide +kernel
theorem dX6_init_0 : decode cX6_init 0 = .ok (.aload_n 0, 1) := by decide +kernel
theorem dX6_init_1 : decode cX6_init 1 = .ok (.invokespecial 3, 3) := by decide +kernel
theorem dX6_init_4 : decode cX6_init 4 = .ok (.aload_n 0, 1) := by decide +kernel
theorem dX6_init_5 : decode cX6_init 5 = .ok (.bipush 8, 2) := by decide +kernel
theorem dX6_init_7 : decode cX6_init 7 = .ok (.newarray .int, 2) := by decide +kernel
theorem dX6_init_9 : decode cX6_init 9 = .ok (.putfield 9, 3) := by decide +kernel
theorem dX6_init_12 : decode cX6_init 12 = .ok (.aload_n 0, 1) := by decide +kernel
theorem dX6_init_13 : decode cX6_init 13 = .ok (.iconst 0, 1) := by decide +kernel
theorem dX6_init_14 : decode cX6_init 14 = .ok (.putfield 15, 3) := by decide +kernel
theorem dX6_init_17 : decode cX6_init 17 = .ok (.aload_n 0, 1) := by decide +kernel
theorem dX6_init_18 : decode cX6_init 18 = .ok (.iconst 0, 1) := by decide +kernel
theorem dX6_init_19 : decode cX6_init 19 = .ok (.putfield 19, 3) := by decide +kernel
theorem dX6_init_22 : decode cX6_init 22 = .ok (.aload_n 0, 1) := by decide +kernel
theorem dX6_init_23 : decode cX6_init 23 = .ok (.iconst 0, 1) := by decide +kernel
theorem dX6_init_24 : decode cX6_init 24 = .ok (.putfield 23, 3) := by decide +kernel
theorem dX6_init_27 : decode cX6_init 27 = .ok (.aload_n 0, 1) := by decide +kernel
theorem dX6_init_28 : decode cX6_init 28 = .ok (.iconst 0, 1) := by decide +kernel
theorem dX6_init_29 : decode cX6_init 29 = .ok (.putfield 26, 3) := by decide +kernel
theorem dX6_init_32 : decode cX6_init 32 = .ok (.return_, 1) := by decide +kernel
theorem dX6_isWornOut_0 : decode cX6_isWornOut 0 = .ok (.iconst 0, 1) := by decide +kernel
theorem dX6_isWornOut_1 : decode cX6_isWornOut 1 = .ok (.istore_n 1, 1) := by decide +kernel
theorem dX6_isWornOut_2 : decode cX6_isWornOut 2 = .ok (.iload_n 1, 1) := by decide +kernel
theorem dX6_isWornOut_3 : decode cX6_isWornOut 3 = .ok (.aload_n 0, 1) := by decide +kernel
theorem dX6_isWornOut_4 : decode cX6_isWornOut 4 = .ok (.getfield 9, 3) := by decide +kernel
theorem dX6_isWornOut_7 : decode cX6_isWornOut 7 = .ok (.arraylength, 1) := by decide +kernel
theorem dX6_isWornOut_8 : decode cX6_isWornOut 8 = .ok (.if_icmp .ge 22, 3) := by decide +kernel
theorem dX6_isWornOut_11 : decode cX6_isWornOut 11 = .ok (.aload_n 0, 1) := by decide +kernel
theorem dX6_isWornOut_12 : decode cX6_isWornOut 12 = .ok (.getfield 9, 3) := by decide +kernel
theorem dX6_isWornOut_15 : decode cX6_isWornOut 15 = .ok (.iload_n 1, 1) := by decide +kernel
theorem dX6_isWornOut_16 : decode cX6_isWornOut 16 = .ok (.iaload, 1) := by decide +kernel
theorem dX6_isWornOut_17 : decode cX6_isWornOut 17 = .ok (.bipush 100, 2) := by decide +kernel
theorem dX6_isWornOut_19 : decode cX6_isWornOut 19 = .ok (.if_icmp .lt 5, 3) := by decide +kernel
theorem dX6_isWornOut_22 : decode cX6_isWornOut 22 = .ok (.iconst 1, 1) := by decide +kernel
theorem dX6_isWornOut_23 : decode cX6_isWornOut 23 = .ok (.ireturn, 1) := by decide +kernel
theorem dX6_isWornOut_24 : decode cX6_isWornOut 24 = .ok (.iinc 1 1, 3) := by decide +kernel
theorem dX6_isWornOut_27 : decode cX6_isWornOut 27 = .ok (.goto (-25), 3) := by decide +kernel
theorem dX6_isWornOut_30 : decode cX6_isWornOut 30 = .ok (.iconst 0, 1) := by decide +kernel
theorem dX6_isWornOut_31 : decode cX6_isWornOut 31 = .ok (.ireturn, 1) := by decide +kernel
theorem dX6_wear_0 : decode cX6_wear 0 = .ok (.aload_n 0, 1) := by decide +kernel
theorem dX6_wear_1 : decode cX6_wear 1 = .ok (.getfield 19, 3) := by decide +kernel
theorem dX6_wear_4 : decode cX6_wear 4 = .ok (.ifCond .eq 17, 3) := by decide +kernel
theorem dX6_wear_7 : decode cX6_wear 7 = .ok (.iload_n 1, 1) := by decide +kernel
theorem dX6_wear_8 : decode cX6_wear 8 = .ok (.iconst 1, 1) := by decide +kernel
theorem dX6_wear_9 : decode cX6_wear 9 = .ok (.if_icmp .eq 8, 3) := by decide +kernel
theorem dX6_wear_12 : decode cX6_wear 12 = .ok (.iload_n 1, 1) := by decide +kernel
theorem dX6_wear_13 : decode cX6_wear 13 = .ok (.iconst 3, 1) := by decide +kernel
theorem dX6_wear_14 : decode cX6_wear 14 = .ok (.if_icmp .ne 7, 3) := by decide +kernel
theorem dX6_wear_17 : decode cX6_wear 17 = .ok (.iconst 1, 1) := by decide +kernel
theorem dX6_wear_18 : decode cX6_wear 18 = .ok (.goto 4, 3) := by decide +kernel
theorem dX6_wear_21 : decode cX6_wear 21 = .ok (.iconst 0, 1) := by decide +kernel
theorem dX6_wear_22 : decode cX6_wear 22 = .ok (.istore_n 2, 1) := by decide +kernel
theorem dX6_wear_23 : decode cX6_wear 23 = .ok (.iload_n 2, 1) := by decide +kernel
theorem dX6_wear_24 : decode cX6_wear 24 = .ok (.ifCond .eq 15, 3) := by decide +kernel
theorem dX6_wear_27 : decode cX6_wear 27 = .ok (.getstatic 29, 3) := by decide +kernel
theorem dX6_wear_30 : decode cX6_wear 30 = .ok (.iload_n 1, 1) := by decide +kernel
theorem dX6_wear_31 : decode cX6_wear 31 = .ok (.invokestatic 32, 3) := by decide +kernel
theorem dX6_wear_34 : decode cX6_wear 34 = .ok (.iconst 2, 1) := by decide +kernel
theorem dX6_wear_35 : decode cX6_wear 35 = .ok (.idiv, 1) := by decide +kernel
theorem dX6_wear_36 : decode cX6_wear 36 = .ok (.goto 10, 3) := by decide +kernel
theorem dX6_wear_39 : decode cX6_wear 39 = .ok (.getstatic 29, 3) := by decide +kernel
theorem dX6_wear_42 : decode cX6_wear 42 = .ok (.iload_n 1, 1) := by decide +kernel
theorem dX6_wear_43 : decode cX6_wear 43 = .ok (.invokestatic 32, 3) := by decide +kernel
theorem dX6_wear_46 : decode cX6_wear 46 = .ok (.istore_n 3, 1) := by decide +kernel
theorem dX6_wear_47 : decode cX6_wear 47 = .ok (.iconst 0, 1) := by decide +kernel
theorem dX6_wear_48 : decode cX6_wear 48 = .ok (.istore 4, 2) := by decide +kernel
theorem dX6_wear_50 : decode cX6_wear 50 = .ok (.iload 4, 2) := by decide +kernel
theorem dX6_wear_52 : decode cX6_wear 52 = .ok (.aload_n 0, 1) := by decide +kernel
theorem dX6_wear_53 : decode cX6_wear 53 = .ok (.getfield 9, 3) := by decide +kernel
theorem dX6_wear_56 : decode cX6_wear 56 = .ok (.arraylength, 1) := by decide +kernel
theorem dX6_wear_57 : decode cX6_wear 57 = .ok (.if_icmp .ge 32, 3) := by decide +kernel
theorem dX6_wear_60 : decode cX6_wear 60 = .ok (.aload_n 0, 1) := by decide +kernel
theorem dX6_wear_61 : decode cX6_wear 61 = .ok (.getfield 9, 3) := by decide +kernel
theorem dX6_wear_64 : decode cX6_wear 64 = .ok (.iload 4, 2) := by decide +kernel
theorem dX6_wear_66 : decode cX6_wear 66 = .ok (.dup2, 1) := by decide +kernel
theorem dX6_wear_67 : decode cX6_wear 67 = .ok (.iaload, 1) := by decide +kernel
theorem dX6_wear_68 : decode cX6_wear 68 = .ok (.iload 4, 2) := by decide +kernel
theorem dX6_wear_70 : decode cX6_wear 70 = .ok (.iconst 2, 1) := by decide +kernel
theorem dX6_wear_71 : decode cX6_wear 71 = .ok (.if_icmp .ge 9, 3) := by decide +kernel
theorem dX6_wear_74 : decode cX6_wear 74 = .ok (.iconst 2, 1) := by decide +kernel
theorem dX6_wear_75 : decode cX6_wear 75 = .ok (.iload_n 3, 1) := by decide +kernel
theorem dX6_wear_76 : decode cX6_wear 76 = .ok (.imul, 1) := by decide +kernel
theorem dX6_wear_77 : decode cX6_wear 77 = .ok (.goto 4, 3) := by decide +kernel
theorem dX6_wear_80 : decode cX6_wear 80 = .ok (.iload_n 3, 1) := by decide +kernel
theorem dX6_wear_81 : decode cX6_wear 81 = .ok (.iadd, 1) := by decide +kernel
theorem dX6_wear_82 : decode cX6_wear 82 = .ok (.iastore, 1) := by decide +kernel
theorem dX6_wear_83 : decode cX6_wear 83 = .ok (.iinc 4 1, 3) := by decide +kernel
theorem dX6_wear_86 : decode cX6_wear 86 = .ok (.goto (-36), 3) := by decide +kernel
theorem dX6_wear_89 : decode cX6_wear 89 = .ok (.return_, 1) := by decide +kernel
theorem dX7_init_0 : decode cX7_init 0 = .ok (.aload_n 0, 1) := by decide +kernel
theorem dX7_init_1 : decode cX7_init 1 = .ok (.invokespecial 3, 3) := by decide +kernel
theorem dX7_init_4 : decode cX7_init 4 = .ok (.aload_n 0, 1) := by decide +kernel
theorem dX7_init_5 : decode cX7_init 5 = .ok (.sipush 200, 3) := by decide +kernel
theorem dX7_init_8 : decode cX7_init 8 = .ok (.newarray .int, 2) := by decide +kernel
theorem dX7_init_10 : decode cX7_init 10 = .ok (.putfield 9, 3) := by decide +kernel
theorem dX7_init_13 : decode cX7_init 13 = .ok (.aload_n 0, 1) := by decide +kernel
theorem dX7_init_14 : decode cX7_init 14 = .ok (.sipush 200, 3) := by decide +kernel
theorem dX7_init_17 : decode cX7_init 17 = .ok (.newarray .int, 2) := by decide +kernel
theorem dX7_init_19 : decode cX7_init 19 = .ok (.putfield 15, 3) := by decide +kernel
theorem dX7_init_22 : decode cX7_init 22 = .ok (.aload_n 0, 1) := by decide +kernel
theorem dX7_init_23 : decode cX7_init 23 = .ok (.sipush 200, 3) := by decide +kernel
theorem dX7_init_26 : decode cX7_init 26 = .ok (.newarray .int, 2) := by decide +kernel
theorem dX7_init_28 : decode cX7_init 28 = .ok (.putfield 18, 3) := by decide +kernel
theorem dX7_init_31 : decode cX7_init 31 = .ok (.aload_n 0, 1) := by decide +kernel
theorem dX7_init_32 : decode cX7_init 32 = .ok (.sipush 200, 3) := by decide +kernel
theorem dX7_init_35 : decode cX7_init 35 = .ok (.newarray .int, 2) := by decide +kernel
theorem dX7_init_37 : decode cX7_init 37 = .ok (.putfield 21, 3) := by decide +kernel
theorem dX7_init_40 : decode cX7_init 40 = .ok (.aload_n 0, 1) := by decide +kernel
theorem dX7_init_41 : decode cX7_init 41 = .ok (.sipush 200, 3) := by decide +kernel
theorem dX7_init_44 : decode cX7_init 44 = .ok (.newarray .int, 2) := by decide +kernel
theorem dX7_init_46 : decode cX7_init 46 = .ok (.putfield 24, 3) := by decide +kernel
theorem dX7_init_49 : decode cX7_init 49 = .ok (.aload_n 0, 1) := by decide +kernel
theorem dX7_init_50 : decode cX7_init 50 = .ok (.sipush 200, 3) := by decide +kernel
theorem dX7_init_53 : decode cX7_init 53 = .ok (.newarray .int, 2) := by decide +kernel
theorem dX7_init_55 : decode cX7_init 55 = .ok (.putfield 27, 3) := by decide +kernel
theorem dX7_init_58 : decode cX7_init 58 = .ok (.aload_n 0, 1) := by decide +kernel
theorem dX7_init_59 : decode cX7_init 59 = .ok (.new 30, 3) := by decide +kernel
theorem dX7_init_62 : decode cX7_init 62 = .ok (.dup, 1) := by decide +kernel
theorem dX7_init_63 : decode cX7_init 63 = .ok (.invokespecial 32, 3) := by decide +kernel
theorem dX7_init_66 : decode cX7_init 66 = .ok (.putfield 33, 3) := by decide +kernel
theorem dX7_init_69 : decode cX7_init 69 = .ok (.iconst 0, 1) := by decide +kernel
theorem dX7_init_70 : decode cX7_init 70 = .ok (.istore_n 1, 1) := by decide +kernel
theorem dX7_init_71 : decode cX7_init 71 = .ok (.iload_n 1, 1) := by decide +kernel
theorem dX7_init_72 : decode cX7_init 72 = .ok (.aload_n 0, 1) := by decide +kernel
theorem dX7_init_73 : decode cX7_init 73 = .ok (.getfield 18, 3) := by decide +kernel
theorem dX7_init_76 : decode cX7_init 76 = .ok (.arraylength, 1) := by decide +kernel
theorem dX7_init_77 : decode cX7_init 77 = .ok (.if_icmp .ge 17, 3) := by decide +kernel
theorem dX7_init_80 : decode cX7_init 80 = .ok (.aload_n 0, 1) := by decide +kernel
theorem dX7_init_81 : decode cX7_init 81 = .ok (.getfield 18, 3) := by decide +kernel
theorem dX7_init_84 : decode cX7_init 84 = .ok (.iload_n 1, 1) := by decide +kernel
theorem dX7_init_85 : decode cX7_init 85 = .ok (.bipush 20, 2) := by decide +kernel
theorem dX7_init_87 : decode cX7_init 87 = .ok (.iastore, 1) := by decide +kernel
theorem dX7_init_88 : decode cX7_init 88 = .ok (.iinc 1 1, 3) := by decide +kernel
theorem dX7_init_91 : decode cX7_init 91 = .ok (.goto (-20), 3) := by decide +kernel
theorem dX7_init_94 : decode cX7_init 94 = .ok (.return_, 1) := by decide +kernel
theorem dX7_bound_0 : decode cX7_bound 0 = .ok (.bipush 10, 2) := by decide +kernel
theorem dX7_bound_2 : decode cX7_bound 2 = .ok (.aload_n 0, 1) := by decide +kernel
theorem dX7_bound_3 : decode cX7_bound 3 = .ok (.getfield 21, 3) := by decide +kernel
theorem dX7_bound_6 : decode cX7_bound 6 = .ok (.iload_n 1, 1) := by decide +kernel
theorem dX7_bound_7 : decode cX7_bound 7 = .ok (.invokestatic 37, 3) := by decide +kernel
theorem dX7_bound_10 : decode cX7_bound 10 = .ok (.imul, 1) := by decide +kernel
theorem dX7_bound_11 : decode cX7_bound 11 = .ok (.aload_n 2, 1) := by decide +kernel
theorem dX7_bound_12 : decode cX7_bound 12 = .ok (.aload_n 0, 1) := by decide +kernel
theorem dX7_bound_13 : decode cX7_bound 13 = .ok (.getfield 9, 3) := by decide +kernel
theorem dX7_bound_16 : decode cX7_bound 16 = .ok (.iload_n 1, 1) := by decide +kernel
theorem dX7_bound_17 : decode cX7_bound 17 = .ok (.invokestatic 37, 3) := by decide +kernel
theorem dX7_bound_20 : decode cX7_bound 20 = .ok (.invokestatic 37, 3) := by decide +kernel
theorem dX7_bound_23 : decode cX7_bound 23 = .ok (.aload_n 0, 1) := by decide +kernel
theorem dX7_bound_24 : decode cX7_bound 24 = .ok (.getfield 18, 3) := by decide +kernel
theorem dX7_bound_27 : decode cX7_bound 27 = .ok (.iload_n 1, 1) := by decide +kernel
theorem dX7_bound_28 : decode cX7_bound 28 = .ok (.invokestatic 37, 3) := by decide +kernel
theorem dX7_bound_31 : decode cX7_bound 31 = .ok (.imul, 1) := by decide +kernel
theorem dX7_bound_32 : decode cX7_bound 32 = .ok (.iadd, 1) := by decide +kernel
theorem dX7_bound_33 : decode cX7_bound 33 = .ok (.ireturn, 1) := by decide +kernel
theorem dX7_weight_0 : decode cX7_weight 0 = .ok (.iconst 0, 1) := by decide +kernel
theorem dX7_weight_1 : decode cX7_weight 1 = .ok (.istore_n 3, 1) := by decide +kernel
theorem dX7_weight_2 : decode cX7_weight 2 = .ok (.iconst 0, 1) := by decide +kernel
theorem dX7_weight_3 : decode cX7_weight 3 = .ok (.istore 4, 2) := by decide +kernel
theorem dX7_weight_5 : decode cX7_weight 5 = .ok (.iload 4, 2) := by decide +kernel
theorem dX7_weight_7 : decode cX7_weight 7 = .ok (.aload_n 0, 1) := by decide +kernel
theorem dX7_weight_8 : decode cX7_weight 8 = .ok (.getfield 33, 3) := by decide +kernel
theorem dX7_weight_11 : decode cX7_weight 11 = .ok (.invokevirtual 41, 3) := by decide +kernel
theorem dX7_weight_14 : decode cX7_weight 14 = .ok (.if_icmp .ge 59, 3) := by decide +kernel
theorem dX7_weight_17 : decode cX7_weight 17 = .ok (.aload_n 0, 1) := by decide +kernel
theorem dX7_weight_18 : decode cX7_weight 18 = .ok (.getfield 33, 3) := by decide +kernel
theorem dX7_weight_21 : decode cX7_weight 21 = .ok (.iload 4, 2) := by decide +kernel
theorem dX7_weight_23 : decode cX7_weight 23 = .ok (.invokevirtual 45, 3) := by decide +kernel
theorem dX7_weight_26 : decode cX7_weight 26 = .ok (.checkcast 49, 3) := by decide +kernel
theorem dX7_weight_29 : decode cX7_weight 29 = .ok (.astore 5, 2) := by decide +kernel
theorem dX7_weight_31 : decode cX7_weight 31 = .ok (.aload 5, 2) := by decide +kernel
theorem dX7_weight_33 : decode cX7_weight 33 = .ok (.getfield 51, 3) := by decide +kernel
theorem dX7_weight_36 : decode cX7_weight 36 = .ok (.iload_n 1, 1) := by decide +kernel
theorem dX7_weight_37 : decode cX7_weight 37 = .ok (.isub, 1) := by decide +kernel
theorem dX7_weight_38 : decode cX7_weight 38 = .ok (.invokestatic 55, 3) := by decide +kernel
theorem dX7_weight_41 : decode cX7_weight 41 = .ok (.istore 6, 2) := by decide +kernel
theorem dX7_weight_43 : decode cX7_weight 43 = .ok (.aload 5, 2) := by decide +kernel
theorem dX7_weight_45 : decode cX7_weight 45 = .ok (.getfield 61, 3) := by decide +kernel
theorem dX7_weight_48 : decode cX7_weight 48 = .ok (.iload_n 2, 1) := by decide +kernel
theorem dX7_weight_49 : decode cX7_weight 49 = .ok (.if_icmp .ne 18, 3) := by decide +kernel
theorem dX7_weight_52 : decode cX7_weight 52 = .ok (.iload 6, 2) := by decide +kernel
theorem dX7_weight_54 : decode cX7_weight 54 = .ok (.bipush 10, 2) := by decide +kernel
theorem dX7_weight_56 : decode cX7_weight 56 = .ok (.if_icmp .gt 11, 3) := by decide +kernel
theorem dX7_weight_59 : decode cX7_weight 59 = .ok (.iload_n 3, 1) := by decide +kernel
theorem dX7_weight_60 : decode cX7_weight 60 = .ok (.bipush 11, 2) := by decide +kernel
theorem dX7_weight_62 : decode cX7_weight 62 = .ok (.iload 6, 2) := by decide +kernel
theorem dX7_weight_64 : decode cX7_weight 64 = .ok (.isub, 1) := by decide +kernel
theorem dX7_weight_65 : decode cX7_weight 65 = .ok (.iadd, 1) := by decide +kernel
theorem dX7_weight_66 : decode cX7_weight 66 = .ok (.istore_n 3, 1) := by decide +kernel
theorem dX7_weight_67 : decode cX7_weight 67 = .ok (.iinc 4 1, 3) := by decide +kernel
theorem dX7_weight_70 : decode cX7_weight 70 = .ok (.goto (-65), 3) := by decide +kernel
theorem dX7_weight_73 : decode cX7_weight 73 = .ok (.iload_n 3, 1) := by decide +kernel
theorem dX7_weight_74 : decode cX7_weight 74 = .ok (.ireturn, 1) := by decide +kernel
theorem dX7_weightOfAll_0 : decode cX7_weightOfAll 0 = .ok (.iconst 0, 1) := by decide +kernel
theorem dX7_weightOfAll_1 : decode cX7_weightOfAll 1 = .ok (.istore_n 2, 1) := by decide +kernel
theorem dX7_weightOfAll_2 : decode cX7_weightOfAll 2 = .ok (.iconst 0, 1) := by decide +kernel
theorem dX7_weightOfAll_3 : decode cX7_weightOfAll 3 = .ok (.istore_n 3, 1) := by decide +kernel
theorem dX7_weightOfAll_4 : decode cX7_weightOfAll 4 = .ok (.iload_n 3, 1) := by decide +kernel
theorem dX7_weightOfAll_5 : decode cX7_weightOfAll 5 = .ok (.getstatic 64, 3) := by decide +kernel
theorem dX7_weightOfAll_8 : decode cX7_weightOfAll 8 = .ok (.arraylength, 1) := by decide +kernel
theorem dX7_weightOfAll_9 : decode cX7_weightOfAll 9 = .ok (.if_icmp .ge 18, 3) := by decide +kernel
theorem dX7_weightOfAll_12 : decode cX7_weightOfAll 12 = .ok (.iload_n 2, 1) := by decide +kernel
theorem dX7_weightOfAll_13 : decode cX7_weightOfAll 13 = .ok (.aload_n 0, 1) := by decide +kernel
theorem dX7_weightOfAll_14 : decode cX7_weightOfAll 14 = .ok (.iload_n 1, 1) := by decide +kernel
theorem dX7_weightOfAll_15 : decode cX7_weightOfAll 15 = .ok (.iload_n 3, 1) := by decide +kernel
theorem dX7_weightOfAll_16 : decode cX7_weightOfAll 16 = .ok (.invokevirtual 68, 3) := by decide +kernel
theorem dX7_weightOfAll_19 : decode cX7_weightOfAll 19 = .ok (.iadd, 1) := by decide +kernel
theorem dX7_weightOfAll_20 : decode cX7_weightOfAll 20 = .ok (.istore_n 2, 1) := by decide +kernel
theorem dX7_weightOfAll_21 : decode cX7_weightOfAll 21 = .ok (.iinc 3 1, 3) := by decide +kernel
theorem dX7_weightOfAll_24 : decode cX7_weightOfAll 24 = .ok (.goto (-20), 3) := by decide +kernel
theorem dX7_weightOfAll_27 : decode cX7_weightOfAll 27 = .ok (.iload_n 2, 1) := by decide +kernel
theorem dX7_weightOfAll_28 : decode cX7_weightOfAll 28 = .ok (.ireturn, 1) := by decide +kernel
theorem dX7_likeliest_0 : decode cX7_likeliest 0 = .ok (.iconst (-1), 1) := by decide +kernel
theorem dX7_likeliest_1 : decode cX7_likeliest 1 = .ok (.istore_n 2, 1) := by decide +kernel
theorem dX7_likeliest_2 : decode cX7_likeliest 2 = .ok (.iconst 0, 1) := by decide +kernel
theorem dX7_likeliest_3 : decode cX7_likeliest 3 = .ok (.istore_n 3, 1) := by decide +kernel
theorem dX7_likeliest_4 : decode cX7_likeliest 4 = .ok (.iconst 0, 1) := by decide +kernel
theorem dX7_likeliest_5 : decode cX7_likeliest 5 = .ok (.istore 4, 2) := by decide +kernel
theorem dX7_likeliest_7 : decode cX7_likeliest 7 = .ok (.iload 4, 2) := by decide +kernel
theorem dX7_likeliest_9 : decode cX7_likeliest 9 = .ok (.getstatic 64, 3) := by decide +kernel
theorem dX7_likeliest_12 : decode cX7_likeliest 12 = .ok (.arraylength, 1) := by decide +kernel
theorem dX7_likeliest_13 : decode cX7_likeliest 13 = .ok (.if_icmp .ge 30, 3) := by decide +kernel
theorem dX7_likeliest_16 : decode cX7_likeliest 16 = .ok (.aload_n 0, 1) := by decide +kernel
theorem dX7_likeliest_17 : decode cX7_likeliest 17 = .ok (.iload_n 1, 1) := by decide +kernel
theorem dX7_likeliest_18 : decode cX7_likeliest 18 = .ok (.iload 4, 2) := by decide +kernel
theorem dX7_likeliest_20 : decode cX7_likeliest 20 = .ok (.invokevirtual 68, 3) := by decide +kernel
theorem dX7_likeliest_23 : decode cX7_likeliest 23 = .ok (.istore 5, 2) := by decide +kernel
theorem dX7_likeliest_25 : decode cX7_likeliest 25 = .ok (.iload 5, 2) := by decide +kernel
theorem dX7_likeliest_27 : decode cX7_likeliest 27 = .ok (.iload_n 3, 1) := by decide +kernel
theorem dX7_likeliest_28 : decode cX7_likeliest 28 = .ok (.if_icmp .le 9, 3) := by decide +kernel
theorem dX7_likeliest_31 : decode cX7_likeliest 31 = .ok (.iload 4, 2) := by decide +kernel
theorem dX7_likeliest_33 : decode cX7_likeliest 33 = .ok (.istore_n 2, 1) := by decide +kernel
theorem dX7_likeliest_34 : decode cX7_likeliest 34 = .ok (.iload 5, 2) := by decide +kernel
theorem dX7_likeliest_36 : decode cX7_likeliest 36 = .ok (.istore_n 3, 1) := by decide +kernel
theorem dX7_likeliest_37 : decode cX7_likeliest 37 = .ok (.iinc 4 1, 3) := by decide +kernel
theorem dX7_likeliest_40 : decode cX7_likeliest 40 = .ok (.goto (-33), 3) := by decide +kernel
theorem dX7_likeliest_43 : decode cX7_likeliest 43 = .ok (.iload_n 2, 1) := by decide +kernel
theorem dX7_likeliest_44 : decode cX7_likeliest 44 = .ok (.ireturn, 1) := by decide +kernel
theorem dX7_eventMinutes_0 : decode cX7_eventMinutes 0 = .ok (.getstatic 72, 3) := by decide +kernel
theorem dX7_eventMinutes_3 : decode cX7_eventMinutes 3 = .ok (.aload_n 0, 1) := by decide +kernel
theorem dX7_eventMinutes_4 : decode cX7_eventMinutes 4 = .ok (.getfield 9, 3) := by decide +kernel
theorem dX7_eventMinutes_7 : decode cX7_eventMinutes 7 = .ok (.iload_n 1, 1) := by decide +kernel
theorem dX7_eventMinutes_8 : decode cX7_eventMinutes 8 = .ok (.invokestatic 37, 3) := by decide +kernel
theorem dX7_eventMinutes_11 : decode cX7_eventMinutes 11 = .ok (.invokestatic 37, 3) := by decide +kernel
theorem dX7_eventMinutes_14 : decode cX7_eventMinutes 14 = .ok (.getstatic 72, 3) := by decide +kernel
theorem dX7_eventMinutes_17 : decode cX7_eventMinutes 17 = .ok (.aload_n 0, 1) := by decide +kernel
theorem dX7_eventMinutes_18 : decode cX7_eventMinutes 18 = .ok (.getfield 15, 3) := by decide +kernel
theorem dX7_eventMinutes_21 : decode cX7_eventMinutes 21 = .ok (.iload_n 1, 1) := by decide +kernel
theorem dX7_eventMinutes_22 : decode cX7_eventMinutes 22 = .ok (.invokestatic 37, 3) := by decide +kernel
theorem dX7_eventMinutes_25 : decode cX7_eventMinutes 25 = .ok (.invokestatic 37, 3) := by decide +kernel
theorem dX7_eventMinutes_28 : decode cX7_eventMinutes 28 = .ok (.isub, 1) := by decide +kernel
theorem dX7_eventMinutes_29 : decode cX7_eventMinutes 29 = .ok (.iconst 0, 1) := by decide +kernel
theorem dX7_eventMinutes_30 : decode cX7_eventMinutes 30 = .ok (.invokestatic 75, 3) := by decide +kernel
theorem dX7_eventMinutes_33 : decode cX7_eventMinutes 33 = .ok (.ireturn, 1) := by decide +kernel
theorem dX8_init_0 : decode cX8_init 0 = .ok (.aload_n 0, 1) := by decide +kernel
theorem dX8_init_1 : decode cX8_init 1 = .ok (.invokespecial 1, 3) := by decide +kernel
theorem dX8_init_4 : decode cX8_init 4 = .ok (.aload_n 0, 1) := by decide +kernel
theorem dX8_init_5 : decode cX8_init 5 = .ok (.iconst 0, 1) := by decide +kernel
theorem dX8_init_6 : decode cX8_init 6 = .ok (.putfield 7, 3) := by decide +kernel
theorem dX8_init_9 : decode cX8_init 9 = .ok (.aload_n 0, 1) := by decide +kernel
theorem dX8_init_10 : decode cX8_init 10 = .ok (.iconst 0, 1) := by decide +kernel
theorem dX8_init_11 : decode cX8_init 11 = .ok (.putfield 13, 3) := by decide +kernel
theorem dX8_init_14 : decode cX8_init 14 = .ok (.aload_n 0, 1) := by decide +kernel
theorem dX8_init_15 : decode cX8_init 15 = .ok (.iconst 0, 1) := by decide +kernel
theorem dX8_init_16 : decode cX8_init 16 = .ok (.putfield 16, 3) := by decide +kernel
theorem dX8_init_19 : decode cX8_init 19 = .ok (.return_, 1) := by decide +kernel
theorem dX9_init_0 : decode cX9_init 0 = .ok (.aload_n 0, 1) := by decide +kernel
theorem dX9_init_1 : decode cX9_init 1 = .ok (.invokespecial 1, 3) := by decide +kernel
theorem dX9_init_4 : decode cX9_init 4 = .ok (.aload_n 0, 1) := by decide +kernel
theorem dX9_init_5 : decode cX9_init 5 = .ok (.new 7, 3) := by decide +kernel
theorem dX9_init_8 : decode cX9_init 8 = .ok (.dup, 1) := by decide +kernel
theorem dX9_init_9 : decode cX9_init 9 = .ok (.invokespecial 9, 3) := by decide +kernel
theorem dX9_init_12 : decode cX9_init 12 = .ok (.putfield 10, 3) := by decide +kernel
theorem dX9_init_15 : decode cX9_init 15 = .ok (.aload_n 0, 1) := by decide +kernel
theorem dX9_init_16 : decode cX9_init 16 = .ok (.new 16, 3) := by decide +kernel
theorem dX9_init_19 : decode cX9_init 19 = .ok (.dup, 1) := by decide +kernel
theorem dX9_init_20 : decode cX9_init 20 = .ok (.invokespecial 18, 3) := by decide +kernel
theorem dX9_init_23 : decode cX9_init 23 = .ok (.putfield 19, 3) := by decide +kernel
theorem dX9_init_26 : decode cX9_init 26 = .ok (.aload_n 0, 1) := by decide +kernel
theorem dX9_init_27 : decode cX9_init 27 = .ok (.new 23, 3) := by decide +kernel
theorem dX9_init_30 : decode cX9_init 30 = .ok (.dup, 1) := by decide +kernel
theorem dX9_init_31 : decode cX9_init 31 = .ok (.invokespecial 25, 3) := by decide +kernel
theorem dX9_init_34 : decode cX9_init 34 = .ok (.putfield 26, 3) := by decide +kernel
theorem dX9_init_37 : decode cX9_init 37 = .ok (.aload_n 0, 1) := by decide +kernel
theorem dX9_init_38 : decode cX9_init 38 = .ok (.new 23, 3) := by decide +kernel
theorem dX9_init_41 : decode cX9_init 41 = .ok (.dup, 1) := by decide +kernel
theorem dX9_init_42 : decode cX9_init 42 = .ok (.invokespecial 25, 3) := by decide +kernel
theorem dX9_init_45 : decode cX9_init 45 = .ok (.putfield 30, 3) := by decide +kernel
theorem dX9_init_48 : decode cX9_init 48 = .ok (.aload_n 0, 1) := by decide +kernel
theorem dX9_init_49 : decode cX9_init 49 = .ok (.new 33, 3) := by decide +kernel
theorem dX9_init_52 : decode cX9_init 52 = .ok (.dup, 1) := by decide +kernel
theorem dX9_init_53 : decode cX9_init 53 = .ok (.invokespecial 35, 3) := by decide +kernel
theorem dX9_init_56 : decode cX9_init 56 = .ok (.putfield 36, 3) := by decide +kernel
theorem dX9_init_59 : decode cX9_init 59 = .ok (.aload_n 0, 1) := by decide +kernel
theorem dX9_init_60 : decode cX9_init 60 = .ok (.new 40, 3) := by decide +kernel
theorem dX9_init_63 : decode cX9_init 63 = .ok (.dup, 1) := by decide +kernel
theorem dX9_init_64 : decode cX9_init 64 = .ok (.invokespecial 42, 3) := by decide +kernel
theorem dX9_init_67 : decode cX9_init 67 = .ok (.putfield 43, 3) := by decide +kernel
theorem dX9_init_70 : decode cX9_init 70 = .ok (.aload_n 0, 1) := by decide +kernel
theorem dX9_init_71 : decode cX9_init 71 = .ok (.new 47, 3) := by decide +kernel
theorem dX9_init_74 : decode cX9_init 74 = .ok (.dup, 1) := by decide +kernel
theorem dX9_init_75 : decode cX9_init 75 = .ok (.invokespecial 49, 3) := by decide +kernel
theorem dX9_init_78 : decode cX9_init 78 = .ok (.putfield 50, 3) := by decide +kernel
theorem dX9_init_81 : decode cX9_init 81 = .ok (.aload_n 0, 1) := by decide +kernel
theorem dX9_init_82 : decode cX9_init 82 = .ok (.new 54, 3) := by decide +kernel
theorem dX9_init_85 : decode cX9_init 85 = .ok (.dup, 1) := by decide +kernel
theorem dX9_init_86 : decode cX9_init 86 = .ok (.invokespecial 56, 3) := by decide +kernel
theorem dX9_init_89 : decode cX9_init 89 = .ok (.putfield 57, 3) := by decide +kernel
theorem dX9_init_92 : decode cX9_init 92 = .ok (.aload_n 0, 1) := by decide +kernel
theorem dX9_init_93 : decode cX9_init 93 = .ok (.new 54, 3) := by decide +kernel
theorem dX9_init_96 : decode cX9_init 96 = .ok (.dup, 1) := by decide +kernel
theorem dX9_init_97 : decode cX9_init 97 = .ok (.invokespecial 56, 3) := by decide +kernel
theorem dX9_init_100 : decode cX9_init 100 = .ok (.putfield 61, 3) := by decide +kernel
theorem dX9_init_103 : decode cX9_init 103 = .ok (.return_, 1) := by decide +kernel
theorem dX9_ground_0 : decode cX9_ground 0 = .ok (.aload_n 0, 1) := by decide +kernel
theorem dX9_ground_1 : decode cX9_ground 1 = .ok (.aload_n 0, 1) := by decide +kernel
theorem dX9_ground_2 : decode cX9_ground 2 = .ok (.getfield 10, 3) := by decide +kernel
theorem dX9_ground_5 : decode cX9_ground 5 = .ok (.getfield 64, 3) := by decide +kernel
theorem dX9_ground_8 : decode cX9_ground 8 = .ok (.iload_n 1, 1) := by decide +kernel
theorem dX9_ground_9 : decode cX9_ground 9 = .ok (.iload_n 2, 1) := by decide +kernel
theorem dX9_ground_10 : decode cX9_ground 10 = .ok (.iload_n 3, 1) := by decide +kernel
theorem dX9_ground_11 : decode cX9_ground 11 = .ok (.invokevirtual 68, 3) := by decide +kernel
theorem dX9_ground_14 : decode cX9_ground 14 = .ok (.ireturn, 1) := by decide +kernel
theorem dX9_reference_0 : decode cX9_reference 0 = .ok (.aload_n 0, 1) := by decide +kernel
theorem dX9_reference_1 : decode cX9_reference 1 = .ok (.aload_n 0, 1) := by decide +kernel
theorem dX9_reference_2 : decode cX9_reference 2 = .ok (.getfield 10, 3) := by decide +kernel
theorem dX9_reference_5 : decode cX9_reference 5 = .ok (.getfield 72, 3) := by decide +kernel
theorem dX9_reference_8 : decode cX9_reference 8 = .ok (.iload_n 1, 1) := by decide +kernel
theorem dX9_reference_9 : decode cX9_reference 9 = .ok (.iload_n 2, 1) := by decide +kernel
theorem dX9_reference_10 : decode cX9_reference 10 = .ok (.iload_n 3, 1) := by decide +kernel
theorem dX9_reference_11 : decode cX9_reference 11 = .ok (.invokevirtual 68, 3) := by decide +kernel
theorem dX9_reference_14 : decode cX9_reference 14 = .ok (.ireturn, 1) := by decide +kernel
theorem dX9_depth_0 : decode cX9_depth 0 = .ok (.aload_n 0, 1) := by decide +kernel
theorem dX9_depth_1 : decode cX9_depth 1 = .ok (.aload_n 0, 1) := by decide +kernel
theorem dX9_depth_2 : decode cX9_depth 2 = .ok (.getfield 10, 3) := by decide +kernel
theorem dX9_depth_5 : decode cX9_depth 5 = .ok (.getfield 75, 3) := by decide +kernel
theorem dX9_depth_8 : decode cX9_depth 8 = .ok (.iload_n 1, 1) := by decide +kernel
theorem dX9_depth_9 : decode cX9_depth 9 = .ok (.iload_n 2, 1) := by decide +kernel
theorem dX9_depth_10 : decode cX9_depth 10 = .ok (.iload_n 3, 1) := by decide +kernel
theorem dX9_depth_11 : decode cX9_depth 11 = .ok (.bipush 10, 2) := by decide +kernel
theorem dX9_depth_13 : decode cX9_depth 13 = .ok (.bipush 60, 2) := by decide +kernel
theorem dX9_depth_15 : decode cX9_depth 15 = .ok (.invokevirtual 78, 3) := by decide +kernel
theorem dX9_depth_18 : decode cX9_depth 18 = .ok (.ireturn, 1) := by decide +kernel
theorem dX9_water_0 : decode cX9_water 0 = .ok (.aload_n 0, 1) := by decide +kernel
theorem dX9_water_1 : decode cX9_water 1 = .ok (.aload_n 0, 1) := by decide +kernel
theorem dX9_water_2 : decode cX9_water 2 = .ok (.getfield 10, 3) := by decide +kernel
theorem dX9_water_5 : decode cX9_water 5 = .ok (.getfield 82, 3) := by decide +kernel
theorem dX9_water_8 : decode cX9_water 8 = .ok (.iload_n 1, 1) := by decide +kernel
theorem dX9_water_9 : decode cX9_water 9 = .ok (.iload_n 2, 1) := by decide +kernel
theorem dX9_water_10 : decode cX9_water 10 = .ok (.iload_n 3, 1) := by decide +kernel
theorem dX9_water_11 : decode cX9_water 11 = .ok (.iconst 0, 1) := by decide +kernel
theorem dX9_water_12 : decode cX9_water 12 = .ok (.bipush 40, 2) := by decide +kernel
theorem dX9_water_14 : decode cX9_water 14 = .ok (.invokevirtual 78, 3) := by decide +kernel
theorem dX9_water_17 : decode cX9_water 17 = .ok (.ireturn, 1) := by decide +kernel
theorem dX9_bend_0 : decode cX9_bend 0 = .ok (.iload_n 1, 1) := by decide +kernel
theorem dX9_bend_1 : decode cX9_bend 1 = .ok (.iload_n 2, 1) := by decide +kernel
theorem dX9_bend_2 : decode cX9_bend 2 = .ok (.invokestatic 85, 3) := by decide +kernel
theorem dX9_bend_5 : decode cX9_bend 5 = .ok (.ifCond .eq 26, 3) := by decide +kernel
theorem dX9_bend_8 : decode cX9_bend 8 = .ok (.iload_n 3, 1) := by decide +kernel
theorem dX9_bend_9 : decode cX9_bend 9 = .ok (.bipush (-20), 2) := by decide +kernel
theorem dX9_bend_11 : decode cX9_bend 11 = .ok (.bipush 20, 2) := by decide +kernel
theorem dX9_bend_13 : decode cX9_bend 13 = .ok (.invokestatic 89, 3) := by decide +kernel
theorem dX9_bend_16 : decode cX9_bend 16 = .ok (.ifCond .eq 15, 3) := by decide +kernel
theorem dX9_bend_19 : decode cX9_bend 19 = .ok (.iload 4, 2) := by decide +kernel
theorem dX9_bend_21 : decode cX9_bend 21 = .ok (.bipush (-20), 2) := by decide +kernel
theorem dX9_bend_23 : decode cX9_bend 23 = .ok (.bipush 20, 2) := by decide +kernel
theorem dX9_bend_25 : decode cX9_bend 25 = .ok (.invokestatic 89, 3) := by decide +kernel
theorem dX9_bend_28 : decode cX9_bend 28 = .ok (.ifCond .ne 13, 3) := by decide +kernel
theorem dX9_bend_31 : decode cX9_bend 31 = .ok (.new 93, 3) := by decide +kernel
theorem dX9_bend_34 : decode cX9_bend 34 = .ok (.dup, 1) := by decide +kernel
theorem dX9_bend_35 : decode cX9_bend 35 = .ok (.ldc 95, 2) := by decide +kernel
theorem dX9_bend_37 : decode cX9_bend 37 = .ok (.invokespecial 97, 3) := by decide +kernel
theorem dX9_bend_40 : decode cX9_bend 40 = .ok (.athrow, 1) := by decide +kernel
theorem dX9_bend_41 : decode cX9_bend 41 = .ok (.aload_n 0, 1) := by decide +kernel
theorem dX9_bend_42 : decode cX9_bend 42 = .ok (.iload_n 1, 1) := by decide +kernel
theorem dX9_bend_43 : decode cX9_bend 43 = .ok (.invokevirtual 100, 3) := by decide +kernel
theorem dX9_bend_46 : decode cX9_bend 46 = .ok (.aload_n 0, 1) := by decide +kernel
theorem dX9_bend_47 : decode cX9_bend 47 = .ok (.getfield 10, 3) := by decide +kernel
theorem dX9_bend_50 : decode cX9_bend 50 = .ok (.getfield 104, 3) := by decide +kernel
theorem dX9_bend_53 : decode cX9_bend 53 = .ok (.iload_n 1, 1) := by decide +kernel
theorem dX9_bend_54 : decode cX9_bend 54 = .ok (.iload_n 2, 1) := by decide +kernel
theorem dX9_bend_55 : decode cX9_bend 55 = .ok (.iload_n 3, 1) := by decide +kernel
theorem dX9_bend_56 : decode cX9_bend 56 = .ok (.invokestatic 107, 3) := by decide +kernel
theorem dX9_bend_59 : decode cX9_bend 59 = .ok (.pop, 1) := by decide +kernel
theorem dX9_bend_60 : decode cX9_bend 60 = .ok (.aload_n 0, 1) := by decide +kernel
theorem dX9_bend_61 : decode cX9_bend 61 = .ok (.getfield 10, 3) := by decide +kernel
theorem dX9_bend_64 : decode cX9_bend 64 = .ok (.getfield 111, 3) := by decide +kernel
theorem dX9_bend_67 : decode cX9_bend 67 = .ok (.iload_n 1, 1) := by decide +kernel
theorem dX9_bend_68 : decode cX9_bend 68 = .ok (.iload_n 2, 1) := by decide +kernel
theorem dX9_bend_69 : decode cX9_bend 69 = .ok (.iload 4, 2) := by decide +kernel
theorem dX9_bend_71 : decode cX9_bend 71 = .ok (.invokestatic 107, 3) := by decide +kernel
theorem dX9_bend_74 : decode cX9_bend 74 = .ok (.pop, 1) := by decide +kernel
theorem dX9_bend_75 : decode cX9_bend 75 = .ok (.iload_n 2, 1) := by decide +kernel
theorem dX9_bend_76 : decode cX9_bend 76 = .ok (.iload_n 1, 1) := by decide +kernel
theorem dX9_bend_77 : decode cX9_bend 77 = .ok (.isub, 1) := by decide +kernel
theorem dX9_bend_78 : decode cX9_bend 78 = .ok (.iconst 1, 1) := by decide +kernel
theorem dX9_bend_79 : decode cX9_bend 79 = .ok (.iadd, 1) := by decide +kernel
theorem dX9_bend_80 : decode cX9_bend 80 = .ok (.ireturn, 1) := by decide +kernel
theorem dX9_bore_0 : decode cX9_bore 0 = .ok (.getstatic 114, 3) := by decide +kernel
theorem dX9_bore_3 : decode cX9_bore 3 = .ok (.iload_n 2, 1) := by decide +kernel
theorem dX9_bore_4 : decode cX9_bore 4 = .ok (.invokestatic 118, 3) := by decide +kernel
theorem dX9_bore_7 : decode cX9_bore 7 = .ok (.istore_n 3, 1) := by decide +kernel
theorem dX9_bore_8 : decode cX9_bore 8 = .ok (.iload_n 1, 1) := by decide +kernel
theorem dX9_bore_9 : decode cX9_bore 9 = .ok (.invokestatic 122, 3) := by decide +kernel
theorem dX9_bore_12 : decode cX9_bore 12 = .ok (.ifCond .eq 7, 3) := by decide +kernel
theorem dX9_bore_15 : decode cX9_bore 15 = .ok (.iload_n 3, 1) := by decide +kernel
theorem dX9_bore_16 : decode cX9_bore 16 = .ok (.ifCond .ge 13, 3) := by decide +kernel
theorem dX9_bore_19 : decode cX9_bore 19 = .ok (.new 93, 3) := by decide +kernel
theorem dX9_bore_22 : decode cX9_bore 22 = .ok (.dup, 1) := by decide +kernel
theorem dX9_bore_23 : decode cX9_bore 23 = .ok (.ldc 126, 2) := by decide +kernel
theorem dX9_bore_25 : decode cX9_bore 25 = .ok (.invokespecial 97, 3) := by decide +kernel
theorem dX9_bore_28 : decode cX9_bore 28 = .ok (.athrow, 1) := by decide +kernel
theorem dX9_bore_29 : decode cX9_bore 29 = .ok (.aload_n 0, 1) := by decide +kernel
theorem dX9_bore_30 : decode cX9_bore 30 = .ok (.getfield 10, 3) := by decide +kernel
theorem dX9_bore_33 : decode cX9_bore 33 = .ok (.getfield 128, 3) := by decide +kernel
theorem dX9_bore_36 : decode cX9_bore 36 = .ok (.invokevirtual 131, 3) := by decide +kernel
theorem dX9_bore_39 : decode cX9_bore 39 = .ok (.istore 4, 2) := by decide +kernel
theorem dX9_bore_41 : decode cX9_bore 41 = .ok (.iload 4, 2) := by decide +kernel
theorem dX9_bore_43 : decode cX9_bore 43 = .ok (.bipush 20, 2) := by decide +kernel
theorem dX9_bore_45 : decode cX9_bore 45 = .ok (.if_icmp .lt 13, 3) := by decide +kernel
theorem dX9_bore_48 : decode cX9_bore 48 = .ok (.new 135, 3) := by decide +kernel
theorem dX9_bore_51 : decode cX9_bore 51 = .ok (.dup, 1) := by decide +kernel
theorem dX9_bore_52 : decode cX9_bore 52 = .ok (.ldc 137, 2) := by decide +kernel
theorem dX9_bore_54 : decode cX9_bore 54 = .ok (.invokespecial 139, 3) := by decide +kernel
theorem dX9_bore_57 : decode cX9_bore 57 = .ok (.athrow, 1) := by decide +kernel
theorem dX9_bore_58 : decode cX9_bore 58 = .ok (.aload_n 0, 1) := by decide +kernel
theorem dX9_bore_59 : decode cX9_bore 59 = .ok (.getfield 10, 3) := by decide +kernel
theorem dX9_bore_62 : decode cX9_bore 62 = .ok (.getfield 128, 3) := by decide +kernel
theorem dX9_bore_65 : decode cX9_bore 65 = .ok (.new 140, 3) := by decide +kernel
theorem dX9_bore_68 : decode cX9_bore 68 = .ok (.dup, 1) := by decide +kernel
theorem dX9_bore_69 : decode cX9_bore 69 = .ok (.iload_n 1, 1) := by decide +kernel
theorem dX9_bore_70 : decode cX9_bore 70 = .ok (.iload_n 3, 1) := by decide +kernel
theorem dX9_bore_71 : decode cX9_bore 71 = .ok (.invokespecial 142, 3) := by decide +kernel
theorem dX9_bore_74 : decode cX9_bore 74 = .ok (.invokevirtual 145, 3) := by decide +kernel
theorem dX9_bore_77 : decode cX9_bore 77 = .ok (.pop, 1) := by decide +kernel
theorem dX9_bore_78 : decode cX9_bore 78 = .ok (.iload 4, 2) := by decide +kernel
theorem dX9_bore_80 : decode cX9_bore 80 = .ok (.ireturn, 1) := by decide +kernel
theorem dX9_guess_0 : decode cX9_guess 0 = .ok (.iload_n 1, 1) := by decide +kernel
theorem dX9_guess_1 : decode cX9_guess 1 = .ok (.invokestatic 122, 3) := by decide +kernel
theorem dX9_guess_4 : decode cX9_guess 4 = .ok (.ifCond .ne 13, 3) := by decide +kernel
theorem dX9_guess_7 : decode cX9_guess 7 = .ok (.new 93, 3) := by decide +kernel
theorem dX9_guess_10 : decode cX9_guess 10 = .ok (.dup, 1) := by decide +kernel
theorem dX9_guess_11 : decode cX9_guess 11 = .ok (.ldc 149, 2) := by decide +kernel
theorem dX9_guess_13 : decode cX9_guess 13 = .ok (.invokespecial 97, 3) := by decide +kernel
theorem dX9_guess_16 : decode cX9_guess 16 = .ok (.athrow, 1) := by decide +kernel
theorem dX9_guess_17 : decode cX9_guess 17 = .ok (.iload_n 1, 1) := by decide +kernel
theorem dX9_guess_18 : decode cX9_guess 18 = .ok (.aload_n 0, 1) := by decide +kernel
theorem dX9_guess_19 : decode cX9_guess 19 = .ok (.getfield 57, 3) := by decide +kernel
theorem dX9_guess_22 : decode cX9_guess 22 = .ok (.invokevirtual 131, 3) := by decide +kernel
theorem dX9_guess_25 : decode cX9_guess 25 = .ok (.if_icmp .ge 21, 3) := by decide +kernel
theorem dX9_guess_28 : decode cX9_guess 28 = .ok (.getstatic 114, 3) := by decide +kernel
theorem dX9_guess_31 : decode cX9_guess 31 = .ok (.aload_n 0, 1) := by decide +kernel
theorem dX9_guess_32 : decode cX9_guess 32 = .ok (.getfield 10, 3) := by decide +kernel
theorem dX9_guess_35 : decode cX9_guess 35 = .ok (.getfield 64, 3) := by decide +kernel
theorem dX9_guess_38 : decode cX9_guess 38 = .ok (.iload_n 1, 1) := by decide +kernel
theorem dX9_guess_39 : decode cX9_guess 39 = .ok (.invokestatic 151, 3) := by decide +kernel
theorem dX9_guess_42 : decode cX9_guess 42 = .ok (.invokestatic 155, 3) := by decide +kernel
theorem dX9_guess_45 : decode cX9_guess 45 = .ok (.ireturn, 1) := by decide +kernel
theorem dX9_guess_46 : decode cX9_guess 46 = .ok (.aload_n 0, 1) := by decide +kernel
theorem dX9_guess_47 : decode cX9_guess 47 = .ok (.getfield 10, 3) := by decide +kernel
theorem dX9_guess_50 : decode cX9_guess 50 = .ok (.iload_n 1, 1) := by decide +kernel
theorem dX9_guess_51 : decode cX9_guess 51 = .ok (.invokevirtual 159, 3) := by decide +kernel
theorem dX9_guess_54 : decode cX9_guess 54 = .ok (.istore_n 2, 1) := by decide +kernel
theorem dX9_guess_55 : decode cX9_guess 55 = .ok (.iload_n 2, 1) := by decide +kernel
theorem dX9_guess_56 : decode cX9_guess 56 = .ok (.ifCond .ge 8, 3) := by decide +kernel
theorem dX9_guess_59 : decode cX9_guess 59 = .ok (.bipush 63, 2) := by decide +kernel
theorem dX9_guess_61 : decode cX9_guess 61 = .ok (.goto 10, 3) := by decide +kernel
theorem dX9_guess_64 : decode cX9_guess 64 = .ok (.getstatic 114, 3) := by decide +kernel
theorem dX9_guess_67 : decode cX9_guess 67 = .ok (.iload_n 2, 1) := by decide +kernel
theorem dX9_guess_68 : decode cX9_guess 68 = .ok (.invokestatic 155, 3) := by decide +kernel
theorem dX9_guess_71 : decode cX9_guess 71 = .ok (.ireturn, 1) := by decide +kernel
theorem dX9_doubt_0 : decode cX9_doubt 0 = .ok (.iload_n 1, 1) := by decide +kernel
theorem dX9_doubt_1 : decode cX9_doubt 1 = .ok (.invokestatic 122, 3) := by decide +kernel
theorem dX9_doubt_4 : decode cX9_doubt 4 = .ok (.ifCond .ne 13, 3) := by decide +kernel
theorem dX9_doubt_7 : decode cX9_doubt 7 = .ok (.new 93, 3) := by decide +kernel
theorem dX9_doubt_10 : decode cX9_doubt 10 = .ok (.dup, 1) := by decide +kernel
theorem dX9_doubt_11 : decode cX9_doubt 11 = .ok (.ldc 149, 2) := by decide +kernel
theorem dX9_doubt_13 : decode cX9_doubt 13 = .ok (.invokespecial 97, 3) := by decide +kernel
theorem dX9_doubt_16 : decode cX9_doubt 16 = .ok (.athrow, 1) := by decide +kernel
theorem dX9_doubt_17 : decode cX9_doubt 17 = .ok (.iload_n 1, 1) := by decide +kernel
theorem dX9_doubt_18 : decode cX9_doubt 18 = .ok (.aload_n 0, 1) := by decide +kernel
theorem dX9_doubt_19 : decode cX9_doubt 19 = .ok (.getfield 57, 3) := by decide +kernel
theorem dX9_doubt_22 : decode cX9_doubt 22 = .ok (.invokevirtual 131, 3) := by decide +kernel
theorem dX9_doubt_25 : decode cX9_doubt 25 = .ok (.if_icmp .ge 5, 3) := by decide +kernel
theorem dX9_doubt_28 : decode cX9_doubt 28 = .ok (.iconst 0, 1) := by decide +kernel
theorem dX9_doubt_29 : decode cX9_doubt 29 = .ok (.ireturn, 1) := by decide +kernel
theorem dX9_doubt_30 : decode cX9_doubt 30 = .ok (.aload_n 0, 1) := by decide +kernel
theorem dX9_doubt_31 : decode cX9_doubt 31 = .ok (.getfield 10, 3) := by decide +kernel
theorem dX9_doubt_34 : decode cX9_doubt 34 = .ok (.iload_n 1, 1) := by decide +kernel
theorem dX9_doubt_35 : decode cX9_doubt 35 = .ok (.invokevirtual 163, 3) := by decide +kernel
theorem dX9_doubt_38 : decode cX9_doubt 38 = .ok (.istore_n 2, 1) := by decide +kernel
theorem dX9_doubt_39 : decode cX9_doubt 39 = .ok (.iload_n 2, 1) := by decide +kernel
theorem dX9_doubt_40 : decode cX9_doubt 40 = .ok (.ifCond .gt 7, 3) := by decide +kernel
theorem dX9_doubt_43 : decode cX9_doubt 43 = .ok (.sipush 1000, 3) := by decide +kernel
theorem dX9_doubt_46 : decode cX9_doubt 46 = .ok (.ireturn, 1) := by decide +kernel
theorem dX9_doubt_47 : decode cX9_doubt 47 = .ok (.sipush 1000, 3) := by decide +kernel
theorem dX9_doubt_50 : decode cX9_doubt 50 = .ok (.sipush 1000, 3) := by decide +kernel
theorem dX9_doubt_53 : decode cX9_doubt 53 = .ok (.aload_n 0, 1) := by decide +kernel
theorem dX9_doubt_54 : decode cX9_doubt 54 = .ok (.getfield 10, 3) := by decide +kernel
theorem dX9_doubt_57 : decode cX9_doubt 57 = .ok (.iload_n 1, 1) := by decide +kernel
theorem dX9_doubt_58 : decode cX9_doubt 58 = .ok (.aload_n 0, 1) := by decide +kernel
theorem dX9_doubt_59 : decode cX9_doubt 59 = .ok (.getfield 10, 3) := by decide +kernel
theorem dX9_doubt_62 : decode cX9_doubt 62 = .ok (.iload_n 1, 1) := by decide +kernel
theorem dX9_doubt_63 : decode cX9_doubt 63 = .ok (.invokevirtual 159, 3) := by decide +kernel
theorem dX9_doubt_66 : decode cX9_doubt 66 = .ok (.invokevirtual 166, 3) := by decide +kernel
theorem dX9_doubt_69 : decode cX9_doubt 69 = .ok (.imul, 1) := by decide +kernel
theorem dX9_doubt_70 : decode cX9_doubt 70 = .ok (.iload_n 2, 1) := by decide +kernel
theorem dX9_doubt_71 : decode cX9_doubt 71 = .ok (.idiv, 1) := by decide +kernel
theorem dX9_doubt_72 : decode cX9_doubt 72 = .ok (.isub, 1) := by decide +kernel
theorem dX9_doubt_73 : decode cX9_doubt 73 = .ok (.ireturn, 1) := by decide +kernel
theorem dX9_pressure_0 : decode cX9_pressure 0 = .ok (.iload_n 1, 1) := by decide +kernel
theorem dX9_pressure_1 : decode cX9_pressure 1 = .ok (.iconst 0, 1) := by decide +kernel
theorem dX9_pressure_2 : decode cX9_pressure 2 = .ok (.sipush 2000, 3) := by decide +kernel
theorem dX9_pressure_5 : decode cX9_pressure 5 = .ok (.invokestatic 89, 3) := by decide +kernel
theorem dX9_pressure_8 : decode cX9_pressure 8 = .ok (.ifCond .ne 13, 3) := by decide +kernel
theorem dX9_pressure_11 : decode cX9_pressure 11 = .ok (.new 93, 3) := by decide +kernel
theorem dX9_pressure_14 : decode cX9_pressure 14 = .ok (.dup, 1) := by decide +kernel
theorem dX9_pressure_15 : decode cX9_pressure 15 = .ok (.ldc 170, 2) := by decide +kernel
theorem dX9_pressure_17 : decode cX9_pressure 17 = .ok (.invokespecial 97, 3) := by decide +kernel
theorem dX9_pressure_20 : decode cX9_pressure 20 = .ok (.athrow, 1) := by decide +kernel
theorem dX9_pressure_21 : decode cX9_pressure 21 = .ok (.aload_n 0, 1) := by decide +kernel
theorem dX9_pressure_22 : decode cX9_pressure 22 = .ok (.getfield 19, 3) := by decide +kernel
theorem dX9_pressure_25 : decode cX9_pressure 25 = .ok (.getfield 172, 3) := by decide +kernel
theorem dX9_pressure_28 : decode cX9_pressure 28 = .ok (.istore_n 2, 1) := by decide +kernel
theorem dX9_pressure_29 : decode cX9_pressure 29 = .ok (.aload_n 0, 1) := by decide +kernel
theorem dX9_pressure_30 : decode cX9_pressure 30 = .ok (.getfield 19, 3) := by decide +kernel
theorem dX9_pressure_33 : decode cX9_pressure 33 = .ok (.iload_n 1, 1) := by decide +kernel
theorem dX9_pressure_34 : decode cX9_pressure 34 = .ok (.putfield 172, 3) := by decide +kernel
theorem dX9_pressure_37 : decode cX9_pressure 37 = .ok (.iload_n 2, 1) := by decide +kernel
theorem dX9_pressure_38 : decode cX9_pressure 38 = .ok (.ireturn, 1) := by decide +kernel
theorem dX9_lower_0 : decode cX9_lower 0 = .ok (.iload_n 1, 1) := by decide +kernel
theorem dX9_lower_1 : decode cX9_lower 1 = .ok (.invokestatic 122, 3) := by decide +kernel
theorem dX9_lower_4 : decode cX9_lower 4 = .ok (.ifCond .ne 13, 3) := by decide +kernel
theorem dX9_lower_7 : decode cX9_lower 7 = .ok (.new 93, 3) := by decide +kernel
theorem dX9_lower_10 : decode cX9_lower 10 = .ok (.dup, 1) := by decide +kernel
theorem dX9_lower_11 : decode cX9_lower 11 = .ok (.ldc 149, 2) := by decide +kernel
theorem dX9_lower_13 : decode cX9_lower 13 = .ok (.invokespecial 97, 3) := by decide +kernel
theorem dX9_lower_16 : decode cX9_lower 16 = .ok (.athrow, 1) := by decide +kernel
theorem dX9_lower_17 : decode cX9_lower 17 = .ok (.aload_n 0, 1) := by decide +kernel
theorem dX9_lower_18 : decode cX9_lower 18 = .ok (.getfield 10, 3) := by decide +kernel
theorem dX9_lower_21 : decode cX9_lower 21 = .ok (.iload_n 1, 1) := by decide +kernel
theorem dX9_lower_22 : decode cX9_lower 22 = .ok (.getstatic 176, 3) := by decide +kernel
theorem dX9_lower_25 : decode cX9_lower 25 = .ok (.invokevirtual 179, 3) := by decide +kernel
theorem dX9_lower_28 : decode cX9_lower 28 = .ok (.ireturn, 1) := by decide +kernel
theorem dX9_upper_0 : decode cX9_upper 0 = .ok (.iload_n 1, 1) := by decide +kernel
theorem dX9_upper_1 : decode cX9_upper 1 = .ok (.invokestatic 122, 3) := by decide +kernel
theorem dX9_upper_4 : decode cX9_upper 4 = .ok (.ifCond .ne 13, 3) := by decide +kernel
theorem dX9_upper_7 : decode cX9_upper 7 = .ok (.new 93, 3) := by decide +kernel
theorem dX9_upper_10 : decode cX9_upper 10 = .ok (.dup, 1) := by decide +kernel
theorem dX9_upper_11 : decode cX9_upper 11 = .ok (.ldc 149, 2) := by decide +kernel
theorem dX9_upper_13 : decode cX9_upper 13 = .ok (.invokespecial 97, 3) := by decide +kernel
theorem dX9_upper_16 : decode cX9_upper 16 = .ok (.athrow, 1) := by decide +kernel
theorem dX9_upper_17 : decode cX9_upper 17 = .ok (.aload_n 0, 1) := by decide +kernel
theorem dX9_upper_18 : decode cX9_upper 18 = .ok (.getfield 10, 3) := by decide +kernel
theorem dX9_upper_21 : decode cX9_upper 21 = .ok (.iload_n 1, 1) := by decide +kernel
theorem dX9_upper_22 : decode cX9_upper 22 = .ok (.getstatic 183, 3) := by decide +kernel
theorem dX9_upper_25 : decode cX9_upper 25 = .ok (.invokevirtual 179, 3) := by decide +kernel
theorem dX9_upper_28 : decode cX9_upper 28 = .ok (.ireturn, 1) := by decide +kernel
theorem dX9_foam_0 : decode cX9_foam 0 = .ok (.aload_n 0, 1) := by decide +kernel
theorem dX9_foam_1 : decode cX9_foam 1 = .ok (.getfield 19, 3) := by decide +kernel
theorem dX9_foam_4 : decode cX9_foam 4 = .ok (.getfield 186, 3) := by decide +kernel
theorem dX9_foam_7 : decode cX9_foam 7 = .ok (.istore_n 2, 1) := by decide +kernel
theorem dX9_foam_8 : decode cX9_foam 8 = .ok (.aload_n 0, 1) := by decide +kernel
theorem dX9_foam_9 : decode cX9_foam 9 = .ok (.getfield 19, 3) := by decide +kernel
theorem dX9_foam_12 : decode cX9_foam 12 = .ok (.iload_n 1, 1) := by decide +kernel
theorem dX9_foam_13 : decode cX9_foam 13 = .ok (.putfield 186, 3) := by decide +kernel
theorem dX9_foam_16 : decode cX9_foam 16 = .ok (.iload_n 2, 1) := by decide +kernel
theorem dX9_foam_17 : decode cX9_foam 17 = .ok (.ireturn, 1) := by decide +kernel
theorem dX9_worn_0 : decode cX9_worn 0 = .ok (.iload_n 1, 1) := by decide +kernel
theorem dX9_worn_1 : decode cX9_worn 1 = .ok (.iconst 0, 1) := by decide +kernel
theorem dX9_worn_2 : decode cX9_worn 2 = .ok (.bipush 7, 2) := by decide +kernel
theorem dX9_worn_4 : decode cX9_worn 4 = .ok (.invokestatic 89, 3) := by decide +kernel
theorem dX9_worn_7 : decode cX9_worn 7 = .ok (.ifCond .ne 13, 3) := by decide +kernel
theorem dX9_worn_10 : decode cX9_worn 10 = .ok (.new 190, 3) := by decide +kernel
theorem dX9_worn_13 : decode cX9_worn 13 = .ok (.dup, 1) := by decide +kernel
theorem dX9_worn_14 : decode cX9_worn 14 = .ok (.ldc 192, 2) := by decide +kernel
theorem dX9_worn_16 : decode cX9_worn 16 = .ok (.invokespecial 194, 3) := by decide +kernel
theorem dX9_worn_19 : decode cX9_worn 19 = .ok (.athrow, 1) := by decide +kernel
theorem dX9_worn_20 : decode cX9_worn 20 = .ok (.aload_n 0, 1) := by decide +kernel
theorem dX9_worn_21 : decode cX9_worn 21 = .ok (.getfield 19, 3) := by decide +kernel
theorem dX9_worn_24 : decode cX9_worn 24 = .ok (.getfield 195, 3) := by decide +kernel
theorem dX9_worn_27 : decode cX9_worn 27 = .ok (.iload_n 1, 1) := by decide +kernel
theorem dX9_worn_28 : decode cX9_worn 28 = .ok (.invokestatic 151, 3) := by decide +kernel
theorem dX9_worn_31 : decode cX9_worn 31 = .ok (.ireturn, 1) := by decide +kernel
theorem dX9_change_0 : decode cX9_change 0 = .ok (.iload_n 1, 1) := by decide +kernel
theorem dX9_change_1 : decode cX9_change 1 = .ok (.iconst 0, 1) := by decide +kernel
theorem dX9_change_2 : decode cX9_change 2 = .ok (.bipush 7, 2) := by decide +kernel
theorem dX9_change_4 : decode cX9_change 4 = .ok (.invokestatic 89, 3) := by decide +kernel
theorem dX9_change_7 : decode cX9_change 7 = .ok (.ifCond .ne 13, 3) := by decide +kernel
theorem dX9_change_10 : decode cX9_change 10 = .ok (.new 190, 3) := by decide +kernel
theorem dX9_change_13 : decode cX9_change 13 = .ok (.dup, 1) := by decide +kernel
theorem dX9_change_14 : decode cX9_change 14 = .ok (.ldc 192, 2) := by decide +kernel
theorem dX9_change_16 : decode cX9_change 16 = .ok (.invokespecial 194, 3) := by decide +kernel
theorem dX9_change_19 : decode cX9_change 19 = .ok (.athrow, 1) := by decide +kernel
theorem dX9_change_20 : decode cX9_change 20 = .ok (.aload_n 0, 1) := by decide +kernel
theorem dX9_change_21 : decode cX9_change 21 = .ok (.getfield 19, 3) := by decide +kernel
theorem dX9_change_24 : decode cX9_change 24 = .ok (.getfield 195, 3) := by decide +kernel
theorem dX9_change_27 : decode cX9_change 27 = .ok (.iload_n 1, 1) := by decide +kernel
theorem dX9_change_28 : decode cX9_change 28 = .ok (.invokestatic 151, 3) := by decide +kernel
theorem dX9_change_31 : decode cX9_change 31 = .ok (.ifCond .ne 13, 3) := by decide +kernel
theorem dX9_change_34 : decode cX9_change 34 = .ok (.new 198, 3) := by decide +kernel
theorem dX9_change_37 : decode cX9_change 37 = .ok (.dup, 1) := by decide +kernel
theorem dX9_change_38 : decode cX9_change 38 = .ok (.ldc 200, 2) := by decide +kernel
theorem dX9_change_40 : decode cX9_change 40 = .ok (.invokespecial 202, 3) := by decide +kernel
theorem dX9_change_43 : decode cX9_change 43 = .ok (.athrow, 1) := by decide +kernel
theorem dX9_change_44 : decode cX9_change 44 = .ok (.aload_n 0, 1) := by decide +kernel
theorem dX9_change_45 : decode cX9_change 45 = .ok (.getfield 10, 3) := by decide +kernel
theorem dX9_change_48 : decode cX9_change 48 = .ok (.getfield 82, 3) := by decide +kernel
theorem dX9_change_51 : decode cX9_change 51 = .ok (.aload_n 0, 1) := by decide +kernel
theorem dX9_change_52 : decode cX9_change 52 = .ok (.getfield 57, 3) := by decide +kernel
theorem dX9_change_55 : decode cX9_change 55 = .ok (.invokevirtual 131, 3) := by decide +kernel
theorem dX9_change_58 : decode cX9_change 58 = .ok (.invokestatic 151, 3) := by decide +kernel
theorem dX9_change_61 : decode cX9_change 61 = .ok (.invokestatic 203, 3) := by decide +kernel
theorem dX9_change_64 : decode cX9_change 64 = .ok (.istore_n 2, 1) := by decide +kernel
theorem dX9_change_65 : decode cX9_change 65 = .ok (.aload_n 0, 1) := by decide +kernel
theorem dX9_change_66 : decode cX9_change 66 = .ok (.iload_n 2, 1) := by decide +kernel
theorem dX9_change_67 : decode cX9_change 67 = .ok (.invokevirtual 206, 3) := by decide +kernel
theorem dX9_change_70 : decode cX9_change 70 = .ok (.aload_n 0, 1) := by decide +kernel
theorem dX9_change_71 : decode cX9_change 71 = .ok (.getfield 19, 3) := by decide +kernel
theorem dX9_change_74 : decode cX9_change 74 = .ok (.getfield 195, 3) := by decide +kernel
theorem dX9_change_77 : decode cX9_change 77 = .ok (.iload_n 1, 1) := by decide +kernel
theorem dX9_change_78 : decode cX9_change 78 = .ok (.iconst 0, 1) := by decide +kernel
theorem dX9_change_79 : decode cX9_change 79 = .ok (.invokestatic 209, 3) := by decide +kernel
theorem dX9_change_82 : decode cX9_change 82 = .ok (.aload_n 0, 1) := by decide +kernel
theorem dX9_change_83 : decode cX9_change 83 = .ok (.getfield 43, 3) := by decide +kernel
theorem dX9_change_86 : decode cX9_change 86 = .ok (.dup, 1) := by decide +kernel
theorem dX9_change_87 : decode cX9_change 87 = .ok (.getfield 213, 3) := by decide +kernel
theorem dX9_change_90 : decode cX9_change 90 = .ok (.iload_n 2, 1) := by decide +kernel
theorem dX9_change_91 : decode cX9_change 91 = .ok (.iadd, 1) := by decide +kernel
theorem dX9_change_92 : decode cX9_change 92 = .ok (.putfield 213, 3) := by decide +kernel
theorem dX9_change_95 : decode cX9_change 95 = .ok (.aload_n 0, 1) := by decide +kernel
theorem dX9_change_96 : decode cX9_change 96 = .ok (.getfield 43, 3) := by decide +kernel
theorem dX9_change_99 : decode cX9_change 99 = .ok (.dup, 1) := by decide +kernel
theorem dX9_change_100 : decode cX9_change 100 = .ok (.getfield 216, 3) := by decide +kernel
theorem dX9_change_103 : decode cX9_change 103 = .ok (.iload_n 2, 1) := by decide +kernel
theorem dX9_change_104 : decode cX9_change 104 = .ok (.iadd, 1) := by decide +kernel
theorem dX9_change_105 : decode cX9_change 105 = .ok (.putfield 216, 3) := by decide +kernel
theorem dX9_change_108 : decode cX9_change 108 = .ok (.iload_n 2, 1) := by decide +kernel
theorem dX9_change_109 : decode cX9_change 109 = .ok (.ireturn, 1) := by decide +kernel
theorem dX9_steer_0 : decode cX9_steer 0 = .ok (.iload_n 1, 1) := by decide +kernel
theorem dX9_steer_1 : decode cX9_steer 1 = .ok (.bipush (-5), 2) := by decide +kernel
theorem dX9_steer_3 : decode cX9_steer 3 = .ok (.iconst 5, 1) := by decide +kernel
theorem dX9_steer_4 : decode cX9_steer 4 = .ok (.invokestatic 89, 3) := by decide +kernel
theorem dX9_steer_7 : decode cX9_steer 7 = .ok (.ifCond .eq 13, 3) := by decide +kernel
theorem dX9_steer_10 : decode cX9_steer 10 = .ok (.iload_n 2, 1) := by decide +kernel
theorem dX9_steer_11 : decode cX9_steer 11 = .ok (.bipush (-5), 2) := by decide +kernel
theorem dX9_steer_13 : decode cX9_steer 13 = .ok (.iconst 5, 1) := by decide +kernel
theorem dX9_steer_14 : decode cX9_steer 14 = .ok (.invokestatic 89, 3) := by decide +kernel
theorem dX9_steer_17 : decode cX9_steer 17 = .ok (.ifCond .ne 13, 3) := by decide +kernel
theorem dX9_steer_20 : decode cX9_steer 20 = .ok (.new 93, 3) := by decide +kernel
theorem dX9_steer_23 : decode cX9_steer 23 = .ok (.dup, 1) := by decide +kernel
theorem dX9_steer_24 : decode cX9_steer 24 = .ok (.ldc 219, 2) := by decide +kernel
theorem dX9_steer_26 : decode cX9_steer 26 = .ok (.invokespecial 97, 3) := by decide +kernel
theorem dX9_steer_29 : decode cX9_steer 29 = .ok (.athrow, 1) := by decide +kernel
theorem dX9_steer_30 : decode cX9_steer 30 = .ok (.bipush 10, 2) := by decide +kernel
theorem dX9_steer_32 : decode cX9_steer 32 = .ok (.aload_n 0, 1) := by decide +kernel
theorem dX9_steer_33 : decode cX9_steer 33 = .ok (.getfield 19, 3) := by decide +kernel
theorem dX9_steer_36 : decode cX9_steer 36 = .ok (.getfield 221, 3) := by decide +kernel
theorem dX9_steer_39 : decode cX9_steer 39 = .ok (.imul, 1) := by decide +kernel
theorem dX9_steer_40 : decode cX9_steer 40 = .ok (.aload_n 0, 1) := by decide +kernel
theorem dX9_steer_41 : decode cX9_steer 41 = .ok (.getfield 19, 3) := by decide +kernel
theorem dX9_steer_44 : decode cX9_steer 44 = .ok (.getfield 224, 3) := by decide +kernel
theorem dX9_steer_47 : decode cX9_steer 47 = .ok (.iadd, 1) := by decide +kernel
theorem dX9_steer_48 : decode cX9_steer 48 = .ok (.istore_n 3, 1) := by decide +kernel
theorem dX9_steer_49 : decode cX9_steer 49 = .ok (.aload_n 0, 1) := by decide +kernel
theorem dX9_steer_50 : decode cX9_steer 50 = .ok (.getfield 19, 3) := by decide +kernel
theorem dX9_steer_53 : decode cX9_steer 53 = .ok (.iload_n 1, 1) := by decide +kernel
theorem dX9_steer_54 : decode cX9_steer 54 = .ok (.putfield 221, 3) := by decide +kernel
theorem dX9_steer_57 : decode cX9_steer 57 = .ok (.aload_n 0, 1) := by decide +kernel
theorem dX9_steer_58 : decode cX9_steer 58 = .ok (.getfield 19, 3) := by decide +kernel
theorem dX9_steer_61 : decode cX9_steer 61 = .ok (.iload_n 2, 1) := by decide +kernel
theorem dX9_steer_62 : decode cX9_steer 62 = .ok (.putfield 224, 3) := by decide +kernel
theorem dX9_steer_65 : decode cX9_steer 65 = .ok (.iload_n 3, 1) := by decide +kernel
theorem dX9_steer_66 : decode cX9_steer 66 = .ok (.ireturn, 1) := by decide +kernel
theorem dX9_bars_0 : decode cX9_bars 0 = .ok (.iload_n 1, 1) := by decide +kernel
theorem dX9_bars_1 : decode cX9_bars 1 = .ok (.iconst 0, 1) := by decide +kernel
theorem dX9_bars_2 : decode cX9_bars 2 = .ok (.bipush 7, 2) := by decide +kernel
theorem dX9_bars_4 : decode cX9_bars 4 = .ok (.invokestatic 89, 3) := by decide +kernel
theorem dX9_bars_7 : decode cX9_bars 7 = .ok (.ifCond .ne 13, 3) := by decide +kernel
theorem dX9_bars_10 : decode cX9_bars 10 = .ok (.new 93, 3) := by decide +kernel
theorem dX9_bars_13 : decode cX9_bars 13 = .ok (.dup, 1) := by decide +kernel
theorem dX9_bars_14 : decode cX9_bars 14 = .ok (.ldc 227, 2) := by decide +kernel
theorem dX9_bars_16 : decode cX9_bars 16 = .ok (.invokespecial 97, 3) := by decide +kernel
theorem dX9_bars_19 : decode cX9_bars 19 = .ok (.athrow, 1) := by decide +kernel
theorem dX9_bars_20 : decode cX9_bars 20 = .ok (.aload_n 0, 1) := by decide +kernel
theorem dX9_bars_21 : decode cX9_bars 21 = .ok (.iload_n 1, 1) := by decide +kernel
theorem dX9_bars_22 : decode cX9_bars 22 = .ok (.invokevirtual 229, 3) := by decide +kernel
theorem dX9_bars_25 : decode cX9_bars 25 = .ok (.ireturn, 1) := by decide +kernel
theorem dX9_advance_0 : decode cX9_advance 0 = .ok (.iload_n 1, 1) := by decide +kernel
theorem dX9_advance_1 : decode cX9_advance 1 = .ok (.iconst 0, 1) := by decide +kernel
theorem dX9_advance_2 : decode cX9_advance 2 = .ok (.bipush 7, 2) := by decide +kernel
theorem dX9_advance_4 : decode cX9_advance 4 = .ok (.invokestatic 89, 3) := by decide +kernel
theorem dX9_advance_7 : decode cX9_advance 7 = .ok (.ifCond .ne 13, 3) := by decide +kernel
theorem dX9_advance_10 : decode cX9_advance 10 = .ok (.new 93, 3) := by decide +kernel
theorem dX9_advance_13 : decode cX9_advance 13 = .ok (.dup, 1) := by decide +kernel
theorem dX9_advance_14 : decode cX9_advance 14 = .ok (.ldc 227, 2) := by decide +kernel
theorem dX9_advance_16 : decode cX9_advance 16 = .ok (.invokespecial 97, 3) := by decide +kernel
theorem dX9_advance_19 : decode cX9_advance 19 = .ok (.athrow, 1) := by decide +kernel
theorem dX9_advance_20 : decode cX9_advance 20 = .ok (.aload_n 0, 1) := by decide +kernel
theorem dX9_advance_21 : decode cX9_advance 21 = .ok (.iload_n 1, 1) := by decide +kernel
theorem dX9_advance_22 : decode cX9_advance 22 = .ok (.invokevirtual 229, 3) := by decide +kernel
theorem dX9_advance_25 : decode cX9_advance 25 = .ok (.bipush 45, 2) := by decide +kernel
theorem dX9_advance_27 : decode cX9_advance 27 = .ok (.if_icmp .eq 13, 3) := by decide +kernel
theorem dX9_advance_30 : decode cX9_advance 30 = .ok (.new 198, 3) := by decide +kernel
theorem dX9_advance_33 : decode cX9_advance 33 = .ok (.dup, 1) := by decide +kernel
theorem dX9_advance_34 : decode cX9_advance 34 = .ok (.ldc 233, 2) := by decide +kernel
theorem dX9_advance_36 : decode cX9_advance 36 = .ok (.invokespecial 202, 3) := by decide +kernel
theorem dX9_advance_39 : decode cX9_advance 39 = .ok (.athrow, 1) := by decide +kernel
theorem dX9_advance_40 : decode cX9_advance 40 = .ok (.aload_n 0, 1) := by decide +kernel
theorem dX9_advance_41 : decode cX9_advance 41 = .ok (.invokevirtual 235, 3) := by decide +kernel
theorem dX9_advance_44 : decode cX9_advance 44 = .ok (.istore_n 2, 1) := by decide +kernel
theorem dX9_advance_45 : decode cX9_advance 45 = .ok (.aload_n 0, 1) := by decide +kernel
theorem dX9_advance_46 : decode cX9_advance 46 = .ok (.iload_n 2, 1) := by decide +kernel
theorem dX9_advance_47 : decode cX9_advance 47 = .ok (.invokevirtual 206, 3) := by decide +kernel
theorem dX9_advance_50 : decode cX9_advance 50 = .ok (.aload_n 0, 1) := by decide +kernel
theorem dX9_advance_51 : decode cX9_advance 51 = .ok (.iload_n 1, 1) := by decide +kernel
theorem dX9_advance_52 : decode cX9_advance 52 = .ok (.iload_n 2, 1) := by decide +kernel
theorem dX9_advance_53 : decode cX9_advance 53 = .ok (.invokevirtual 238, 3) := by decide +kernel
theorem dX9_advance_56 : decode cX9_advance 56 = .ok (.iload_n 2, 1) := by decide +kernel
theorem dX9_advance_57 : decode cX9_advance 57 = .ok (.ireturn, 1) := by decide +kernel
theorem dX9_rings_0 : decode cX9_rings 0 = .ok (.aload_n 0, 1) := by decide +kernel
theorem dX9_rings_1 : decode cX9_rings 1 = .ok (.getfield 57, 3) := by decide +kernel
theorem dX9_rings_4 : decode cX9_rings 4 = .ok (.invokevirtual 131, 3) := by decide +kernel
theorem dX9_rings_7 : decode cX9_rings 7 = .ok (.ireturn, 1) := by decide +kernel
theorem dX9_off_0 : decode cX9_off 0 = .ok (.aload_n 0, 1) := by decide +kernel
theorem dX9_off_1 : decode cX9_off 1 = .ok (.iload_n 1, 1) := by decide +kernel
theorem dX9_off_2 : decode cX9_off 2 = .ok (.invokevirtual 241, 3) := by decide +kernel
theorem dX9_off_5 : decode cX9_off 5 = .ok (.astore_n 3, 1) := by decide +kernel
theorem dX9_off_6 : decode cX9_off 6 = .ok (.iload_n 2, 1) := by decide +kernel
theorem dX9_off_7 : decode cX9_off 7 = .ok (.ifCond .eq 10, 3) := by decide +kernel
theorem dX9_off_10 : decode cX9_off 10 = .ok (.aload_n 3, 1) := by decide +kernel
theorem dX9_off_11 : decode cX9_off 11 = .ok (.getfield 245, 3) := by decide +kernel
theorem dX9_off_14 : decode cX9_off 14 = .ok (.goto 7, 3) := by decide +kernel
theorem dX9_off_17 : decode cX9_off 17 = .ok (.aload_n 3, 1) := by decide +kernel
theorem dX9_off_18 : decode cX9_off 18 = .ok (.getfield 250, 3) := by decide +kernel
theorem dX9_off_21 : decode cX9_off 21 = .ok (.ireturn, 1) := by decide +kernel
theorem dX9_heading_0 : decode cX9_heading 0 = .ok (.iload_n 1, 1) := by decide +kernel
theorem dX9_heading_1 : decode cX9_heading 1 = .ok (.ifCond .eq 13, 3) := by decide +kernel
theorem dX9_heading_4 : decode cX9_heading 4 = .ok (.aload_n 0, 1) := by decide +kernel
theorem dX9_heading_5 : decode cX9_heading 5 = .ok (.getfield 26, 3) := by decide +kernel
theorem dX9_heading_8 : decode cX9_heading 8 = .ok (.getfield 253, 3) := by decide +kernel
theorem dX9_heading_11 : decode cX9_heading 11 = .ok (.goto 10, 3) := by decide +kernel
theorem dX9_heading_14 : decode cX9_heading 14 = .ok (.aload_n 0, 1) := by decide +kernel
theorem dX9_heading_15 : decode cX9_heading 15 = .ok (.getfield 26, 3) := by decide +kernel
theorem dX9_heading_18 : decode cX9_heading 18 = .ok (.getfield 256, 3) := by decide +kernel
theorem dX9_heading_21 : decode cX9_heading 21 = .ok (.ireturn, 1) := by decide +kernel
theorem dX9_rotation_0 : decode cX9_rotation 0 = .ok (.aload_n 0, 1) := by decide +kernel
theorem dX9_rotation_1 : decode cX9_rotation 1 = .ok (.iload_n 1, 1) := by decide +kernel
theorem dX9_rotation_2 : decode cX9_rotation 2 = .ok (.invokevirtual 241, 3) := by decide +kernel
theorem dX9_rotation_5 : decode cX9_rotation 5 = .ok (.getfield 259, 3) := by decide +kernel
theorem dX9_rotation_8 : decode cX9_rotation 8 = .ok (.ireturn, 1) := by decide +kernel
theorem dX9_plan_0 : decode cX9_plan 0 = .ok (.iload_n 1, 1) := by decide +kernel
theorem dX9_plan_1 : decode cX9_plan 1 = .ok (.iconst 1, 1) := by decide +kernel
theorem dX9_plan_2 : decode cX9_plan 2 = .ok (.iconst 3, 1) := by decide +kernel
theorem dX9_plan_3 : decode cX9_plan 3 = .ok (.invokestatic 89, 3) := by decide +kernel
theorem dX9_plan_6 : decode cX9_plan 6 = .ok (.ifCond .ne 14, 3) := by decide +kernel
theorem dX9_plan_9 : decode cX9_plan 9 = .ok (.new 93, 3) := by decide +kernel
theorem dX9_plan_12 : decode cX9_plan 12 = .ok (.dup, 1) := by decide +kernel
theorem dX9_plan_13 : decode cX9_plan 13 = .ok (.ldc_w 262, 3) := by decide +kernel
theorem dX9_plan_16 : decode cX9_plan 16 = .ok (.invokespecial 97, 3) := by decide +kernel
theorem dX9_plan_19 : decode cX9_plan 19 = .ok (.athrow, 1) := by decide +kernel
theorem dX9_plan_20 : decode cX9_plan 20 = .ok (.aload_n 0, 1) := by decide +kernel
theorem dX9_plan_21 : decode cX9_plan 21 = .ok (.iload_n 1, 1) := by decide +kernel
theorem dX9_plan_22 : decode cX9_plan 22 = .ok (.invokevirtual 264, 3) := by decide +kernel
theorem dX9_plan_25 : decode cX9_plan 25 = .ok (.iconst 0, 1) := by decide +kernel
theorem dX9_plan_26 : decode cX9_plan 26 = .ok (.iload_n 1, 1) := by decide +kernel
theorem dX9_plan_27 : decode cX9_plan 27 = .ok (.invokestatic 267, 3) := by decide +kernel
theorem dX9_plan_30 : decode cX9_plan 30 = .ok (.ireturn, 1) := by decide +kernel
theorem dX9_squares_0 : decode cX9_squares 0 = .ok (.iload_n 1, 1) := by decide +kernel
theorem dX9_squares_1 : decode cX9_squares 1 = .ok (.iconst 1, 1) := by decide +kernel
theorem dX9_squares_2 : decode cX9_squares 2 = .ok (.iconst 3, 1) := by decide +kernel
theorem dX9_squares_3 : decode cX9_squares 3 = .ok (.invokestatic 89, 3) := by decide +kernel
theorem dX9_squares_6 : decode cX9_squares 6 = .ok (.ifCond .ne 14, 3) := by decide +kernel
theorem dX9_squares_9 : decode cX9_squares 9 = .ok (.new 93, 3) := by decide +kernel
theorem dX9_squares_12 : decode cX9_squares 12 = .ok (.dup, 1) := by decide +kernel
theorem dX9_squares_13 : decode cX9_squares 13 = .ok (.ldc_w 262, 3) := by decide +kernel
theorem dX9_squares_16 : decode cX9_squares 16 = .ok (.invokespecial 97, 3) := by decide +kernel
theorem dX9_squares_19 : decode cX9_squares 19 = .ok (.athrow, 1) := by decide +kernel
theorem dX9_squares_20 : decode cX9_squares 20 = .ok (.aload_n 0, 1) := by decide +kernel
theorem dX9_squares_21 : decode cX9_squares 21 = .ok (.aload_n 0, 1) := by decide +kernel
theorem dX9_squares_22 : decode cX9_squares 22 = .ok (.iload_n 1, 1) := by decide +kernel
theorem dX9_squares_23 : decode cX9_squares 23 = .ok (.invokevirtual 264, 3) := by decide +kernel
theorem dX9_squares_26 : decode cX9_squares 26 = .ok (.iload_n 1, 1) := by decide +kernel
theorem dX9_squares_27 : decode cX9_squares 27 = .ok (.invokevirtual 271, 3) := by decide +kernel
theorem dX9_squares_30 : decode cX9_squares 30 = .ok (.lreturn, 1) := by decide +kernel
theorem dX9_offRings_0 : decode cX9_offRings 0 = .ok (.iconst 0, 1) := by decide +kernel
theorem dX9_offRings_1 : decode cX9_offRings 1 = .ok (.istore_n 1, 1) := by decide +kernel
theorem dX9_offRings_2 : decode cX9_offRings 2 = .ok (.iconst 0, 1) := by decide +kernel
theorem dX9_offRings_3 : decode cX9_offRings 3 = .ok (.istore_n 2, 1) := by decide +kernel
theorem dX9_offRings_4 : decode cX9_offRings 4 = .ok (.iload_n 2, 1) := by decide +kernel
theorem dX9_offRings_5 : decode cX9_offRings 5 = .ok (.aload_n 0, 1) := by decide +kernel
theorem dX9_offRings_6 : decode cX9_offRings 6 = .ok (.getfield 57, 3) := by decide +kernel
theorem dX9_offRings_9 : decode cX9_offRings 9 = .ok (.invokevirtual 131, 3) := by decide +kernel
theorem dX9_offRings_12 : decode cX9_offRings 12 = .ok (.if_icmp .ge 29, 3) := by decide +kernel
theorem dX9_offRings_15 : decode cX9_offRings 15 = .ok (.aload_n 0, 1) := by decide +kernel
theorem dX9_offRings_16 : decode cX9_offRings 16 = .ok (.getfield 57, 3) := by decide +kernel
theorem dX9_offRings_19 : decode cX9_offRings 19 = .ok (.iload_n 2, 1) := by decide +kernel
theorem dX9_offRings_20 : decode cX9_offRings 20 = .ok (.invokevirtual 275, 3) := by decide +kernel
theorem dX9_offRings_23 : decode cX9_offRings 23 = .ok (.checkcast 246, 3) := by decide +kernel
theorem dX9_offRings_26 : decode cX9_offRings 26 = .ok (.invokevirtual 279, 3) := by decide +kernel
theorem dX9_offRings_29 : decode cX9_offRings 29 = .ok (.ifCond .eq 6, 3) := by decide +kernel
theorem dX9_offRings_32 : decode cX9_offRings 32 = .ok (.iinc 1 1, 3) := by decide +kernel
theorem dX9_offRings_35 : decode cX9_offRings 35 = .ok (.iinc 2 1, 3) := by decide +kernel
theorem dX9_offRings_38 : decode cX9_offRings 38 = .ok (.goto (-34), 3) := by decide +kernel
theorem dX9_offRings_41 : decode cX9_offRings 41 = .ok (.iload_n 1, 1) := by decide +kernel
theorem dX9_offRings_42 : decode cX9_offRings 42 = .ok (.ireturn, 1) := by decide +kernel
theorem dX9_grout_0 : decode cX9_grout 0 = .ok (.aload_n 0, 1) := by decide +kernel
theorem dX9_grout_1 : decode cX9_grout 1 = .ok (.iload_n 1, 1) := by decide +kernel
theorem dX9_grout_2 : decode cX9_grout 2 = .ok (.invokevirtual 241, 3) := by decide +kernel
theorem dX9_grout_5 : decode cX9_grout 5 = .ok (.astore_n 3, 1) := by decide +kernel
theorem dX9_grout_6 : decode cX9_grout 6 = .ok (.iload_n 2, 1) := by decide +kernel
theorem dX9_grout_7 : decode cX9_grout 7 = .ok (.iconst 1, 1) := by decide +kernel
theorem dX9_grout_8 : decode cX9_grout 8 = .ok (.sipush 200, 3) := by decide +kernel
theorem dX9_grout_11 : decode cX9_grout 11 = .ok (.invokestatic 89, 3) := by decide +kernel
theorem dX9_grout_14 : decode cX9_grout 14 = .ok (.ifCond .ne 14, 3) := by decide +kernel
theorem dX9_grout_17 : decode cX9_grout 17 = .ok (.new 93, 3) := by decide +kernel
theorem dX9_grout_20 : decode cX9_grout 20 = .ok (.dup, 1) := by decide +kernel
theorem dX9_grout_21 : decode cX9_grout 21 = .ok (.ldc_w 283, 3) := by decide +kernel
theorem dX9_grout_24 : decode cX9_grout 24 = .ok (.invokespecial 97, 3) := by decide +kernel
theorem dX9_grout_27 : decode cX9_grout 27 = .ok (.athrow, 1) := by decide +kernel
theorem dX9_grout_28 : decode cX9_grout 28 = .ok (.iload_n 2, 1) := by decide +kernel
theorem dX9_grout_29 : decode cX9_grout 29 = .ok (.aload_n 3, 1) := by decide +kernel
theorem dX9_grout_30 : decode cX9_grout 30 = .ok (.invokevirtual 285, 3) := by decide +kernel
theorem dX9_grout_33 : decode cX9_grout 33 = .ok (.if_icmp .gt 17, 3) := by decide +kernel
theorem dX9_grout_36 : decode cX9_grout 36 = .ok (.aload_n 3, 1) := by decide +kernel
theorem dX9_grout_37 : decode cX9_grout 37 = .ok (.aload_n 0, 1) := by decide +kernel
theorem dX9_grout_38 : decode cX9_grout 38 = .ok (.getfield 43, 3) := by decide +kernel
theorem dX9_grout_41 : decode cX9_grout 41 = .ok (.getfield 213, 3) := by decide +kernel
theorem dX9_grout_44 : decode cX9_grout 44 = .ok (.invokevirtual 288, 3) := by decide +kernel
theorem dX9_grout_47 : decode cX9_grout 47 = .ok (.ifCond .eq 14, 3) := by decide +kernel
theorem dX9_grout_50 : decode cX9_grout 50 = .ok (.new 198, 3) := by decide +kernel
theorem dX9_grout_53 : decode cX9_grout 53 = .ok (.dup, 1) := by decide +kernel
theorem dX9_grout_54 : decode cX9_grout 54 = .ok (.ldc_w 291, 3) := by decide +kernel
theorem dX9_grout_57 : decode cX9_grout 57 = .ok (.invokespecial 202, 3) := by decide +kernel
theorem dX9_grout_60 : decode cX9_grout 60 = .ok (.athrow, 1) := by decide +kernel
theorem dX9_grout_61 : decode cX9_grout 61 = .ok (.aload_n 3, 1) := by decide +kernel
theorem dX9_grout_62 : decode cX9_grout 62 = .ok (.getfield 293, 3) := by decide +kernel
theorem dX9_grout_65 : decode cX9_grout 65 = .ok (.ifCond .ne 14, 3) := by decide +kernel
theorem dX9_grout_68 : decode cX9_grout 68 = .ok (.aload_n 3, 1) := by decide +kernel
theorem dX9_grout_69 : decode cX9_grout 69 = .ok (.aload_n 0, 1) := by decide +kernel
theorem dX9_grout_70 : decode cX9_grout 70 = .ok (.getfield 43, 3) := by decide +kernel
theorem dX9_grout_73 : decode cX9_grout 73 = .ok (.getfield 213, 3) := by decide +kernel
theorem dX9_grout_76 : decode cX9_grout 76 = .ok (.putfield 296, 3) := by decide +kernel
theorem dX9_grout_79 : decode cX9_grout 79 = .ok (.aload_n 3, 1) := by decide +kernel
theorem dX9_grout_80 : decode cX9_grout 80 = .ok (.dup, 1) := by decide +kernel
theorem dX9_grout_81 : decode cX9_grout 81 = .ok (.getfield 293, 3) := by decide +kernel
theorem dX9_grout_84 : decode cX9_grout 84 = .ok (.iload_n 2, 1) := by decide +kernel
theorem dX9_grout_85 : decode cX9_grout 85 = .ok (.iadd, 1) := by decide +kernel
theorem dX9_grout_86 : decode cX9_grout 86 = .ok (.putfield 293, 3) := by decide +kernel
theorem dX9_grout_89 : decode cX9_grout 89 = .ok (.aload_n 3, 1) := by decide +kernel
theorem dX9_grout_90 : decode cX9_grout 90 = .ok (.invokevirtual 299, 3) := by decide +kernel
theorem dX9_grout_93 : decode cX9_grout 93 = .ok (.ireturn, 1) := by decide +kernel
theorem dX9_lost_0 : decode cX9_lost 0 = .ok (.aload_n 0, 1) := by decide +kernel
theorem dX9_lost_1 : decode cX9_lost 1 = .ok (.iload_n 1, 1) := by decide +kernel
theorem dX9_lost_2 : decode cX9_lost 2 = .ok (.invokevirtual 241, 3) := by decide +kernel
theorem dX9_lost_5 : decode cX9_lost 5 = .ok (.invokevirtual 299, 3) := by decide +kernel
theorem dX9_lost_8 : decode cX9_lost 8 = .ok (.ireturn, 1) := by decide +kernel
theorem dX9_house_0 : decode cX9_house 0 = .ok (.iload_n 1, 1) := by decide +kernel
theorem dX9_house_1 : decode cX9_house 1 = .ok (.iload_n 2, 1) := by decide +kernel
theorem dX9_house_2 : decode cX9_house 2 = .ok (.invokestatic 85, 3) := by decide +kernel
theorem dX9_house_5 : decode cX9_house 5 = .ok (.ifCond .eq 13, 3) := by decide +kernel
theorem dX9_house_8 : decode cX9_house 8 = .ok (.iload_n 3, 1) := by decide +kernel
theorem dX9_house_9 : decode cX9_house 9 = .ok (.iconst 0, 1) := by decide +kernel
theorem dX9_house_10 : decode cX9_house 10 = .ok (.bipush 60, 2) := by decide +kernel
theorem dX9_house_12 : decode cX9_house 12 = .ok (.invokestatic 89, 3) := by decide +kernel
theorem dX9_house_15 : decode cX9_house 15 = .ok (.ifCond .ne 14, 3) := by decide +kernel
theorem dX9_house_18 : decode cX9_house 18 = .ok (.new 93, 3) := by decide +kernel
theorem dX9_house_21 : decode cX9_house 21 = .ok (.dup, 1) := by decide +kernel
theorem dX9_house_22 : decode cX9_house 22 = .ok (.ldc_w 302, 3) := by decide +kernel
theorem dX9_house_25 : decode cX9_house 25 = .ok (.invokespecial 97, 3) := by decide +kernel
theorem dX9_house_28 : decode cX9_house 28 = .ok (.athrow, 1) := by decide +kernel
theorem dX9_house_29 : decode cX9_house 29 = .ok (.aload_n 0, 1) := by decide +kernel
theorem dX9_house_30 : decode cX9_house 30 = .ok (.getfield 61, 3) := by decide +kernel
theorem dX9_house_33 : decode cX9_house 33 = .ok (.invokevirtual 131, 3) := by decide +kernel
theorem dX9_house_36 : decode cX9_house 36 = .ok (.istore 4, 2) := by decide +kernel
theorem dX9_house_38 : decode cX9_house 38 = .ok (.iload 4, 2) := by decide +kernel
theorem dX9_house_40 : decode cX9_house 40 = .ok (.bipush 8, 2) := by decide +kernel
theorem dX9_house_42 : decode cX9_house 42 = .ok (.if_icmp .lt 14, 3) := by decide +kernel
theorem dX9_house_45 : decode cX9_house 45 = .ok (.new 135, 3) := by decide +kernel
theorem dX9_house_48 : decode cX9_house 48 = .ok (.dup, 1) := by decide +kernel
theorem dX9_house_49 : decode cX9_house 49 = .ok (.ldc_w 304, 3) := by decide +kernel
theorem dX9_house_52 : decode cX9_house 52 = .ok (.invokespecial 139, 3) := by decide +kernel
theorem dX9_house_55 : decode cX9_house 55 = .ok (.athrow, 1) := by decide +kernel
theorem dX9_house_56 : decode cX9_house 56 = .ok (.aload_n 0, 1) := by decide +kernel
theorem dX9_house_57 : decode cX9_house 57 = .ok (.getfield 61, 3) := by decide +kernel
theorem dX9_house_60 : decode cX9_house 60 = .ok (.new 306, 3) := by decide +kernel
theorem dX9_house_63 : decode cX9_house 63 = .ok (.dup, 1) := by decide +kernel
theorem dX9_house_64 : decode cX9_house 64 = .ok (.iload_n 1, 1) := by decide +kernel
theorem dX9_house_65 : decode cX9_house 65 = .ok (.iload_n 2, 1) := by decide +kernel
theorem dX9_house_66 : decode cX9_house 66 = .ok (.iload_n 3, 1) := by decide +kernel
theorem dX9_house_67 : decode cX9_house 67 = .ok (.invokespecial 308, 3) := by decide +kernel
theorem dX9_house_70 : decode cX9_house 70 = .ok (.invokevirtual 145, 3) := by decide +kernel
theorem dX9_house_73 : decode cX9_house 73 = .ok (.pop, 1) := by decide +kernel
theorem dX9_house_74 : decode cX9_house 74 = .ok (.iload 4, 2) := by decide +kernel
theorem dX9_house_76 : decode cX9_house 76 = .ok (.ireturn, 1) := by decide +kernel
theorem dX9_settles_0 : decode cX9_settles 0 = .ok (.aload_n 0, 1) := by decide +kernel
theorem dX9_settles_1 : decode cX9_settles 1 = .ok (.aload_n 0, 1) := by decide +kernel
theorem dX9_settles_2 : decode cX9_settles 2 = .ok (.iload_n 1, 1) := by decide +kernel
theorem dX9_settles_3 : decode cX9_settles 3 = .ok (.invokevirtual 311, 3) := by decide +kernel
theorem dX9_settles_6 : decode cX9_settles 6 = .ok (.iload_n 2, 1) := by decide +kernel
theorem dX9_settles_7 : decode cX9_settles 7 = .ok (.invokevirtual 315, 3) := by decide +kernel
theorem dX9_settles_10 : decode cX9_settles 10 = .ok (.ireturn, 1) := by decide +kernel
theorem dX9_tilt_0 : decode cX9_tilt 0 = .ok (.aload_n 0, 1) := by decide +kernel
theorem dX9_tilt_1 : decode cX9_tilt 1 = .ok (.aload_n 0, 1) := by decide +kernel
theorem dX9_tilt_2 : decode cX9_tilt 2 = .ok (.iload_n 1, 1) := by decide +kernel
theorem dX9_tilt_3 : decode cX9_tilt 3 = .ok (.invokevirtual 311, 3) := by decide +kernel
theorem dX9_tilt_6 : decode cX9_tilt 6 = .ok (.invokevirtual 319, 3) := by decide +kernel
theorem dX9_tilt_9 : decode cX9_tilt 9 = .ok (.ireturn, 1) := by decide +kernel
theorem dX9_damage_0 : decode cX9_damage 0 = .ok (.aload_n 0, 1) := by decide +kernel
theorem dX9_damage_1 : decode cX9_damage 1 = .ok (.aload_n 0, 1) := by decide +kernel
theorem dX9_damage_2 : decode cX9_damage 2 = .ok (.iload_n 1, 1) := by decide +kernel
theorem dX9_damage_3 : decode cX9_damage 3 = .ok (.invokevirtual 311, 3) := by decide +kernel
theorem dX9_damage_6 : decode cX9_damage 6 = .ok (.invokevirtual 319, 3) := by decide +kernel
theorem dX9_damage_9 : decode cX9_damage 9 = .ok (.istore_n 2, 1) := by decide +kernel
theorem dX9_damage_10 : decode cX9_damage 10 = .ok (.iload_n 2, 1) := by decide +kernel
theorem dX9_damage_11 : decode cX9_damage 11 = .ok (.bipush 10, 2) := by decide +kernel
theorem dX9_damage_13 : decode cX9_damage 13 = .ok (.if_icmp .ge 5, 3) := by decide +kernel
theorem dX9_damage_16 : decode cX9_damage 16 = .ok (.iconst 0, 1) := by decide +kernel
theorem dX9_damage_17 : decode cX9_damage 17 = .ok (.ireturn, 1) := by decide +kernel
theorem dX9_damage_18 : decode cX9_damage 18 = .ok (.iload_n 2, 1) := by decide +kernel
theorem dX9_damage_19 : decode cX9_damage 19 = .ok (.bipush 30, 2) := by decide +kernel
theorem dX9_damage_21 : decode cX9_damage 21 = .ok (.if_icmp .ge 5, 3) := by decide +kernel
theorem dX9_damage_24 : decode cX9_damage 24 = .ok (.iconst 1, 1) := by decide +kernel
theorem dX9_damage_25 : decode cX9_damage 25 = .ok (.ireturn, 1) := by decide +kernel
theorem dX9_damage_26 : decode cX9_damage 26 = .ok (.iload_n 2, 1) := by decide +kernel
theorem dX9_damage_27 : decode cX9_damage 27 = .ok (.bipush 60, 2) := by decide +kernel
theorem dX9_damage_29 : decode cX9_damage 29 = .ok (.if_icmp .ge 5, 3) := by decide +kernel
theorem dX9_damage_32 : decode cX9_damage 32 = .ok (.iconst 2, 1) := by decide +kernel
theorem dX9_damage_33 : decode cX9_damage 33 = .ok (.ireturn, 1) := by decide +kernel
theorem dX9_damage_34 : decode cX9_damage 34 = .ok (.iload_n 2, 1) := by decide +kernel
theorem dX9_damage_35 : decode cX9_damage 35 = .ok (.bipush 100, 2) := by decide +kernel
theorem dX9_damage_37 : decode cX9_damage 37 = .ok (.if_icmp .ge 7, 3) := by decide +kernel
theorem dX9_damage_40 : decode cX9_damage 40 = .ok (.iconst 3, 1) := by decide +kernel
theorem dX9_damage_41 : decode cX9_damage 41 = .ok (.goto 4, 3) := by decide +kernel
theorem dX9_damage_44 : decode cX9_damage 44 = .ok (.iconst 4, 1) := by decide +kernel
theorem dX9_damage_45 : decode cX9_damage 45 = .ok (.ireturn, 1) := by decide +kernel
theorem dX9_read_0 : decode cX9_read 0 = .ok (.aload_n 0, 1) := by decide +kernel
theorem dX9_read_1 : decode cX9_read 1 = .ok (.iload_n 1, 1) := by decide +kernel
theorem dX9_read_2 : decode cX9_read 2 = .ok (.invokevirtual 311, 3) := by decide +kernel
theorem dX9_read_5 : decode cX9_read 5 = .ok (.astore_n 2, 1) := by decide +kernel
theorem dX9_read_6 : decode cX9_read 6 = .ok (.aload_n 2, 1) := by decide +kernel
theorem dX9_read_7 : decode cX9_read 7 = .ok (.aload_n 0, 1) := by decide +kernel
theorem dX9_read_8 : decode cX9_read 8 = .ok (.aload_n 2, 1) := by decide +kernel
theorem dX9_read_9 : decode cX9_read 9 = .ok (.iconst 0, 1) := by decide +kernel
theorem dX9_read_10 : decode cX9_read 10 = .ok (.invokevirtual 315, 3) := by decide +kernel
theorem dX9_read_13 : decode cX9_read 13 = .ok (.aload_n 0, 1) := by decide +kernel
theorem dX9_read_14 : decode cX9_read 14 = .ok (.aload_n 2, 1) := by decide +kernel
theorem dX9_read_15 : decode cX9_read 15 = .ok (.iconst 1, 1) := by decide +kernel
theorem dX9_read_16 : decode cX9_read 16 = .ok (.invokevirtual 315, 3) := by decide +kernel
theorem dX9_read_19 : decode cX9_read 19 = .ok (.invokestatic 323, 3) := by decide +kernel
theorem dX9_read_22 : decode cX9_read 22 = .ok (.putfield 328, 3) := by decide +kernel
theorem dX9_read_25 : decode cX9_read 25 = .ok (.aload_n 2, 1) := by decide +kernel
theorem dX9_read_26 : decode cX9_read 26 = .ok (.iconst 1, 1) := by decide +kernel
theorem dX9_read_27 : decode cX9_read 27 = .ok (.putfield 331, 3) := by decide +kernel
theorem dX9_read_30 : decode cX9_read 30 = .ok (.aload_n 2, 1) := by decide +kernel
theorem dX9_read_31 : decode cX9_read 31 = .ok (.getfield 328, 3) := by decide +kernel
theorem dX9_read_34 : decode cX9_read 34 = .ok (.ireturn, 1) := by decide +kernel
theorem dX9_alarm_0 : decode cX9_alarm 0 = .ok (.aload_n 0, 1) := by decide +kernel
theorem dX9_alarm_1 : decode cX9_alarm 1 = .ok (.iload_n 1, 1) := by decide +kernel
theorem dX9_alarm_2 : decode cX9_alarm 2 = .ok (.invokevirtual 311, 3) := by decide +kernel
theorem dX9_alarm_5 : decode cX9_alarm 5 = .ok (.invokevirtual 334, 3) := by decide +kernel
theorem dX9_alarm_8 : decode cX9_alarm 8 = .ok (.ireturn, 1) := by decide +kernel
theorem dX9_lift_0 : decode cX9_lift 0 = .ok (.aload_n 0, 1) := by decide +kernel
theorem dX9_lift_1 : decode cX9_lift 1 = .ok (.iload_n 1, 1) := by decide +kernel
theorem dX9_lift_2 : decode cX9_lift 2 = .ok (.invokevirtual 311, 3) := by decide +kernel
theorem dX9_lift_5 : decode cX9_lift 5 = .ok (.astore 4, 2) := by decide +kernel
theorem dX9_lift_7 : decode cX9_lift 7 = .ok (.iload_n 3, 1) := by decide +kernel
theorem dX9_lift_8 : decode cX9_lift 8 = .ok (.iconst 1, 1) := by decide +kernel
theorem dX9_lift_9 : decode cX9_lift 9 = .ok (.bipush 50, 2) := by decide +kernel
theorem dX9_lift_11 : decode cX9_lift 11 = .ok (.invokestatic 89, 3) := by decide +kernel
theorem dX9_lift_14 : decode cX9_lift 14 = .ok (.ifCond .ne 14, 3) := by decide +kernel
theorem dX9_lift_17 : decode cX9_lift 17 = .ok (.new 93, 3) := by decide +kernel
theorem dX9_lift_20 : decode cX9_lift 20 = .ok (.dup, 1) := by decide +kernel
theorem dX9_lift_21 : decode cX9_lift 21 = .ok (.ldc_w 283, 3) := by decide +kernel
theorem dX9_lift_24 : decode cX9_lift 24 = .ok (.invokespecial 97, 3) := by decide +kernel
theorem dX9_lift_27 : decode cX9_lift 27 = .ok (.athrow, 1) := by decide +kernel
theorem dX9_lift_28 : decode cX9_lift 28 = .ok (.aload_n 0, 1) := by decide +kernel
theorem dX9_lift_29 : decode cX9_lift 29 = .ok (.bipush 15, 2) := by decide +kernel
theorem dX9_lift_31 : decode cX9_lift 31 = .ok (.invokevirtual 206, 3) := by decide +kernel
theorem dX9_lift_34 : decode cX9_lift 34 = .ok (.iload_n 2, 1) := by decide +kernel
theorem dX9_lift_35 : decode cX9_lift 35 = .ok (.ifCond .eq 17, 3) := by decide +kernel
theorem dX9_lift_38 : decode cX9_lift 38 = .ok (.aload 4, 2) := by decide +kernel
theorem dX9_lift_40 : decode cX9_lift 40 = .ok (.dup, 1) := by decide +kernel
theorem dX9_lift_41 : decode cX9_lift 41 = .ok (.getfield 338, 3) := by decide +kernel
theorem dX9_lift_44 : decode cX9_lift 44 = .ok (.iload_n 3, 1) := by decide +kernel
theorem dX9_lift_45 : decode cX9_lift 45 = .ok (.iadd, 1) := by decide +kernel
theorem dX9_lift_46 : decode cX9_lift 46 = .ok (.putfield 338, 3) := by decide +kernel
theorem dX9_lift_49 : decode cX9_lift 49 = .ok (.goto 14, 3) := by decide +kernel
theorem dX9_lift_52 : decode cX9_lift 52 = .ok (.aload 4, 2) := by decide +kernel
theorem dX9_lift_54 : decode cX9_lift 54 = .ok (.dup, 1) := by decide +kernel
theorem dX9_lift_55 : decode cX9_lift 55 = .ok (.getfield 341, 3) := by decide +kernel
theorem dX9_lift_58 : decode cX9_lift 58 = .ok (.iload_n 3, 1) := by decide +kernel
theorem dX9_lift_59 : decode cX9_lift 59 = .ok (.iadd, 1) := by decide +kernel
theorem dX9_lift_60 : decode cX9_lift 60 = .ok (.putfield 341, 3) := by decide +kernel
theorem dX9_lift_63 : decode cX9_lift 63 = .ok (.aload_n 0, 1) := by decide +kernel
theorem dX9_lift_64 : decode cX9_lift 64 = .ok (.getfield 43, 3) := by decide +kernel
theorem dX9_lift_67 : decode cX9_lift 67 = .ok (.dup, 1) := by decide +kernel
theorem dX9_lift_68 : decode cX9_lift 68 = .ok (.getfield 213, 3) := by decide +kernel
theorem dX9_lift_71 : decode cX9_lift 71 = .ok (.bipush 15, 2) := by decide +kernel
theorem dX9_lift_73 : decode cX9_lift 73 = .ok (.iadd, 1) := by decide +kernel
theorem dX9_lift_74 : decode cX9_lift 74 = .ok (.putfield 213, 3) := by decide +kernel
theorem dX9_lift_77 : decode cX9_lift 77 = .ok (.aload_n 0, 1) := by decide +kernel
theorem dX9_lift_78 : decode cX9_lift 78 = .ok (.getfield 43, 3) := by decide +kernel
theorem dX9_lift_81 : decode cX9_lift 81 = .ok (.dup, 1) := by decide +kernel
theorem dX9_lift_82 : decode cX9_lift 82 = .ok (.getfield 344, 3) := by decide +kernel
theorem dX9_lift_85 : decode cX9_lift 85 = .ok (.bipush 15, 2) := by decide +kernel
theorem dX9_lift_87 : decode cX9_lift 87 = .ok (.iadd, 1) := by decide +kernel
theorem dX9_lift_88 : decode cX9_lift 88 = .ok (.putfield 344, 3) := by decide +kernel
theorem dX9_lift_91 : decode cX9_lift 91 = .ok (.aload_n 0, 1) := by decide +kernel
theorem dX9_lift_92 : decode cX9_lift 92 = .ok (.aload 4, 2) := by decide +kernel
theorem dX9_lift_94 : decode cX9_lift 94 = .ok (.iload_n 2, 1) := by decide +kernel
theorem dX9_lift_95 : decode cX9_lift 95 = .ok (.invokevirtual 315, 3) := by decide +kernel
theorem dX9_lift_98 : decode cX9_lift 98 = .ok (.ireturn, 1) := by decide +kernel
theorem dX9_deliver_0 : decode cX9_deliver 0 = .ok (.iload_n 1, 1) := by decide +kernel
theorem dX9_deliver_1 : decode cX9_deliver 1 = .ok (.iconst 1, 1) := by decide +kernel
theorem dX9_deliver_2 : decode cX9_deliver 2 = .ok (.bipush 40, 2) := by decide +kernel
theorem dX9_deliver_4 : decode cX9_deliver 4 = .ok (.invokestatic 89, 3) := by decide +kernel
theorem dX9_deliver_7 : decode cX9_deliver 7 = .ok (.ifCond .ne 14, 3) := by decide +kernel
theorem dX9_deliver_10 : decode cX9_deliver 10 = .ok (.new 93, 3) := by decide +kernel
theorem dX9_deliver_13 : decode cX9_deliver 13 = .ok (.dup, 1) := by decide +kernel
theorem dX9_deliver_14 : decode cX9_deliver 14 = .ok (.ldc_w 347, 3) := by decide +kernel
theorem dX9_deliver_17 : decode cX9_deliver 17 = .ok (.invokespecial 97, 3) := by decide +kernel
theorem dX9_deliver_20 : decode cX9_deliver 20 = .ok (.athrow, 1) := by decide +kernel
theorem dX9_deliver_21 : decode cX9_deliver 21 = .ok (.aload_n 0, 1) := by decide +kernel
theorem dX9_deliver_22 : decode cX9_deliver 22 = .ok (.getfield 36, 3) := by decide +kernel
theorem dX9_deliver_25 : decode cX9_deliver 25 = .ok (.getfield 349, 3) := by decide +kernel
theorem dX9_deliver_28 : decode cX9_deliver 28 = .ok (.iload_n 1, 1) := by decide +kernel
theorem dX9_deliver_29 : decode cX9_deliver 29 = .ok (.iadd, 1) := by decide +kernel
theorem dX9_deliver_30 : decode cX9_deliver 30 = .ok (.bipush 40, 2) := by decide +kernel
theorem dX9_deliver_32 : decode cX9_deliver 32 = .ok (.if_icmp .le 14, 3) := by decide +kernel
theorem dX9_deliver_35 : decode cX9_deliver 35 = .ok (.new 198, 3) := by decide +kernel
theorem dX9_deliver_38 : decode cX9_deliver 38 = .ok (.dup, 1) := by decide +kernel
theorem dX9_deliver_39 : decode cX9_deliver 39 = .ok (.ldc_w 352, 3) := by decide +kernel
theorem dX9_deliver_42 : decode cX9_deliver 42 = .ok (.invokespecial 202, 3) := by decide +kernel
theorem dX9_deliver_45 : decode cX9_deliver 45 = .ok (.athrow, 1) := by decide +kernel
theorem dX9_deliver_46 : decode cX9_deliver 46 = .ok (.aload_n 0, 1) := by decide +kernel
theorem dX9_deliver_47 : decode cX9_deliver 47 = .ok (.getfield 36, 3) := by decide +kernel
theorem dX9_deliver_50 : decode cX9_deliver 50 = .ok (.dup, 1) := by decide +kernel
theorem dX9_deliver_51 : decode cX9_deliver 51 = .ok (.getfield 349, 3) := by decide +kernel
theorem dX9_deliver_54 : decode cX9_deliver 54 = .ok (.iload_n 1, 1) := by decide +kernel
theorem dX9_deliver_55 : decode cX9_deliver 55 = .ok (.iadd, 1) := by decide +kernel
theorem dX9_deliver_56 : decode cX9_deliver 56 = .ok (.putfield 349, 3) := by decide +kernel
theorem dX9_deliver_59 : decode cX9_deliver 59 = .ok (.aload_n 0, 1) := by decide +kernel
theorem dX9_deliver_60 : decode cX9_deliver 60 = .ok (.getfield 36, 3) := by decide +kernel
theorem dX9_deliver_63 : decode cX9_deliver 63 = .ok (.getfield 349, 3) := by decide +kernel
theorem dX9_deliver_66 : decode cX9_deliver 66 = .ok (.ireturn, 1) := by decide +kernel
theorem dX9_muck_0 : decode cX9_muck 0 = .ok (.aload_n 0, 1) := by decide +kernel
theorem dX9_muck_1 : decode cX9_muck 1 = .ok (.getfield 36, 3) := by decide +kernel
theorem dX9_muck_4 : decode cX9_muck 4 = .ok (.getfield 354, 3) := by decide +kernel
theorem dX9_muck_7 : decode cX9_muck 7 = .ok (.ireturn, 1) := by decide +kernel
theorem dX9_lorries_0 : decode cX9_lorries 0 = .ok (.iload_n 1, 1) := by decide +kernel
theorem dX9_lorries_1 : decode cX9_lorries 1 = .ok (.iconst 1, 1) := by decide +kernel
theorem dX9_lorries_2 : decode cX9_lorries 2 = .ok (.bipush 100, 2) := by decide +kernel
theorem dX9_lorries_4 : decode cX9_lorries 4 = .ok (.invokestatic 89, 3) := by decide +kernel
theorem dX9_lorries_7 : decode cX9_lorries 7 = .ok (.ifCond .ne 14, 3) := by decide +kernel
theorem dX9_lorries_10 : decode cX9_lorries 10 = .ok (.new 93, 3) := by decide +kernel
theorem dX9_lorries_13 : decode cX9_lorries 13 = .ok (.dup, 1) := by decide +kernel
theorem dX9_lorries_14 : decode cX9_lorries 14 = .ok (.ldc_w 357, 3) := by decide +kernel
theorem dX9_lorries_17 : decode cX9_lorries 17 = .ok (.invokespecial 97, 3) := by decide +kernel
theorem dX9_lorries_20 : decode cX9_lorries 20 = .ok (.athrow, 1) := by decide +kernel
theorem dX9_lorries_21 : decode cX9_lorries 21 = .ok (.aload_n 0, 1) := by decide +kernel
theorem dX9_lorries_22 : decode cX9_lorries 22 = .ok (.getfield 43, 3) := by decide +kernel
theorem dX9_lorries_25 : decode cX9_lorries 25 = .ok (.invokevirtual 359, 3) := by decide +kernel
theorem dX9_lorries_28 : decode cX9_lorries 28 = .ok (.ifCond .eq 13, 3) := by decide +kernel
theorem dX9_lorries_31 : decode cX9_lorries 31 = .ok (.aload_n 0, 1) := by decide +kernel
theorem dX9_lorries_32 : decode cX9_lorries 32 = .ok (.getfield 36, 3) := by decide +kernel
theorem dX9_lorries_35 : decode cX9_lorries 35 = .ok (.getfield 354, 3) := by decide +kernel
theorem dX9_lorries_38 : decode cX9_lorries 38 = .ok (.ifCond .gt 14, 3) := by decide +kernel
theorem dX9_lorries_41 : decode cX9_lorries 41 = .ok (.new 198, 3) := by decide +kernel
theorem dX9_lorries_44 : decode cX9_lorries 44 = .ok (.dup, 1) := by decide +kernel
theorem dX9_lorries_45 : decode cX9_lorries 45 = .ok (.ldc_w 362, 3) := by decide +kernel
theorem dX9_lorries_48 : decode cX9_lorries 48 = .ok (.invokespecial 202, 3) := by decide +kernel
theorem dX9_lorries_51 : decode cX9_lorries 51 = .ok (.athrow, 1) := by decide +kernel
theorem dX9_lorries_52 : decode cX9_lorries 52 = .ok (.iload_n 1, 1) := by decide +kernel
theorem dX9_lorries_53 : decode cX9_lorries 53 = .ok (.aload_n 0, 1) := by decide +kernel
theorem dX9_lorries_54 : decode cX9_lorries 54 = .ok (.getfield 36, 3) := by decide +kernel
theorem dX9_lorries_57 : decode cX9_lorries 57 = .ok (.getfield 354, 3) := by decide +kernel
theorem dX9_lorries_60 : decode cX9_lorries 60 = .ok (.bipush 20, 2) := by decide +kernel
theorem dX9_lorries_62 : decode cX9_lorries 62 = .ok (.iadd, 1) := by decide +kernel
theorem dX9_lorries_63 : decode cX9_lorries 63 = .ok (.iconst 1, 1) := by decide +kernel
theorem dX9_lorries_64 : decode cX9_lorries 64 = .ok (.isub, 1) := by decide +kernel
theorem dX9_lorries_65 : decode cX9_lorries 65 = .ok (.bipush 20, 2) := by decide +kernel
theorem dX9_lorries_67 : decode cX9_lorries 67 = .ok (.idiv, 1) := by decide +kernel
theorem dX9_lorries_68 : decode cX9_lorries 68 = .ok (.invokestatic 364, 3) := by decide +kernel
theorem dX9_lorries_71 : decode cX9_lorries 71 = .ok (.istore_n 2, 1) := by decide +kernel
theorem dX9_lorries_72 : decode cX9_lorries 72 = .ok (.iload_n 2, 1) := by decide +kernel
theorem dX9_lorries_73 : decode cX9_lorries 73 = .ok (.iconst 5, 1) := by decide +kernel
theorem dX9_lorries_74 : decode cX9_lorries 74 = .ok (.imul, 1) := by decide +kernel
theorem dX9_lorries_75 : decode cX9_lorries 75 = .ok (.istore_n 3, 1) := by decide +kernel
theorem dX9_lorries_76 : decode cX9_lorries 76 = .ok (.aload_n 0, 1) := by decide +kernel
theorem dX9_lorries_77 : decode cX9_lorries 77 = .ok (.iload_n 3, 1) := by decide +kernel
theorem dX9_lorries_78 : decode cX9_lorries 78 = .ok (.invokevirtual 206, 3) := by decide +kernel
theorem dX9_lorries_81 : decode cX9_lorries 81 = .ok (.iload_n 2, 1) := by decide +kernel
theorem dX9_lorries_82 : decode cX9_lorries 82 = .ok (.bipush 20, 2) := by decide +kernel
theorem dX9_lorries_84 : decode cX9_lorries 84 = .ok (.imul, 1) := by decide +kernel
theorem dX9_lorries_85 : decode cX9_lorries 85 = .ok (.aload_n 0, 1) := by decide +kernel
theorem dX9_lorries_86 : decode cX9_lorries 86 = .ok (.getfield 36, 3) := by decide +kernel
theorem dX9_lorries_89 : decode cX9_lorries 89 = .ok (.getfield 354, 3) := by decide +kernel
theorem dX9_lorries_92 : decode cX9_lorries 92 = .ok (.invokestatic 364, 3) := by decide +kernel
theorem dX9_lorries_95 : decode cX9_lorries 95 = .ok (.istore 4, 2) := by decide +kernel
theorem dX9_lorries_97 : decode cX9_lorries 97 = .ok (.aload_n 0, 1) := by decide +kernel
theorem dX9_lorries_98 : decode cX9_lorries 98 = .ok (.getfield 36, 3) := by decide +kernel
theorem dX9_lorries_101 : decode cX9_lorries 101 = .ok (.dup, 1) := by decide +kernel
theorem dX9_lorries_102 : decode cX9_lorries 102 = .ok (.getfield 354, 3) := by decide +kernel
theorem dX9_lorries_105 : decode cX9_lorries 105 = .ok (.iload 4, 2) := by decide +kernel
theorem dX9_lorries_107 : decode cX9_lorries 107 = .ok (.isub, 1) := by decide +kernel
theorem dX9_lorries_108 : decode cX9_lorries 108 = .ok (.putfield 354, 3) := by decide +kernel
theorem dX9_lorries_111 : decode cX9_lorries 111 = .ok (.aload_n 0, 1) := by decide +kernel
theorem dX9_lorries_112 : decode cX9_lorries 112 = .ok (.getfield 36, 3) := by decide +kernel
theorem dX9_lorries_115 : decode cX9_lorries 115 = .ok (.dup, 1) := by decide +kernel
theorem dX9_lorries_116 : decode cX9_lorries 116 = .ok (.getfield 367, 3) := by decide +kernel
theorem dX9_lorries_119 : decode cX9_lorries 119 = .ok (.iload 4, 2) := by decide +kernel
theorem dX9_lorries_121 : decode cX9_lorries 121 = .ok (.iadd, 1) := by decide +kernel
theorem dX9_lorries_122 : decode cX9_lorries 122 = .ok (.putfield 367, 3) := by decide +kernel
theorem dX9_lorries_125 : decode cX9_lorries 125 = .ok (.aload_n 0, 1) := by decide +kernel
theorem dX9_lorries_126 : decode cX9_lorries 126 = .ok (.getfield 43, 3) := by decide +kernel
theorem dX9_lorries_129 : decode cX9_lorries 129 = .ok (.dup, 1) := by decide +kernel
theorem dX9_lorries_130 : decode cX9_lorries 130 = .ok (.getfield 213, 3) := by decide +kernel
theorem dX9_lorries_133 : decode cX9_lorries 133 = .ok (.iload_n 3, 1) := by decide +kernel
theorem dX9_lorries_134 : decode cX9_lorries 134 = .ok (.iadd, 1) := by decide +kernel
theorem dX9_lorries_135 : decode cX9_lorries 135 = .ok (.putfield 213, 3) := by decide +kernel
theorem dX9_lorries_138 : decode cX9_lorries 138 = .ok (.aload_n 0, 1) := by decide +kernel
theorem dX9_lorries_139 : decode cX9_lorries 139 = .ok (.getfield 43, 3) := by decide +kernel
theorem dX9_lorries_142 : decode cX9_lorries 142 = .ok (.dup, 1) := by decide +kernel
theorem dX9_lorries_143 : decode cX9_lorries 143 = .ok (.getfield 370, 3) := by decide +kernel
theorem dX9_lorries_146 : decode cX9_lorries 146 = .ok (.iload_n 3, 1) := by decide +kernel
theorem dX9_lorries_147 : decode cX9_lorries 147 = .ok (.iadd, 1) := by decide +kernel
theorem dX9_lorries_148 : decode cX9_lorries 148 = .ok (.putfield 370, 3) := by decide +kernel
theorem dX9_lorries_151 : decode cX9_lorries 151 = .ok (.iload 4, 2) := by decide +kernel
theorem dX9_lorries_153 : decode cX9_lorries 153 = .ok (.ireturn, 1) := by decide +kernel
theorem dX9_now_0 : decode cX9_now 0 = .ok (.aload_n 0, 1) := by decide +kernel
theorem dX9_now_1 : decode cX9_now 1 = .ok (.getfield 43, 3) := by decide +kernel
theorem dX9_now_4 : decode cX9_now 4 = .ok (.getfield 213, 3) := by decide +kernel
theorem dX9_now_7 : decode cX9_now 7 = .ok (.ireturn, 1) := by decide +kernel
theorem dX9_pause_0 : decode cX9_pause 0 = .ok (.iload_n 3, 1) := by decide +kernel
theorem dX9_pause_1 : decode cX9_pause 1 = .ok (.bipush 45, 2) := by decide +kernel
theorem dX9_pause_3 : decode cX9_pause 3 = .ok (.if_icmp .eq 13, 3) := by decide +kernel
theorem dX9_pause_6 : decode cX9_pause 6 = .ok (.getstatic 373, 3) := by decide +kernel
theorem dX9_pause_9 : decode cX9_pause 9 = .ok (.iload_n 3, 1) := by decide +kernel
theorem dX9_pause_10 : decode cX9_pause 10 = .ok (.invokestatic 118, 3) := by decide +kernel
theorem dX9_pause_13 : decode cX9_pause 13 = .ok (.ifCond .lt 7, 3) := by decide +kernel
theorem dX9_pause_16 : decode cX9_pause 16 = .ok (.iconst 1, 1) := by decide +kernel
theorem dX9_pause_17 : decode cX9_pause 17 = .ok (.goto 4, 3) := by decide +kernel
theorem dX9_pause_20 : decode cX9_pause 20 = .ok (.iconst 0, 1) := by decide +kernel
theorem dX9_pause_21 : decode cX9_pause 21 = .ok (.istore 4, 2) := by decide +kernel
theorem dX9_pause_23 : decode cX9_pause 23 = .ok (.iload_n 1, 1) := by decide +kernel
theorem dX9_pause_24 : decode cX9_pause 24 = .ok (.iconst 1, 1) := by decide +kernel
theorem dX9_pause_25 : decode cX9_pause 25 = .ok (.sipush 1440, 3) := by decide +kernel
theorem dX9_pause_28 : decode cX9_pause 28 = .ok (.invokestatic 89, 3) := by decide +kernel
theorem dX9_pause_31 : decode cX9_pause 31 = .ok (.ifCond .eq 23, 3) := by decide +kernel
theorem dX9_pause_34 : decode cX9_pause 34 = .ok (.getstatic 373, 3) := by decide +kernel
theorem dX9_pause_37 : decode cX9_pause 37 = .ok (.iload_n 2, 1) := by decide +kernel
theorem dX9_pause_38 : decode cX9_pause 38 = .ok (.invokestatic 118, 3) := by decide +kernel
theorem dX9_pause_41 : decode cX9_pause 41 = .ok (.ifCond .lt 13, 3) := by decide +kernel
theorem dX9_pause_44 : decode cX9_pause 44 = .ok (.iload 4, 2) := by decide +kernel
theorem dX9_pause_46 : decode cX9_pause 46 = .ok (.ifCond .eq 8, 3) := by decide +kernel
theorem dX9_pause_49 : decode cX9_pause 49 = .ok (.iload_n 2, 1) := by decide +kernel
theorem dX9_pause_50 : decode cX9_pause 50 = .ok (.iload_n 3, 1) := by decide +kernel
theorem dX9_pause_51 : decode cX9_pause 51 = .ok (.if_icmp .ne 14, 3) := by decide +kernel
theorem dX9_pause_54 : decode cX9_pause 54 = .ok (.new 93, 3) := by decide +kernel
theorem dX9_pause_57 : decode cX9_pause 57 = .ok (.dup, 1) := by decide +kernel
theorem dX9_pause_58 : decode cX9_pause 58 = .ok (.ldc_w 376, 3) := by decide +kernel
theorem dX9_pause_61 : decode cX9_pause 61 = .ok (.invokespecial 97, 3) := by decide +kernel
theorem dX9_pause_64 : decode cX9_pause 64 = .ok (.athrow, 1) := by decide +kernel
theorem dX9_pause_65 : decode cX9_pause 65 = .ok (.aload_n 0, 1) := by decide +kernel
theorem dX9_pause_66 : decode cX9_pause 66 = .ok (.iload_n 1, 1) := by decide +kernel
theorem dX9_pause_67 : decode cX9_pause 67 = .ok (.invokevirtual 206, 3) := by decide +kernel
theorem dX9_pause_70 : decode cX9_pause 70 = .ok (.aload_n 0, 1) := by decide +kernel
theorem dX9_pause_71 : decode cX9_pause 71 = .ok (.getfield 50, 3) := by decide +kernel
theorem dX9_pause_74 : decode cX9_pause 74 = .ok (.iload_n 1, 1) := by decide +kernel
theorem dX9_pause_75 : decode cX9_pause 75 = .ok (.iload_n 2, 1) := by decide +kernel
theorem dX9_pause_76 : decode cX9_pause 76 = .ok (.iload_n 3, 1) := by decide +kernel
theorem dX9_pause_77 : decode cX9_pause 77 = .ok (.invokevirtual 378, 3) := by decide +kernel
theorem dX9_pause_80 : decode cX9_pause 80 = .ok (.aload_n 0, 1) := by decide +kernel
theorem dX9_pause_81 : decode cX9_pause 81 = .ok (.getfield 43, 3) := by decide +kernel
theorem dX9_pause_84 : decode cX9_pause 84 = .ok (.dup, 1) := by decide +kernel
theorem dX9_pause_85 : decode cX9_pause 85 = .ok (.getfield 213, 3) := by decide +kernel
theorem dX9_pause_88 : decode cX9_pause 88 = .ok (.iload_n 1, 1) := by decide +kernel
theorem dX9_pause_89 : decode cX9_pause 89 = .ok (.iadd, 1) := by decide +kernel
theorem dX9_pause_90 : decode cX9_pause 90 = .ok (.putfield 213, 3) := by decide +kernel
theorem dX9_pause_93 : decode cX9_pause 93 = .ok (.aload_n 0, 1) := by decide +kernel
theorem dX9_pause_94 : decode cX9_pause 94 = .ok (.getfield 43, 3) := by decide +kernel
theorem dX9_pause_97 : decode cX9_pause 97 = .ok (.getfield 213, 3) := by decide +kernel
theorem dX9_pause_100 : decode cX9_pause 100 = .ok (.ireturn, 1) := by decide +kernel
theorem dX9_first_0 : decode cX9_first 0 = .ok (.aload_n 0, 1) := by decide +kernel
theorem dX9_first_1 : decode cX9_first 1 = .ok (.getfield 50, 3) := by decide +kernel
theorem dX9_first_4 : decode cX9_first 4 = .ok (.getfield 382, 3) := by decide +kernel
theorem dX9_first_7 : decode cX9_first 7 = .ok (.iload_n 1, 1) := by decide +kernel
theorem dX9_first_8 : decode cX9_first 8 = .ok (.invokestatic 118, 3) := by decide +kernel
theorem dX9_first_11 : decode cX9_first 11 = .ok (.istore_n 2, 1) := by decide +kernel
theorem dX9_first_12 : decode cX9_first 12 = .ok (.iload_n 2, 1) := by decide +kernel
theorem dX9_first_13 : decode cX9_first 13 = .ok (.ifCond .ge 14, 3) := by decide +kernel
theorem dX9_first_16 : decode cX9_first 16 = .ok (.new 93, 3) := by decide +kernel
theorem dX9_first_19 : decode cX9_first 19 = .ok (.dup, 1) := by decide +kernel
theorem dX9_first_20 : decode cX9_first 20 = .ok (.ldc_w 385, 3) := by decide +kernel
theorem dX9_first_23 : decode cX9_first 23 = .ok (.invokespecial 97, 3) := by decide +kernel
theorem dX9_first_26 : decode cX9_first 26 = .ok (.athrow, 1) := by decide +kernel
theorem dX9_first_27 : decode cX9_first 27 = .ok (.aload_n 0, 1) := by decide +kernel
theorem dX9_first_28 : decode cX9_first 28 = .ok (.getfield 50, 3) := by decide +kernel
theorem dX9_first_31 : decode cX9_first 31 = .ok (.iload_n 2, 1) := by decide +kernel
theorem dX9_first_32 : decode cX9_first 32 = .ok (.invokevirtual 387, 3) := by decide +kernel
theorem dX9_first_35 : decode cX9_first 35 = .ok (.iload_n 2, 1) := by decide +kernel
theorem dX9_first_36 : decode cX9_first 36 = .ok (.ireturn, 1) := by decide +kernel
theorem dX9_waited_0 : decode cX9_waited 0 = .ok (.getstatic 390, 3) := by decide +kernel
theorem dX9_waited_3 : decode cX9_waited 3 = .ok (.iload_n 1, 1) := by decide +kernel
theorem dX9_waited_4 : decode cX9_waited 4 = .ok (.invokestatic 118, 3) := by decide +kernel
theorem dX9_waited_7 : decode cX9_waited 7 = .ok (.istore_n 2, 1) := by decide +kernel
theorem dX9_waited_8 : decode cX9_waited 8 = .ok (.iload_n 2, 1) := by decide +kernel
theorem dX9_waited_9 : decode cX9_waited 9 = .ok (.ifCond .ge 14, 3) := by decide +kernel
theorem dX9_waited_12 : decode cX9_waited 12 = .ok (.new 93, 3) := by decide +kernel
theorem dX9_waited_15 : decode cX9_waited 15 = .ok (.dup, 1) := by decide +kernel
theorem dX9_waited_16 : decode cX9_waited 16 = .ok (.ldc_w 393, 3) := by decide +kernel
theorem dX9_waited_19 : decode cX9_waited 19 = .ok (.invokespecial 97, 3) := by decide +kernel
theorem dX9_waited_22 : decode cX9_waited 22 = .ok (.athrow, 1) := by decide +kernel
theorem dX9_waited_23 : decode cX9_waited 23 = .ok (.aload_n 0, 1) := by decide +kernel
theorem dX9_waited_24 : decode cX9_waited 24 = .ok (.getfield 50, 3) := by decide +kernel
theorem dX9_waited_27 : decode cX9_waited 27 = .ok (.getfield 395, 3) := by decide +kernel
theorem dX9_waited_30 : decode cX9_waited 30 = .ok (.iload_n 2, 1) := by decide +kernel
theorem dX9_waited_31 : decode cX9_waited 31 = .ok (.invokestatic 151, 3) := by decide +kernel
theorem dX9_waited_34 : decode cX9_waited 34 = .ok (.ireturn, 1) := by decide +kernel
theorem dX9_events_0 : decode cX9_events 0 = .ok (.iconst 0, 1) := by decide +kernel
theorem dX9_events_1 : decode cX9_events 1 = .ok (.istore_n 1, 1) := by decide +kernel
theorem dX9_events_2 : decode cX9_events 2 = .ok (.iconst 0, 1) := by decide +kernel
theorem dX9_events_3 : decode cX9_events 3 = .ok (.istore_n 2, 1) := by decide +kernel
theorem dX9_events_4 : decode cX9_events 4 = .ok (.iload_n 2, 1) := by decide +kernel
theorem dX9_events_5 : decode cX9_events 5 = .ok (.aload_n 0, 1) := by decide +kernel
theorem dX9_events_6 : decode cX9_events 6 = .ok (.getfield 57, 3) := by decide +kernel
theorem dX9_events_9 : decode cX9_events 9 = .ok (.invokevirtual 131, 3) := by decide +kernel
theorem dX9_events_12 : decode cX9_events 12 = .ok (.if_icmp .ge 29, 3) := by decide +kernel
theorem dX9_events_15 : decode cX9_events 15 = .ok (.aload_n 0, 1) := by decide +kernel
theorem dX9_events_16 : decode cX9_events 16 = .ok (.getfield 57, 3) := by decide +kernel
theorem dX9_events_19 : decode cX9_events 19 = .ok (.iload_n 2, 1) := by decide +kernel
theorem dX9_events_20 : decode cX9_events 20 = .ok (.invokevirtual 275, 3) := by decide +kernel
theorem dX9_events_23 : decode cX9_events 23 = .ok (.checkcast 246, 3) := by decide +kernel
theorem dX9_events_26 : decode cX9_events 26 = .ok (.invokevirtual 398, 3) := by decide +kernel
theorem dX9_events_29 : decode cX9_events 29 = .ok (.ifCond .eq 6, 3) := by decide +kernel
theorem dX9_events_32 : decode cX9_events 32 = .ok (.iinc 1 1, 3) := by decide +kernel
theorem dX9_events_35 : decode cX9_events 35 = .ok (.iinc 2 1, 3) := by decide +kernel
theorem dX9_events_38 : decode cX9_events 38 = .ok (.goto (-34), 3) := by decide +kernel
theorem dX9_events_41 : decode cX9_events 41 = .ok (.iload_n 1, 1) := by decide +kernel
theorem dX9_events_42 : decode cX9_events 42 = .ok (.ireturn, 1) := by decide +kernel
theorem dX9_notice_0 : decode cX9_notice 0 = .ok (.aload_n 0, 1) := by decide +kernel
theorem dX9_notice_1 : decode cX9_notice 1 = .ok (.iload_n 1, 1) := by decide +kernel
theorem dX9_notice_2 : decode cX9_notice 2 = .ok (.invokevirtual 241, 3) := by decide +kernel
theorem dX9_notice_5 : decode cX9_notice 5 = .ok (.astore_n 2, 1) := by decide +kernel
theorem dX9_notice_6 : decode cX9_notice 6 = .ok (.aload_n 2, 1) := by decide +kernel
theorem dX9_notice_7 : decode cX9_notice 7 = .ok (.invokevirtual 398, 3) := by decide +kernel
theorem dX9_notice_10 : decode cX9_notice 10 = .ok (.ifCond .eq 10, 3) := by decide +kernel
theorem dX9_notice_13 : decode cX9_notice 13 = .ok (.aload_n 2, 1) := by decide +kernel
theorem dX9_notice_14 : decode cX9_notice 14 = .ok (.getfield 401, 3) := by decide +kernel
theorem dX9_notice_17 : decode cX9_notice 17 = .ok (.ifCond .eq 14, 3) := by decide +kernel
theorem dX9_notice_20 : decode cX9_notice 20 = .ok (.new 198, 3) := by decide +kernel
theorem dX9_notice_23 : decode cX9_notice 23 = .ok (.dup, 1) := by decide +kernel
theorem dX9_notice_24 : decode cX9_notice 24 = .ok (.ldc_w 404, 3) := by decide +kernel
theorem dX9_notice_27 : decode cX9_notice 27 = .ok (.invokespecial 202, 3) := by decide +kernel
theorem dX9_notice_30 : decode cX9_notice 30 = .ok (.athrow, 1) := by decide +kernel
theorem dX9_notice_31 : decode cX9_notice 31 = .ok (.aload_n 2, 1) := by decide +kernel
theorem dX9_notice_32 : decode cX9_notice 32 = .ok (.iconst 1, 1) := by decide +kernel
theorem dX9_notice_33 : decode cX9_notice 33 = .ok (.putfield 401, 3) := by decide +kernel
theorem dX9_notice_36 : decode cX9_notice 36 = .ok (.aload_n 2, 1) := by decide +kernel
theorem dX9_notice_37 : decode cX9_notice 37 = .ok (.aload_n 0, 1) := by decide +kernel
theorem dX9_notice_38 : decode cX9_notice 38 = .ok (.getfield 43, 3) := by decide +kernel
theorem dX9_notice_41 : decode cX9_notice 41 = .ok (.getfield 213, 3) := by decide +kernel
theorem dX9_notice_44 : decode cX9_notice 44 = .ok (.aload_n 2, 1) := by decide +kernel
theorem dX9_notice_45 : decode cX9_notice 45 = .ok (.getfield 406, 3) := by decide +kernel
theorem dX9_notice_48 : decode cX9_notice 48 = .ok (.isub, 1) := by decide +kernel
theorem dX9_notice_49 : decode cX9_notice 49 = .ok (.sipush 4320, 3) := by decide +kernel
theorem dX9_notice_52 : decode cX9_notice 52 = .ok (.if_icmp .gt 7, 3) := by decide +kernel
theorem dX9_notice_55 : decode cX9_notice 55 = .ok (.iconst 1, 1) := by decide +kernel
theorem dX9_notice_56 : decode cX9_notice 56 = .ok (.goto 4, 3) := by decide +kernel
theorem dX9_notice_59 : decode cX9_notice 59 = .ok (.iconst 0, 1) := by decide +kernel
theorem dX9_notice_60 : decode cX9_notice 60 = .ok (.putfield 409, 3) := by decide +kernel
theorem dX9_notice_63 : decode cX9_notice 63 = .ok (.aload_n 2, 1) := by decide +kernel
theorem dX9_notice_64 : decode cX9_notice 64 = .ok (.getfield 409, 3) := by decide +kernel
theorem dX9_notice_67 : decode cX9_notice 67 = .ok (.ireturn, 1) := by decide +kernel
theorem dX9_claimed_0 : decode cX9_claimed 0 = .ok (.iconst 0, 1) := by decide +kernel
theorem dX9_claimed_1 : decode cX9_claimed 1 = .ok (.istore_n 1, 1) := by decide +kernel
theorem dX9_claimed_2 : decode cX9_claimed 2 = .ok (.iconst 0, 1) := by decide +kernel
theorem dX9_claimed_3 : decode cX9_claimed 3 = .ok (.istore_n 2, 1) := by decide +kernel
theorem dX9_claimed_4 : decode cX9_claimed 4 = .ok (.iload_n 2, 1) := by decide +kernel
theorem dX9_claimed_5 : decode cX9_claimed 5 = .ok (.aload_n 0, 1) := by decide +kernel
theorem dX9_claimed_6 : decode cX9_claimed 6 = .ok (.getfield 57, 3) := by decide +kernel
theorem dX9_claimed_9 : decode cX9_claimed 9 = .ok (.invokevirtual 131, 3) := by decide +kernel
theorem dX9_claimed_12 : decode cX9_claimed 12 = .ok (.if_icmp .ge 35, 3) := by decide +kernel
theorem dX9_claimed_15 : decode cX9_claimed 15 = .ok (.aload_n 0, 1) := by decide +kernel
theorem dX9_claimed_16 : decode cX9_claimed 16 = .ok (.getfield 57, 3) := by decide +kernel
theorem dX9_claimed_19 : decode cX9_claimed 19 = .ok (.iload_n 2, 1) := by decide +kernel
theorem dX9_claimed_20 : decode cX9_claimed 20 = .ok (.invokevirtual 275, 3) := by decide +kernel
theorem dX9_claimed_23 : decode cX9_claimed 23 = .ok (.checkcast 246, 3) := by decide +kernel
theorem dX9_claimed_26 : decode cX9_claimed 26 = .ok (.astore_n 3, 1) := by decide +kernel
theorem dX9_claimed_27 : decode cX9_claimed 27 = .ok (.aload_n 3, 1) := by decide +kernel
theorem dX9_claimed_28 : decode cX9_claimed 28 = .ok (.getfield 409, 3) := by decide +kernel
theorem dX9_claimed_31 : decode cX9_claimed 31 = .ok (.ifCond .eq 10, 3) := by decide +kernel
theorem dX9_claimed_34 : decode cX9_claimed 34 = .ok (.iload_n 1, 1) := by decide +kernel
theorem dX9_claimed_35 : decode cX9_claimed 35 = .ok (.aload_n 3, 1) := by decide +kernel
theorem dX9_claimed_36 : decode cX9_claimed 36 = .ok (.getfield 412, 3) := by decide +kernel
theorem dX9_claimed_39 : decode cX9_claimed 39 = .ok (.iadd, 1) := by decide +kernel
theorem dX9_claimed_40 : decode cX9_claimed 40 = .ok (.istore_n 1, 1) := by decide +kernel
theorem dX9_claimed_41 : decode cX9_claimed 41 = .ok (.iinc 2 1, 3) := by decide +kernel
theorem dX9_claimed_44 : decode cX9_claimed 44 = .ok (.goto (-40), 3) := by decide +kernel
theorem dX9_claimed_47 : decode cX9_claimed 47 = .ok (.iload_n 1, 1) := by decide +kernel
theorem dX9_claimed_48 : decode cX9_claimed 48 = .ok (.ireturn, 1) := by decide +kernel
theorem dX9_count_0 : decode cX9_count 0 = .ok (.getstatic 114, 3) := by decide +kernel
theorem dX9_count_3 : decode cX9_count 3 = .ok (.iload_n 1, 1) := by decide +kernel
theorem dX9_count_4 : decode cX9_count 4 = .ok (.invokestatic 118, 3) := by decide +kernel
theorem dX9_count_7 : decode cX9_count 7 = .ok (.istore_n 2, 1) := by decide +kernel
theorem dX9_count_8 : decode cX9_count 8 = .ok (.iload_n 2, 1) := by decide +kernel
theorem dX9_count_9 : decode cX9_count 9 = .ok (.ifCond .ge 14, 3) := by decide +kernel
theorem dX9_count_12 : decode cX9_count 12 = .ok (.new 93, 3) := by decide +kernel
theorem dX9_count_15 : decode cX9_count 15 = .ok (.dup, 1) := by decide +kernel
theorem dX9_count_16 : decode cX9_count 16 = .ok (.ldc_w 415, 3) := by decide +kernel
theorem dX9_count_19 : decode cX9_count 19 = .ok (.invokespecial 97, 3) := by decide +kernel
theorem dX9_count_22 : decode cX9_count 22 = .ok (.athrow, 1) := by decide +kernel
theorem dX9_count_23 : decode cX9_count 23 = .ok (.iconst 0, 1) := by decide +kernel
theorem dX9_count_24 : decode cX9_count 24 = .ok (.istore_n 3, 1) := by decide +kernel
theorem dX9_count_25 : decode cX9_count 25 = .ok (.iconst 0, 1) := by decide +kernel
theorem dX9_count_26 : decode cX9_count 26 = .ok (.istore 4, 2) := by decide +kernel
theorem dX9_count_28 : decode cX9_count 28 = .ok (.iload 4, 2) := by decide +kernel
theorem dX9_count_30 : decode cX9_count 30 = .ok (.aload_n 0, 1) := by decide +kernel
theorem dX9_count_31 : decode cX9_count 31 = .ok (.getfield 57, 3) := by decide +kernel
theorem dX9_count_34 : decode cX9_count 34 = .ok (.invokevirtual 131, 3) := by decide +kernel
theorem dX9_count_37 : decode cX9_count 37 = .ok (.if_icmp .ge 31, 3) := by decide +kernel
theorem dX9_count_40 : decode cX9_count 40 = .ok (.aload_n 0, 1) := by decide +kernel
theorem dX9_count_41 : decode cX9_count 41 = .ok (.getfield 57, 3) := by decide +kernel
theorem dX9_count_44 : decode cX9_count 44 = .ok (.iload 4, 2) := by decide +kernel
theorem dX9_count_46 : decode cX9_count 46 = .ok (.invokevirtual 275, 3) := by decide +kernel
theorem dX9_count_49 : decode cX9_count 49 = .ok (.checkcast 246, 3) := by decide +kernel
theorem dX9_count_52 : decode cX9_count 52 = .ok (.getfield 417, 3) := by decide +kernel
theorem dX9_count_55 : decode cX9_count 55 = .ok (.iload_n 2, 1) := by decide +kernel
theorem dX9_count_56 : decode cX9_count 56 = .ok (.if_icmp .ne 6, 3) := by decide +kernel
theorem dX9_count_59 : decode cX9_count 59 = .ok (.iinc 3 1, 3) := by decide +kernel
theorem dX9_count_62 : decode cX9_count 62 = .ok (.iinc 4 1, 3) := by decide +kernel
theorem dX9_count_65 : decode cX9_count 65 = .ok (.goto (-37), 3) := by decide +kernel
theorem dX9_count_68 : decode cX9_count 68 = .ok (.iload_n 3, 1) := by decide +kernel
theorem dX9_count_69 : decode cX9_count 69 = .ok (.ireturn, 1) := by decide +kernel
theorem dX9_groutShare_0 : decode cX9_groutShare 0 = .ok (.aload_n 0, 1) := by decide +kernel
theorem dX9_groutShare_1 : decode cX9_groutShare 1 = .ok (.getfield 57, 3) := by decide +kernel
theorem dX9_groutShare_4 : decode cX9_groutShare 4 = .ok (.invokevirtual 420, 3) := by decide +kernel
theorem dX9_groutShare_7 : decode cX9_groutShare 7 = .ok (.ifCond .eq 14, 3) := by decide +kernel
theorem dX9_groutShare_10 : decode cX9_groutShare 10 = .ok (.new 423, 3) := by decide +kernel
theorem dX9_groutShare_13 : decode cX9_groutShare 13 = .ok (.dup, 1) := by decide +kernel
theorem dX9_groutShare_14 : decode cX9_groutShare 14 = .ok (.ldc_w 425, 3) := by decide +kernel
theorem dX9_groutShare_17 : decode cX9_groutShare 17 = .ok (.invokespecial 427, 3) := by decide +kernel
theorem dX9_groutShare_20 : decode cX9_groutShare 20 = .ok (.athrow, 1) := by decide +kernel
theorem dX9_groutShare_21 : decode cX9_groutShare 21 = .ok (.iconst 0, 1) := by decide +kernel
theorem dX9_groutShare_22 : decode cX9_groutShare 22 = .ok (.istore_n 1, 1) := by decide +kernel
theorem dX9_groutShare_23 : decode cX9_groutShare 23 = .ok (.iconst 0, 1) := by decide +kernel
theorem dX9_groutShare_24 : decode cX9_groutShare 24 = .ok (.istore_n 2, 1) := by decide +kernel
theorem dX9_groutShare_25 : decode cX9_groutShare 25 = .ok (.iconst 0, 1) := by decide +kernel
theorem dX9_groutShare_26 : decode cX9_groutShare 26 = .ok (.istore_n 3, 1) := by decide +kernel
theorem dX9_groutShare_27 : decode cX9_groutShare 27 = .ok (.iload_n 3, 1) := by decide +kernel
theorem dX9_groutShare_28 : decode cX9_groutShare 28 = .ok (.aload_n 0, 1) := by decide +kernel
theorem dX9_groutShare_29 : decode cX9_groutShare 29 = .ok (.getfield 57, 3) := by decide +kernel
theorem dX9_groutShare_32 : decode cX9_groutShare 32 = .ok (.invokevirtual 131, 3) := by decide +kernel
theorem dX9_groutShare_35 : decode cX9_groutShare 35 = .ok (.if_icmp .ge 43, 3) := by decide +kernel
theorem dX9_groutShare_38 : decode cX9_groutShare 38 = .ok (.iload_n 1, 1) := by decide +kernel
theorem dX9_groutShare_39 : decode cX9_groutShare 39 = .ok (.aload_n 0, 1) := by decide +kernel
theorem dX9_groutShare_40 : decode cX9_groutShare 40 = .ok (.getfield 57, 3) := by decide +kernel
theorem dX9_groutShare_43 : decode cX9_groutShare 43 = .ok (.iload_n 3, 1) := by decide +kernel
theorem dX9_groutShare_44 : decode cX9_groutShare 44 = .ok (.invokevirtual 275, 3) := by decide +kernel
theorem dX9_groutShare_47 : decode cX9_groutShare 47 = .ok (.checkcast 246, 3) := by decide +kernel
theorem dX9_groutShare_50 : decode cX9_groutShare 50 = .ok (.getfield 293, 3) := by decide +kernel
theorem dX9_groutShare_53 : decode cX9_groutShare 53 = .ok (.iadd, 1) := by decide +kernel
theorem dX9_groutShare_54 : decode cX9_groutShare 54 = .ok (.istore_n 1, 1) := by decide +kernel
theorem dX9_groutShare_55 : decode cX9_groutShare 55 = .ok (.iload_n 2, 1) := by decide +kernel
theorem dX9_groutShare_56 : decode cX9_groutShare 56 = .ok (.aload_n 0, 1) := by decide +kernel
theorem dX9_groutShare_57 : decode cX9_groutShare 57 = .ok (.getfield 57, 3) := by decide +kernel
theorem dX9_groutShare_60 : decode cX9_groutShare 60 = .ok (.iload_n 3, 1) := by decide +kernel
theorem dX9_groutShare_61 : decode cX9_groutShare 61 = .ok (.invokevirtual 275, 3) := by decide +kernel
theorem dX9_groutShare_64 : decode cX9_groutShare 64 = .ok (.checkcast 246, 3) := by decide +kernel
theorem dX9_groutShare_67 : decode cX9_groutShare 67 = .ok (.invokevirtual 428, 3) := by decide +kernel
theorem dX9_groutShare_70 : decode cX9_groutShare 70 = .ok (.iadd, 1) := by decide +kernel
theorem dX9_groutShare_71 : decode cX9_groutShare 71 = .ok (.istore_n 2, 1) := by decide +kernel
theorem dX9_groutShare_72 : decode cX9_groutShare 72 = .ok (.iinc 3 1, 3) := by decide +kernel
theorem dX9_groutShare_75 : decode cX9_groutShare 75 = .ok (.goto (-48), 3) := by decide +kernel
theorem dX9_groutShare_78 : decode cX9_groutShare 78 = .ok (.iload_n 1, 1) := by decide +kernel
theorem dX9_groutShare_79 : decode cX9_groutShare 79 = .ok (.i2f, 1) := by decide +kernel
theorem dX9_groutShare_80 : decode cX9_groutShare 80 = .ok (.iload_n 2, 1) := by decide +kernel
theorem dX9_groutShare_81 : decode cX9_groutShare 81 = .ok (.i2f, 1) := by decide +kernel
theorem dX9_groutShare_82 : decode cX9_groutShare 82 = .ok (.fdiv, 1) := by decide +kernel
theorem dX9_groutShare_83 : decode cX9_groutShare 83 = .ok (.freturn, 1) := by decide +kernel
theorem dX9_meanMinutes_0 : decode cX9_meanMinutes 0 = .ok (.aload_n 0, 1) := by decide +kernel
theorem dX9_meanMinutes_1 : decode cX9_meanMinutes 1 = .ok (.getfield 57, 3) := by decide +kernel
theorem dX9_meanMinutes_4 : decode cX9_meanMinutes 4 = .ok (.invokevirtual 420, 3) := by decide +kernel
theorem dX9_meanMinutes_7 : decode cX9_meanMinutes 7 = .ok (.ifCond .eq 14, 3) := by decide +kernel
theorem dX9_meanMinutes_10 : decode cX9_meanMinutes 10 = .ok (.new 423, 3) := by decide +kernel
theorem dX9_meanMinutes_13 : decode cX9_meanMinutes 13 = .ok (.dup, 1) := by decide +kernel
theorem dX9_meanMinutes_14 : decode cX9_meanMinutes 14 = .ok (.ldc_w 425, 3) := by decide +kernel
theorem dX9_meanMinutes_17 : decode cX9_meanMinutes 17 = .ok (.invokespecial 427, 3) := by decide +kernel
theorem dX9_meanMinutes_20 : decode cX9_meanMinutes 20 = .ok (.athrow, 1) := by decide +kernel
theorem dX9_meanMinutes_21 : decode cX9_meanMinutes 21 = .ok (.aload_n 0, 1) := by decide +kernel
theorem dX9_meanMinutes_22 : decode cX9_meanMinutes 22 = .ok (.invokevirtual 431, 3) := by decide +kernel
theorem dX9_meanMinutes_25 : decode cX9_meanMinutes 25 = .ok (.i2d, 1) := by decide +kernel
theorem dX9_meanMinutes_26 : decode cX9_meanMinutes 26 = .ok (.aload_n 0, 1) := by decide +kernel
theorem dX9_meanMinutes_27 : decode cX9_meanMinutes 27 = .ok (.getfield 57, 3) := by decide +kernel
theorem dX9_meanMinutes_30 : decode cX9_meanMinutes 30 = .ok (.invokevirtual 131, 3) := by decide +kernel
theorem dX9_meanMinutes_33 : decode cX9_meanMinutes 33 = .ok (.i2d, 1) := by decide +kernel
theorem dX9_meanMinutes_34 : decode cX9_meanMinutes 34 = .ok (.ddiv, 1) := by decide +kernel
theorem dX9_meanMinutes_35 : decode cX9_meanMinutes 35 = .ok (.dreturn, 1) := by decide +kernel
theorem dX9_checksum_0 : decode cX9_checksum 0 = .ok (.ldc2_w 434, 3) := by decide +kernel
theorem dX9_checksum_3 : decode cX9_checksum 3 = .ok (.lstore_n 1, 1) := by decide +kernel
theorem dX9_checksum_4 : decode cX9_checksum 4 = .ok (.iconst 0, 1) := by decide +kernel
theorem dX9_checksum_5 : decode cX9_checksum 5 = .ok (.istore_n 3, 1) := by decide +kernel
theorem dX9_checksum_6 : decode cX9_checksum 6 = .ok (.iload_n 3, 1) := by decide +kernel
theorem dX9_checksum_7 : decode cX9_checksum 7 = .ok (.aload_n 0, 1) := by decide +kernel
theorem dX9_checksum_8 : decode cX9_checksum 8 = .ok (.getfield 57, 3) := by decide +kernel
theorem dX9_checksum_11 : decode cX9_checksum 11 = .ok (.invokevirtual 131, 3) := by decide +kernel
theorem dX9_checksum_14 : decode cX9_checksum 14 = .ok (.if_icmp .ge 74, 3) := by decide +kernel
theorem dX9_checksum_17 : decode cX9_checksum 17 = .ok (.aload_n 0, 1) := by decide +kernel
theorem dX9_checksum_18 : decode cX9_checksum 18 = .ok (.getfield 57, 3) := by decide +kernel
theorem dX9_checksum_21 : decode cX9_checksum 21 = .ok (.iload_n 3, 1) := by decide +kernel
theorem dX9_checksum_22 : decode cX9_checksum 22 = .ok (.invokevirtual 275, 3) := by decide +kernel
theorem dX9_checksum_25 : decode cX9_checksum 25 = .ok (.checkcast 246, 3) := by decide +kernel
theorem dX9_checksum_28 : decode cX9_checksum 28 = .ok (.astore 4, 2) := by decide +kernel
theorem dX9_checksum_30 : decode cX9_checksum 30 = .ok (.ldc2_w 436, 3) := by decide +kernel
theorem dX9_checksum_33 : decode cX9_checksum 33 = .ok (.lload_n 1, 1) := by decide +kernel
theorem dX9_checksum_34 : decode cX9_checksum 34 = .ok (.lmul, 1) := by decide +kernel
theorem dX9_checksum_35 : decode cX9_checksum 35 = .ok (.aload 4, 2) := by decide +kernel
theorem dX9_checksum_37 : decode cX9_checksum 37 = .ok (.getfield 259, 3) := by decide +kernel
theorem dX9_checksum_40 : decode cX9_checksum 40 = .ok (.i2l, 1) := by decide +kernel
theorem dX9_checksum_41 : decode cX9_checksum 41 = .ok (.ladd, 1) := by decide +kernel
theorem dX9_checksum_42 : decode cX9_checksum 42 = .ok (.lstore_n 1, 1) := by decide +kernel
theorem dX9_checksum_43 : decode cX9_checksum 43 = .ok (.ldc2_w 436, 3) := by decide +kernel
theorem dX9_checksum_46 : decode cX9_checksum 46 = .ok (.lload_n 1, 1) := by decide +kernel
theorem dX9_checksum_47 : decode cX9_checksum 47 = .ok (.lmul, 1) := by decide +kernel
theorem dX9_checksum_48 : decode cX9_checksum 48 = .ok (.aload 4, 2) := by decide +kernel
theorem dX9_checksum_50 : decode cX9_checksum 50 = .ok (.getfield 250, 3) := by decide +kernel
theorem dX9_checksum_53 : decode cX9_checksum 53 = .ok (.i2l, 1) := by decide +kernel
theorem dX9_checksum_54 : decode cX9_checksum 54 = .ok (.ladd, 1) := by decide +kernel
theorem dX9_checksum_55 : decode cX9_checksum 55 = .ok (.lstore_n 1, 1) := by decide +kernel
theorem dX9_checksum_56 : decode cX9_checksum 56 = .ok (.ldc2_w 436, 3) := by decide +kernel
theorem dX9_checksum_59 : decode cX9_checksum 59 = .ok (.lload_n 1, 1) := by decide +kernel
theorem dX9_checksum_60 : decode cX9_checksum 60 = .ok (.lmul, 1) := by decide +kernel
theorem dX9_checksum_61 : decode cX9_checksum 61 = .ok (.aload 4, 2) := by decide +kernel
theorem dX9_checksum_63 : decode cX9_checksum 63 = .ok (.getfield 245, 3) := by decide +kernel
theorem dX9_checksum_66 : decode cX9_checksum 66 = .ok (.i2l, 1) := by decide +kernel
theorem dX9_checksum_67 : decode cX9_checksum 67 = .ok (.ladd, 1) := by decide +kernel
theorem dX9_checksum_68 : decode cX9_checksum 68 = .ok (.lstore_n 1, 1) := by decide +kernel
theorem dX9_checksum_69 : decode cX9_checksum 69 = .ok (.ldc2_w 436, 3) := by decide +kernel
theorem dX9_checksum_72 : decode cX9_checksum 72 = .ok (.lload_n 1, 1) := by decide +kernel
theorem dX9_checksum_73 : decode cX9_checksum 73 = .ok (.lmul, 1) := by decide +kernel
theorem dX9_checksum_74 : decode cX9_checksum 74 = .ok (.aload 4, 2) := by decide +kernel
theorem dX9_checksum_76 : decode cX9_checksum 76 = .ok (.invokevirtual 299, 3) := by decide +kernel
theorem dX9_checksum_79 : decode cX9_checksum 79 = .ok (.i2l, 1) := by decide +kernel
theorem dX9_checksum_80 : decode cX9_checksum 80 = .ok (.ladd, 1) := by decide +kernel
theorem dX9_checksum_81 : decode cX9_checksum 81 = .ok (.lstore_n 1, 1) := by decide +kernel
theorem dX9_checksum_82 : decode cX9_checksum 82 = .ok (.iinc 3 1, 3) := by decide +kernel
theorem dX9_checksum_85 : decode cX9_checksum 85 = .ok (.goto (-79), 3) := by decide +kernel
theorem dX9_checksum_88 : decode cX9_checksum 88 = .ok (.ldc2_w 436, 3) := by decide +kernel
theorem dX9_checksum_91 : decode cX9_checksum 91 = .ok (.lload_n 1, 1) := by decide +kernel
theorem dX9_checksum_92 : decode cX9_checksum 92 = .ok (.lmul, 1) := by decide +kernel
theorem dX9_checksum_93 : decode cX9_checksum 93 = .ok (.aload_n 0, 1) := by decide +kernel
theorem dX9_checksum_94 : decode cX9_checksum 94 = .ok (.getfield 43, 3) := by decide +kernel
theorem dX9_checksum_97 : decode cX9_checksum 97 = .ok (.getfield 213, 3) := by decide +kernel
theorem dX9_checksum_100 : decode cX9_checksum 100 = .ok (.i2l, 1) := by decide +kernel
theorem dX9_checksum_101 : decode cX9_checksum 101 = .ok (.ladd, 1) := by decide +kernel
theorem dX9_checksum_102 : decode cX9_checksum 102 = .ok (.lreturn, 1) := by decide +kernel
theorem dX9_isSound_0 : decode cX9_isSound 0 = .ok (.aload_n 0, 1) := by decide +kernel
theorem dX9_isSound_1 : decode cX9_isSound 1 = .ok (.invokevirtual 438, 3) := by decide +kernel
theorem dX9_isSound_4 : decode cX9_isSound 4 = .ok (.ifCond .eq 35, 3) := by decide +kernel
theorem dX9_isSound_7 : decode cX9_isSound 7 = .ok (.aload_n 0, 1) := by decide +kernel
theorem dX9_isSound_8 : decode cX9_isSound 8 = .ok (.invokevirtual 441, 3) := by decide +kernel
theorem dX9_isSound_11 : decode cX9_isSound 11 = .ok (.ifCond .eq 28, 3) := by decide +kernel
theorem dX9_isSound_14 : decode cX9_isSound 14 = .ok (.aload_n 0, 1) := by decide +kernel
theorem dX9_isSound_15 : decode cX9_isSound 15 = .ok (.invokevirtual 444, 3) := by decide +kernel
theorem dX9_isSound_18 : decode cX9_isSound 18 = .ok (.ifCond .eq 21, 3) := by decide +kernel
theorem dX9_isSound_21 : decode cX9_isSound 21 = .ok (.aload_n 0, 1) := by decide +kernel
theorem dX9_isSound_22 : decode cX9_isSound 22 = .ok (.invokevirtual 447, 3) := by decide +kernel
theorem dX9_isSound_25 : decode cX9_isSound 25 = .ok (.ifCond .eq 14, 3) := by decide +kernel
theorem dX9_isSound_28 : decode cX9_isSound 28 = .ok (.aload_n 0, 1) := by decide +kernel
theorem dX9_isSound_29 : decode cX9_isSound 29 = .ok (.invokevirtual 450, 3) := by decide +kernel
theorem dX9_isSound_32 : decode cX9_isSound 32 = .ok (.ifCond .eq 7, 3) := by decide +kernel
theorem dX9_isSound_35 : decode cX9_isSound 35 = .ok (.iconst 1, 1) := by decide +kernel
theorem dX9_isSound_36 : decode cX9_isSound 36 = .ok (.goto 4, 3) := by decide +kernel
theorem dX9_isSound_39 : decode cX9_isSound 39 = .ok (.iconst 0, 1) := by decide +kernel
theorem dX9_isSound_40 : decode cX9_isSound 40 = .ok (.ireturn, 1) := by decide +kernel
theorem dX9_isWithin_0 : decode cX9_isWithin 0 = .ok (.iload_n 0, 1) := by decide +kernel
theorem dX9_isWithin_1 : decode cX9_isWithin 1 = .ok (.iload_n 1, 1) := by decide +kernel
theorem dX9_isWithin_2 : decode cX9_isWithin 2 = .ok (.if_icmp .lt 12, 3) := by decide +kernel
theorem dX9_isWithin_5 : decode cX9_isWithin 5 = .ok (.iload_n 0, 1) := by decide +kernel
theorem dX9_isWithin_6 : decode cX9_isWithin 6 = .ok (.iload_n 2, 1) := by decide +kernel
theorem dX9_isWithin_7 : decode cX9_isWithin 7 = .ok (.if_icmp .gt 7, 3) := by decide +kernel
theorem dX9_isWithin_10 : decode cX9_isWithin 10 = .ok (.iconst 1, 1) := by decide +kernel
theorem dX9_isWithin_11 : decode cX9_isWithin 11 = .ok (.goto 4, 3) := by decide +kernel
theorem dX9_isWithin_14 : decode cX9_isWithin 14 = .ok (.iconst 0, 1) := by decide +kernel
theorem dX9_isWithin_15 : decode cX9_isWithin 15 = .ok (.ireturn, 1) := by decide +kernel
theorem dX9_isPlace_0 : decode cX9_isPlace 0 = .ok (.iload_n 0, 1) := by decide +kernel
theorem dX9_isPlace_1 : decode cX9_isPlace 1 = .ok (.iconst 0, 1) := by decide +kernel
theorem dX9_isPlace_2 : decode cX9_isPlace 2 = .ok (.sipush 199, 3) := by decide +kernel
theorem dX9_isPlace_5 : decode cX9_isPlace 5 = .ok (.invokestatic 89, 3) := by decide +kernel
theorem dX9_isPlace_8 : decode cX9_isPlace 8 = .ok (.ireturn, 1) := by decide +kernel
theorem dX9_isStretch_0 : decode cX9_isStretch 0 = .ok (.iload_n 0, 1) := by decide +kernel
theorem dX9_isStretch_1 : decode cX9_isStretch 1 = .ok (.invokestatic 122, 3) := by decide +kernel
theorem dX9_isStretch_4 : decode cX9_isStretch 4 = .ok (.ifCond .eq 19, 3) := by decide +kernel
theorem dX9_isStretch_7 : decode cX9_isStretch 7 = .ok (.iload_n 1, 1) := by decide +kernel
theorem dX9_isStretch_8 : decode cX9_isStretch 8 = .ok (.invokestatic 122, 3) := by decide +kernel
theorem dX9_isStretch_11 : decode cX9_isStretch 11 = .ok (.ifCond .eq 12, 3) := by decide +kernel
theorem dX9_isStretch_14 : decode cX9_isStretch 14 = .ok (.iload_n 0, 1) := by decide +kernel
theorem dX9_isStretch_15 : decode cX9_isStretch 15 = .ok (.iload_n 1, 1) := by decide +kernel
theorem dX9_isStretch_16 : decode cX9_isStretch 16 = .ok (.if_icmp .gt 7, 3) := by decide +kernel
theorem dX9_isStretch_19 : decode cX9_isStretch 19 = .ok (.iconst 1, 1) := by decide +kernel
theorem dX9_isStretch_20 : decode cX9_isStretch 20 = .ok (.goto 4, 3) := by decide +kernel
theorem dX9_isStretch_23 : decode cX9_isStretch 23 = .ok (.iconst 0, 1) := by decide +kernel
theorem dX9_isStretch_24 : decode cX9_isStretch 24 = .ok (.ireturn, 1) := by decide +kernel
theorem dX9_refuseBuilt_0 : decode cX9_refuseBuilt 0 = .ok (.iload_n 1, 1) := by decide +kernel
theorem dX9_refuseBuilt_1 : decode cX9_refuseBuilt 1 = .ok (.aload_n 0, 1) := by decide +kernel
theorem dX9_refuseBuilt_2 : decode cX9_refuseBuilt 2 = .ok (.getfield 57, 3) := by decide +kernel
theorem dX9_refuseBuilt_5 : decode cX9_refuseBuilt 5 = .ok (.invokevirtual 131, 3) := by decide +kernel
theorem dX9_refuseBuilt_8 : decode cX9_refuseBuilt 8 = .ok (.if_icmp .ge 14, 3) := by decide +kernel
theorem dX9_refuseBuilt_11 : decode cX9_refuseBuilt 11 = .ok (.new 198, 3) := by decide +kernel
theorem dX9_refuseBuilt_14 : decode cX9_refuseBuilt 14 = .ok (.dup, 1) := by decide +kernel
theorem dX9_refuseBuilt_15 : decode cX9_refuseBuilt 15 = .ok (.ldc_w 453, 3) := by decide +kernel
theorem dX9_refuseBuilt_18 : decode cX9_refuseBuilt 18 = .ok (.invokespecial 202, 3) := by decide +kernel
theorem dX9_refuseBuilt_21 : decode cX9_refuseBuilt 21 = .ok (.athrow, 1) := by decide +kernel
theorem dX9_refuseBuilt_22 : decode cX9_refuseBuilt 22 = .ok (.return_, 1) := by decide +kernel
theorem dX9_refuseLate_0 : decode cX9_refuseLate 0 = .ok (.aload_n 0, 1) := by decide +kernel
theorem dX9_refuseLate_1 : decode cX9_refuseLate 1 = .ok (.getfield 43, 3) := by decide +kernel
theorem dX9_refuseLate_4 : decode cX9_refuseLate 4 = .ok (.getfield 213, 3) := by decide +kernel
theorem dX9_refuseLate_7 : decode cX9_refuseLate 7 = .ok (.iload_n 1, 1) := by decide +kernel
theorem dX9_refuseLate_8 : decode cX9_refuseLate 8 = .ok (.iadd, 1) := by decide +kernel
theorem dX9_refuseLate_9 : decode cX9_refuseLate 9 = .ok (.ldc_w 455, 3) := by decide +kernel
theorem dX9_refuseLate_12 : decode cX9_refuseLate 12 = .ok (.if_icmp .le 14, 3) := by decide +kernel
theorem dX9_refuseLate_15 : decode cX9_refuseLate 15 = .ok (.new 135, 3) := by decide +kernel
theorem dX9_refuseLate_18 : decode cX9_refuseLate 18 = .ok (.dup, 1) := by decide +kernel
theorem dX9_refuseLate_19 : decode cX9_refuseLate 19 = .ok (.ldc_w 456, 3) := by decide +kernel
theorem dX9_refuseLate_22 : decode cX9_refuseLate 22 = .ok (.invokespecial 139, 3) := by decide +kernel
theorem dX9_refuseLate_25 : decode cX9_refuseLate 25 = .ok (.athrow, 1) := by decide +kernel
theorem dX9_refuseLate_26 : decode cX9_refuseLate 26 = .ok (.return_, 1) := by decide +kernel
theorem dX9_ringAt_0 : decode cX9_ringAt 0 = .ok (.iload_n 1, 1) := by decide +kernel
theorem dX9_ringAt_1 : decode cX9_ringAt 1 = .ok (.ifCond .lt 14, 3) := by decide +kernel
theorem dX9_ringAt_4 : decode cX9_ringAt 4 = .ok (.iload_n 1, 1) := by decide +kernel
theorem dX9_ringAt_5 : decode cX9_ringAt 5 = .ok (.aload_n 0, 1) := by decide +kernel
theorem dX9_ringAt_6 : decode cX9_ringAt 6 = .ok (.getfield 57, 3) := by decide +kernel
theorem dX9_ringAt_9 : decode cX9_ringAt 9 = .ok (.invokevirtual 131, 3) := by decide +kernel
theorem dX9_ringAt_12 : decode cX9_ringAt 12 = .ok (.if_icmp .lt 14, 3) := by decide +kernel
theorem dX9_ringAt_15 : decode cX9_ringAt 15 = .ok (.new 190, 3) := by decide +kernel
theorem dX9_ringAt_18 : decode cX9_ringAt 18 = .ok (.dup, 1) := by decide +kernel
theorem dX9_ringAt_19 : decode cX9_ringAt 19 = .ok (.ldc_w 458, 3) := by decide +kernel
theorem dX9_ringAt_22 : decode cX9_ringAt 22 = .ok (.invokespecial 194, 3) := by decide +kernel
theorem dX9_ringAt_25 : decode cX9_ringAt 25 = .ok (.athrow, 1) := by decide +kernel
theorem dX9_ringAt_26 : decode cX9_ringAt 26 = .ok (.aload_n 0, 1) := by decide +kernel
theorem dX9_ringAt_27 : decode cX9_ringAt 27 = .ok (.getfield 57, 3) := by decide +kernel
theorem dX9_ringAt_30 : decode cX9_ringAt 30 = .ok (.iload_n 1, 1) := by decide +kernel
theorem dX9_ringAt_31 : decode cX9_ringAt 31 = .ok (.invokevirtual 275, 3) := by decide +kernel
theorem dX9_ringAt_34 : decode cX9_ringAt 34 = .ok (.checkcast 246, 3) := by decide +kernel
theorem dX9_ringAt_37 : decode cX9_ringAt 37 = .ok (.areturn, 1) := by decide +kernel
theorem dX9_houseAt_0 : decode cX9_houseAt 0 = .ok (.iload_n 1, 1) := by decide +kernel
theorem dX9_houseAt_1 : decode cX9_houseAt 1 = .ok (.ifCond .lt 14, 3) := by decide +kernel
theorem dX9_houseAt_4 : decode cX9_houseAt 4 = .ok (.iload_n 1, 1) := by decide +kernel
theorem dX9_houseAt_5 : decode cX9_houseAt 5 = .ok (.aload_n 0, 1) := by decide +kernel
theorem dX9_houseAt_6 : decode cX9_houseAt 6 = .ok (.getfield 61, 3) := by decide +kernel
theorem dX9_houseAt_9 : decode cX9_houseAt 9 = .ok (.invokevirtual 131, 3) := by decide +kernel
theorem dX9_houseAt_12 : decode cX9_houseAt 12 = .ok (.if_icmp .lt 14, 3) := by decide +kernel
theorem dX9_houseAt_15 : decode cX9_houseAt 15 = .ok (.new 190, 3) := by decide +kernel
theorem dX9_houseAt_18 : decode cX9_houseAt 18 = .ok (.dup, 1) := by decide +kernel
theorem dX9_houseAt_19 : decode cX9_houseAt 19 = .ok (.ldc_w 460, 3) := by decide +kernel
theorem dX9_houseAt_22 : decode cX9_houseAt 22 = .ok (.invokespecial 194, 3) := by decide +kernel
theorem dX9_houseAt_25 : decode cX9_houseAt 25 = .ok (.athrow, 1) := by decide +kernel
theorem dX9_houseAt_26 : decode cX9_houseAt 26 = .ok (.aload_n 0, 1) := by decide +kernel
theorem dX9_houseAt_27 : decode cX9_houseAt 27 = .ok (.getfield 61, 3) := by decide +kernel
theorem dX9_houseAt_30 : decode cX9_houseAt 30 = .ok (.iload_n 1, 1) := by decide +kernel
theorem dX9_houseAt_31 : decode cX9_houseAt 31 = .ok (.invokevirtual 275, 3) := by decide +kernel
theorem dX9_houseAt_34 : decode cX9_houseAt 34 = .ok (.checkcast 306, 3) := by decide +kernel
theorem dX9_houseAt_37 : decode cX9_houseAt 37 = .ok (.areturn, 1) := by decide +kernel
theorem dX9_tellKind_0 : decode cX9_tellKind 0 = .ok (.getstatic 114, 3) := by decide +kernel
theorem dX9_tellKind_3 : decode cX9_tellKind 3 = .ok (.iload 4, 2) := by decide +kernel
theorem dX9_tellKind_5 : decode cX9_tellKind 5 = .ok (.invokestatic 118, 3) := by decide +kernel
theorem dX9_tellKind_8 : decode cX9_tellKind 8 = .ok (.istore 5, 2) := by decide +kernel
theorem dX9_tellKind_10 : decode cX9_tellKind 10 = .ok (.iload_n 2, 1) := by decide +kernel
theorem dX9_tellKind_11 : decode cX9_tellKind 11 = .ok (.iload_n 3, 1) := by decide +kernel
theorem dX9_tellKind_12 : decode cX9_tellKind 12 = .ok (.invokestatic 85, 3) := by decide +kernel
theorem dX9_tellKind_15 : decode cX9_tellKind 15 = .ok (.ifCond .eq 8, 3) := by decide +kernel
theorem dX9_tellKind_18 : decode cX9_tellKind 18 = .ok (.iload 5, 2) := by decide +kernel
theorem dX9_tellKind_20 : decode cX9_tellKind 20 = .ok (.ifCond .ge 14, 3) := by decide +kernel
theorem dX9_tellKind_23 : decode cX9_tellKind 23 = .ok (.new 93, 3) := by decide +kernel
theorem dX9_tellKind_26 : decode cX9_tellKind 26 = .ok (.dup, 1) := by decide +kernel
theorem dX9_tellKind_27 : decode cX9_tellKind 27 = .ok (.ldc_w 462, 3) := by decide +kernel
theorem dX9_tellKind_30 : decode cX9_tellKind 30 = .ok (.invokespecial 97, 3) := by decide +kernel
theorem dX9_tellKind_33 : decode cX9_tellKind 33 = .ok (.athrow, 1) := by decide +kernel
theorem dX9_tellKind_34 : decode cX9_tellKind 34 = .ok (.aload_n 0, 1) := by decide +kernel
theorem dX9_tellKind_35 : decode cX9_tellKind 35 = .ok (.iload_n 2, 1) := by decide +kernel
theorem dX9_tellKind_36 : decode cX9_tellKind 36 = .ok (.invokevirtual 100, 3) := by decide +kernel
theorem dX9_tellKind_39 : decode cX9_tellKind 39 = .ok (.aload_n 1, 1) := by decide +kernel
theorem dX9_tellKind_40 : decode cX9_tellKind 40 = .ok (.iload_n 2, 1) := by decide +kernel
theorem dX9_tellKind_41 : decode cX9_tellKind 41 = .ok (.iload_n 3, 1) := by decide +kernel
theorem dX9_tellKind_42 : decode cX9_tellKind 42 = .ok (.iload 5, 2) := by decide +kernel
theorem dX9_tellKind_44 : decode cX9_tellKind 44 = .ok (.invokestatic 107, 3) := by decide +kernel
theorem dX9_tellKind_47 : decode cX9_tellKind 47 = .ok (.ireturn, 1) := by decide +kernel
theorem dX9_tellNumber_0 : decode cX9_tellNumber 0 = .ok (.iload_n 2, 1) := by decide +kernel
theorem dX9_tellNumber_1 : decode cX9_tellNumber 1 = .ok (.iload_n 3, 1) := by decide +kernel
theorem dX9_tellNumber_2 : decode cX9_tellNumber 2 = .ok (.invokestatic 85, 3) := by decide +kernel
theorem dX9_tellNumber_5 : decode cX9_tellNumber 5 = .ok (.ifCond .eq 15, 3) := by decide +kernel
theorem dX9_tellNumber_8 : decode cX9_tellNumber 8 = .ok (.iload 4, 2) := by decide +kernel
theorem dX9_tellNumber_10 : decode cX9_tellNumber 10 = .ok (.iload 5, 2) := by decide +kernel
theorem dX9_tellNumber_12 : decode cX9_tellNumber 12 = .ok (.iload 6, 2) := by decide +kernel
theorem dX9_tellNumber_14 : decode cX9_tellNumber 14 = .ok (.invokestatic 89, 3) := by decide +kernel
theorem dX9_tellNumber_17 : decode cX9_tellNumber 17 = .ok (.ifCond .ne 14, 3) := by decide +kernel
theorem dX9_tellNumber_20 : decode cX9_tellNumber 20 = .ok (.new 93, 3) := by decide +kernel
theorem dX9_tellNumber_23 : decode cX9_tellNumber 23 = .ok (.dup, 1) := by decide +kernel
theorem dX9_tellNumber_24 : decode cX9_tellNumber 24 = .ok (.ldc_w 464, 3) := by decide +kernel
theorem dX9_tellNumber_27 : decode cX9_tellNumber 27 = .ok (.invokespecial 97, 3) := by decide +kernel
theorem dX9_tellNumber_30 : decode cX9_tellNumber 30 = .ok (.athrow, 1) := by decide +kernel
theorem dX9_tellNumber_31 : decode cX9_tellNumber 31 = .ok (.aload_n 0, 1) := by decide +kernel
theorem dX9_tellNumber_32 : decode cX9_tellNumber 32 = .ok (.iload_n 2, 1) := by decide +kernel
theorem dX9_tellNumber_33 : decode cX9_tellNumber 33 = .ok (.invokevirtual 100, 3) := by decide +kernel
theorem dX9_tellNumber_36 : decode cX9_tellNumber 36 = .ok (.aload_n 1, 1) := by decide +kernel
theorem dX9_tellNumber_37 : decode cX9_tellNumber 37 = .ok (.iload_n 2, 1) := by decide +kernel
theorem dX9_tellNumber_38 : decode cX9_tellNumber 38 = .ok (.invokestatic 151, 3) := by decide +kernel
theorem dX9_tellNumber_41 : decode cX9_tellNumber 41 = .ok (.istore 7, 2) := by decide +kernel
theorem dX9_tellNumber_43 : decode cX9_tellNumber 43 = .ok (.aload_n 1, 1) := by decide +kernel
theorem dX9_tellNumber_44 : decode cX9_tellNumber 44 = .ok (.iload_n 2, 1) := by decide +kernel
theorem dX9_tellNumber_45 : decode cX9_tellNumber 45 = .ok (.iload_n 3, 1) := by decide +kernel
theorem dX9_tellNumber_46 : decode cX9_tellNumber 46 = .ok (.iload 4, 2) := by decide +kernel
theorem dX9_tellNumber_48 : decode cX9_tellNumber 48 = .ok (.invokestatic 107, 3) := by decide +kernel
theorem dX9_tellNumber_51 : decode cX9_tellNumber 51 = .ok (.pop, 1) := by decide +kernel
theorem dX9_tellNumber_52 : decode cX9_tellNumber 52 = .ok (.iload 7, 2) := by decide +kernel
theorem dX9_tellNumber_54 : decode cX9_tellNumber 54 = .ok (.ireturn, 1) := by decide +kernel
theorem dX9_at_0 : decode cX9_at 0 = .ok (.iload_n 1, 1) := by decide +kernel
theorem dX9_at_1 : decode cX9_at 1 = .ok (.ifCond .lt 15, 3) := by decide +kernel
theorem dX9_at_4 : decode cX9_at 4 = .ok (.iload_n 1, 1) := by decide +kernel
theorem dX9_at_5 : decode cX9_at 5 = .ok (.aload_n 0, 1) := by decide +kernel
theorem dX9_at_6 : decode cX9_at 6 = .ok (.arraylength, 1) := by decide +kernel
theorem dX9_at_7 : decode cX9_at 7 = .ok (.if_icmp .ge 9, 3) := by decide +kernel
theorem dX9_at_10 : decode cX9_at 10 = .ok (.aload_n 0, 1) := by decide +kernel
theorem dX9_at_11 : decode cX9_at 11 = .ok (.iload_n 1, 1) := by decide +kernel
theorem dX9_at_12 : decode cX9_at 12 = .ok (.iaload, 1) := by decide +kernel
theorem dX9_at_13 : decode cX9_at 13 = .ok (.goto 4, 3) := by decide +kernel
theorem dX9_at_16 : decode cX9_at 16 = .ok (.iconst 0, 1) := by decide +kernel
theorem dX9_at_17 : decode cX9_at 17 = .ok (.ireturn, 1) := by decide +kernel
theorem dX9_put_0 : decode cX9_put 0 = .ok (.iload_n 1, 1) := by decide +kernel
theorem dX9_put_1 : decode cX9_put 1 = .ok (.ifCond .lt 13, 3) := by decide +kernel
theorem dX9_put_4 : decode cX9_put 4 = .ok (.iload_n 1, 1) := by decide +kernel
theorem dX9_put_5 : decode cX9_put 5 = .ok (.aload_n 0, 1) := by decide +kernel
theorem dX9_put_6 : decode cX9_put 6 = .ok (.arraylength, 1) := by decide +kernel
theorem dX9_put_7 : decode cX9_put 7 = .ok (.if_icmp .ge 7, 3) := by decide +kernel
theorem dX9_put_10 : decode cX9_put 10 = .ok (.aload_n 0, 1) := by decide +kernel
theorem dX9_put_11 : decode cX9_put 11 = .ok (.iload_n 1, 1) := by decide +kernel
theorem dX9_put_12 : decode cX9_put 12 = .ok (.iload_n 2, 1) := by decide +kernel
theorem dX9_put_13 : decode cX9_put 13 = .ok (.iastore, 1) := by decide +kernel
theorem dX9_put_14 : decode cX9_put 14 = .ok (.return_, 1) := by decide +kernel
theorem dX9_fill_0 : decode cX9_fill 0 = .ok (.iconst 0, 1) := by decide +kernel
theorem dX9_fill_1 : decode cX9_fill 1 = .ok (.istore 4, 2) := by decide +kernel
theorem dX9_fill_3 : decode cX9_fill 3 = .ok (.iload_n 1, 1) := by decide +kernel
theorem dX9_fill_4 : decode cX9_fill 4 = .ok (.iconst 0, 1) := by decide +kernel
theorem dX9_fill_5 : decode cX9_fill 5 = .ok (.invokestatic 323, 3) := by decide +kernel
theorem dX9_fill_8 : decode cX9_fill 8 = .ok (.istore 5, 2) := by decide +kernel
theorem dX9_fill_10 : decode cX9_fill 10 = .ok (.iload 5, 2) := by decide +kernel
theorem dX9_fill_12 : decode cX9_fill 12 = .ok (.iload_n 2, 1) := by decide +kernel
theorem dX9_fill_13 : decode cX9_fill 13 = .ok (.if_icmp .gt 32, 3) := by decide +kernel
theorem dX9_fill_16 : decode cX9_fill 16 = .ok (.iload 5, 2) := by decide +kernel
theorem dX9_fill_18 : decode cX9_fill 18 = .ok (.aload_n 0, 1) := by decide +kernel
theorem dX9_fill_19 : decode cX9_fill 19 = .ok (.arraylength, 1) := by decide +kernel
theorem dX9_fill_20 : decode cX9_fill 20 = .ok (.if_icmp .ge 25, 3) := by decide +kernel
theorem dX9_fill_23 : decode cX9_fill 23 = .ok (.aload_n 0, 1) := by decide +kernel
theorem dX9_fill_24 : decode cX9_fill 24 = .ok (.iload 5, 2) := by decide +kernel
theorem dX9_fill_26 : decode cX9_fill 26 = .ok (.iaload, 1) := by decide +kernel
theorem dX9_fill_27 : decode cX9_fill 27 = .ok (.iload_n 3, 1) := by decide +kernel
theorem dX9_fill_28 : decode cX9_fill 28 = .ok (.if_icmp .eq 6, 3) := by decide +kernel
theorem dX9_fill_31 : decode cX9_fill 31 = .ok (.iinc 4 1, 3) := by decide +kernel
theorem dX9_fill_34 : decode cX9_fill 34 = .ok (.aload_n 0, 1) := by decide +kernel
theorem dX9_fill_35 : decode cX9_fill 35 = .ok (.iload 5, 2) := by decide +kernel
theorem dX9_fill_37 : decode cX9_fill 37 = .ok (.iload_n 3, 1) := by decide +kernel
theorem dX9_fill_38 : decode cX9_fill 38 = .ok (.iastore, 1) := by decide +kernel
theorem dX9_fill_39 : decode cX9_fill 39 = .ok (.iinc 5 1, 3) := by decide +kernel
theorem dX9_fill_42 : decode cX9_fill 42 = .ok (.goto (-32), 3) := by decide +kernel
theorem dX9_fill_45 : decode cX9_fill 45 = .ok (.iload 4, 2) := by decide +kernel
theorem dX9_fill_47 : decode cX9_fill 47 = .ok (.ireturn, 1) := by decide +kernel
theorem dX9_letterAt_0 : decode cX9_letterAt 0 = .ok (.iload_n 1, 1) := by decide +kernel
theorem dX9_letterAt_1 : decode cX9_letterAt 1 = .ok (.ifCond .lt 15, 3) := by decide +kernel
theorem dX9_letterAt_4 : decode cX9_letterAt 4 = .ok (.iload_n 1, 1) := by decide +kernel
theorem dX9_letterAt_5 : decode cX9_letterAt 5 = .ok (.aload_n 0, 1) := by decide +kernel
theorem dX9_letterAt_6 : decode cX9_letterAt 6 = .ok (.arraylength, 1) := by decide +kernel
theorem dX9_letterAt_7 : decode cX9_letterAt 7 = .ok (.if_icmp .ge 9, 3) := by decide +kernel
theorem dX9_letterAt_10 : decode cX9_letterAt 10 = .ok (.aload_n 0, 1) := by decide +kernel
theorem dX9_letterAt_11 : decode cX9_letterAt 11 = .ok (.iload_n 1, 1) := by decide +kernel
theorem dX9_letterAt_12 : decode cX9_letterAt 12 = .ok (.caload, 1) := by decide +kernel
theorem dX9_letterAt_13 : decode cX9_letterAt 13 = .ok (.goto 5, 3) := by decide +kernel
theorem dX9_letterAt_16 : decode cX9_letterAt 16 = .ok (.bipush 45, 2) := by decide +kernel
theorem dX9_letterAt_18 : decode cX9_letterAt 18 = .ok (.ireturn, 1) := by decide +kernel
theorem dX9_indexIn_0 : decode cX9_indexIn 0 = .ok (.iconst 0, 1) := by decide +kernel
theorem dX9_indexIn_1 : decode cX9_indexIn 1 = .ok (.istore_n 2, 1) := by decide +kernel
theorem dX9_indexIn_2 : decode cX9_indexIn 2 = .ok (.iload_n 2, 1) := by decide +kernel
theorem dX9_indexIn_3 : decode cX9_indexIn 3 = .ok (.aload_n 0, 1) := by decide +kernel
theorem dX9_indexIn_4 : decode cX9_indexIn 4 = .ok (.arraylength, 1) := by decide +kernel
theorem dX9_indexIn_5 : decode cX9_indexIn 5 = .ok (.if_icmp .ge 18, 3) := by decide +kernel
theorem dX9_indexIn_8 : decode cX9_indexIn 8 = .ok (.aload_n 0, 1) := by decide +kernel
theorem dX9_indexIn_9 : decode cX9_indexIn 9 = .ok (.iload_n 2, 1) := by decide +kernel
theorem dX9_indexIn_10 : decode cX9_indexIn 10 = .ok (.caload, 1) := by decide +kernel
theorem dX9_indexIn_11 : decode cX9_indexIn 11 = .ok (.iload_n 1, 1) := by decide +kernel
theorem dX9_indexIn_12 : decode cX9_indexIn 12 = .ok (.if_icmp .ne 5, 3) := by decide +kernel
theorem dX9_indexIn_15 : decode cX9_indexIn 15 = .ok (.iload_n 2, 1) := by decide +kernel
theorem dX9_indexIn_16 : decode cX9_indexIn 16 = .ok (.ireturn, 1) := by decide +kernel
theorem dX9_indexIn_17 : decode cX9_indexIn 17 = .ok (.iinc 2 1, 3) := by decide +kernel
theorem dX9_indexIn_20 : decode cX9_indexIn 20 = .ok (.goto (-18), 3) := by decide +kernel
theorem dX9_indexIn_23 : decode cX9_indexIn 23 = .ok (.iconst (-1), 1) := by decide +kernel
theorem dX9_indexIn_24 : decode cX9_indexIn 24 = .ok (.ireturn, 1) := by decide +kernel
theorem dX9_barOf_0 : decode cX9_barOf 0 = .ok (.aload_n 0, 1) := by decide +kernel
theorem dX9_barOf_1 : decode cX9_barOf 1 = .ok (.getfield 57, 3) := by decide +kernel
theorem dX9_barOf_4 : decode cX9_barOf 4 = .ok (.invokevirtual 131, 3) := by decide +kernel
theorem dX9_barOf_7 : decode cX9_barOf 7 = .ok (.istore_n 2, 1) := by decide +kernel
theorem dX9_barOf_8 : decode cX9_barOf 8 = .ok (.iload_n 2, 1) := by decide +kernel
theorem dX9_barOf_9 : decode cX9_barOf 9 = .ok (.bipush 120, 2) := by decide +kernel
theorem dX9_barOf_11 : decode cX9_barOf 11 = .ok (.if_icmp .lt 6, 3) := by decide +kernel
theorem dX9_barOf_14 : decode cX9_barOf 14 = .ok (.bipush 101, 2) := by decide +kernel
theorem dX9_barOf_16 : decode cX9_barOf 16 = .ok (.ireturn, 1) := by decide +kernel
theorem dX9_barOf_17 : decode cX9_barOf 17 = .ok (.aload_n 0, 1) := by decide +kernel
theorem dX9_barOf_18 : decode cX9_barOf 18 = .ok (.getfield 19, 3) := by decide +kernel
theorem dX9_barOf_21 : decode cX9_barOf 21 = .ok (.getfield 172, 3) := by decide +kernel
theorem dX9_barOf_24 : decode cX9_barOf 24 = .ok (.aload_n 0, 1) := by decide +kernel
theorem dX9_barOf_25 : decode cX9_barOf 25 = .ok (.getfield 10, 3) := by decide +kernel
theorem dX9_barOf_28 : decode cX9_barOf 28 = .ok (.iload_n 2, 1) := by decide +kernel
theorem dX9_barOf_29 : decode cX9_barOf 29 = .ok (.getstatic 176, 3) := by decide +kernel
theorem dX9_barOf_32 : decode cX9_barOf 32 = .ok (.invokevirtual 179, 3) := by decide +kernel
theorem dX9_barOf_35 : decode cX9_barOf 35 = .ok (.aload_n 0, 1) := by decide +kernel
theorem dX9_barOf_36 : decode cX9_barOf 36 = .ok (.getfield 10, 3) := by decide +kernel
theorem dX9_barOf_39 : decode cX9_barOf 39 = .ok (.iload_n 2, 1) := by decide +kernel
theorem dX9_barOf_40 : decode cX9_barOf 40 = .ok (.getstatic 183, 3) := by decide +kernel
theorem dX9_barOf_43 : decode cX9_barOf 43 = .ok (.invokevirtual 179, 3) := by decide +kernel
theorem dX9_barOf_46 : decode cX9_barOf 46 = .ok (.invokestatic 89, 3) := by decide +kernel
theorem dX9_barOf_49 : decode cX9_barOf 49 = .ok (.ifCond .ne 6, 3) := by decide +kernel
theorem dX9_barOf_52 : decode cX9_barOf 52 = .ok (.bipush 112, 2) := by decide +kernel
theorem dX9_barOf_54 : decode cX9_barOf 54 = .ok (.ireturn, 1) := by decide +kernel
theorem dX9_barOf_55 : decode cX9_barOf 55 = .ok (.aload_n 0, 1) := by decide +kernel
theorem dX9_barOf_56 : decode cX9_barOf 56 = .ok (.getfield 19, 3) := by decide +kernel
theorem dX9_barOf_59 : decode cX9_barOf 59 = .ok (.invokevirtual 466, 3) := by decide +kernel
theorem dX9_barOf_62 : decode cX9_barOf 62 = .ok (.ifCond .eq 6, 3) := by decide +kernel
theorem dX9_barOf_65 : decode cX9_barOf 65 = .ok (.bipush 99, 2) := by decide +kernel
theorem dX9_barOf_67 : decode cX9_barOf 67 = .ok (.ireturn, 1) := by decide +kernel
theorem dX9_barOf_68 : decode cX9_barOf 68 = .ok (.aload_n 0, 1) := by decide +kernel
theorem dX9_barOf_69 : decode cX9_barOf 69 = .ok (.getfield 36, 3) := by decide +kernel
theorem dX9_barOf_72 : decode cX9_barOf 72 = .ok (.getfield 349, 3) := by decide +kernel
theorem dX9_barOf_75 : decode cX9_barOf 75 = .ok (.ifCond .gt 6, 3) := by decide +kernel
theorem dX9_barOf_78 : decode cX9_barOf 78 = .ok (.bipush 115, 2) := by decide +kernel
theorem dX9_barOf_80 : decode cX9_barOf 80 = .ok (.ireturn, 1) := by decide +kernel
theorem dX9_barOf_81 : decode cX9_barOf 81 = .ok (.sipush 2000, 3) := by decide +kernel
theorem dX9_barOf_84 : decode cX9_barOf 84 = .ok (.aload_n 0, 1) := by decide +kernel
theorem dX9_barOf_85 : decode cX9_barOf 85 = .ok (.getfield 36, 3) := by decide +kernel
theorem dX9_barOf_88 : decode cX9_barOf 88 = .ok (.getfield 354, 3) := by decide +kernel
theorem dX9_barOf_91 : decode cX9_barOf 91 = .ok (.isub, 1) := by decide +kernel
theorem dX9_barOf_92 : decode cX9_barOf 92 = .ok (.aload_n 0, 1) := by decide +kernel
theorem dX9_barOf_93 : decode cX9_barOf 93 = .ok (.getfield 10, 3) := by decide +kernel
theorem dX9_barOf_96 : decode cX9_barOf 96 = .ok (.getfield 64, 3) := by decide +kernel
theorem dX9_barOf_99 : decode cX9_barOf 99 = .ok (.iload_n 2, 1) := by decide +kernel
theorem dX9_barOf_100 : decode cX9_barOf 100 = .ok (.invokestatic 151, 3) := by decide +kernel
theorem dX9_barOf_103 : decode cX9_barOf 103 = .ok (.aload_n 0, 1) := by decide +kernel
theorem dX9_barOf_104 : decode cX9_barOf 104 = .ok (.getfield 19, 3) := by decide +kernel
theorem dX9_barOf_107 : decode cX9_barOf 107 = .ok (.getfield 186, 3) := by decide +kernel
theorem dX9_barOf_110 : decode cX9_barOf 110 = .ok (.invokestatic 469, 3) := by decide +kernel
theorem dX9_barOf_113 : decode cX9_barOf 113 = .ok (.if_icmp .ge 6, 3) := by decide +kernel
theorem dX9_barOf_116 : decode cX9_barOf 116 = .ok (.bipush 109, 2) := by decide +kernel
theorem dX9_barOf_118 : decode cX9_barOf 118 = .ok (.ireturn, 1) := by decide +kernel
theorem dX9_barOf_119 : decode cX9_barOf 119 = .ok (.iload_n 1, 1) := by decide +kernel
theorem dX9_barOf_120 : decode cX9_barOf 120 = .ok (.aload_n 0, 1) := by decide +kernel
theorem dX9_barOf_121 : decode cX9_barOf 121 = .ok (.invokevirtual 473, 3) := by decide +kernel
theorem dX9_barOf_124 : decode cX9_barOf 124 = .ok (.if_icmp .ne 6, 3) := by decide +kernel
theorem dX9_barOf_127 : decode cX9_barOf 127 = .ok (.bipush 106, 2) := by decide +kernel
theorem dX9_barOf_129 : decode cX9_barOf 129 = .ok (.ireturn, 1) := by decide +kernel
theorem dX9_barOf_130 : decode cX9_barOf 130 = .ok (.aload_n 0, 1) := by decide +kernel
theorem dX9_barOf_131 : decode cX9_barOf 131 = .ok (.iload_n 2, 1) := by decide +kernel
theorem dX9_barOf_132 : decode cX9_barOf 132 = .ok (.invokevirtual 476, 3) := by decide +kernel
theorem dX9_barOf_135 : decode cX9_barOf 135 = .ok (.ifCond .eq 8, 3) := by decide +kernel
theorem dX9_barOf_138 : decode cX9_barOf 138 = .ok (.bipush 97, 2) := by decide +kernel
theorem dX9_barOf_140 : decode cX9_barOf 140 = .ok (.goto 5, 3) := by decide +kernel
theorem dX9_barOf_143 : decode cX9_barOf 143 = .ok (.bipush 45, 2) := by decide +kernel
theorem dX9_barOf_145 : decode cX9_barOf 145 = .ok (.ireturn, 1) := by decide +kernel
theorem dX9_lastTurn_0 : decode cX9_lastTurn 0 = .ok (.aload_n 0, 1) := by decide +kernel
theorem dX9_lastTurn_1 : decode cX9_lastTurn 1 = .ok (.getfield 57, 3) := by decide +kernel
theorem dX9_lastTurn_4 : decode cX9_lastTurn 4 = .ok (.invokevirtual 420, 3) := by decide +kernel
theorem dX9_lastTurn_7 : decode cX9_lastTurn 7 = .ok (.ifCond .eq 7, 3) := by decide +kernel
theorem dX9_lastTurn_10 : decode cX9_lastTurn 10 = .ok (.iconst (-1), 1) := by decide +kernel
theorem dX9_lastTurn_11 : decode cX9_lastTurn 11 = .ok (.goto 25, 3) := by decide +kernel
theorem dX9_lastTurn_14 : decode cX9_lastTurn 14 = .ok (.aload_n 0, 1) := by decide +kernel
theorem dX9_lastTurn_15 : decode cX9_lastTurn 15 = .ok (.getfield 57, 3) := by decide +kernel
theorem dX9_lastTurn_18 : decode cX9_lastTurn 18 = .ok (.aload_n 0, 1) := by decide +kernel
theorem dX9_lastTurn_19 : decode cX9_lastTurn 19 = .ok (.getfield 57, 3) := by decide +kernel
theorem dX9_lastTurn_22 : decode cX9_lastTurn 22 = .ok (.invokevirtual 131, 3) := by decide +kernel
theorem dX9_lastTurn_25 : decode cX9_lastTurn 25 = .ok (.iconst 1, 1) := by decide +kernel
theorem dX9_lastTurn_26 : decode cX9_lastTurn 26 = .ok (.isub, 1) := by decide +kernel
theorem dX9_lastTurn_27 : decode cX9_lastTurn 27 = .ok (.invokevirtual 275, 3) := by decide +kernel
theorem dX9_lastTurn_30 : decode cX9_lastTurn 30 = .ok (.checkcast 246, 3) := by decide +kernel
theorem dX9_lastTurn_33 : decode cX9_lastTurn 33 = .ok (.getfield 259, 3) := by decide +kernel
theorem dX9_lastTurn_36 : decode cX9_lastTurn 36 = .ok (.ireturn, 1) := by decide +kernel
theorem dX9_isRedNear_0 : decode cX9_isRedNear 0 = .ok (.iconst 0, 1) := by decide +kernel
theorem dX9_isRedNear_1 : decode cX9_isRedNear 1 = .ok (.istore_n 2, 1) := by decide +kernel
theorem dX9_isRedNear_2 : decode cX9_isRedNear 2 = .ok (.iload_n 2, 1) := by decide +kernel
theorem dX9_isRedNear_3 : decode cX9_isRedNear 3 = .ok (.aload_n 0, 1) := by decide +kernel
theorem dX9_isRedNear_4 : decode cX9_isRedNear 4 = .ok (.getfield 61, 3) := by decide +kernel
theorem dX9_isRedNear_7 : decode cX9_isRedNear 7 = .ok (.invokevirtual 131, 3) := by decide +kernel
theorem dX9_isRedNear_10 : decode cX9_isRedNear 10 = .ok (.if_icmp .ge 42, 3) := by decide +kernel
theorem dX9_isRedNear_13 : decode cX9_isRedNear 13 = .ok (.aload_n 0, 1) := by decide +kernel
theorem dX9_isRedNear_14 : decode cX9_isRedNear 14 = .ok (.getfield 61, 3) := by decide +kernel
theorem dX9_isRedNear_17 : decode cX9_isRedNear 17 = .ok (.iload_n 2, 1) := by decide +kernel
theorem dX9_isRedNear_18 : decode cX9_isRedNear 18 = .ok (.invokevirtual 275, 3) := by decide +kernel
theorem dX9_isRedNear_21 : decode cX9_isRedNear 21 = .ok (.checkcast 306, 3) := by decide +kernel
theorem dX9_isRedNear_24 : decode cX9_isRedNear 24 = .ok (.astore_n 3, 1) := by decide +kernel
theorem dX9_isRedNear_25 : decode cX9_isRedNear 25 = .ok (.aload_n 3, 1) := by decide +kernel
theorem dX9_isRedNear_26 : decode cX9_isRedNear 26 = .ok (.iload_n 1, 1) := by decide +kernel
theorem dX9_isRedNear_27 : decode cX9_isRedNear 27 = .ok (.invokevirtual 479, 3) := by decide +kernel
theorem dX9_isRedNear_30 : decode cX9_isRedNear 30 = .ok (.bipush 10, 2) := by decide +kernel
theorem dX9_isRedNear_32 : decode cX9_isRedNear 32 = .ok (.if_icmp .gt 14, 3) := by decide +kernel
theorem dX9_isRedNear_35 : decode cX9_isRedNear 35 = .ok (.aload_n 3, 1) := by decide +kernel
theorem dX9_isRedNear_36 : decode cX9_isRedNear 36 = .ok (.invokevirtual 334, 3) := by decide +kernel
theorem dX9_isRedNear_39 : decode cX9_isRedNear 39 = .ok (.bipush 114, 2) := by decide +kernel
theorem dX9_isRedNear_41 : decode cX9_isRedNear 41 = .ok (.if_icmp .ne 5, 3) := by decide +kernel
theorem dX9_isRedNear_44 : decode cX9_isRedNear 44 = .ok (.iconst 1, 1) := by decide +kernel
theorem dX9_isRedNear_45 : decode cX9_isRedNear 45 = .ok (.ireturn, 1) := by decide +kernel
theorem dX9_isRedNear_46 : decode cX9_isRedNear 46 = .ok (.iinc 2 1, 3) := by decide +kernel
theorem dX9_isRedNear_49 : decode cX9_isRedNear 49 = .ok (.goto (-47), 3) := by decide +kernel
theorem dX9_isRedNear_52 : decode cX9_isRedNear 52 = .ok (.iconst 0, 1) := by decide +kernel
theorem dX9_isRedNear_53 : decode cX9_isRedNear 53 = .ok (.ireturn, 1) := by decide +kernel
theorem dX9_muckOf_0 : decode cX9_muckOf 0 = .ok (.getstatic 482, 3) := by decide +kernel
theorem dX9_muckOf_3 : decode cX9_muckOf 3 = .ok (.iload_n 0, 1) := by decide +kernel
theorem dX9_muckOf_4 : decode cX9_muckOf 4 = .ok (.invokestatic 151, 3) := by decide +kernel
theorem dX9_muckOf_7 : decode cX9_muckOf 7 = .ok (.iload_n 1, 1) := by decide +kernel
theorem dX9_muckOf_8 : decode cX9_muckOf 8 = .ok (.ifCond .eq 8, 3) := by decide +kernel
theorem dX9_muckOf_11 : decode cX9_muckOf 11 = .ok (.bipush 10, 2) := by decide +kernel
theorem dX9_muckOf_13 : decode cX9_muckOf 13 = .ok (.goto 4, 3) := by decide +kernel
theorem dX9_muckOf_16 : decode cX9_muckOf 16 = .ok (.iconst 0, 1) := by decide +kernel
theorem dX9_muckOf_17 : decode cX9_muckOf 17 = .ok (.iadd, 1) := by decide +kernel
theorem dX9_muckOf_18 : decode cX9_muckOf 18 = .ok (.istore_n 2, 1) := by decide +kernel
theorem dX9_muckOf_19 : decode cX9_muckOf 19 = .ok (.bipush 50, 2) := by decide +kernel
theorem dX9_muckOf_21 : decode cX9_muckOf 21 = .ok (.iload_n 2, 1) := by decide +kernel
theorem dX9_muckOf_22 : decode cX9_muckOf 22 = .ok (.imul, 1) := by decide +kernel
theorem dX9_muckOf_23 : decode cX9_muckOf 23 = .ok (.bipush 100, 2) := by decide +kernel
theorem dX9_muckOf_25 : decode cX9_muckOf 25 = .ok (.idiv, 1) := by decide +kernel
theorem dX9_muckOf_26 : decode cX9_muckOf 26 = .ok (.ireturn, 1) := by decide +kernel
theorem dX9_nextMinutes_0 : decode cX9_nextMinutes 0 = .ok (.aload_n 0, 1) := by decide +kernel
theorem dX9_nextMinutes_1 : decode cX9_nextMinutes 1 = .ok (.getfield 57, 3) := by decide +kernel
theorem dX9_nextMinutes_4 : decode cX9_nextMinutes 4 = .ok (.invokevirtual 131, 3) := by decide +kernel
theorem dX9_nextMinutes_7 : decode cX9_nextMinutes 7 = .ok (.istore_n 1, 1) := by decide +kernel
theorem dX9_nextMinutes_8 : decode cX9_nextMinutes 8 = .ok (.getstatic 485, 3) := by decide +kernel
theorem dX9_nextMinutes_11 : decode cX9_nextMinutes 11 = .ok (.aload_n 0, 1) := by decide +kernel
theorem dX9_nextMinutes_12 : decode cX9_nextMinutes 12 = .ok (.getfield 10, 3) := by decide +kernel
theorem dX9_nextMinutes_15 : decode cX9_nextMinutes 15 = .ok (.getfield 64, 3) := by decide +kernel
theorem dX9_nextMinutes_18 : decode cX9_nextMinutes 18 = .ok (.iload_n 1, 1) := by decide +kernel
theorem dX9_nextMinutes_19 : decode cX9_nextMinutes 19 = .ok (.invokestatic 151, 3) := by decide +kernel
theorem dX9_nextMinutes_22 : decode cX9_nextMinutes 22 = .ok (.invokestatic 151, 3) := by decide +kernel
theorem dX9_nextMinutes_25 : decode cX9_nextMinutes 25 = .ok (.iload_n 1, 1) := by decide +kernel
theorem dX9_nextMinutes_26 : decode cX9_nextMinutes 26 = .ok (.bipush 10, 2) := by decide +kernel
theorem dX9_nextMinutes_28 : decode cX9_nextMinutes 28 = .ok (.idiv, 1) := by decide +kernel
theorem dX9_nextMinutes_29 : decode cX9_nextMinutes 29 = .ok (.bipush 10, 2) := by decide +kernel
theorem dX9_nextMinutes_31 : decode cX9_nextMinutes 31 = .ok (.invokestatic 364, 3) := by decide +kernel
theorem dX9_nextMinutes_34 : decode cX9_nextMinutes 34 = .ok (.isub, 1) := by decide +kernel
theorem dX9_nextMinutes_35 : decode cX9_nextMinutes 35 = .ok (.ireturn, 1) := by decide +kernel
theorem dX9_changeMinutes_0 : decode cX9_changeMinutes 0 = .ok (.iload_n 0, 1) := by decide +kernel
theorem dX9_changeMinutes_1 : decode cX9_changeMinutes 1 = .ok (.bipush 10, 2) := by decide +kernel
theorem dX9_changeMinutes_3 : decode cX9_changeMinutes 3 = .ok (.if_icmp .gt 6, 3) := by decide +kernel
theorem dX9_changeMinutes_6 : decode cX9_changeMinutes 6 = .ok (.bipush 20, 2) := by decide +kernel
theorem dX9_changeMinutes_8 : decode cX9_changeMinutes 8 = .ok (.ireturn, 1) := by decide +kernel
theorem dX9_changeMinutes_9 : decode cX9_changeMinutes 9 = .ok (.iload_n 0, 1) := by decide +kernel
theorem dX9_changeMinutes_10 : decode cX9_changeMinutes 10 = .ok (.bipush 20, 2) := by decide +kernel
theorem dX9_changeMinutes_12 : decode cX9_changeMinutes 12 = .ok (.if_icmp .gt 6, 3) := by decide +kernel
theorem dX9_changeMinutes_15 : decode cX9_changeMinutes 15 = .ok (.bipush 50, 2) := by decide +kernel
theorem dX9_changeMinutes_17 : decode cX9_changeMinutes 17 = .ok (.ireturn, 1) := by decide +kernel
theorem dX9_changeMinutes_18 : decode cX9_changeMinutes 18 = .ok (.iload_n 0, 1) := by decide +kernel
theorem dX9_changeMinutes_19 : decode cX9_changeMinutes 19 = .ok (.bipush 30, 2) := by decide +kernel
theorem dX9_changeMinutes_21 : decode cX9_changeMinutes 21 = .ok (.if_icmp .gt 8, 3) := by decide +kernel
theorem dX9_changeMinutes_24 : decode cX9_changeMinutes 24 = .ok (.bipush 80, 2) := by decide +kernel
theorem dX9_changeMinutes_26 : decode cX9_changeMinutes 26 = .ok (.goto 6, 3) := by decide +kernel
theorem dX9_changeMinutes_29 : decode cX9_changeMinutes 29 = .ok (.sipush 140, 3) := by decide +kernel
theorem dX9_changeMinutes_32 : decode cX9_changeMinutes 32 = .ok (.ireturn, 1) := by decide +kernel
theorem dX9_build_0 : decode cX9_build 0 = .ok (.aload_n 0, 1) := by decide +kernel
theorem dX9_build_1 : decode cX9_build 1 = .ok (.getfield 57, 3) := by decide +kernel
theorem dX9_build_4 : decode cX9_build 4 = .ok (.invokevirtual 131, 3) := by decide +kernel
theorem dX9_build_7 : decode cX9_build 7 = .ok (.istore_n 3, 1) := by decide +kernel
theorem dX9_build_8 : decode cX9_build 8 = .ok (.aload_n 0, 1) := by decide +kernel
theorem dX9_build_9 : decode cX9_build 9 = .ok (.getfield 10, 3) := by decide +kernel
theorem dX9_build_12 : decode cX9_build 12 = .ok (.getfield 64, 3) := by decide +kernel
theorem dX9_build_15 : decode cX9_build 15 = .ok (.iload_n 3, 1) := by decide +kernel
theorem dX9_build_16 : decode cX9_build 16 = .ok (.invokestatic 151, 3) := by decide +kernel
theorem dX9_build_19 : decode cX9_build 19 = .ok (.istore 4, 2) := by decide +kernel
theorem dX9_build_21 : decode cX9_build 21 = .ok (.new 246, 3) := by decide +kernel
theorem dX9_build_24 : decode cX9_build 24 = .ok (.dup, 1) := by decide +kernel
theorem dX9_build_25 : decode cX9_build 25 = .ok (.iload_n 1, 1) := by decide +kernel
theorem dX9_build_26 : decode cX9_build 26 = .ok (.iload 4, 2) := by decide +kernel
theorem dX9_build_28 : decode cX9_build 28 = .ok (.aload_n 0, 1) := by decide +kernel
theorem dX9_build_29 : decode cX9_build 29 = .ok (.getfield 19, 3) := by decide +kernel
theorem dX9_build_32 : decode cX9_build 32 = .ok (.invokespecial 488, 3) := by decide +kernel
theorem dX9_build_35 : decode cX9_build 35 = .ok (.astore 5, 2) := by decide +kernel
theorem dX9_build_37 : decode cX9_build 37 = .ok (.aload_n 0, 1) := by decide +kernel
theorem dX9_build_38 : decode cX9_build 38 = .ok (.aload_n 0, 1) := by decide +kernel
theorem dX9_build_39 : decode cX9_build 39 = .ok (.getfield 26, 3) := by decide +kernel
theorem dX9_build_42 : decode cX9_build 42 = .ok (.aload 5, 2) := by decide +kernel
theorem dX9_build_44 : decode cX9_build 44 = .ok (.getfield 259, 3) := by decide +kernel
theorem dX9_build_47 : decode cX9_build 47 = .ok (.aload 5, 2) := by decide +kernel
theorem dX9_build_49 : decode cX9_build 49 = .ok (.getfield 491, 3) := by decide +kernel
theorem dX9_build_52 : decode cX9_build 52 = .ok (.aload 5, 2) := by decide +kernel
theorem dX9_build_54 : decode cX9_build 54 = .ok (.getfield 492, 3) := by decide +kernel
theorem dX9_build_57 : decode cX9_build 57 = .ok (.iload_n 3, 1) := by decide +kernel
theorem dX9_build_58 : decode cX9_build 58 = .ok (.invokevirtual 493, 3) := by decide +kernel
theorem dX9_build_61 : decode cX9_build 61 = .ok (.aload 5, 2) := by decide +kernel
theorem dX9_build_63 : decode cX9_build 63 = .ok (.aload_n 0, 1) := by decide +kernel
theorem dX9_build_64 : decode cX9_build 64 = .ok (.getfield 26, 3) := by decide +kernel
theorem dX9_build_67 : decode cX9_build 67 = .ok (.getfield 497, 3) := by decide +kernel
theorem dX9_build_70 : decode cX9_build 70 = .ok (.putfield 250, 3) := by decide +kernel
theorem dX9_build_73 : decode cX9_build 73 = .ok (.aload 5, 2) := by decide +kernel
theorem dX9_build_75 : decode cX9_build 75 = .ok (.aload_n 0, 1) := by decide +kernel
theorem dX9_build_76 : decode cX9_build 76 = .ok (.getfield 26, 3) := by decide +kernel
theorem dX9_build_79 : decode cX9_build 79 = .ok (.getfield 498, 3) := by decide +kernel
theorem dX9_build_82 : decode cX9_build 82 = .ok (.putfield 245, 3) := by decide +kernel
theorem dX9_build_85 : decode cX9_build 85 = .ok (.aload_n 0, 1) := by decide +kernel
theorem dX9_build_86 : decode cX9_build 86 = .ok (.getfield 43, 3) := by decide +kernel
theorem dX9_build_89 : decode cX9_build 89 = .ok (.dup, 1) := by decide +kernel
theorem dX9_build_90 : decode cX9_build 90 = .ok (.getfield 213, 3) := by decide +kernel
theorem dX9_build_93 : decode cX9_build 93 = .ok (.iload_n 2, 1) := by decide +kernel
theorem dX9_build_94 : decode cX9_build 94 = .ok (.iadd, 1) := by decide +kernel
theorem dX9_build_95 : decode cX9_build 95 = .ok (.putfield 213, 3) := by decide +kernel
theorem dX9_build_98 : decode cX9_build 98 = .ok (.aload 5, 2) := by decide +kernel
theorem dX9_build_100 : decode cX9_build 100 = .ok (.iload_n 2, 1) := by decide +kernel
theorem dX9_build_101 : decode cX9_build 101 = .ok (.putfield 499, 3) := by decide +kernel
theorem dX9_build_104 : decode cX9_build 104 = .ok (.aload 5, 2) := by decide +kernel
theorem dX9_build_106 : decode cX9_build 106 = .ok (.aload_n 0, 1) := by decide +kernel
theorem dX9_build_107 : decode cX9_build 107 = .ok (.getfield 43, 3) := by decide +kernel
theorem dX9_build_110 : decode cX9_build 110 = .ok (.getfield 213, 3) := by decide +kernel
theorem dX9_build_113 : decode cX9_build 113 = .ok (.putfield 406, 3) := by decide +kernel
theorem dX9_build_116 : decode cX9_build 116 = .ok (.aload 5, 2) := by decide +kernel
theorem dX9_build_118 : decode cX9_build 118 = .ok (.aload_n 0, 1) := by decide +kernel
theorem dX9_build_119 : decode cX9_build 119 = .ok (.getfield 10, 3) := by decide +kernel
theorem dX9_build_122 : decode cX9_build 122 = .ok (.iload_n 3, 1) := by decide +kernel
theorem dX9_build_123 : decode cX9_build 123 = .ok (.invokevirtual 502, 3) := by decide +kernel
theorem dX9_build_126 : decode cX9_build 126 = .ok (.putfield 412, 3) := by decide +kernel
theorem dX9_build_129 : decode cX9_build 129 = .ok (.aload_n 0, 1) := by decide +kernel
theorem dX9_build_130 : decode cX9_build 130 = .ok (.getfield 19, 3) := by decide +kernel
theorem dX9_build_133 : decode cX9_build 133 = .ok (.iload 4, 2) := by decide +kernel
theorem dX9_build_135 : decode cX9_build 135 = .ok (.invokevirtual 505, 3) := by decide +kernel
theorem dX9_build_138 : decode cX9_build 138 = .ok (.aload_n 0, 1) := by decide +kernel
theorem dX9_build_139 : decode cX9_build 139 = .ok (.getfield 36, 3) := by decide +kernel
theorem dX9_build_142 : decode cX9_build 142 = .ok (.dup, 1) := by decide +kernel
theorem dX9_build_143 : decode cX9_build 143 = .ok (.getfield 349, 3) := by decide +kernel
theorem dX9_build_146 : decode cX9_build 146 = .ok (.iconst 1, 1) := by decide +kernel
theorem dX9_build_147 : decode cX9_build 147 = .ok (.isub, 1) := by decide +kernel
theorem dX9_build_148 : decode cX9_build 148 = .ok (.putfield 349, 3) := by decide +kernel
theorem dX9_build_151 : decode cX9_build 151 = .ok (.aload_n 0, 1) := by decide +kernel
theorem dX9_build_152 : decode cX9_build 152 = .ok (.getfield 36, 3) := by decide +kernel
theorem dX9_build_155 : decode cX9_build 155 = .ok (.dup, 1) := by decide +kernel
theorem dX9_build_156 : decode cX9_build 156 = .ok (.getfield 354, 3) := by decide +kernel
theorem dX9_build_159 : decode cX9_build 159 = .ok (.iload 4, 2) := by decide +kernel
theorem dX9_build_161 : decode cX9_build 161 = .ok (.aload_n 0, 1) := by decide +kernel
theorem dX9_build_162 : decode cX9_build 162 = .ok (.getfield 19, 3) := by decide +kernel
theorem dX9_build_165 : decode cX9_build 165 = .ok (.getfield 186, 3) := by decide +kernel
theorem dX9_build_168 : decode cX9_build 168 = .ok (.invokestatic 469, 3) := by decide +kernel
theorem dX9_build_171 : decode cX9_build 171 = .ok (.iadd, 1) := by decide +kernel
theorem dX9_build_172 : decode cX9_build 172 = .ok (.putfield 354, 3) := by decide +kernel
theorem dX9_build_175 : decode cX9_build 175 = .ok (.aload_n 0, 1) := by decide +kernel
theorem dX9_build_176 : decode cX9_build 176 = .ok (.getfield 57, 3) := by decide +kernel
theorem dX9_build_179 : decode cX9_build 179 = .ok (.aload 5, 2) := by decide +kernel
theorem dX9_build_181 : decode cX9_build 181 = .ok (.invokevirtual 145, 3) := by decide +kernel
theorem dX9_build_184 : decode cX9_build 184 = .ok (.pop, 1) := by decide +kernel
theorem dX9_build_185 : decode cX9_build 185 = .ok (.return_, 1) := by decide +kernel
theorem dX9_go_0 : decode cX9_go 0 = .ok (.getstatic 508, 3) := by decide +kernel
theorem dX9_go_3 : decode cX9_go 3 = .ok (.iload_n 2, 1) := by decide +kernel
theorem dX9_go_4 : decode cX9_go 4 = .ok (.invokestatic 151, 3) := by decide +kernel
theorem dX9_go_7 : decode cX9_go 7 = .ok (.iload_n 3, 1) := by decide +kernel
theorem dX9_go_8 : decode cX9_go 8 = .ok (.iadd, 1) := by decide +kernel
theorem dX9_go_9 : decode cX9_go 9 = .ok (.aload_n 0, 1) := by decide +kernel
theorem dX9_go_10 : decode cX9_go 10 = .ok (.getfield 10, 3) := by decide +kernel
theorem dX9_go_13 : decode cX9_go 13 = .ok (.getfield 104, 3) := by decide +kernel
theorem dX9_go_16 : decode cX9_go 16 = .ok (.iload 5, 2) := by decide +kernel
theorem dX9_go_18 : decode cX9_go 18 = .ok (.invokestatic 151, 3) := by decide +kernel
theorem dX9_go_21 : decode cX9_go 21 = .ok (.isub, 1) := by decide +kernel
theorem dX9_go_22 : decode cX9_go 22 = .ok (.istore 6, 2) := by decide +kernel
theorem dX9_go_24 : decode cX9_go 24 = .ok (.getstatic 511, 3) := by decide +kernel
theorem dX9_go_27 : decode cX9_go 27 = .ok (.iload_n 2, 1) := by decide +kernel
theorem dX9_go_28 : decode cX9_go 28 = .ok (.invokestatic 151, 3) := by decide +kernel
theorem dX9_go_31 : decode cX9_go 31 = .ok (.iload 4, 2) := by decide +kernel
theorem dX9_go_33 : decode cX9_go 33 = .ok (.iadd, 1) := by decide +kernel
theorem dX9_go_34 : decode cX9_go 34 = .ok (.aload_n 0, 1) := by decide +kernel
theorem dX9_go_35 : decode cX9_go 35 = .ok (.getfield 10, 3) := by decide +kernel
theorem dX9_go_38 : decode cX9_go 38 = .ok (.getfield 111, 3) := by decide +kernel
theorem dX9_go_41 : decode cX9_go 41 = .ok (.iload 5, 2) := by decide +kernel
theorem dX9_go_43 : decode cX9_go 43 = .ok (.invokestatic 151, 3) := by decide +kernel
theorem dX9_go_46 : decode cX9_go 46 = .ok (.isub, 1) := by decide +kernel
theorem dX9_go_47 : decode cX9_go 47 = .ok (.istore 7, 2) := by decide +kernel
theorem dX9_go_49 : decode cX9_go 49 = .ok (.aload_n 1, 1) := by decide +kernel
theorem dX9_go_50 : decode cX9_go 50 = .ok (.iload 6, 2) := by decide +kernel
theorem dX9_go_52 : decode cX9_go 52 = .ok (.iload 7, 2) := by decide +kernel
theorem dX9_go_54 : decode cX9_go 54 = .ok (.invokevirtual 514, 3) := by decide +kernel
theorem dX9_go_57 : decode cX9_go 57 = .ok (.return_, 1) := by decide +kernel
theorem dX9_bestRow_0 : decode cX9_bestRow 0 = .ok (.iconst (-1), 1) := by decide +kernel
theorem dX9_bestRow_1 : decode cX9_bestRow 1 = .ok (.istore_n 2, 1) := by decide +kernel
theorem dX9_bestRow_2 : decode cX9_bestRow 2 = .ok (.lconst 0, 1) := by decide +kernel
theorem dX9_bestRow_3 : decode cX9_bestRow 3 = .ok (.lstore_n 3, 1) := by decide +kernel
theorem dX9_bestRow_4 : decode cX9_bestRow 4 = .ok (.iconst 0, 1) := by decide +kernel
theorem dX9_bestRow_5 : decode cX9_bestRow 5 = .ok (.istore 5, 2) := by decide +kernel
theorem dX9_bestRow_7 : decode cX9_bestRow 7 = .ok (.iload 5, 2) := by decide +kernel
theorem dX9_bestRow_9 : decode cX9_bestRow 9 = .ok (.iconst 1, 1) := by decide +kernel
theorem dX9_bestRow_10 : decode cX9_bestRow 10 = .ok (.iconst 3, 1) := by decide +kernel
theorem dX9_bestRow_11 : decode cX9_bestRow 11 = .ok (.iload_n 1, 1) := by decide +kernel
theorem dX9_bestRow_12 : decode cX9_bestRow 12 = .ok (.imul, 1) := by decide +kernel
theorem dX9_bestRow_13 : decode cX9_bestRow 13 = .ok (.ishl, 1) := by decide +kernel
theorem dX9_bestRow_14 : decode cX9_bestRow 14 = .ok (.if_icmp .ge 42, 3) := by decide +kernel
theorem dX9_bestRow_17 : decode cX9_bestRow 17 = .ok (.aload_n 0, 1) := by decide +kernel
theorem dX9_bestRow_18 : decode cX9_bestRow 18 = .ok (.iload 5, 2) := by decide +kernel
theorem dX9_bestRow_20 : decode cX9_bestRow 20 = .ok (.iload_n 1, 1) := by decide +kernel
theorem dX9_bestRow_21 : decode cX9_bestRow 21 = .ok (.invokevirtual 271, 3) := by decide +kernel
theorem dX9_bestRow_24 : decode cX9_bestRow 24 = .ok (.lstore 6, 2) := by decide +kernel
theorem dX9_bestRow_26 : decode cX9_bestRow 26 = .ok (.lload 6, 2) := by decide +kernel
theorem dX9_bestRow_28 : decode cX9_bestRow 28 = .ok (.lconst 0, 1) := by decide +kernel
theorem dX9_bestRow_29 : decode cX9_bestRow 29 = .ok (.lcmp, 1) := by decide +kernel
theorem dX9_bestRow_30 : decode cX9_bestRow 30 = .ok (.ifCond .lt 20, 3) := by decide +kernel
theorem dX9_bestRow_33 : decode cX9_bestRow 33 = .ok (.iload_n 2, 1) := by decide +kernel
theorem dX9_bestRow_34 : decode cX9_bestRow 34 = .ok (.ifCond .lt 10, 3) := by decide +kernel
theorem dX9_bestRow_37 : decode cX9_bestRow 37 = .ok (.lload 6, 2) := by decide +kernel
theorem dX9_bestRow_39 : decode cX9_bestRow 39 = .ok (.lload_n 3, 1) := by decide +kernel
theorem dX9_bestRow_40 : decode cX9_bestRow 40 = .ok (.lcmp, 1) := by decide +kernel
theorem dX9_bestRow_41 : decode cX9_bestRow 41 = .ok (.ifCond .ge 9, 3) := by decide +kernel
theorem dX9_bestRow_44 : decode cX9_bestRow 44 = .ok (.iload 5, 2) := by decide +kernel
theorem dX9_bestRow_46 : decode cX9_bestRow 46 = .ok (.istore_n 2, 1) := by decide +kernel
theorem dX9_bestRow_47 : decode cX9_bestRow 47 = .ok (.lload 6, 2) := by decide +kernel
theorem dX9_bestRow_49 : decode cX9_bestRow 49 = .ok (.lstore_n 3, 1) := by decide +kernel
theorem dX9_bestRow_50 : decode cX9_bestRow 50 = .ok (.iinc 5 1, 3) := by decide +kernel
theorem dX9_bestRow_53 : decode cX9_bestRow 53 = .ok (.goto (-46), 3) := by decide +kernel
theorem dX9_bestRow_56 : decode cX9_bestRow 56 = .ok (.iload_n 2, 1) := by decide +kernel
theorem dX9_bestRow_57 : decode cX9_bestRow 57 = .ok (.ireturn, 1) := by decide +kernel
theorem dX9_sumOfRow_0 : decode cX9_sumOfRow 0 = .ok (.aload_n 0, 1) := by decide +kernel
theorem dX9_sumOfRow_1 : decode cX9_sumOfRow 1 = .ok (.getfield 30, 3) := by decide +kernel
theorem dX9_sumOfRow_4 : decode cX9_sumOfRow 4 = .ok (.aload_n 0, 1) := by decide +kernel
theorem dX9_sumOfRow_5 : decode cX9_sumOfRow 5 = .ok (.getfield 26, 3) := by decide +kernel
theorem dX9_sumOfRow_8 : decode cX9_sumOfRow 8 = .ok (.invokevirtual 516, 3) := by decide +kernel
theorem dX9_sumOfRow_11 : decode cX9_sumOfRow 11 = .ok (.aload_n 0, 1) := by decide +kernel
theorem dX9_sumOfRow_12 : decode cX9_sumOfRow 12 = .ok (.invokevirtual 473, 3) := by decide +kernel
theorem dX9_sumOfRow_15 : decode cX9_sumOfRow 15 = .ok (.istore_n 3, 1) := by decide +kernel
theorem dX9_sumOfRow_16 : decode cX9_sumOfRow 16 = .ok (.lconst 0, 1) := by decide +kernel
theorem dX9_sumOfRow_17 : decode cX9_sumOfRow 17 = .ok (.lstore 4, 2) := by decide +kernel
theorem dX9_sumOfRow_19 : decode cX9_sumOfRow 19 = .ok (.iconst 0, 1) := by decide +kernel
theorem dX9_sumOfRow_20 : decode cX9_sumOfRow 20 = .ok (.istore 6, 2) := by decide +kernel
theorem dX9_sumOfRow_22 : decode cX9_sumOfRow 22 = .ok (.iload 6, 2) := by decide +kernel
theorem dX9_sumOfRow_24 : decode cX9_sumOfRow 24 = .ok (.iload_n 2, 1) := by decide +kernel
theorem dX9_sumOfRow_25 : decode cX9_sumOfRow 25 = .ok (.if_icmp .ge 77, 3) := by decide +kernel
theorem dX9_sumOfRow_28 : decode cX9_sumOfRow 28 = .ok (.iload_n 1, 1) := by decide +kernel
theorem dX9_sumOfRow_29 : decode cX9_sumOfRow 29 = .ok (.iload 6, 2) := by decide +kernel
theorem dX9_sumOfRow_31 : decode cX9_sumOfRow 31 = .ok (.iload_n 2, 1) := by decide +kernel
theorem dX9_sumOfRow_32 : decode cX9_sumOfRow 32 = .ok (.invokestatic 267, 3) := by decide +kernel
theorem dX9_sumOfRow_35 : decode cX9_sumOfRow 35 = .ok (.istore 7, 2) := by decide +kernel
theorem dX9_sumOfRow_37 : decode cX9_sumOfRow 37 = .ok (.iload 7, 2) := by decide +kernel
theorem dX9_sumOfRow_39 : decode cX9_sumOfRow 39 = .ok (.iload_n 3, 1) := by decide +kernel
theorem dX9_sumOfRow_40 : decode cX9_sumOfRow 40 = .ok (.if_icmp .ne 7, 3) := by decide +kernel
theorem dX9_sumOfRow_43 : decode cX9_sumOfRow 43 = .ok (.ldc2_w 520, 3) := by decide +kernel
theorem dX9_sumOfRow_46 : decode cX9_sumOfRow 46 = .ok (.lreturn, 1) := by decide +kernel
theorem dX9_sumOfRow_47 : decode cX9_sumOfRow 47 = .ok (.aload_n 0, 1) := by decide +kernel
theorem dX9_sumOfRow_48 : decode cX9_sumOfRow 48 = .ok (.aload_n 0, 1) := by decide +kernel
theorem dX9_sumOfRow_49 : decode cX9_sumOfRow 49 = .ok (.getfield 30, 3) := by decide +kernel
theorem dX9_sumOfRow_52 : decode cX9_sumOfRow 52 = .ok (.iload 7, 2) := by decide +kernel
theorem dX9_sumOfRow_54 : decode cX9_sumOfRow 54 = .ok (.aload_n 0, 1) := by decide +kernel
theorem dX9_sumOfRow_55 : decode cX9_sumOfRow 55 = .ok (.getfield 19, 3) := by decide +kernel
theorem dX9_sumOfRow_58 : decode cX9_sumOfRow 58 = .ok (.getfield 221, 3) := by decide +kernel
theorem dX9_sumOfRow_61 : decode cX9_sumOfRow 61 = .ok (.aload_n 0, 1) := by decide +kernel
theorem dX9_sumOfRow_62 : decode cX9_sumOfRow 62 = .ok (.getfield 19, 3) := by decide +kernel
theorem dX9_sumOfRow_65 : decode cX9_sumOfRow 65 = .ok (.getfield 224, 3) := by decide +kernel
theorem dX9_sumOfRow_68 : decode cX9_sumOfRow 68 = .ok (.aload_n 0, 1) := by decide +kernel
theorem dX9_sumOfRow_69 : decode cX9_sumOfRow 69 = .ok (.getfield 57, 3) := by decide +kernel
theorem dX9_sumOfRow_72 : decode cX9_sumOfRow 72 = .ok (.invokevirtual 131, 3) := by decide +kernel
theorem dX9_sumOfRow_75 : decode cX9_sumOfRow 75 = .ok (.iload 6, 2) := by decide +kernel
theorem dX9_sumOfRow_77 : decode cX9_sumOfRow 77 = .ok (.iadd, 1) := by decide +kernel
theorem dX9_sumOfRow_78 : decode cX9_sumOfRow 78 = .ok (.invokevirtual 493, 3) := by decide +kernel
theorem dX9_sumOfRow_81 : decode cX9_sumOfRow 81 = .ok (.lload 4, 2) := by decide +kernel
theorem dX9_sumOfRow_83 : decode cX9_sumOfRow 83 = .ok (.aload_n 0, 1) := by decide +kernel
theorem dX9_sumOfRow_84 : decode cX9_sumOfRow 84 = .ok (.getfield 30, 3) := by decide +kernel
theorem dX9_sumOfRow_87 : decode cX9_sumOfRow 87 = .ok (.invokevirtual 522, 3) := by decide +kernel
theorem dX9_sumOfRow_90 : decode cX9_sumOfRow 90 = .ok (.ladd, 1) := by decide +kernel
theorem dX9_sumOfRow_91 : decode cX9_sumOfRow 91 = .ok (.lstore 4, 2) := by decide +kernel
theorem dX9_sumOfRow_93 : decode cX9_sumOfRow 93 = .ok (.iload 7, 2) := by decide +kernel
theorem dX9_sumOfRow_95 : decode cX9_sumOfRow 95 = .ok (.istore_n 3, 1) := by decide +kernel
theorem dX9_sumOfRow_96 : decode cX9_sumOfRow 96 = .ok (.iinc 6 1, 3) := by decide +kernel
theorem dX9_sumOfRow_99 : decode cX9_sumOfRow 99 = .ok (.goto (-77), 3) := by decide +kernel
theorem dX9_sumOfRow_102 : decode cX9_sumOfRow 102 = .ok (.lload 4, 2) := by decide +kernel
theorem dX9_sumOfRow_104 : decode cX9_sumOfRow 104 = .ok (.lreturn, 1) := by decide +kernel
theorem dX9_turnOf_0 : decode cX9_turnOf 0 = .ok (.iload_n 0, 1) := by decide +kernel
theorem dX9_turnOf_1 : decode cX9_turnOf 1 = .ok (.iconst 3, 1) := by decide +kernel
theorem dX9_turnOf_2 : decode cX9_turnOf 2 = .ok (.iload_n 2, 1) := by decide +kernel
theorem dX9_turnOf_3 : decode cX9_turnOf 3 = .ok (.iconst 1, 1) := by decide +kernel
theorem dX9_turnOf_4 : decode cX9_turnOf 4 = .ok (.isub, 1) := by decide +kernel
theorem dX9_turnOf_5 : decode cX9_turnOf 5 = .ok (.iload_n 1, 1) := by decide +kernel
theorem dX9_turnOf_6 : decode cX9_turnOf 6 = .ok (.isub, 1) := by decide +kernel
theorem dX9_turnOf_7 : decode cX9_turnOf 7 = .ok (.imul, 1) := by decide +kernel
theorem dX9_turnOf_8 : decode cX9_turnOf 8 = .ok (.ishr, 1) := by decide +kernel
theorem dX9_turnOf_9 : decode cX9_turnOf 9 = .ok (.bipush 7, 2) := by decide +kernel
theorem dX9_turnOf_11 : decode cX9_turnOf 11 = .ok (.iand, 1) := by decide +kernel
theorem dX9_turnOf_12 : decode cX9_turnOf 12 = .ok (.ireturn, 1) := by decide +kernel
theorem dX9_tiltOf_0 : decode cX9_tiltOf 0 = .ok (.aload_n 0, 1) := by decide +kernel
theorem dX9_tiltOf_1 : decode cX9_tiltOf 1 = .ok (.aload_n 1, 1) := by decide +kernel
theorem dX9_tiltOf_2 : decode cX9_tiltOf 2 = .ok (.iconst 0, 1) := by decide +kernel
theorem dX9_tiltOf_3 : decode cX9_tiltOf 3 = .ok (.invokevirtual 315, 3) := by decide +kernel
theorem dX9_tiltOf_6 : decode cX9_tiltOf 6 = .ok (.aload_n 0, 1) := by decide +kernel
theorem dX9_tiltOf_7 : decode cX9_tiltOf 7 = .ok (.aload_n 1, 1) := by decide +kernel
theorem dX9_tiltOf_8 : decode cX9_tiltOf 8 = .ok (.iconst 1, 1) := by decide +kernel
theorem dX9_tiltOf_9 : decode cX9_tiltOf 9 = .ok (.invokevirtual 315, 3) := by decide +kernel
theorem dX9_tiltOf_12 : decode cX9_tiltOf 12 = .ok (.isub, 1) := by decide +kernel
theorem dX9_tiltOf_13 : decode cX9_tiltOf 13 = .ok (.invokestatic 526, 3) := by decide +kernel
theorem dX9_tiltOf_16 : decode cX9_tiltOf 16 = .ok (.ireturn, 1) := by decide +kernel
theorem dX9_settlement_0 : decode cX9_settlement 0 = .ok (.iload_n 2, 1) := by decide +kernel
theorem dX9_settlement_1 : decode cX9_settlement 1 = .ok (.ifCond .eq 10, 3) := by decide +kernel
theorem dX9_settlement_4 : decode cX9_settlement 4 = .ok (.aload_n 1, 1) := by decide +kernel
theorem dX9_settlement_5 : decode cX9_settlement 5 = .ok (.getfield 529, 3) := by decide +kernel
theorem dX9_settlement_8 : decode cX9_settlement 8 = .ok (.goto 7, 3) := by decide +kernel
theorem dX9_settlement_11 : decode cX9_settlement 11 = .ok (.aload_n 1, 1) := by decide +kernel
theorem dX9_settlement_12 : decode cX9_settlement 12 = .ok (.getfield 532, 3) := by decide +kernel
theorem dX9_settlement_15 : decode cX9_settlement 15 = .ok (.istore_n 3, 1) := by decide +kernel
theorem dX9_settlement_16 : decode cX9_settlement 16 = .ok (.iconst 0, 1) := by decide +kernel
theorem dX9_settlement_17 : decode cX9_settlement 17 = .ok (.istore 4, 2) := by decide +kernel
theorem dX9_settlement_19 : decode cX9_settlement 19 = .ok (.iconst 0, 1) := by decide +kernel
theorem dX9_settlement_20 : decode cX9_settlement 20 = .ok (.istore 5, 2) := by decide +kernel
theorem dX9_settlement_22 : decode cX9_settlement 22 = .ok (.iload 5, 2) := by decide +kernel
theorem dX9_settlement_24 : decode cX9_settlement 24 = .ok (.aload_n 0, 1) := by decide +kernel
theorem dX9_settlement_25 : decode cX9_settlement 25 = .ok (.getfield 57, 3) := by decide +kernel
theorem dX9_settlement_28 : decode cX9_settlement 28 = .ok (.invokevirtual 131, 3) := by decide +kernel
theorem dX9_settlement_31 : decode cX9_settlement 31 = .ok (.if_icmp .ge 40, 3) := by decide +kernel
theorem dX9_settlement_34 : decode cX9_settlement 34 = .ok (.iload 4, 2) := by decide +kernel
theorem dX9_settlement_36 : decode cX9_settlement 36 = .ok (.aload_n 0, 1) := by decide +kernel
theorem dX9_settlement_37 : decode cX9_settlement 37 = .ok (.iload 5, 2) := by decide +kernel
theorem dX9_settlement_39 : decode cX9_settlement 39 = .ok (.aload_n 0, 1) := by decide +kernel
theorem dX9_settlement_40 : decode cX9_settlement 40 = .ok (.getfield 57, 3) := by decide +kernel
theorem dX9_settlement_43 : decode cX9_settlement 43 = .ok (.iload 5, 2) := by decide +kernel
theorem dX9_settlement_45 : decode cX9_settlement 45 = .ok (.invokevirtual 275, 3) := by decide +kernel
theorem dX9_settlement_48 : decode cX9_settlement 48 = .ok (.checkcast 246, 3) := by decide +kernel
theorem dX9_settlement_51 : decode cX9_settlement 51 = .ok (.invokevirtual 299, 3) := by decide +kernel
theorem dX9_settlement_54 : decode cX9_settlement 54 = .ok (.iload_n 3, 1) := by decide +kernel
theorem dX9_settlement_55 : decode cX9_settlement 55 = .ok (.aload_n 1, 1) := by decide +kernel
theorem dX9_settlement_56 : decode cX9_settlement 56 = .ok (.getfield 535, 3) := by decide +kernel
theorem dX9_settlement_59 : decode cX9_settlement 59 = .ok (.invokevirtual 538, 3) := by decide +kernel
theorem dX9_settlement_62 : decode cX9_settlement 62 = .ok (.iadd, 1) := by decide +kernel
theorem dX9_settlement_63 : decode cX9_settlement 63 = .ok (.istore 4, 2) := by decide +kernel
theorem dX9_settlement_65 : decode cX9_settlement 65 = .ok (.iinc 5 1, 3) := by decide +kernel
theorem dX9_settlement_68 : decode cX9_settlement 68 = .ok (.goto (-46), 3) := by decide +kernel
theorem dX9_settlement_71 : decode cX9_settlement 71 = .ok (.iload 4, 2) := by decide +kernel
theorem dX9_settlement_73 : decode cX9_settlement 73 = .ok (.iload_n 2, 1) := by decide +kernel
theorem dX9_settlement_74 : decode cX9_settlement 74 = .ok (.ifCond .eq 10, 3) := by decide +kernel
theorem dX9_settlement_77 : decode cX9_settlement 77 = .ok (.aload_n 1, 1) := by decide +kernel
theorem dX9_settlement_78 : decode cX9_settlement 78 = .ok (.getfield 338, 3) := by decide +kernel
theorem dX9_settlement_81 : decode cX9_settlement 81 = .ok (.goto 7, 3) := by decide +kernel
theorem dX9_settlement_84 : decode cX9_settlement 84 = .ok (.aload_n 1, 1) := by decide +kernel
theorem dX9_settlement_85 : decode cX9_settlement 85 = .ok (.getfield 341, 3) := by decide +kernel
theorem dX9_settlement_88 : decode cX9_settlement 88 = .ok (.isub, 1) := by decide +kernel
theorem dX9_settlement_89 : decode cX9_settlement 89 = .ok (.ireturn, 1) := by decide +kernel
theorem dX9_sunkBy_0 : decode cX9_sunkBy 0 = .ok (.aload_n 0, 1) := by decide +kernel
theorem dX9_sunkBy_1 : decode cX9_sunkBy 1 = .ok (.getfield 10, 3) := by decide +kernel
theorem dX9_sunkBy_4 : decode cX9_sunkBy 4 = .ok (.getfield 75, 3) := by decide +kernel
theorem dX9_sunkBy_7 : decode cX9_sunkBy 7 = .ok (.iload_n 1, 1) := by decide +kernel
theorem dX9_sunkBy_8 : decode cX9_sunkBy 8 = .ok (.invokestatic 151, 3) := by decide +kernel
theorem dX9_sunkBy_11 : decode cX9_sunkBy 11 = .ok (.istore 5, 2) := by decide +kernel
theorem dX9_sunkBy_13 : decode cX9_sunkBy 13 = .ok (.iload_n 3, 1) := by decide +kernel
theorem dX9_sunkBy_14 : decode cX9_sunkBy 14 = .ok (.iload_n 1, 1) := by decide +kernel
theorem dX9_sunkBy_15 : decode cX9_sunkBy 15 = .ok (.isub, 1) := by decide +kernel
theorem dX9_sunkBy_16 : decode cX9_sunkBy 16 = .ok (.istore 6, 2) := by decide +kernel
theorem dX9_sunkBy_18 : decode cX9_sunkBy 18 = .ok (.bipush 10, 2) := by decide +kernel
theorem dX9_sunkBy_20 : decode cX9_sunkBy 20 = .ok (.iload 5, 2) := by decide +kernel
theorem dX9_sunkBy_22 : decode cX9_sunkBy 22 = .ok (.iload 5, 2) := by decide +kernel
theorem dX9_sunkBy_24 : decode cX9_sunkBy 24 = .ok (.imul, 1) := by decide +kernel
theorem dX9_sunkBy_25 : decode cX9_sunkBy 25 = .ok (.iload 6, 2) := by decide +kernel
theorem dX9_sunkBy_27 : decode cX9_sunkBy 27 = .ok (.iload 6, 2) := by decide +kernel
theorem dX9_sunkBy_29 : decode cX9_sunkBy 29 = .ok (.imul, 1) := by decide +kernel
theorem dX9_sunkBy_30 : decode cX9_sunkBy 30 = .ok (.iadd, 1) := by decide +kernel
theorem dX9_sunkBy_31 : decode cX9_sunkBy 31 = .ok (.iload 4, 2) := by decide +kernel
theorem dX9_sunkBy_33 : decode cX9_sunkBy 33 = .ok (.iload 4, 2) := by decide +kernel
theorem dX9_sunkBy_35 : decode cX9_sunkBy 35 = .ok (.imul, 1) := by decide +kernel
theorem dX9_sunkBy_36 : decode cX9_sunkBy 36 = .ok (.iadd, 1) := by decide +kernel
theorem dX9_sunkBy_37 : decode cX9_sunkBy 37 = .ok (.imul, 1) := by decide +kernel
theorem dX9_sunkBy_38 : decode cX9_sunkBy 38 = .ok (.istore 7, 2) := by decide +kernel
theorem dX9_sunkBy_40 : decode cX9_sunkBy 40 = .ok (.iload 7, 2) := by decide +kernel
theorem dX9_sunkBy_42 : decode cX9_sunkBy 42 = .ok (.ifCond .le 16, 3) := by decide +kernel
theorem dX9_sunkBy_45 : decode cX9_sunkBy 45 = .ok (.iload_n 2, 1) := by decide +kernel
theorem dX9_sunkBy_46 : decode cX9_sunkBy 46 = .ok (.iload 5, 2) := by decide +kernel
theorem dX9_sunkBy_48 : decode cX9_sunkBy 48 = .ok (.imul, 1) := by decide +kernel
theorem dX9_sunkBy_49 : decode cX9_sunkBy 49 = .ok (.iload 5, 2) := by decide +kernel
theorem dX9_sunkBy_51 : decode cX9_sunkBy 51 = .ok (.imul, 1) := by decide +kernel
theorem dX9_sunkBy_52 : decode cX9_sunkBy 52 = .ok (.iload 7, 2) := by decide +kernel
theorem dX9_sunkBy_54 : decode cX9_sunkBy 54 = .ok (.idiv, 1) := by decide +kernel
theorem dX9_sunkBy_55 : decode cX9_sunkBy 55 = .ok (.goto 4, 3) := by decide +kernel
theorem dX9_sunkBy_58 : decode cX9_sunkBy 58 = .ok (.iconst 0, 1) := by decide +kernel
theorem dX9_sunkBy_59 : decode cX9_sunkBy 59 = .ok (.ireturn, 1) := by decide +kernel
theorem dX9_isCourseSound_0 : decode cX9_isCourseSound 0 = .ok (.aload_n 0, 1) := by decide +kernel
theorem dX9_isCourseSound_1 : decode cX9_isCourseSound 1 = .ok (.getfield 30, 3) := by decide +kernel
theorem dX9_isCourseSound_4 : decode cX9_isCourseSound 4 = .ok (.invokevirtual 542, 3) := by decide +kernel
theorem dX9_isCourseSound_7 : decode cX9_isCourseSound 7 = .ok (.iconst 0, 1) := by decide +kernel
theorem dX9_isCourseSound_8 : decode cX9_isCourseSound 8 = .ok (.istore_n 1, 1) := by decide +kernel
theorem dX9_isCourseSound_9 : decode cX9_isCourseSound 9 = .ok (.iload_n 1, 1) := by decide +kernel
theorem dX9_isCourseSound_10 : decode cX9_isCourseSound 10 = .ok (.aload_n 0, 1) := by decide +kernel
theorem dX9_isCourseSound_11 : decode cX9_isCourseSound 11 = .ok (.getfield 57, 3) := by decide +kernel
theorem dX9_isCourseSound_14 : decode cX9_isCourseSound 14 = .ok (.invokevirtual 131, 3) := by decide +kernel
theorem dX9_isCourseSound_17 : decode cX9_isCourseSound 17 = .ok (.if_icmp .ge 72, 3) := by decide +kernel
theorem dX9_isCourseSound_20 : decode cX9_isCourseSound 20 = .ok (.aload_n 0, 1) := by decide +kernel
theorem dX9_isCourseSound_21 : decode cX9_isCourseSound 21 = .ok (.getfield 57, 3) := by decide +kernel
theorem dX9_isCourseSound_24 : decode cX9_isCourseSound 24 = .ok (.iload_n 1, 1) := by decide +kernel
theorem dX9_isCourseSound_25 : decode cX9_isCourseSound 25 = .ok (.invokevirtual 275, 3) := by decide +kernel
theorem dX9_isCourseSound_28 : decode cX9_isCourseSound 28 = .ok (.checkcast 246, 3) := by decide +kernel
theorem dX9_isCourseSound_31 : decode cX9_isCourseSound 31 = .ok (.astore_n 2, 1) := by decide +kernel
theorem dX9_isCourseSound_32 : decode cX9_isCourseSound 32 = .ok (.aload_n 0, 1) := by decide +kernel
theorem dX9_isCourseSound_33 : decode cX9_isCourseSound 33 = .ok (.aload_n 0, 1) := by decide +kernel
theorem dX9_isCourseSound_34 : decode cX9_isCourseSound 34 = .ok (.getfield 30, 3) := by decide +kernel
theorem dX9_isCourseSound_37 : decode cX9_isCourseSound 37 = .ok (.aload_n 2, 1) := by decide +kernel
theorem dX9_isCourseSound_38 : decode cX9_isCourseSound 38 = .ok (.getfield 259, 3) := by decide +kernel
theorem dX9_isCourseSound_41 : decode cX9_isCourseSound 41 = .ok (.aload_n 2, 1) := by decide +kernel
theorem dX9_isCourseSound_42 : decode cX9_isCourseSound 42 = .ok (.getfield 491, 3) := by decide +kernel
theorem dX9_isCourseSound_45 : decode cX9_isCourseSound 45 = .ok (.aload_n 2, 1) := by decide +kernel
theorem dX9_isCourseSound_46 : decode cX9_isCourseSound 46 = .ok (.getfield 492, 3) := by decide +kernel
theorem dX9_isCourseSound_49 : decode cX9_isCourseSound 49 = .ok (.iload_n 1, 1) := by decide +kernel
theorem dX9_isCourseSound_50 : decode cX9_isCourseSound 50 = .ok (.invokevirtual 493, 3) := by decide +kernel
theorem dX9_isCourseSound_53 : decode cX9_isCourseSound 53 = .ok (.aload_n 2, 1) := by decide +kernel
theorem dX9_isCourseSound_54 : decode cX9_isCourseSound 54 = .ok (.getfield 250, 3) := by decide +kernel
theorem dX9_isCourseSound_57 : decode cX9_isCourseSound 57 = .ok (.aload_n 0, 1) := by decide +kernel
theorem dX9_isCourseSound_58 : decode cX9_isCourseSound 58 = .ok (.getfield 30, 3) := by decide +kernel
theorem dX9_isCourseSound_61 : decode cX9_isCourseSound 61 = .ok (.getfield 497, 3) := by decide +kernel
theorem dX9_isCourseSound_64 : decode cX9_isCourseSound 64 = .ok (.if_icmp .ne 17, 3) := by decide +kernel
theorem dX9_isCourseSound_67 : decode cX9_isCourseSound 67 = .ok (.aload_n 2, 1) := by decide +kernel
theorem dX9_isCourseSound_68 : decode cX9_isCourseSound 68 = .ok (.getfield 245, 3) := by decide +kernel
theorem dX9_isCourseSound_71 : decode cX9_isCourseSound 71 = .ok (.aload_n 0, 1) := by decide +kernel
theorem dX9_isCourseSound_72 : decode cX9_isCourseSound 72 = .ok (.getfield 30, 3) := by decide +kernel
theorem dX9_isCourseSound_75 : decode cX9_isCourseSound 75 = .ok (.getfield 498, 3) := by decide +kernel
theorem dX9_isCourseSound_78 : decode cX9_isCourseSound 78 = .ok (.if_icmp .eq 5, 3) := by decide +kernel
theorem dX9_isCourseSound_81 : decode cX9_isCourseSound 81 = .ok (.iconst 0, 1) := by decide +kernel
theorem dX9_isCourseSound_82 : decode cX9_isCourseSound 82 = .ok (.ireturn, 1) := by decide +kernel
theorem dX9_isCourseSound_83 : decode cX9_isCourseSound 83 = .ok (.iinc 1 1, 3) := by decide +kernel
theorem dX9_isCourseSound_86 : decode cX9_isCourseSound 86 = .ok (.goto (-77), 3) := by decide +kernel
theorem dX9_isCourseSound_89 : decode cX9_isCourseSound 89 = .ok (.aload_n 0, 1) := by decide +kernel
theorem dX9_isCourseSound_90 : decode cX9_isCourseSound 90 = .ok (.getfield 30, 3) := by decide +kernel
theorem dX9_isCourseSound_93 : decode cX9_isCourseSound 93 = .ok (.aload_n 0, 1) := by decide +kernel
theorem dX9_isCourseSound_94 : decode cX9_isCourseSound 94 = .ok (.getfield 26, 3) := by decide +kernel
theorem dX9_isCourseSound_97 : decode cX9_isCourseSound 97 = .ok (.invokevirtual 545, 3) := by decide +kernel
theorem dX9_isCourseSound_100 : decode cX9_isCourseSound 100 = .ok (.ireturn, 1) := by decide +kernel
theorem dX9_isMuckSound_0 : decode cX9_isMuckSound 0 = .ok (.iconst 0, 1) := by decide +kernel
theorem dX9_isMuckSound_1 : decode cX9_isMuckSound 1 = .ok (.istore_n 1, 1) := by decide +kernel
theorem dX9_isMuckSound_2 : decode cX9_isMuckSound 2 = .ok (.iconst 0, 1) := by decide +kernel
theorem dX9_isMuckSound_3 : decode cX9_isMuckSound 3 = .ok (.istore_n 2, 1) := by decide +kernel
theorem dX9_isMuckSound_4 : decode cX9_isMuckSound 4 = .ok (.iload_n 2, 1) := by decide +kernel
theorem dX9_isMuckSound_5 : decode cX9_isMuckSound 5 = .ok (.aload_n 0, 1) := by decide +kernel
theorem dX9_isMuckSound_6 : decode cX9_isMuckSound 6 = .ok (.getfield 57, 3) := by decide +kernel
theorem dX9_isMuckSound_9 : decode cX9_isMuckSound 9 = .ok (.invokevirtual 131, 3) := by decide +kernel
theorem dX9_isMuckSound_12 : decode cX9_isMuckSound 12 = .ok (.if_icmp .ge 35, 3) := by decide +kernel
theorem dX9_isMuckSound_15 : decode cX9_isMuckSound 15 = .ok (.aload_n 0, 1) := by decide +kernel
theorem dX9_isMuckSound_16 : decode cX9_isMuckSound 16 = .ok (.getfield 57, 3) := by decide +kernel
theorem dX9_isMuckSound_19 : decode cX9_isMuckSound 19 = .ok (.iload_n 2, 1) := by decide +kernel
theorem dX9_isMuckSound_20 : decode cX9_isMuckSound 20 = .ok (.invokevirtual 275, 3) := by decide +kernel
theorem dX9_isMuckSound_23 : decode cX9_isMuckSound 23 = .ok (.checkcast 246, 3) := by decide +kernel
theorem dX9_isMuckSound_26 : decode cX9_isMuckSound 26 = .ok (.astore_n 3, 1) := by decide +kernel
theorem dX9_isMuckSound_27 : decode cX9_isMuckSound 27 = .ok (.iload_n 1, 1) := by decide +kernel
theorem dX9_isMuckSound_28 : decode cX9_isMuckSound 28 = .ok (.aload_n 3, 1) := by decide +kernel
theorem dX9_isMuckSound_29 : decode cX9_isMuckSound 29 = .ok (.getfield 417, 3) := by decide +kernel
theorem dX9_isMuckSound_32 : decode cX9_isMuckSound 32 = .ok (.aload_n 3, 1) := by decide +kernel
theorem dX9_isMuckSound_33 : decode cX9_isMuckSound 33 = .ok (.getfield 549, 3) := by decide +kernel
theorem dX9_isMuckSound_36 : decode cX9_isMuckSound 36 = .ok (.invokestatic 469, 3) := by decide +kernel
theorem dX9_isMuckSound_39 : decode cX9_isMuckSound 39 = .ok (.iadd, 1) := by decide +kernel
theorem dX9_isMuckSound_40 : decode cX9_isMuckSound 40 = .ok (.istore_n 1, 1) := by decide +kernel
theorem dX9_isMuckSound_41 : decode cX9_isMuckSound 41 = .ok (.iinc 2 1, 3) := by decide +kernel
theorem dX9_isMuckSound_44 : decode cX9_isMuckSound 44 = .ok (.goto (-40), 3) := by decide +kernel
theorem dX9_isMuckSound_47 : decode cX9_isMuckSound 47 = .ok (.iload_n 1, 1) := by decide +kernel
theorem dX9_isMuckSound_48 : decode cX9_isMuckSound 48 = .ok (.aload_n 0, 1) := by decide +kernel
theorem dX9_isMuckSound_49 : decode cX9_isMuckSound 49 = .ok (.getfield 36, 3) := by decide +kernel
theorem dX9_isMuckSound_52 : decode cX9_isMuckSound 52 = .ok (.getfield 354, 3) := by decide +kernel
theorem dX9_isMuckSound_55 : decode cX9_isMuckSound 55 = .ok (.aload_n 0, 1) := by decide +kernel
theorem dX9_isMuckSound_56 : decode cX9_isMuckSound 56 = .ok (.getfield 36, 3) := by decide +kernel
theorem dX9_isMuckSound_59 : decode cX9_isMuckSound 59 = .ok (.getfield 367, 3) := by decide +kernel
theorem dX9_isMuckSound_62 : decode cX9_isMuckSound 62 = .ok (.iadd, 1) := by decide +kernel
theorem dX9_isMuckSound_63 : decode cX9_isMuckSound 63 = .ok (.if_icmp .ne 7, 3) := by decide +kernel
theorem dX9_isMuckSound_66 : decode cX9_isMuckSound 66 = .ok (.iconst 1, 1) := by decide +kernel
theorem dX9_isMuckSound_67 : decode cX9_isMuckSound 67 = .ok (.goto 4, 3) := by decide +kernel
theorem dX9_isMuckSound_70 : decode cX9_isMuckSound 70 = .ok (.iconst 0, 1) := by decide +kernel
theorem dX9_isMuckSound_71 : decode cX9_isMuckSound 71 = .ok (.ireturn, 1) := by decide +kernel
theorem dX9_areEventsSound_0 : decode cX9_areEventsSound 0 = .ok (.iconst 0, 1) := by decide +kernel
theorem dX9_areEventsSound_1 : decode cX9_areEventsSound 1 = .ok (.istore_n 1, 1) := by decide +kernel
theorem dX9_areEventsSound_2 : decode cX9_areEventsSound 2 = .ok (.iload_n 1, 1) := by decide +kernel
theorem dX9_areEventsSound_3 : decode cX9_areEventsSound 3 = .ok (.aload_n 0, 1) := by decide +kernel
theorem dX9_areEventsSound_4 : decode cX9_areEventsSound 4 = .ok (.getfield 57, 3) := by decide +kernel
theorem dX9_areEventsSound_7 : decode cX9_areEventsSound 7 = .ok (.invokevirtual 131, 3) := by decide +kernel
theorem dX9_areEventsSound_10 : decode cX9_areEventsSound 10 = .ok (.if_icmp .ge 36, 3) := by decide +kernel
theorem dX9_areEventsSound_13 : decode cX9_areEventsSound 13 = .ok (.aload_n 0, 1) := by decide +kernel
theorem dX9_areEventsSound_14 : decode cX9_areEventsSound 14 = .ok (.getfield 57, 3) := by decide +kernel
theorem dX9_areEventsSound_17 : decode cX9_areEventsSound 17 = .ok (.iload_n 1, 1) := by decide +kernel
theorem dX9_areEventsSound_18 : decode cX9_areEventsSound 18 = .ok (.invokevirtual 275, 3) := by decide +kernel
theorem dX9_areEventsSound_21 : decode cX9_areEventsSound 21 = .ok (.checkcast 246, 3) := by decide +kernel
theorem dX9_areEventsSound_24 : decode cX9_areEventsSound 24 = .ok (.getfield 412, 3) := by decide +kernel
theorem dX9_areEventsSound_27 : decode cX9_areEventsSound 27 = .ok (.aload_n 0, 1) := by decide +kernel
theorem dX9_areEventsSound_28 : decode cX9_areEventsSound 28 = .ok (.getfield 10, 3) := by decide +kernel
theorem dX9_areEventsSound_31 : decode cX9_areEventsSound 31 = .ok (.iload_n 1, 1) := by decide +kernel
theorem dX9_areEventsSound_32 : decode cX9_areEventsSound 32 = .ok (.invokevirtual 502, 3) := by decide +kernel
theorem dX9_areEventsSound_35 : decode cX9_areEventsSound 35 = .ok (.if_icmp .eq 5, 3) := by decide +kernel
theorem dX9_areEventsSound_38 : decode cX9_areEventsSound 38 = .ok (.iconst 0, 1) := by decide +kernel
theorem dX9_areEventsSound_39 : decode cX9_areEventsSound 39 = .ok (.ireturn, 1) := by decide +kernel
theorem dX9_areEventsSound_40 : decode cX9_areEventsSound 40 = .ok (.iinc 1 1, 3) := by decide +kernel
theorem dX9_areEventsSound_43 : decode cX9_areEventsSound 43 = .ok (.goto (-41), 3) := by decide +kernel
theorem dX9_areEventsSound_46 : decode cX9_areEventsSound 46 = .ok (.iconst 1, 1) := by decide +kernel
theorem dX9_areEventsSound_47 : decode cX9_areEventsSound 47 = .ok (.ireturn, 1) := by decide +kernel
theorem dX9_areRingsSound_0 : decode cX9_areRingsSound 0 = .ok (.iconst (-1), 1) := by decide +kernel
theorem dX9_areRingsSound_1 : decode cX9_areRingsSound 1 = .ok (.istore_n 1, 1) := by decide +kernel
theorem dX9_areRingsSound_2 : decode cX9_areRingsSound 2 = .ok (.iconst 0, 1) := by decide +kernel
theorem dX9_areRingsSound_3 : decode cX9_areRingsSound 3 = .ok (.istore_n 2, 1) := by decide +kernel
theorem dX9_areRingsSound_4 : decode cX9_areRingsSound 4 = .ok (.iload_n 2, 1) := by decide +kernel
theorem dX9_areRingsSound_5 : decode cX9_areRingsSound 5 = .ok (.aload_n 0, 1) := by decide +kernel
theorem dX9_areRingsSound_6 : decode cX9_areRingsSound 6 = .ok (.getfield 57, 3) := by decide +kernel
theorem dX9_areRingsSound_9 : decode cX9_areRingsSound 9 = .ok (.invokevirtual 131, 3) := by decide +kernel
theorem dX9_areRingsSound_12 : decode cX9_areRingsSound 12 = .ok (.if_icmp .ge 43, 3) := by decide +kernel
theorem dX9_areRingsSound_15 : decode cX9_areRingsSound 15 = .ok (.aload_n 0, 1) := by decide +kernel
theorem dX9_areRingsSound_16 : decode cX9_areRingsSound 16 = .ok (.getfield 57, 3) := by decide +kernel
theorem dX9_areRingsSound_19 : decode cX9_areRingsSound 19 = .ok (.iload_n 2, 1) := by decide +kernel
theorem dX9_areRingsSound_20 : decode cX9_areRingsSound 20 = .ok (.invokevirtual 275, 3) := by decide +kernel
theorem dX9_areRingsSound_23 : decode cX9_areRingsSound 23 = .ok (.checkcast 246, 3) := by decide +kernel
theorem dX9_areRingsSound_26 : decode cX9_areRingsSound 26 = .ok (.astore_n 3, 1) := by decide +kernel
theorem dX9_areRingsSound_27 : decode cX9_areRingsSound 27 = .ok (.aload_n 3, 1) := by decide +kernel
theorem dX9_areRingsSound_28 : decode cX9_areRingsSound 28 = .ok (.getfield 259, 3) := by decide +kernel
theorem dX9_areRingsSound_31 : decode cX9_areRingsSound 31 = .ok (.iload_n 1, 1) := by decide +kernel
theorem dX9_areRingsSound_32 : decode cX9_areRingsSound 32 = .ok (.if_icmp .eq 10, 3) := by decide +kernel
theorem dX9_areRingsSound_35 : decode cX9_areRingsSound 35 = .ok (.aload_n 3, 1) := by decide +kernel
theorem dX9_areRingsSound_36 : decode cX9_areRingsSound 36 = .ok (.invokevirtual 285, 3) := by decide +kernel
theorem dX9_areRingsSound_39 : decode cX9_areRingsSound 39 = .ok (.ifCond .ge 5, 3) := by decide +kernel
theorem dX9_areRingsSound_42 : decode cX9_areRingsSound 42 = .ok (.iconst 0, 1) := by decide +kernel
theorem dX9_areRingsSound_43 : decode cX9_areRingsSound 43 = .ok (.ireturn, 1) := by decide +kernel
theorem dX9_areRingsSound_44 : decode cX9_areRingsSound 44 = .ok (.aload_n 3, 1) := by decide +kernel
theorem dX9_areRingsSound_45 : decode cX9_areRingsSound 45 = .ok (.getfield 259, 3) := by decide +kernel
theorem dX9_areRingsSound_48 : decode cX9_areRingsSound 48 = .ok (.istore_n 1, 1) := by decide +kernel
theorem dX9_areRingsSound_49 : decode cX9_areRingsSound 49 = .ok (.iinc 2 1, 3) := by decide +kernel
theorem dX9_areRingsSound_52 : decode cX9_areRingsSound 52 = .ok (.goto (-48), 3) := by decide +kernel
theorem dX9_areRingsSound_55 : decode cX9_areRingsSound 55 = .ok (.iconst 1, 1) := by decide +kernel
theorem dX9_areRingsSound_56 : decode cX9_areRingsSound 56 = .ok (.ireturn, 1) := by decide +kernel
theorem dX9_isClockSound_0 : decode cX9_isClockSound 0 = .ok (.aload_n 0, 1) := by decide +kernel
theorem dX9_isClockSound_1 : decode cX9_isClockSound 1 = .ok (.getfield 43, 3) := by decide +kernel
theorem dX9_isClockSound_4 : decode cX9_isClockSound 4 = .ok (.getfield 213, 3) := by decide +kernel
theorem dX9_isClockSound_7 : decode cX9_isClockSound 7 = .ok (.aload_n 0, 1) := by decide +kernel
theorem dX9_isClockSound_8 : decode cX9_isClockSound 8 = .ok (.invokevirtual 431, 3) := by decide +kernel
theorem dX9_isClockSound_11 : decode cX9_isClockSound 11 = .ok (.aload_n 0, 1) := by decide +kernel
theorem dX9_isClockSound_12 : decode cX9_isClockSound 12 = .ok (.getfield 50, 3) := by decide +kernel
theorem dX9_isClockSound_15 : decode cX9_isClockSound 15 = .ok (.invokevirtual 552, 3) := by decide +kernel
theorem dX9_isClockSound_18 : decode cX9_isClockSound 18 = .ok (.iadd, 1) := by decide +kernel
theorem dX9_isClockSound_19 : decode cX9_isClockSound 19 = .ok (.aload_n 0, 1) := by decide +kernel
theorem dX9_isClockSound_20 : decode cX9_isClockSound 20 = .ok (.getfield 43, 3) := by decide +kernel
theorem dX9_isClockSound_23 : decode cX9_isClockSound 23 = .ok (.invokevirtual 555, 3) := by decide +kernel
theorem dX9_isClockSound_26 : decode cX9_isClockSound 26 = .ok (.iadd, 1) := by decide +kernel
theorem dX9_isClockSound_27 : decode cX9_isClockSound 27 = .ok (.if_icmp .ne 7, 3) := by decide +kernel
theorem dX9_isClockSound_30 : decode cX9_isClockSound 30 = .ok (.iconst 1, 1) := by decide +kernel
theorem dX9_isClockSound_31 : decode cX9_isClockSound 31 = .ok (.goto 4, 3) := by decide +kernel
theorem dX9_isClockSound_34 : decode cX9_isClockSound 34 = .ok (.iconst 0, 1) := by decide +kernel
theorem dX9_isClockSound_35 : decode cX9_isClockSound 35 = .ok (.ireturn, 1) := by decide +kernel
theorem dX9_minutesOfRings_0 : decode cX9_minutesOfRings 0 = .ok (.iconst 0, 1) := by decide +kernel
theorem dX9_minutesOfRings_1 : decode cX9_minutesOfRings 1 = .ok (.istore_n 1, 1) := by decide +kernel
theorem dX9_minutesOfRings_2 : decode cX9_minutesOfRings 2 = .ok (.iconst 0, 1) := by decide +kernel
theorem dX9_minutesOfRings_3 : decode cX9_minutesOfRings 3 = .ok (.istore_n 2, 1) := by decide +kernel
theorem dX9_minutesOfRings_4 : decode cX9_minutesOfRings 4 = .ok (.iload_n 2, 1) := by decide +kernel
theorem dX9_minutesOfRings_5 : decode cX9_minutesOfRings 5 = .ok (.aload_n 0, 1) := by decide +kernel
theorem dX9_minutesOfRings_6 : decode cX9_minutesOfRings 6 = .ok (.getfield 57, 3) := by decide +kernel
theorem dX9_minutesOfRings_9 : decode cX9_minutesOfRings 9 = .ok (.invokevirtual 131, 3) := by decide +kernel
theorem dX9_minutesOfRings_12 : decode cX9_minutesOfRings 12 = .ok (.if_icmp .ge 26, 3) := by decide +kernel
theorem dX9_minutesOfRings_15 : decode cX9_minutesOfRings 15 = .ok (.iload_n 1, 1) := by decide +kernel
theorem dX9_minutesOfRings_16 : decode cX9_minutesOfRings 16 = .ok (.aload_n 0, 1) := by decide +kernel
theorem dX9_minutesOfRings_17 : decode cX9_minutesOfRings 17 = .ok (.getfield 57, 3) := by decide +kernel
theorem dX9_minutesOfRings_20 : decode cX9_minutesOfRings 20 = .ok (.iload_n 2, 1) := by decide +kernel
theorem dX9_minutesOfRings_21 : decode cX9_minutesOfRings 21 = .ok (.invokevirtual 275, 3) := by decide +kernel
theorem dX9_minutesOfRings_24 : decode cX9_minutesOfRings 24 = .ok (.checkcast 246, 3) := by decide +kernel
theorem dX9_minutesOfRings_27 : decode cX9_minutesOfRings 27 = .ok (.getfield 499, 3) := by decide +kernel
theorem dX9_minutesOfRings_30 : decode cX9_minutesOfRings 30 = .ok (.iadd, 1) := by decide +kernel
theorem dX9_minutesOfRings_31 : decode cX9_minutesOfRings 31 = .ok (.istore_n 1, 1) := by decide +kernel
theorem dX9_minutesOfRings_32 : decode cX9_minutesOfRings 32 = .ok (.iinc 2 1, 3) := by decide +kernel
theorem dX9_minutesOfRings_35 : decode cX9_minutesOfRings 35 = .ok (.goto (-31), 3) := by decide +kernel
theorem dX9_minutesOfRings_38 : decode cX9_minutesOfRings 38 = .ok (.iload_n 1, 1) := by decide +kernel
theorem dX9_minutesOfRings_39 : decode cX9_minutesOfRings 39 = .ok (.ireturn, 1) := by decide +kernel
theorem dX10_init_0 : decode cX10_init 0 = .ok (.aload_n 0, 1) := by decide +kernel
theorem dX10_init_1 : decode cX10_init 1 = .ok (.invokespecial 3, 3) := by decide +kernel
theorem dX10_init_4 : decode cX10_init 4 = .ok (.aload_n 0, 1) := by decide +kernel
theorem dX10_init_5 : decode cX10_init 5 = .ok (.iconst (-1), 1) := by decide +kernel
theorem dX10_init_6 : decode cX10_init 6 = .ok (.putfield 9, 3) := by decide +kernel
theorem dX10_init_9 : decode cX10_init 9 = .ok (.return_, 1) := by decide +kernel
theorem dX11_thrown_0 : decode cX11_thrown 0 = .ok (.aload_n 0, 1) := by decide +kernel
theorem dX11_thrown_1 : decode cX11_thrown 1 = .ok (.getfield 1, 3) := by decide +kernel
theorem dX11_thrown_4 : decode cX11_thrown 4 = .ok (.ireturn, 1) := by decide +kernel
theorem dX11_in_0 : decode cX11_in 0 = .ok (.lload_n 0, 1) := by decide +kernel
theorem dX11_in_1 : decode cX11_in 1 = .ok (.lload_n 2, 1) := by decide +kernel
theorem dX11_in_2 : decode cX11_in 2 = .ok (.lcmp, 1) := by decide +kernel
theorem dX11_in_3 : decode cX11_in 3 = .ok (.ifCond .lt 14, 3) := by decide +kernel
theorem dX11_in_6 : decode cX11_in 6 = .ok (.lload_n 0, 1) := by decide +kernel
theorem dX11_in_7 : decode cX11_in 7 = .ok (.lload 4, 2) := by decide +kernel
theorem dX11_in_9 : decode cX11_in 9 = .ok (.lcmp, 1) := by decide +kernel
theorem dX11_in_10 : decode cX11_in 10 = .ok (.ifCond .gt 7, 3) := by decide +kernel
theorem dX11_in_13 : decode cX11_in 13 = .ok (.iconst 1, 1) := by decide +kernel
theorem dX11_in_14 : decode cX11_in 14 = .ok (.goto 4, 3) := by decide +kernel
theorem dX11_in_17 : decode cX11_in 17 = .ok (.iconst 0, 1) := by decide +kernel
theorem dX11_in_18 : decode cX11_in 18 = .ok (.ireturn, 1) := by decide +kernel
theorem dX11_isOf_0 : decode cX11_isOf 0 = .ok (.iload_n 1, 1) := by decide +kernel
theorem dX11_isOf_1 : decode cX11_isOf 1 = .ok (.i2l, 1) := by decide +kernel
theorem dX11_isOf_2 : decode cX11_isOf 2 = .ok (.lconst 0, 1) := by decide +kernel
theorem dX11_isOf_3 : decode cX11_isOf 3 = .ok (.aload_n 0, 1) := by decide +kernel
theorem dX11_isOf_4 : decode cX11_isOf 4 = .ok (.invokeinterface 7 1, 5) := by decide +kernel
theorem dX11_isOf_9 : decode cX11_isOf 9 = .ok (.iconst 1, 1) := by decide +kernel
theorem dX11_isOf_10 : decode cX11_isOf 10 = .ok (.isub, 1) := by decide +kernel
theorem dX11_isOf_11 : decode cX11_isOf 11 = .ok (.i2l, 1) := by decide +kernel
theorem dX11_isOf_12 : decode cX11_isOf 12 = .ok (.invokestatic 13, 3) := by decide +kernel
theorem dX11_isOf_15 : decode cX11_isOf 15 = .ok (.ireturn, 1) := by decide +kernel
theorem dX11_fails_0 : decode cX11_fails 0 = .ok (.aload_n 0, 1) := by decide +kernel
theorem dX11_fails_1 : decode cX11_fails 1 = .ok (.getfield 1, 3) := by decide +kernel
theorem dX11_fails_4 : decode cX11_fails 4 = .ok (.ifCond .ne 12, 3) := by decide +kernel
theorem dX11_fails_7 : decode cX11_fails 7 = .ok (.iload_n 1, 1) := by decide +kernel
theorem dX11_fails_8 : decode cX11_fails 8 = .ok (.ifCond .eq 8, 3) := by decide +kernel
theorem dX11_fails_11 : decode cX11_fails 11 = .ok (.aload_n 0, 1) := by decide +kernel
theorem dX11_fails_12 : decode cX11_fails 12 = .ok (.iload_n 2, 1) := by decide +kernel
theorem dX11_fails_13 : decode cX11_fails 13 = .ok (.putfield 1, 3) := by decide +kernel
theorem dX11_fails_16 : decode cX11_fails 16 = .ok (.aload_n 0, 1) := by decide +kernel
theorem dX11_fails_17 : decode cX11_fails 17 = .ok (.getfield 1, 3) := by decide +kernel
theorem dX11_fails_20 : decode cX11_fails 20 = .ok (.ifCond .le 7, 3) := by decide +kernel
theorem dX11_fails_23 : decode cX11_fails 23 = .ok (.iconst 1, 1) := by decide +kernel
theorem dX11_fails_24 : decode cX11_fails 24 = .ok (.goto 4, 3) := by decide +kernel
theorem dX11_fails_27 : decode cX11_fails 27 = .ok (.iconst 0, 1) := by decide +kernel
theorem dX11_fails_28 : decode cX11_fails 28 = .ok (.ireturn, 1) := by decide +kernel
theorem dX11_begins_0 : decode cX11_begins 0 = .ok (.aload_n 0, 1) := by decide +kernel
theorem dX11_begins_1 : decode cX11_begins 1 = .ok (.iconst 0, 1) := by decide +kernel
theorem dX11_begins_2 : decode cX11_begins 2 = .ok (.putfield 1, 3) := by decide +kernel
theorem dX11_begins_5 : decode cX11_begins 5 = .ok (.return_, 1) := by decide +kernel
theorem dX11_init_0 : decode cX11_init 0 = .ok (.aload_n 0, 1) := by decide +kernel
theorem dX11_init_1 : decode cX11_init 1 = .ok (.invokespecial 17, 3) := by decide +kernel
theorem dX11_init_4 : decode cX11_init 4 = .ok (.aload_n 0, 1) := by decide +kernel
theorem dX11_init_5 : decode cX11_init 5 = .ok (.sipush 200, 3) := by decide +kernel
theorem dX11_init_8 : decode cX11_init 8 = .ok (.newarray .int, 2) := by decide +kernel
theorem dX11_init_10 : decode cX11_init 10 = .ok (.putfield 23, 3) := by decide +kernel
theorem dX11_init_13 : decode cX11_init 13 = .ok (.aload_n 0, 1) := by decide +kernel
theorem dX11_init_14 : decode cX11_init 14 = .ok (.sipush 200, 3) := by decide +kernel
theorem dX11_init_17 : decode cX11_init 17 = .ok (.newarray .int, 2) := by decide +kernel
theorem dX11_init_19 : decode cX11_init 19 = .ok (.putfield 27, 3) := by decide +kernel
theorem dX11_init_22 : decode cX11_init 22 = .ok (.aload_n 0, 1) := by decide +kernel
theorem dX11_init_23 : decode cX11_init 23 = .ok (.sipush 200, 3) := by decide +kernel
theorem dX11_init_26 : decode cX11_init 26 = .ok (.newarray .int, 2) := by decide +kernel
theorem dX11_init_28 : decode cX11_init 28 = .ok (.putfield 30, 3) := by decide +kernel
theorem dX11_init_31 : decode cX11_init 31 = .ok (.aload_n 0, 1) := by decide +kernel
theorem dX11_init_32 : decode cX11_init 32 = .ok (.sipush 200, 3) := by decide +kernel
theorem dX11_init_35 : decode cX11_init 35 = .ok (.newarray .int, 2) := by decide +kernel
theorem dX11_init_37 : decode cX11_init 37 = .ok (.putfield 33, 3) := by decide +kernel
theorem dX11_init_40 : decode cX11_init 40 = .ok (.aload_n 0, 1) := by decide +kernel
theorem dX11_init_41 : decode cX11_init 41 = .ok (.sipush 200, 3) := by decide +kernel
theorem dX11_init_44 : decode cX11_init 44 = .ok (.newarray .int, 2) := by decide +kernel
theorem dX11_init_46 : decode cX11_init 46 = .ok (.putfield 36, 3) := by decide +kernel
theorem dX11_init_49 : decode cX11_init 49 = .ok (.aload_n 0, 1) := by decide +kernel
theorem dX11_init_50 : decode cX11_init 50 = .ok (.sipush 200, 3) := by decide +kernel
theorem dX11_init_53 : decode cX11_init 53 = .ok (.newarray .int, 2) := by decide +kernel
theorem dX11_init_55 : decode cX11_init 55 = .ok (.putfield 39, 3) := by decide +kernel
theorem dX11_init_58 : decode cX11_init 58 = .ok (.aload_n 0, 1) := by decide +kernel
theorem dX11_init_59 : decode cX11_init 59 = .ok (.new 42, 3) := by decide +kernel
theorem dX11_init_62 : decode cX11_init 62 = .ok (.dup, 1) := by decide +kernel
theorem dX11_init_63 : decode cX11_init 63 = .ok (.invokespecial 44, 3) := by decide +kernel
theorem dX11_init_66 : decode cX11_init 66 = .ok (.putfield 45, 3) := by decide +kernel
theorem dX11_init_69 : decode cX11_init 69 = .ok (.aload_n 0, 1) := by decide +kernel
theorem dX11_init_70 : decode cX11_init 70 = .ok (.new 42, 3) := by decide +kernel
theorem dX11_init_73 : decode cX11_init 73 = .ok (.dup, 1) := by decide +kernel
theorem dX11_init_74 : decode cX11_init 74 = .ok (.invokespecial 44, 3) := by decide +kernel
theorem dX11_init_77 : decode cX11_init 77 = .ok (.putfield 49, 3) := by decide +kernel
theorem dX11_init_80 : decode cX11_init 80 = .ok (.aload_n 0, 1) := by decide +kernel
theorem dX11_init_81 : decode cX11_init 81 = .ok (.bipush 8, 2) := by decide +kernel
theorem dX11_init_83 : decode cX11_init 83 = .ok (.newarray .int, 2) := by decide +kernel
theorem dX11_init_85 : decode cX11_init 85 = .ok (.putfield 52, 3) := by decide +kernel
theorem dX11_init_88 : decode cX11_init 88 = .ok (.aload_n 0, 1) := by decide +kernel
theorem dX11_init_89 : decode cX11_init 89 = .ok (.new 42, 3) := by decide +kernel
theorem dX11_init_92 : decode cX11_init 92 = .ok (.dup, 1) := by decide +kernel
theorem dX11_init_93 : decode cX11_init 93 = .ok (.invokespecial 44, 3) := by decide +kernel
theorem dX11_init_96 : decode cX11_init 96 = .ok (.putfield 55, 3) := by decide +kernel
theorem dX11_init_99 : decode cX11_init 99 = .ok (.aload_n 0, 1) := by decide +kernel
theorem dX11_init_100 : decode cX11_init 100 = .ok (.ldc 58, 2) := by decide +kernel
theorem dX11_init_102 : decode cX11_init 102 = .ok (.putfield 60, 3) := by decide +kernel
theorem dX11_init_105 : decode cX11_init 105 = .ok (.aload_n 0, 1) := by decide +kernel
theorem dX11_init_106 : decode cX11_init 106 = .ok (.iconst 3, 1) := by decide +kernel
theorem dX11_init_107 : decode cX11_init 107 = .ok (.newarray .int, 2) := by decide +kernel
theorem dX11_init_109 : decode cX11_init 109 = .ok (.putfield 64, 3) := by decide +kernel
theorem dX11_init_112 : decode cX11_init 112 = .ok (.iconst 0, 1) := by decide +kernel
theorem dX11_init_113 : decode cX11_init 113 = .ok (.istore_n 1, 1) := by decide +kernel
theorem dX11_init_114 : decode cX11_init 114 = .ok (.iload_n 1, 1) := by decide +kernel
theorem dX11_init_115 : decode cX11_init 115 = .ok (.sipush 200, 3) := by decide +kernel
theorem dX11_init_118 : decode cX11_init 118 = .ok (.if_icmp .ge 17, 3) := by decide +kernel
theorem dX11_init_121 : decode cX11_init 121 = .ok (.aload_n 0, 1) := by decide +kernel
theorem dX11_init_122 : decode cX11_init 122 = .ok (.getfield 30, 3) := by decide +kernel
theorem dX11_init_125 : decode cX11_init 125 = .ok (.iload_n 1, 1) := by decide +kernel
theorem dX11_init_126 : decode cX11_init 126 = .ok (.bipush 20, 2) := by decide +kernel
theorem dX11_init_128 : decode cX11_init 128 = .ok (.iastore, 1) := by decide +kernel
theorem dX11_init_129 : decode cX11_init 129 = .ok (.iinc 1 1, 3) := by decide +kernel
theorem dX11_init_132 : decode cX11_init 132 = .ok (.goto (-18), 3) := by decide +kernel
theorem dX11_init_135 : decode cX11_init 135 = .ok (.return_, 1) := by decide +kernel
theorem dX11_isPlace_0 : decode cX11_isPlace 0 = .ok (.iload_n 0, 1) := by decide +kernel
theorem dX11_isPlace_1 : decode cX11_isPlace 1 = .ok (.i2l, 1) := by decide +kernel
theorem dX11_isPlace_2 : decode cX11_isPlace 2 = .ok (.lconst 0, 1) := by decide +kernel
theorem dX11_isPlace_3 : decode cX11_isPlace 3 = .ok (.ldc2_w 67, 3) := by decide +kernel
theorem dX11_isPlace_6 : decode cX11_isPlace 6 = .ok (.invokestatic 13, 3) := by decide +kernel
theorem dX11_isPlace_9 : decode cX11_isPlace 9 = .ok (.ireturn, 1) := by decide +kernel
theorem dX11_noStretch_0 : decode cX11_noStretch 0 = .ok (.aload_n 0, 1) := by decide +kernel
theorem dX11_noStretch_1 : decode cX11_noStretch 1 = .ok (.iload_n 1, 1) := by decide +kernel
theorem dX11_noStretch_2 : decode cX11_noStretch 2 = .ok (.invokestatic 69, 3) := by decide +kernel
theorem dX11_noStretch_5 : decode cX11_noStretch 5 = .ok (.ifCond .eq 19, 3) := by decide +kernel
theorem dX11_noStretch_8 : decode cX11_noStretch 8 = .ok (.iload_n 2, 1) := by decide +kernel
theorem dX11_noStretch_9 : decode cX11_noStretch 9 = .ok (.invokestatic 69, 3) := by decide +kernel
theorem dX11_noStretch_12 : decode cX11_noStretch 12 = .ok (.ifCond .eq 12, 3) := by decide +kernel
theorem dX11_noStretch_15 : decode cX11_noStretch 15 = .ok (.iload_n 2, 1) := by decide +kernel
theorem dX11_noStretch_16 : decode cX11_noStretch 16 = .ok (.iload_n 1, 1) := by decide +kernel
theorem dX11_noStretch_17 : decode cX11_noStretch 17 = .ok (.if_icmp .lt 7, 3) := by decide +kernel
theorem dX11_noStretch_20 : decode cX11_noStretch 20 = .ok (.iload_n 3, 1) := by decide +kernel
theorem dX11_noStretch_21 : decode cX11_noStretch 21 = .ok (.ifCond .ne 7, 3) := by decide +kernel
theorem dX11_noStretch_24 : decode cX11_noStretch 24 = .ok (.iconst 1, 1) := by decide +kernel
theorem dX11_noStretch_25 : decode cX11_noStretch 25 = .ok (.goto 4, 3) := by decide +kernel
theorem dX11_noStretch_28 : decode cX11_noStretch 28 = .ok (.iconst 0, 1) := by decide +kernel
theorem dX11_noStretch_29 : decode cX11_noStretch 29 = .ok (.iconst 1, 1) := by decide +kernel
theorem dX11_noStretch_30 : decode cX11_noStretch 30 = .ok (.invokevirtual 73, 3) := by decide +kernel
theorem dX11_noStretch_33 : decode cX11_noStretch 33 = .ok (.ifCond .ne 29, 3) := by decide +kernel
theorem dX11_noStretch_36 : decode cX11_noStretch 36 = .ok (.aload_n 0, 1) := by decide +kernel
theorem dX11_noStretch_37 : decode cX11_noStretch 37 = .ok (.iload_n 1, 1) := by decide +kernel
theorem dX11_noStretch_38 : decode cX11_noStretch 38 = .ok (.aload_n 0, 1) := by decide +kernel
theorem dX11_noStretch_39 : decode cX11_noStretch 39 = .ok (.getfield 49, 3) := by decide +kernel
theorem dX11_noStretch_42 : decode cX11_noStretch 42 = .ok (.invokeinterface 7 1, 5) := by decide +kernel
theorem dX11_noStretch_47 : decode cX11_noStretch 47 = .ok (.if_icmp .ge 7, 3) := by decide +kernel
theorem dX11_noStretch_50 : decode cX11_noStretch 50 = .ok (.iconst 1, 1) := by decide +kernel
theorem dX11_noStretch_51 : decode cX11_noStretch 51 = .ok (.goto 4, 3) := by decide +kernel
theorem dX11_noStretch_54 : decode cX11_noStretch 54 = .ok (.iconst 0, 1) := by decide +kernel
theorem dX11_noStretch_55 : decode cX11_noStretch 55 = .ok (.iconst 2, 1) := by decide +kernel
theorem dX11_noStretch_56 : decode cX11_noStretch 56 = .ok (.invokevirtual 73, 3) := by decide +kernel
theorem dX11_noStretch_59 : decode cX11_noStretch 59 = .ok (.ifCond .eq 7, 3) := by decide +kernel
theorem dX11_noStretch_62 : decode cX11_noStretch 62 = .ok (.iconst 1, 1) := by decide +kernel
theorem dX11_noStretch_63 : decode cX11_noStretch 63 = .ok (.goto 4, 3) := by decide +kernel
theorem dX11_noStretch_66 : decode cX11_noStretch 66 = .ok (.iconst 0, 1) := by decide +kernel
theorem dX11_noStretch_67 : decode cX11_noStretch 67 = .ok (.ireturn, 1) := by decide +kernel
theorem dX11_tell_0 : decode cX11_tell 0 = .ok (.aload_n 0, 1) := by decide +kernel
theorem dX11_tell_1 : decode cX11_tell 1 = .ok (.invokevirtual 77, 3) := by decide +kernel
theorem dX11_tell_4 : decode cX11_tell 4 = .ok (.ldc 80, 2) := by decide +kernel
theorem dX11_tell_6 : decode cX11_tell 6 = .ok (.iload 4, 2) := by decide +kernel
theorem dX11_tell_8 : decode cX11_tell 8 = .ok (.invokevirtual 82, 3) := by decide +kernel
theorem dX11_tell_11 : decode cX11_tell 11 = .ok (.istore 5, 2) := by decide +kernel
theorem dX11_tell_13 : decode cX11_tell 13 = .ok (.aload_n 0, 1) := by decide +kernel
theorem dX11_tell_14 : decode cX11_tell 14 = .ok (.iload_n 2, 1) := by decide +kernel
theorem dX11_tell_15 : decode cX11_tell 15 = .ok (.iload_n 3, 1) := by decide +kernel
theorem dX11_tell_16 : decode cX11_tell 16 = .ok (.iload 5, 2) := by decide +kernel
theorem dX11_tell_18 : decode cX11_tell 18 = .ok (.ifCond .lt 7, 3) := by decide +kernel
theorem dX11_tell_21 : decode cX11_tell 21 = .ok (.iconst 1, 1) := by decide +kernel
theorem dX11_tell_22 : decode cX11_tell 22 = .ok (.goto 4, 3) := by decide +kernel
theorem dX11_tell_25 : decode cX11_tell 25 = .ok (.iconst 0, 1) := by decide +kernel
theorem dX11_tell_26 : decode cX11_tell 26 = .ok (.invokevirtual 88, 3) := by decide +kernel
theorem dX11_tell_29 : decode cX11_tell 29 = .ok (.ifCond .eq 5, 3) := by decide +kernel
theorem dX11_tell_32 : decode cX11_tell 32 = .ok (.iconst (-1), 1) := by decide +kernel
theorem dX11_tell_33 : decode cX11_tell 33 = .ok (.ireturn, 1) := by decide +kernel
theorem dX11_tell_34 : decode cX11_tell 34 = .ok (.iconst 0, 1) := by decide +kernel
theorem dX11_tell_35 : decode cX11_tell 35 = .ok (.istore 6, 2) := by decide +kernel
theorem dX11_tell_37 : decode cX11_tell 37 = .ok (.iload_n 2, 1) := by decide +kernel
theorem dX11_tell_38 : decode cX11_tell 38 = .ok (.istore 7, 2) := by decide +kernel
theorem dX11_tell_40 : decode cX11_tell 40 = .ok (.iload 7, 2) := by decide +kernel
theorem dX11_tell_42 : decode cX11_tell 42 = .ok (.iload_n 3, 1) := by decide +kernel
theorem dX11_tell_43 : decode cX11_tell 43 = .ok (.if_icmp .gt 34, 3) := by decide +kernel
theorem dX11_tell_46 : decode cX11_tell 46 = .ok (.iload 6, 2) := by decide +kernel
theorem dX11_tell_48 : decode cX11_tell 48 = .ok (.aload_n 1, 1) := by decide +kernel
theorem dX11_tell_49 : decode cX11_tell 49 = .ok (.iload 7, 2) := by decide +kernel
theorem dX11_tell_51 : decode cX11_tell 51 = .ok (.iaload, 1) := by decide +kernel
theorem dX11_tell_52 : decode cX11_tell 52 = .ok (.iload 5, 2) := by decide +kernel
theorem dX11_tell_54 : decode cX11_tell 54 = .ok (.if_icmp .eq 7, 3) := by decide +kernel
theorem dX11_tell_57 : decode cX11_tell 57 = .ok (.iconst 1, 1) := by decide +kernel
theorem dX11_tell_58 : decode cX11_tell 58 = .ok (.goto 4, 3) := by decide +kernel
theorem dX11_tell_61 : decode cX11_tell 61 = .ok (.iconst 0, 1) := by decide +kernel
theorem dX11_tell_62 : decode cX11_tell 62 = .ok (.iadd, 1) := by decide +kernel
theorem dX11_tell_63 : decode cX11_tell 63 = .ok (.istore 6, 2) := by decide +kernel
theorem dX11_tell_65 : decode cX11_tell 65 = .ok (.aload_n 1, 1) := by decide +kernel
theorem dX11_tell_66 : decode cX11_tell 66 = .ok (.iload 7, 2) := by decide +kernel
theorem dX11_tell_68 : decode cX11_tell 68 = .ok (.iload 5, 2) := by decide +kernel
theorem dX11_tell_70 : decode cX11_tell 70 = .ok (.iastore, 1) := by decide +kernel
theorem dX11_tell_71 : decode cX11_tell 71 = .ok (.iinc 7 1, 3) := by decide +kernel
theorem dX11_tell_74 : decode cX11_tell 74 = .ok (.goto (-34), 3) := by decide +kernel
theorem dX11_tell_77 : decode cX11_tell 77 = .ok (.iload 6, 2) := by decide +kernel
theorem dX11_tell_79 : decode cX11_tell 79 = .ok (.ireturn, 1) := by decide +kernel
theorem dX11_ground_0 : decode cX11_ground 0 = .ok (.aload_n 0, 1) := by decide +kernel
theorem dX11_ground_1 : decode cX11_ground 1 = .ok (.aload_n 0, 1) := by decide +kernel
theorem dX11_ground_2 : decode cX11_ground 2 = .ok (.getfield 23, 3) := by decide +kernel
theorem dX11_ground_5 : decode cX11_ground 5 = .ok (.iload_n 1, 1) := by decide +kernel
theorem dX11_ground_6 : decode cX11_ground 6 = .ok (.iload_n 2, 1) := by decide +kernel
theorem dX11_ground_7 : decode cX11_ground 7 = .ok (.iload_n 3, 1) := by decide +kernel
theorem dX11_ground_8 : decode cX11_ground 8 = .ok (.invokevirtual 92, 3) := by decide +kernel
theorem dX11_ground_11 : decode cX11_ground 11 = .ok (.ireturn, 1) := by decide +kernel
theorem dX11_reference_0 : decode cX11_reference 0 = .ok (.aload_n 0, 1) := by decide +kernel
theorem dX11_reference_1 : decode cX11_reference 1 = .ok (.aload_n 0, 1) := by decide +kernel
theorem dX11_reference_2 : decode cX11_reference 2 = .ok (.getfield 27, 3) := by decide +kernel
theorem dX11_reference_5 : decode cX11_reference 5 = .ok (.iload_n 1, 1) := by decide +kernel
theorem dX11_reference_6 : decode cX11_reference 6 = .ok (.iload_n 2, 1) := by decide +kernel
theorem dX11_reference_7 : decode cX11_reference 7 = .ok (.iload_n 3, 1) := by decide +kernel
theorem dX11_reference_8 : decode cX11_reference 8 = .ok (.invokevirtual 92, 3) := by decide +kernel
theorem dX11_reference_11 : decode cX11_reference 11 = .ok (.ireturn, 1) := by decide +kernel
theorem dX11_lay_0 : decode cX11_lay 0 = .ok (.aload_n 0, 1) := by decide +kernel
theorem dX11_lay_1 : decode cX11_lay 1 = .ok (.invokevirtual 77, 3) := by decide +kernel
theorem dX11_lay_4 : decode cX11_lay 4 = .ok (.aload_n 0, 1) := by decide +kernel
theorem dX11_lay_5 : decode cX11_lay 5 = .ok (.iload_n 2, 1) := by decide +kernel
theorem dX11_lay_6 : decode cX11_lay 6 = .ok (.iload_n 3, 1) := by decide +kernel
theorem dX11_lay_7 : decode cX11_lay 7 = .ok (.iload 4, 2) := by decide +kernel
theorem dX11_lay_9 : decode cX11_lay 9 = .ok (.i2l, 1) := by decide +kernel
theorem dX11_lay_10 : decode cX11_lay 10 = .ok (.iload 5, 2) := by decide +kernel
theorem dX11_lay_12 : decode cX11_lay 12 = .ok (.i2l, 1) := by decide +kernel
theorem dX11_lay_13 : decode cX11_lay 13 = .ok (.iload 6, 2) := by decide +kernel
theorem dX11_lay_15 : decode cX11_lay 15 = .ok (.i2l, 1) := by decide +kernel
theorem dX11_lay_16 : decode cX11_lay 16 = .ok (.invokestatic 13, 3) := by decide +kernel
theorem dX11_lay_19 : decode cX11_lay 19 = .ok (.invokevirtual 88, 3) := by decide +kernel
theorem dX11_lay_22 : decode cX11_lay 22 = .ok (.ifCond .eq 5, 3) := by decide +kernel
theorem dX11_lay_25 : decode cX11_lay 25 = .ok (.iconst (-1), 1) := by decide +kernel
theorem dX11_lay_26 : decode cX11_lay 26 = .ok (.ireturn, 1) := by decide +kernel
theorem dX11_lay_27 : decode cX11_lay 27 = .ok (.aload_n 1, 1) := by decide +kernel
theorem dX11_lay_28 : decode cX11_lay 28 = .ok (.iload_n 2, 1) := by decide +kernel
theorem dX11_lay_29 : decode cX11_lay 29 = .ok (.iaload, 1) := by decide +kernel
theorem dX11_lay_30 : decode cX11_lay 30 = .ok (.istore 7, 2) := by decide +kernel
theorem dX11_lay_32 : decode cX11_lay 32 = .ok (.iload_n 2, 1) := by decide +kernel
theorem dX11_lay_33 : decode cX11_lay 33 = .ok (.istore 8, 2) := by decide +kernel
theorem dX11_lay_35 : decode cX11_lay 35 = .ok (.iload 8, 2) := by decide +kernel
theorem dX11_lay_37 : decode cX11_lay 37 = .ok (.iload_n 3, 1) := by decide +kernel
theorem dX11_lay_38 : decode cX11_lay 38 = .ok (.if_icmp .gt 15, 3) := by decide +kernel
theorem dX11_lay_41 : decode cX11_lay 41 = .ok (.aload_n 1, 1) := by decide +kernel
theorem dX11_lay_42 : decode cX11_lay 42 = .ok (.iload 8, 2) := by decide +kernel
theorem dX11_lay_44 : decode cX11_lay 44 = .ok (.iload 4, 2) := by decide +kernel
theorem dX11_lay_46 : decode cX11_lay 46 = .ok (.iastore, 1) := by decide +kernel
theorem dX11_lay_47 : decode cX11_lay 47 = .ok (.iinc 8 1, 3) := by decide +kernel
theorem dX11_lay_50 : decode cX11_lay 50 = .ok (.goto (-15), 3) := by decide +kernel
theorem dX11_lay_53 : decode cX11_lay 53 = .ok (.iload 7, 2) := by decide +kernel
theorem dX11_lay_55 : decode cX11_lay 55 = .ok (.ireturn, 1) := by decide +kernel
theorem dX11_depth_0 : decode cX11_depth 0 = .ok (.aload_n 0, 1) := by decide +kernel
theorem dX11_depth_1 : decode cX11_depth 1 = .ok (.aload_n 0, 1) := by decide +kernel
theorem dX11_depth_2 : decode cX11_depth 2 = .ok (.getfield 30, 3) := by decide +kernel
theorem dX11_depth_5 : decode cX11_depth 5 = .ok (.iload_n 1, 1) := by decide +kernel
theorem dX11_depth_6 : decode cX11_depth 6 = .ok (.iload_n 2, 1) := by decide +kernel
theorem dX11_depth_7 : decode cX11_depth 7 = .ok (.iload_n 3, 1) := by decide +kernel
theorem dX11_depth_8 : decode cX11_depth 8 = .ok (.bipush 10, 2) := by decide +kernel
theorem dX11_depth_10 : decode cX11_depth 10 = .ok (.bipush 60, 2) := by decide +kernel
theorem dX11_depth_12 : decode cX11_depth 12 = .ok (.invokevirtual 96, 3) := by decide +kernel
theorem dX11_depth_15 : decode cX11_depth 15 = .ok (.ireturn, 1) := by decide +kernel
theorem dX11_water_0 : decode cX11_water 0 = .ok (.aload_n 0, 1) := by decide +kernel
theorem dX11_water_1 : decode cX11_water 1 = .ok (.aload_n 0, 1) := by decide +kernel
theorem dX11_water_2 : decode cX11_water 2 = .ok (.getfield 33, 3) := by decide +kernel
theorem dX11_water_5 : decode cX11_water 5 = .ok (.iload_n 1, 1) := by decide +kernel
theorem dX11_water_6 : decode cX11_water 6 = .ok (.iload_n 2, 1) := by decide +kernel
theorem dX11_water_7 : decode cX11_water 7 = .ok (.iload_n 3, 1) := by decide +kernel
theorem dX11_water_8 : decode cX11_water 8 = .ok (.iconst 0, 1) := by decide +kernel
theorem dX11_water_9 : decode cX11_water 9 = .ok (.bipush 40, 2) := by decide +kernel
theorem dX11_water_11 : decode cX11_water 11 = .ok (.invokevirtual 96, 3) := by decide +kernel
theorem dX11_water_14 : decode cX11_water 14 = .ok (.ireturn, 1) := by decide +kernel
theorem dX11_bend_0 : decode cX11_bend 0 = .ok (.aload_n 0, 1) := by decide +kernel
theorem dX11_bend_1 : decode cX11_bend 1 = .ok (.invokevirtual 77, 3) := by decide +kernel
theorem dX11_bend_4 : decode cX11_bend 4 = .ok (.aload_n 0, 1) := by decide +kernel
theorem dX11_bend_5 : decode cX11_bend 5 = .ok (.iload_n 1, 1) := by decide +kernel
theorem dX11_bend_6 : decode cX11_bend 6 = .ok (.iload_n 2, 1) := by decide +kernel
theorem dX11_bend_7 : decode cX11_bend 7 = .ok (.iload_n 3, 1) := by decide +kernel
theorem dX11_bend_8 : decode cX11_bend 8 = .ok (.i2l, 1) := by decide +kernel
theorem dX11_bend_9 : decode cX11_bend 9 = .ok (.ldc2_w 100, 3) := by decide +kernel
theorem dX11_bend_12 : decode cX11_bend 12 = .ok (.ldc2_w 102, 3) := by decide +kernel
theorem dX11_bend_15 : decode cX11_bend 15 = .ok (.invokestatic 13, 3) := by decide +kernel
theorem dX11_bend_18 : decode cX11_bend 18 = .ok (.ifCond .eq 22, 3) := by decide +kernel
theorem dX11_bend_21 : decode cX11_bend 21 = .ok (.iload 4, 2) := by decide +kernel
theorem dX11_bend_23 : decode cX11_bend 23 = .ok (.i2l, 1) := by decide +kernel
theorem dX11_bend_24 : decode cX11_bend 24 = .ok (.ldc2_w 100, 3) := by decide +kernel
theorem dX11_bend_27 : decode cX11_bend 27 = .ok (.ldc2_w 102, 3) := by decide +kernel
theorem dX11_bend_30 : decode cX11_bend 30 = .ok (.invokestatic 13, 3) := by decide +kernel
theorem dX11_bend_33 : decode cX11_bend 33 = .ok (.ifCond .eq 7, 3) := by decide +kernel
theorem dX11_bend_36 : decode cX11_bend 36 = .ok (.iconst 1, 1) := by decide +kernel
theorem dX11_bend_37 : decode cX11_bend 37 = .ok (.goto 4, 3) := by decide +kernel
theorem dX11_bend_40 : decode cX11_bend 40 = .ok (.iconst 0, 1) := by decide +kernel
theorem dX11_bend_41 : decode cX11_bend 41 = .ok (.invokevirtual 88, 3) := by decide +kernel
theorem dX11_bend_44 : decode cX11_bend 44 = .ok (.ifCond .eq 5, 3) := by decide +kernel
theorem dX11_bend_47 : decode cX11_bend 47 = .ok (.iconst (-1), 1) := by decide +kernel
theorem dX11_bend_48 : decode cX11_bend 48 = .ok (.ireturn, 1) := by decide +kernel
theorem dX11_bend_49 : decode cX11_bend 49 = .ok (.iload_n 1, 1) := by decide +kernel
theorem dX11_bend_50 : decode cX11_bend 50 = .ok (.istore 5, 2) := by decide +kernel
theorem dX11_bend_52 : decode cX11_bend 52 = .ok (.iload 5, 2) := by decide +kernel
theorem dX11_bend_54 : decode cX11_bend 54 = .ok (.iload_n 2, 1) := by decide +kernel
theorem dX11_bend_55 : decode cX11_bend 55 = .ok (.if_icmp .gt 26, 3) := by decide +kernel
theorem dX11_bend_58 : decode cX11_bend 58 = .ok (.aload_n 0, 1) := by decide +kernel
theorem dX11_bend_59 : decode cX11_bend 59 = .ok (.getfield 36, 3) := by decide +kernel
theorem dX11_bend_62 : decode cX11_bend 62 = .ok (.iload 5, 2) := by decide +kernel
theorem dX11_bend_64 : decode cX11_bend 64 = .ok (.iload_n 3, 1) := by decide +kernel
theorem dX11_bend_65 : decode cX11_bend 65 = .ok (.iastore, 1) := by decide +kernel
theorem dX11_bend_66 : decode cX11_bend 66 = .ok (.aload_n 0, 1) := by decide +kernel
theorem dX11_bend_67 : decode cX11_bend 67 = .ok (.getfield 39, 3) := by decide +kernel
theorem dX11_bend_70 : decode cX11_bend 70 = .ok (.iload 5, 2) := by decide +kernel
theorem dX11_bend_72 : decode cX11_bend 72 = .ok (.iload 4, 2) := by decide +kernel
theorem dX11_bend_74 : decode cX11_bend 74 = .ok (.iastore, 1) := by decide +kernel
theorem dX11_bend_75 : decode cX11_bend 75 = .ok (.iinc 5 1, 3) := by decide +kernel
theorem dX11_bend_78 : decode cX11_bend 78 = .ok (.goto (-26), 3) := by decide +kernel
theorem dX11_bend_81 : decode cX11_bend 81 = .ok (.iload_n 2, 1) := by decide +kernel
theorem dX11_bend_82 : decode cX11_bend 82 = .ok (.iload_n 1, 1) := by decide +kernel
theorem dX11_bend_83 : decode cX11_bend 83 = .ok (.isub, 1) := by decide +kernel
theorem dX11_bend_84 : decode cX11_bend 84 = .ok (.iconst 1, 1) := by decide +kernel
theorem dX11_bend_85 : decode cX11_bend 85 = .ok (.iadd, 1) := by decide +kernel
theorem dX11_bend_86 : decode cX11_bend 86 = .ok (.ireturn, 1) := by decide +kernel
theorem dX11_bore_0 : decode cX11_bore 0 = .ok (.aload_n 0, 1) := by decide +kernel
theorem dX11_bore_1 : decode cX11_bore 1 = .ok (.invokevirtual 77, 3) := by decide +kernel
theorem dX11_bore_4 : decode cX11_bore 4 = .ok (.aload_n 0, 1) := by decide +kernel
theorem dX11_bore_5 : decode cX11_bore 5 = .ok (.iload_n 1, 1) := by decide +kernel
theorem dX11_bore_6 : decode cX11_bore 6 = .ok (.invokestatic 69, 3) := by decide +kernel
theorem dX11_bore_9 : decode cX11_bore 9 = .ok (.ifCond .eq 12, 3) := by decide +kernel
theorem dX11_bore_12 : decode cX11_bore 12 = .ok (.ldc 80, 2) := by decide +kernel
theorem dX11_bore_14 : decode cX11_bore 14 = .ok (.iload_n 2, 1) := by decide +kernel
theorem dX11_bore_15 : decode cX11_bore 15 = .ok (.invokevirtual 82, 3) := by decide +kernel
theorem dX11_bore_18 : decode cX11_bore 18 = .ok (.ifCond .ge 7, 3) := by decide +kernel
theorem dX11_bore_21 : decode cX11_bore 21 = .ok (.iconst 1, 1) := by decide +kernel
theorem dX11_bore_22 : decode cX11_bore 22 = .ok (.goto 4, 3) := by decide +kernel
theorem dX11_bore_25 : decode cX11_bore 25 = .ok (.iconst 0, 1) := by decide +kernel
theorem dX11_bore_26 : decode cX11_bore 26 = .ok (.iconst 1, 1) := by decide +kernel
theorem dX11_bore_27 : decode cX11_bore 27 = .ok (.invokevirtual 73, 3) := by decide +kernel
theorem dX11_bore_30 : decode cX11_bore 30 = .ok (.ifCond .ne 30, 3) := by decide +kernel
theorem dX11_bore_33 : decode cX11_bore 33 = .ok (.aload_n 0, 1) := by decide +kernel
theorem dX11_bore_34 : decode cX11_bore 34 = .ok (.aload_n 0, 1) := by decide +kernel
theorem dX11_bore_35 : decode cX11_bore 35 = .ok (.getfield 45, 3) := by decide +kernel
theorem dX11_bore_38 : decode cX11_bore 38 = .ok (.invokeinterface 7 1, 5) := by decide +kernel
theorem dX11_bore_43 : decode cX11_bore 43 = .ok (.bipush 20, 2) := by decide +kernel
theorem dX11_bore_45 : decode cX11_bore 45 = .ok (.if_icmp .ne 7, 3) := by decide +kernel
theorem dX11_bore_48 : decode cX11_bore 48 = .ok (.iconst 1, 1) := by decide +kernel
theorem dX11_bore_49 : decode cX11_bore 49 = .ok (.goto 4, 3) := by decide +kernel
theorem dX11_bore_52 : decode cX11_bore 52 = .ok (.iconst 0, 1) := by decide +kernel
theorem dX11_bore_53 : decode cX11_bore 53 = .ok (.iconst 2, 1) := by decide +kernel
theorem dX11_bore_54 : decode cX11_bore 54 = .ok (.invokevirtual 73, 3) := by decide +kernel
theorem dX11_bore_57 : decode cX11_bore 57 = .ok (.ifCond .eq 5, 3) := by decide +kernel
theorem dX11_bore_60 : decode cX11_bore 60 = .ok (.iconst (-1), 1) := by decide +kernel
theorem dX11_bore_61 : decode cX11_bore 61 = .ok (.ireturn, 1) := by decide +kernel
theorem dX11_bore_62 : decode cX11_bore 62 = .ok (.aload_n 0, 1) := by decide +kernel
theorem dX11_bore_63 : decode cX11_bore 63 = .ok (.getfield 45, 3) := by decide +kernel
theorem dX11_bore_66 : decode cX11_bore 66 = .ok (.iconst 2, 1) := by decide +kernel
theorem dX11_bore_67 : decode cX11_bore 67 = .ok (.newarray .int, 2) := by decide +kernel
theorem dX11_bore_69 : decode cX11_bore 69 = .ok (.dup, 1) := by decide +kernel
theorem dX11_bore_70 : decode cX11_bore 70 = .ok (.iconst 0, 1) := by decide +kernel
theorem dX11_bore_71 : decode cX11_bore 71 = .ok (.iload_n 1, 1) := by decide +kernel
theorem dX11_bore_72 : decode cX11_bore 72 = .ok (.iastore, 1) := by decide +kernel
theorem dX11_bore_73 : decode cX11_bore 73 = .ok (.dup, 1) := by decide +kernel
theorem dX11_bore_74 : decode cX11_bore 74 = .ok (.iconst 1, 1) := by decide +kernel
theorem dX11_bore_75 : decode cX11_bore 75 = .ok (.ldc 80, 2) := by decide +kernel
theorem dX11_bore_77 : decode cX11_bore 77 = .ok (.iload_n 2, 1) := by decide +kernel
theorem dX11_bore_78 : decode cX11_bore 78 = .ok (.invokevirtual 82, 3) := by decide +kernel
theorem dX11_bore_81 : decode cX11_bore 81 = .ok (.iastore, 1) := by decide +kernel
theorem dX11_bore_82 : decode cX11_bore 82 = .ok (.invokeinterface 104 2, 5) := by decide +kernel
theorem dX11_bore_87 : decode cX11_bore 87 = .ok (.pop, 1) := by decide +kernel
theorem dX11_bore_88 : decode cX11_bore 88 = .ok (.aload_n 0, 1) := by decide +kernel
theorem dX11_bore_89 : decode cX11_bore 89 = .ok (.getfield 45, 3) := by decide +kernel
theorem dX11_bore_92 : decode cX11_bore 92 = .ok (.invokeinterface 7 1, 5) := by decide +kernel
theorem dX11_bore_97 : decode cX11_bore 97 = .ok (.iconst 1, 1) := by decide +kernel
theorem dX11_bore_98 : decode cX11_bore 98 = .ok (.isub, 1) := by decide +kernel
theorem dX11_bore_99 : decode cX11_bore 99 = .ok (.ireturn, 1) := by decide +kernel
theorem dX11_weights_0 : decode cX11_weights 0 = .ok (.iconst 4, 1) := by decide +kernel
theorem dX11_weights_1 : decode cX11_weights 1 = .ok (.newarray .int, 2) := by decide +kernel
theorem dX11_weights_3 : decode cX11_weights 3 = .ok (.astore_n 2, 1) := by decide +kernel
theorem dX11_weights_4 : decode cX11_weights 4 = .ok (.aload_n 0, 1) := by decide +kernel
theorem dX11_weights_5 : decode cX11_weights 5 = .ok (.getfield 45, 3) := by decide +kernel
theorem dX11_weights_8 : decode cX11_weights 8 = .ok (.invokeinterface 108 1, 5) := by decide +kernel
theorem dX11_weights_13 : decode cX11_weights 13 = .ok (.astore_n 3, 1) := by decide +kernel
theorem dX11_weights_14 : decode cX11_weights 14 = .ok (.aload_n 3, 1) := by decide +kernel
theorem dX11_weights_15 : decode cX11_weights 15 = .ok (.invokeinterface 112 1, 5) := by decide +kernel
theorem dX11_weights_20 : decode cX11_weights 20 = .ok (.ifCond .eq 42, 3) := by decide +kernel
theorem dX11_weights_23 : decode cX11_weights 23 = .ok (.aload_n 3, 1) := by decide +kernel
theorem dX11_weights_24 : decode cX11_weights 24 = .ok (.invokeinterface 118 1, 5) := by decide +kernel
theorem dX11_weights_29 : decode cX11_weights 29 = .ok (.checkcast 122, 3) := by decide +kernel
theorem dX11_weights_32 : decode cX11_weights 32 = .ok (.astore 4, 2) := by decide +kernel
theorem dX11_weights_34 : decode cX11_weights 34 = .ok (.aload_n 2, 1) := by decide +kernel
theorem dX11_weights_35 : decode cX11_weights 35 = .ok (.aload 4, 2) := by decide +kernel
theorem dX11_weights_37 : decode cX11_weights 37 = .ok (.iconst 1, 1) := by decide +kernel
theorem dX11_weights_38 : decode cX11_weights 38 = .ok (.iaload, 1) := by decide +kernel
theorem dX11_weights_39 : decode cX11_weights 39 = .ok (.dup2, 1) := by decide +kernel
theorem dX11_weights_40 : decode cX11_weights 40 = .ok (.iaload, 1) := by decide +kernel
theorem dX11_weights_41 : decode cX11_weights 41 = .ok (.iconst 0, 1) := by decide +kernel
theorem dX11_weights_42 : decode cX11_weights 42 = .ok (.bipush 11, 2) := by decide +kernel
theorem dX11_weights_44 : decode cX11_weights 44 = .ok (.aload 4, 2) := by decide +kernel
theorem dX11_weights_46 : decode cX11_weights 46 = .ok (.iconst 0, 1) := by decide +kernel
theorem dX11_weights_47 : decode cX11_weights 47 = .ok (.iaload, 1) := by decide +kernel
theorem dX11_weights_48 : decode cX11_weights 48 = .ok (.iload_n 1, 1) := by decide +kernel
theorem dX11_weights_49 : decode cX11_weights 49 = .ok (.isub, 1) := by decide +kernel
theorem dX11_weights_50 : decode cX11_weights 50 = .ok (.invokestatic 123, 3) := by decide +kernel
theorem dX11_weights_53 : decode cX11_weights 53 = .ok (.isub, 1) := by decide +kernel
theorem dX11_weights_54 : decode cX11_weights 54 = .ok (.invokestatic 128, 3) := by decide +kernel
theorem dX11_weights_57 : decode cX11_weights 57 = .ok (.iadd, 1) := by decide +kernel
theorem dX11_weights_58 : decode cX11_weights 58 = .ok (.iastore, 1) := by decide +kernel
theorem dX11_weights_59 : decode cX11_weights 59 = .ok (.goto (-45), 3) := by decide +kernel
theorem dX11_weights_62 : decode cX11_weights 62 = .ok (.aload_n 2, 1) := by decide +kernel
theorem dX11_weights_63 : decode cX11_weights 63 = .ok (.areturn, 1) := by decide +kernel
theorem dX11_best_0 : decode cX11_best 0 = .ok (.iconst 0, 1) := by decide +kernel
theorem dX11_best_1 : decode cX11_best 1 = .ok (.istore_n 1, 1) := by decide +kernel
theorem dX11_best_2 : decode cX11_best 2 = .ok (.iconst 1, 1) := by decide +kernel
theorem dX11_best_3 : decode cX11_best 3 = .ok (.istore_n 2, 1) := by decide +kernel
theorem dX11_best_4 : decode cX11_best 4 = .ok (.iload_n 2, 1) := by decide +kernel
theorem dX11_best_5 : decode cX11_best 5 = .ok (.iconst 4, 1) := by decide +kernel
theorem dX11_best_6 : decode cX11_best 6 = .ok (.if_icmp .ge 24, 3) := by decide +kernel
theorem dX11_best_9 : decode cX11_best 9 = .ok (.aload_n 0, 1) := by decide +kernel
theorem dX11_best_10 : decode cX11_best 10 = .ok (.iload_n 2, 1) := by decide +kernel
theorem dX11_best_11 : decode cX11_best 11 = .ok (.iaload, 1) := by decide +kernel
theorem dX11_best_12 : decode cX11_best 12 = .ok (.aload_n 0, 1) := by decide +kernel
theorem dX11_best_13 : decode cX11_best 13 = .ok (.iload_n 1, 1) := by decide +kernel
theorem dX11_best_14 : decode cX11_best 14 = .ok (.iaload, 1) := by decide +kernel
theorem dX11_best_15 : decode cX11_best 15 = .ok (.if_icmp .le 7, 3) := by decide +kernel
theorem dX11_best_18 : decode cX11_best 18 = .ok (.iload_n 2, 1) := by decide +kernel
theorem dX11_best_19 : decode cX11_best 19 = .ok (.goto 4, 3) := by decide +kernel
theorem dX11_best_22 : decode cX11_best 22 = .ok (.iload_n 1, 1) := by decide +kernel
theorem dX11_best_23 : decode cX11_best 23 = .ok (.istore_n 1, 1) := by decide +kernel
theorem dX11_best_24 : decode cX11_best 24 = .ok (.iinc 2 1, 3) := by decide +kernel
theorem dX11_best_27 : decode cX11_best 27 = .ok (.goto (-23), 3) := by decide +kernel
theorem dX11_best_30 : decode cX11_best 30 = .ok (.iload_n 1, 1) := by decide +kernel
theorem dX11_best_31 : decode cX11_best 31 = .ok (.ireturn, 1) := by decide +kernel
theorem dX11_guess_0 : decode cX11_guess 0 = .ok (.aload_n 0, 1) := by decide +kernel
theorem dX11_guess_1 : decode cX11_guess 1 = .ok (.invokevirtual 77, 3) := by decide +kernel
theorem dX11_guess_4 : decode cX11_guess 4 = .ok (.aload_n 0, 1) := by decide +kernel
theorem dX11_guess_5 : decode cX11_guess 5 = .ok (.iload_n 1, 1) := by decide +kernel
theorem dX11_guess_6 : decode cX11_guess 6 = .ok (.invokestatic 69, 3) := by decide +kernel
theorem dX11_guess_9 : decode cX11_guess 9 = .ok (.ifCond .ne 7, 3) := by decide +kernel
theorem dX11_guess_12 : decode cX11_guess 12 = .ok (.iconst 1, 1) := by decide +kernel
theorem dX11_guess_13 : decode cX11_guess 13 = .ok (.goto 4, 3) := by decide +kernel
theorem dX11_guess_16 : decode cX11_guess 16 = .ok (.iconst 0, 1) := by decide +kernel
theorem dX11_guess_17 : decode cX11_guess 17 = .ok (.iconst 1, 1) := by decide +kernel
theorem dX11_guess_18 : decode cX11_guess 18 = .ok (.invokevirtual 73, 3) := by decide +kernel
theorem dX11_guess_21 : decode cX11_guess 21 = .ok (.ifCond .eq 6, 3) := by decide +kernel
theorem dX11_guess_24 : decode cX11_guess 24 = .ok (.bipush 32, 2) := by decide +kernel
theorem dX11_guess_26 : decode cX11_guess 26 = .ok (.ireturn, 1) := by decide +kernel
theorem dX11_guess_27 : decode cX11_guess 27 = .ok (.iload_n 1, 1) := by decide +kernel
theorem dX11_guess_28 : decode cX11_guess 28 = .ok (.aload_n 0, 1) := by decide +kernel
theorem dX11_guess_29 : decode cX11_guess 29 = .ok (.getfield 49, 3) := by decide +kernel
theorem dX11_guess_32 : decode cX11_guess 32 = .ok (.invokeinterface 7 1, 5) := by decide +kernel
theorem dX11_guess_37 : decode cX11_guess 37 = .ok (.if_icmp .ge 15, 3) := by decide +kernel
theorem dX11_guess_40 : decode cX11_guess 40 = .ok (.ldc 80, 2) := by decide +kernel
theorem dX11_guess_42 : decode cX11_guess 42 = .ok (.aload_n 0, 1) := by decide +kernel
theorem dX11_guess_43 : decode cX11_guess 43 = .ok (.getfield 23, 3) := by decide +kernel
theorem dX11_guess_46 : decode cX11_guess 46 = .ok (.iload_n 1, 1) := by decide +kernel
theorem dX11_guess_47 : decode cX11_guess 47 = .ok (.iaload, 1) := by decide +kernel
theorem dX11_guess_48 : decode cX11_guess 48 = .ok (.invokevirtual 132, 3) := by decide +kernel
theorem dX11_guess_51 : decode cX11_guess 51 = .ok (.ireturn, 1) := by decide +kernel
theorem dX11_guess_52 : decode cX11_guess 52 = .ok (.aload_n 0, 1) := by decide +kernel
theorem dX11_guess_53 : decode cX11_guess 53 = .ok (.iload_n 1, 1) := by decide +kernel
theorem dX11_guess_54 : decode cX11_guess 54 = .ok (.invokevirtual 136, 3) := by decide +kernel
theorem dX11_guess_57 : decode cX11_guess 57 = .ok (.astore_n 2, 1) := by decide +kernel
theorem dX11_guess_58 : decode cX11_guess 58 = .ok (.aload_n 2, 1) := by decide +kernel
theorem dX11_guess_59 : decode cX11_guess 59 = .ok (.aload_n 2, 1) := by decide +kernel
theorem dX11_guess_60 : decode cX11_guess 60 = .ok (.invokestatic 140, 3) := by decide +kernel
theorem dX11_guess_63 : decode cX11_guess 63 = .ok (.iaload, 1) := by decide +kernel
theorem dX11_guess_64 : decode cX11_guess 64 = .ok (.ifCond .ne 8, 3) := by decide +kernel
theorem dX11_guess_67 : decode cX11_guess 67 = .ok (.bipush 63, 2) := by decide +kernel
theorem dX11_guess_69 : decode cX11_guess 69 = .ok (.goto 12, 3) := by decide +kernel
theorem dX11_guess_72 : decode cX11_guess 72 = .ok (.ldc 80, 2) := by decide +kernel
theorem dX11_guess_74 : decode cX11_guess 74 = .ok (.aload_n 2, 1) := by decide +kernel
theorem dX11_guess_75 : decode cX11_guess 75 = .ok (.invokestatic 140, 3) := by decide +kernel
theorem dX11_guess_78 : decode cX11_guess 78 = .ok (.invokevirtual 132, 3) := by decide +kernel
theorem dX11_guess_81 : decode cX11_guess 81 = .ok (.ireturn, 1) := by decide +kernel
theorem dX11_doubt_0 : decode cX11_doubt 0 = .ok (.aload_n 0, 1) := by decide +kernel
theorem dX11_doubt_1 : decode cX11_doubt 1 = .ok (.invokevirtual 77, 3) := by decide +kernel
theorem dX11_doubt_4 : decode cX11_doubt 4 = .ok (.aload_n 0, 1) := by decide +kernel
theorem dX11_doubt_5 : decode cX11_doubt 5 = .ok (.iload_n 1, 1) := by decide +kernel
theorem dX11_doubt_6 : decode cX11_doubt 6 = .ok (.invokestatic 69, 3) := by decide +kernel
theorem dX11_doubt_9 : decode cX11_doubt 9 = .ok (.ifCond .ne 7, 3) := by decide +kernel
theorem dX11_doubt_12 : decode cX11_doubt 12 = .ok (.iconst 1, 1) := by decide +kernel
theorem dX11_doubt_13 : decode cX11_doubt 13 = .ok (.goto 4, 3) := by decide +kernel
theorem dX11_doubt_16 : decode cX11_doubt 16 = .ok (.iconst 0, 1) := by decide +kernel
theorem dX11_doubt_17 : decode cX11_doubt 17 = .ok (.iconst 1, 1) := by decide +kernel
theorem dX11_doubt_18 : decode cX11_doubt 18 = .ok (.invokevirtual 73, 3) := by decide +kernel
theorem dX11_doubt_21 : decode cX11_doubt 21 = .ok (.ifCond .eq 5, 3) := by decide +kernel
theorem dX11_doubt_24 : decode cX11_doubt 24 = .ok (.iconst (-1), 1) := by decide +kernel
theorem dX11_doubt_25 : decode cX11_doubt 25 = .ok (.ireturn, 1) := by decide +kernel
theorem dX11_doubt_26 : decode cX11_doubt 26 = .ok (.aload_n 0, 1) := by decide +kernel
theorem dX11_doubt_27 : decode cX11_doubt 27 = .ok (.iload_n 1, 1) := by decide +kernel
theorem dX11_doubt_28 : decode cX11_doubt 28 = .ok (.invokevirtual 136, 3) := by decide +kernel
theorem dX11_doubt_31 : decode cX11_doubt 31 = .ok (.astore_n 2, 1) := by decide +kernel
theorem dX11_doubt_32 : decode cX11_doubt 32 = .ok (.aload_n 2, 1) := by decide +kernel
theorem dX11_doubt_33 : decode cX11_doubt 33 = .ok (.iconst 0, 1) := by decide +kernel
theorem dX11_doubt_34 : decode cX11_doubt 34 = .ok (.iaload, 1) := by decide +kernel
theorem dX11_doubt_35 : decode cX11_doubt 35 = .ok (.aload_n 2, 1) := by decide +kernel
theorem dX11_doubt_36 : decode cX11_doubt 36 = .ok (.iconst 1, 1) := by decide +kernel
theorem dX11_doubt_37 : decode cX11_doubt 37 = .ok (.iaload, 1) := by decide +kernel
theorem dX11_doubt_38 : decode cX11_doubt 38 = .ok (.iadd, 1) := by decide +kernel
theorem dX11_doubt_39 : decode cX11_doubt 39 = .ok (.aload_n 2, 1) := by decide +kernel
theorem dX11_doubt_40 : decode cX11_doubt 40 = .ok (.iconst 2, 1) := by decide +kernel
theorem dX11_doubt_41 : decode cX11_doubt 41 = .ok (.iaload, 1) := by decide +kernel
theorem dX11_doubt_42 : decode cX11_doubt 42 = .ok (.iadd, 1) := by decide +kernel
theorem dX11_doubt_43 : decode cX11_doubt 43 = .ok (.aload_n 2, 1) := by decide +kernel
theorem dX11_doubt_44 : decode cX11_doubt 44 = .ok (.iconst 3, 1) := by decide +kernel
theorem dX11_doubt_45 : decode cX11_doubt 45 = .ok (.iaload, 1) := by decide +kernel
theorem dX11_doubt_46 : decode cX11_doubt 46 = .ok (.iadd, 1) := by decide +kernel
theorem dX11_doubt_47 : decode cX11_doubt 47 = .ok (.istore_n 3, 1) := by decide +kernel
theorem dX11_doubt_48 : decode cX11_doubt 48 = .ok (.iload_n 1, 1) := by decide +kernel
theorem dX11_doubt_49 : decode cX11_doubt 49 = .ok (.aload_n 0, 1) := by decide +kernel
theorem dX11_doubt_50 : decode cX11_doubt 50 = .ok (.getfield 49, 3) := by decide +kernel
theorem dX11_doubt_53 : decode cX11_doubt 53 = .ok (.invokeinterface 7 1, 5) := by decide +kernel
theorem dX11_doubt_58 : decode cX11_doubt 58 = .ok (.if_icmp .ge 7, 3) := by decide +kernel
theorem dX11_doubt_61 : decode cX11_doubt 61 = .ok (.iconst 0, 1) := by decide +kernel
theorem dX11_doubt_62 : decode cX11_doubt 62 = .ok (.goto 29, 3) := by decide +kernel
theorem dX11_doubt_65 : decode cX11_doubt 65 = .ok (.iload_n 3, 1) := by decide +kernel
theorem dX11_doubt_66 : decode cX11_doubt 66 = .ok (.ifCond .ne 9, 3) := by decide +kernel
theorem dX11_doubt_69 : decode cX11_doubt 69 = .ok (.sipush 1000, 3) := by decide +kernel
theorem dX11_doubt_72 : decode cX11_doubt 72 = .ok (.goto 19, 3) := by decide +kernel
theorem dX11_doubt_75 : decode cX11_doubt 75 = .ok (.sipush 1000, 3) := by decide +kernel
theorem dX11_doubt_78 : decode cX11_doubt 78 = .ok (.sipush 1000, 3) := by decide +kernel
theorem dX11_doubt_81 : decode cX11_doubt 81 = .ok (.aload_n 2, 1) := by decide +kernel
theorem dX11_doubt_82 : decode cX11_doubt 82 = .ok (.aload_n 2, 1) := by decide +kernel
theorem dX11_doubt_83 : decode cX11_doubt 83 = .ok (.invokestatic 140, 3) := by decide +kernel
theorem dX11_doubt_86 : decode cX11_doubt 86 = .ok (.iaload, 1) := by decide +kernel
theorem dX11_doubt_87 : decode cX11_doubt 87 = .ok (.imul, 1) := by decide +kernel
theorem dX11_doubt_88 : decode cX11_doubt 88 = .ok (.iload_n 3, 1) := by decide +kernel
theorem dX11_doubt_89 : decode cX11_doubt 89 = .ok (.idiv, 1) := by decide +kernel
theorem dX11_doubt_90 : decode cX11_doubt 90 = .ok (.isub, 1) := by decide +kernel
theorem dX11_doubt_91 : decode cX11_doubt 91 = .ok (.ireturn, 1) := by decide +kernel
theorem dX11_pressure_0 : decode cX11_pressure 0 = .ok (.aload_n 0, 1) := by decide +kernel
theorem dX11_pressure_1 : decode cX11_pressure 1 = .ok (.invokevirtual 77, 3) := by decide +kernel
theorem dX11_pressure_4 : decode cX11_pressure 4 = .ok (.aload_n 0, 1) := by decide +kernel
theorem dX11_pressure_5 : decode cX11_pressure 5 = .ok (.iload_n 1, 1) := by decide +kernel
theorem dX11_pressure_6 : decode cX11_pressure 6 = .ok (.i2l, 1) := by decide +kernel
theorem dX11_pressure_7 : decode cX11_pressure 7 = .ok (.lconst 0, 1) := by decide +kernel
theorem dX11_pressure_8 : decode cX11_pressure 8 = .ok (.ldc2_w 144, 3) := by decide +kernel
theorem dX11_pressure_11 : decode cX11_pressure 11 = .ok (.invokestatic 13, 3) := by decide +kernel
theorem dX11_pressure_14 : decode cX11_pressure 14 = .ok (.ifCond .ne 7, 3) := by decide +kernel
theorem dX11_pressure_17 : decode cX11_pressure 17 = .ok (.iconst 1, 1) := by decide +kernel
theorem dX11_pressure_18 : decode cX11_pressure 18 = .ok (.goto 4, 3) := by decide +kernel
theorem dX11_pressure_21 : decode cX11_pressure 21 = .ok (.iconst 0, 1) := by decide +kernel
theorem dX11_pressure_22 : decode cX11_pressure 22 = .ok (.iconst 1, 1) := by decide +kernel
theorem dX11_pressure_23 : decode cX11_pressure 23 = .ok (.invokevirtual 73, 3) := by decide +kernel
theorem dX11_pressure_26 : decode cX11_pressure 26 = .ok (.ifCond .eq 5, 3) := by decide +kernel
theorem dX11_pressure_29 : decode cX11_pressure 29 = .ok (.iconst (-1), 1) := by decide +kernel
theorem dX11_pressure_30 : decode cX11_pressure 30 = .ok (.ireturn, 1) := by decide +kernel
theorem dX11_pressure_31 : decode cX11_pressure 31 = .ok (.aload_n 0, 1) := by decide +kernel
theorem dX11_pressure_32 : decode cX11_pressure 32 = .ok (.getfield 146, 3) := by decide +kernel
theorem dX11_pressure_35 : decode cX11_pressure 35 = .ok (.istore_n 2, 1) := by decide +kernel
theorem dX11_pressure_36 : decode cX11_pressure 36 = .ok (.aload_n 0, 1) := by decide +kernel
theorem dX11_pressure_37 : decode cX11_pressure 37 = .ok (.iload_n 1, 1) := by decide +kernel
theorem dX11_pressure_38 : decode cX11_pressure 38 = .ok (.putfield 146, 3) := by decide +kernel
theorem dX11_pressure_41 : decode cX11_pressure 41 = .ok (.iload_n 2, 1) := by decide +kernel
theorem dX11_pressure_42 : decode cX11_pressure 42 = .ok (.ireturn, 1) := by decide +kernel
theorem dX11_bound_0 : decode cX11_bound 0 = .ok (.bipush 10, 2) := by decide +kernel
theorem dX11_bound_2 : decode cX11_bound 2 = .ok (.aload_n 0, 1) := by decide +kernel
theorem dX11_bound_3 : decode cX11_bound 3 = .ok (.getfield 33, 3) := by decide +kernel
theorem dX11_bound_6 : decode cX11_bound 6 = .ok (.iload_n 1, 1) := by decide +kernel
theorem dX11_bound_7 : decode cX11_bound 7 = .ok (.iaload, 1) := by decide +kernel
theorem dX11_bound_8 : decode cX11_bound 8 = .ok (.imul, 1) := by decide +kernel
theorem dX11_bound_9 : decode cX11_bound 9 = .ok (.aload_n 2, 1) := by decide +kernel
theorem dX11_bound_10 : decode cX11_bound 10 = .ok (.aload_n 0, 1) := by decide +kernel
theorem dX11_bound_11 : decode cX11_bound 11 = .ok (.getfield 23, 3) := by decide +kernel
theorem dX11_bound_14 : decode cX11_bound 14 = .ok (.iload_n 1, 1) := by decide +kernel
theorem dX11_bound_15 : decode cX11_bound 15 = .ok (.iaload, 1) := by decide +kernel
theorem dX11_bound_16 : decode cX11_bound 16 = .ok (.iaload, 1) := by decide +kernel
theorem dX11_bound_17 : decode cX11_bound 17 = .ok (.aload_n 0, 1) := by decide +kernel
theorem dX11_bound_18 : decode cX11_bound 18 = .ok (.getfield 30, 3) := by decide +kernel
theorem dX11_bound_21 : decode cX11_bound 21 = .ok (.iload_n 1, 1) := by decide +kernel
theorem dX11_bound_22 : decode cX11_bound 22 = .ok (.iaload, 1) := by decide +kernel
theorem dX11_bound_23 : decode cX11_bound 23 = .ok (.imul, 1) := by decide +kernel
theorem dX11_bound_24 : decode cX11_bound 24 = .ok (.iadd, 1) := by decide +kernel
theorem dX11_bound_25 : decode cX11_bound 25 = .ok (.ireturn, 1) := by decide +kernel
theorem dX11_lower_0 : decode cX11_lower 0 = .ok (.aload_n 0, 1) := by decide +kernel
theorem dX11_lower_1 : decode cX11_lower 1 = .ok (.invokevirtual 77, 3) := by decide +kernel
theorem dX11_lower_4 : decode cX11_lower 4 = .ok (.aload_n 0, 1) := by decide +kernel
theorem dX11_lower_5 : decode cX11_lower 5 = .ok (.iload_n 1, 1) := by decide +kernel
theorem dX11_lower_6 : decode cX11_lower 6 = .ok (.invokestatic 69, 3) := by decide +kernel
theorem dX11_lower_9 : decode cX11_lower 9 = .ok (.ifCond .ne 7, 3) := by decide +kernel
theorem dX11_lower_12 : decode cX11_lower 12 = .ok (.iconst 1, 1) := by decide +kernel
theorem dX11_lower_13 : decode cX11_lower 13 = .ok (.goto 4, 3) := by decide +kernel
theorem dX11_lower_16 : decode cX11_lower 16 = .ok (.iconst 0, 1) := by decide +kernel
theorem dX11_lower_17 : decode cX11_lower 17 = .ok (.iconst 1, 1) := by decide +kernel
theorem dX11_lower_18 : decode cX11_lower 18 = .ok (.invokevirtual 73, 3) := by decide +kernel
theorem dX11_lower_21 : decode cX11_lower 21 = .ok (.ifCond .eq 7, 3) := by decide +kernel
theorem dX11_lower_24 : decode cX11_lower 24 = .ok (.iconst (-1), 1) := by decide +kernel
theorem dX11_lower_25 : decode cX11_lower 25 = .ok (.goto 11, 3) := by decide +kernel
theorem dX11_lower_28 : decode cX11_lower 28 = .ok (.aload_n 0, 1) := by decide +kernel
theorem dX11_lower_29 : decode cX11_lower 29 = .ok (.iload_n 1, 1) := by decide +kernel
theorem dX11_lower_30 : decode cX11_lower 30 = .ok (.getstatic 149, 3) := by decide +kernel
theorem dX11_lower_33 : decode cX11_lower 33 = .ok (.invokevirtual 152, 3) := by decide +kernel
theorem dX11_lower_36 : decode cX11_lower 36 = .ok (.ireturn, 1) := by decide +kernel
theorem dX11_upper_0 : decode cX11_upper 0 = .ok (.aload_n 0, 1) := by decide +kernel
theorem dX11_upper_1 : decode cX11_upper 1 = .ok (.invokevirtual 77, 3) := by decide +kernel
theorem dX11_upper_4 : decode cX11_upper 4 = .ok (.aload_n 0, 1) := by decide +kernel
theorem dX11_upper_5 : decode cX11_upper 5 = .ok (.iload_n 1, 1) := by decide +kernel
theorem dX11_upper_6 : decode cX11_upper 6 = .ok (.invokestatic 69, 3) := by decide +kernel
theorem dX11_upper_9 : decode cX11_upper 9 = .ok (.ifCond .ne 7, 3) := by decide +kernel
theorem dX11_upper_12 : decode cX11_upper 12 = .ok (.iconst 1, 1) := by decide +kernel
theorem dX11_upper_13 : decode cX11_upper 13 = .ok (.goto 4, 3) := by decide +kernel
theorem dX11_upper_16 : decode cX11_upper 16 = .ok (.iconst 0, 1) := by decide +kernel
theorem dX11_upper_17 : decode cX11_upper 17 = .ok (.iconst 1, 1) := by decide +kernel
theorem dX11_upper_18 : decode cX11_upper 18 = .ok (.invokevirtual 73, 3) := by decide +kernel
theorem dX11_upper_21 : decode cX11_upper 21 = .ok (.ifCond .eq 7, 3) := by decide +kernel
theorem dX11_upper_24 : decode cX11_upper 24 = .ok (.iconst (-1), 1) := by decide +kernel
theorem dX11_upper_25 : decode cX11_upper 25 = .ok (.goto 11, 3) := by decide +kernel
theorem dX11_upper_28 : decode cX11_upper 28 = .ok (.aload_n 0, 1) := by decide +kernel
theorem dX11_upper_29 : decode cX11_upper 29 = .ok (.iload_n 1, 1) := by decide +kernel
theorem dX11_upper_30 : decode cX11_upper 30 = .ok (.getstatic 156, 3) := by decide +kernel
theorem dX11_upper_33 : decode cX11_upper 33 = .ok (.invokevirtual 152, 3) := by decide +kernel
theorem dX11_upper_36 : decode cX11_upper 36 = .ok (.ireturn, 1) := by decide +kernel
theorem dX11_foam_0 : decode cX11_foam 0 = .ok (.aload_n 0, 1) := by decide +kernel
theorem dX11_foam_1 : decode cX11_foam 1 = .ok (.invokevirtual 77, 3) := by decide +kernel
theorem dX11_foam_4 : decode cX11_foam 4 = .ok (.aload_n 0, 1) := by decide +kernel
theorem dX11_foam_5 : decode cX11_foam 5 = .ok (.getfield 159, 3) := by decide +kernel
theorem dX11_foam_8 : decode cX11_foam 8 = .ok (.istore_n 2, 1) := by decide +kernel
theorem dX11_foam_9 : decode cX11_foam 9 = .ok (.aload_n 0, 1) := by decide +kernel
theorem dX11_foam_10 : decode cX11_foam 10 = .ok (.iload_n 1, 1) := by decide +kernel
theorem dX11_foam_11 : decode cX11_foam 11 = .ok (.putfield 159, 3) := by decide +kernel
theorem dX11_foam_14 : decode cX11_foam 14 = .ok (.iload_n 2, 1) := by decide +kernel
theorem dX11_foam_15 : decode cX11_foam 15 = .ok (.ireturn, 1) := by decide +kernel
theorem dX11_worn_0 : decode cX11_worn 0 = .ok (.aload_n 0, 1) := by decide +kernel
theorem dX11_worn_1 : decode cX11_worn 1 = .ok (.invokevirtual 77, 3) := by decide +kernel
theorem dX11_worn_4 : decode cX11_worn 4 = .ok (.aload_n 0, 1) := by decide +kernel
theorem dX11_worn_5 : decode cX11_worn 5 = .ok (.iload_n 1, 1) := by decide +kernel
theorem dX11_worn_6 : decode cX11_worn 6 = .ok (.i2l, 1) := by decide +kernel
theorem dX11_worn_7 : decode cX11_worn 7 = .ok (.lconst 0, 1) := by decide +kernel
theorem dX11_worn_8 : decode cX11_worn 8 = .ok (.ldc2_w 163, 3) := by decide +kernel
theorem dX11_worn_11 : decode cX11_worn 11 = .ok (.invokestatic 13, 3) := by decide +kernel
theorem dX11_worn_14 : decode cX11_worn 14 = .ok (.ifCond .ne 7, 3) := by decide +kernel
theorem dX11_worn_17 : decode cX11_worn 17 = .ok (.iconst 1, 1) := by decide +kernel
theorem dX11_worn_18 : decode cX11_worn 18 = .ok (.goto 4, 3) := by decide +kernel
theorem dX11_worn_21 : decode cX11_worn 21 = .ok (.iconst 0, 1) := by decide +kernel
theorem dX11_worn_22 : decode cX11_worn 22 = .ok (.iconst 1, 1) := by decide +kernel
theorem dX11_worn_23 : decode cX11_worn 23 = .ok (.invokevirtual 73, 3) := by decide +kernel
theorem dX11_worn_26 : decode cX11_worn 26 = .ok (.ifCond .eq 7, 3) := by decide +kernel
theorem dX11_worn_29 : decode cX11_worn 29 = .ok (.iconst (-1), 1) := by decide +kernel
theorem dX11_worn_30 : decode cX11_worn 30 = .ok (.goto 9, 3) := by decide +kernel
theorem dX11_worn_33 : decode cX11_worn 33 = .ok (.aload_n 0, 1) := by decide +kernel
theorem dX11_worn_34 : decode cX11_worn 34 = .ok (.getfield 52, 3) := by decide +kernel
theorem dX11_worn_37 : decode cX11_worn 37 = .ok (.iload_n 1, 1) := by decide +kernel
theorem dX11_worn_38 : decode cX11_worn 38 = .ok (.iaload, 1) := by decide +kernel
theorem dX11_worn_39 : decode cX11_worn 39 = .ok (.ireturn, 1) := by decide +kernel
