theorem dX11_change_0 : decode cX11_change 0 = .ok (.aload_n 0, 1) := by decide +kernel
theorem dX11_change_1 : decode cX11_change 1 = .ok (.invokevirtual 77, 3) := by decide +kernel
theorem dX11_change_4 : decode cX11_change 4 = .ok (.aload_n 0, 1) := by decide +kernel
theorem dX11_change_5 : decode cX11_change 5 = .ok (.iload_n 1, 1) := by decide +kernel
theorem dX11_change_6 : decode cX11_change 6 = .ok (.i2l, 1) := by decide +kernel
theorem dX11_change_7 : decode cX11_change 7 = .ok (.lconst 0, 1) := by decide +kernel
theorem dX11_change_8 : decode cX11_change 8 = .ok (.ldc2_w 163, 3) := by decide +kernel
theorem dX11_change_11 : decode cX11_change 11 = .ok (.invokestatic 13, 3) := by decide +kernel
theorem dX11_change_14 : decode cX11_change 14 = .ok (.ifCond .ne 7, 3) := by decide +kernel
theorem dX11_change_17 : decode cX11_change 17 = .ok (.iconst 1, 1) := by decide +kernel
theorem dX11_change_18 : decode cX11_change 18 = .ok (.goto 4, 3) := by decide +kernel
theorem dX11_change_21 : decode cX11_change 21 = .ok (.iconst 0, 1) := by decide +kernel
theorem dX11_change_22 : decode cX11_change 22 = .ok (.iconst 1, 1) := by decide +kernel
theorem dX11_change_23 : decode cX11_change 23 = .ok (.invokevirtual 73, 3) := by decide +kernel
theorem dX11_change_26 : decode cX11_change 26 = .ok (.ifCond .ne 25, 3) := by decide +kernel
theorem dX11_change_29 : decode cX11_change 29 = .ok (.aload_n 0, 1) := by decide +kernel
theorem dX11_change_30 : decode cX11_change 30 = .ok (.aload_n 0, 1) := by decide +kernel
theorem dX11_change_31 : decode cX11_change 31 = .ok (.getfield 52, 3) := by decide +kernel
theorem dX11_change_34 : decode cX11_change 34 = .ok (.iload_n 1, 1) := by decide +kernel
theorem dX11_change_35 : decode cX11_change 35 = .ok (.iaload, 1) := by decide +kernel
theorem dX11_change_36 : decode cX11_change 36 = .ok (.ifCond .ne 7, 3) := by decide +kernel
theorem dX11_change_39 : decode cX11_change 39 = .ok (.iconst 1, 1) := by decide +kernel
theorem dX11_change_40 : decode cX11_change 40 = .ok (.goto 4, 3) := by decide +kernel
theorem dX11_change_43 : decode cX11_change 43 = .ok (.iconst 0, 1) := by decide +kernel
theorem dX11_change_44 : decode cX11_change 44 = .ok (.iconst 2, 1) := by decide +kernel
theorem dX11_change_45 : decode cX11_change 45 = .ok (.invokevirtual 73, 3) := by decide +kernel
theorem dX11_change_48 : decode cX11_change 48 = .ok (.ifCond .eq 5, 3) := by decide +kernel
theorem dX11_change_51 : decode cX11_change 51 = .ok (.iconst (-1), 1) := by decide +kernel
theorem dX11_change_52 : decode cX11_change 52 = .ok (.ireturn, 1) := by decide +kernel
theorem dX11_change_53 : decode cX11_change 53 = .ok (.aload_n 0, 1) := by decide +kernel
theorem dX11_change_54 : decode cX11_change 54 = .ok (.getfield 33, 3) := by decide +kernel
theorem dX11_change_57 : decode cX11_change 57 = .ok (.aload_n 0, 1) := by decide +kernel
theorem dX11_change_58 : decode cX11_change 58 = .ok (.getfield 49, 3) := by decide +kernel
theorem dX11_change_61 : decode cX11_change 61 = .ok (.invokeinterface 7 1, 5) := by decide +kernel
theorem dX11_change_66 : decode cX11_change 66 = .ok (.iaload, 1) := by decide +kernel
theorem dX11_change_67 : decode cX11_change 67 = .ok (.istore_n 2, 1) := by decide +kernel
theorem dX11_change_68 : decode cX11_change 68 = .ok (.bipush 20, 2) := by decide +kernel
theorem dX11_change_70 : decode cX11_change 70 = .ok (.iload_n 2, 1) := by decide +kernel
theorem dX11_change_71 : decode cX11_change 71 = .ok (.bipush 10, 2) := by decide +kernel
theorem dX11_change_73 : decode cX11_change 73 = .ok (.if_icmp .gt 7, 3) := by decide +kernel
theorem dX11_change_76 : decode cX11_change 76 = .ok (.iconst 0, 1) := by decide +kernel
theorem dX11_change_77 : decode cX11_change 77 = .ok (.goto 27, 3) := by decide +kernel
theorem dX11_change_80 : decode cX11_change 80 = .ok (.iload_n 2, 1) := by decide +kernel
theorem dX11_change_81 : decode cX11_change 81 = .ok (.bipush 20, 2) := by decide +kernel
theorem dX11_change_83 : decode cX11_change 83 = .ok (.if_icmp .gt 8, 3) := by decide +kernel
theorem dX11_change_86 : decode cX11_change 86 = .ok (.bipush 30, 2) := by decide +kernel
theorem dX11_change_88 : decode cX11_change 88 = .ok (.goto 16, 3) := by decide +kernel
theorem dX11_change_91 : decode cX11_change 91 = .ok (.iload_n 2, 1) := by decide +kernel
theorem dX11_change_92 : decode cX11_change 92 = .ok (.bipush 30, 2) := by decide +kernel
theorem dX11_change_94 : decode cX11_change 94 = .ok (.if_icmp .gt 8, 3) := by decide +kernel
theorem dX11_change_97 : decode cX11_change 97 = .ok (.bipush 60, 2) := by decide +kernel
theorem dX11_change_99 : decode cX11_change 99 = .ok (.goto 5, 3) := by decide +kernel
theorem dX11_change_102 : decode cX11_change 102 = .ok (.bipush 120, 2) := by decide +kernel
theorem dX11_change_104 : decode cX11_change 104 = .ok (.iadd, 1) := by decide +kernel
theorem dX11_change_105 : decode cX11_change 105 = .ok (.istore_n 3, 1) := by decide +kernel
theorem dX11_change_106 : decode cX11_change 106 = .ok (.aload_n 0, 1) := by decide +kernel
theorem dX11_change_107 : decode cX11_change 107 = .ok (.aload_n 0, 1) := by decide +kernel
theorem dX11_change_108 : decode cX11_change 108 = .ok (.getfield 165, 3) := by decide +kernel
theorem dX11_change_111 : decode cX11_change 111 = .ok (.iload_n 3, 1) := by decide +kernel
theorem dX11_change_112 : decode cX11_change 112 = .ok (.iadd, 1) := by decide +kernel
theorem dX11_change_113 : decode cX11_change 113 = .ok (.ldc 168, 2) := by decide +kernel
theorem dX11_change_115 : decode cX11_change 115 = .ok (.if_icmp .le 7, 3) := by decide +kernel
theorem dX11_change_118 : decode cX11_change 118 = .ok (.iconst 1, 1) := by decide +kernel
theorem dX11_change_119 : decode cX11_change 119 = .ok (.goto 4, 3) := by decide +kernel
theorem dX11_change_122 : decode cX11_change 122 = .ok (.iconst 0, 1) := by decide +kernel
theorem dX11_change_123 : decode cX11_change 123 = .ok (.iconst 3, 1) := by decide +kernel
theorem dX11_change_124 : decode cX11_change 124 = .ok (.invokevirtual 73, 3) := by decide +kernel
theorem dX11_change_127 : decode cX11_change 127 = .ok (.ifCond .eq 5, 3) := by decide +kernel
theorem dX11_change_130 : decode cX11_change 130 = .ok (.iconst (-1), 1) := by decide +kernel
theorem dX11_change_131 : decode cX11_change 131 = .ok (.ireturn, 1) := by decide +kernel
theorem dX11_change_132 : decode cX11_change 132 = .ok (.aload_n 0, 1) := by decide +kernel
theorem dX11_change_133 : decode cX11_change 133 = .ok (.dup, 1) := by decide +kernel
theorem dX11_change_134 : decode cX11_change 134 = .ok (.getfield 165, 3) := by decide +kernel
theorem dX11_change_137 : decode cX11_change 137 = .ok (.iload_n 3, 1) := by decide +kernel
theorem dX11_change_138 : decode cX11_change 138 = .ok (.iadd, 1) := by decide +kernel
theorem dX11_change_139 : decode cX11_change 139 = .ok (.putfield 165, 3) := by decide +kernel
theorem dX11_change_142 : decode cX11_change 142 = .ok (.aload_n 0, 1) := by decide +kernel
theorem dX11_change_143 : decode cX11_change 143 = .ok (.getfield 52, 3) := by decide +kernel
theorem dX11_change_146 : decode cX11_change 146 = .ok (.iload_n 1, 1) := by decide +kernel
theorem dX11_change_147 : decode cX11_change 147 = .ok (.iconst 0, 1) := by decide +kernel
theorem dX11_change_148 : decode cX11_change 148 = .ok (.iastore, 1) := by decide +kernel
theorem dX11_change_149 : decode cX11_change 149 = .ok (.iload_n 3, 1) := by decide +kernel
theorem dX11_change_150 : decode cX11_change 150 = .ok (.ireturn, 1) := by decide +kernel
theorem dX11_steer_0 : decode cX11_steer 0 = .ok (.aload_n 0, 1) := by decide +kernel
theorem dX11_steer_1 : decode cX11_steer 1 = .ok (.invokevirtual 77, 3) := by decide +kernel
theorem dX11_steer_4 : decode cX11_steer 4 = .ok (.aload_n 0, 1) := by decide +kernel
theorem dX11_steer_5 : decode cX11_steer 5 = .ok (.iload_n 1, 1) := by decide +kernel
theorem dX11_steer_6 : decode cX11_steer 6 = .ok (.i2l, 1) := by decide +kernel
theorem dX11_steer_7 : decode cX11_steer 7 = .ok (.ldc2_w 169, 3) := by decide +kernel
theorem dX11_steer_10 : decode cX11_steer 10 = .ok (.ldc2_w 171, 3) := by decide +kernel
theorem dX11_steer_13 : decode cX11_steer 13 = .ok (.invokestatic 13, 3) := by decide +kernel
theorem dX11_steer_16 : decode cX11_steer 16 = .ok (.ifCond .eq 17, 3) := by decide +kernel
theorem dX11_steer_19 : decode cX11_steer 19 = .ok (.iload_n 2, 1) := by decide +kernel
theorem dX11_steer_20 : decode cX11_steer 20 = .ok (.i2l, 1) := by decide +kernel
theorem dX11_steer_21 : decode cX11_steer 21 = .ok (.ldc2_w 169, 3) := by decide +kernel
theorem dX11_steer_24 : decode cX11_steer 24 = .ok (.ldc2_w 171, 3) := by decide +kernel
theorem dX11_steer_27 : decode cX11_steer 27 = .ok (.invokestatic 13, 3) := by decide +kernel
theorem dX11_steer_30 : decode cX11_steer 30 = .ok (.ifCond .ne 7, 3) := by decide +kernel
theorem dX11_steer_33 : decode cX11_steer 33 = .ok (.iconst 1, 1) := by decide +kernel
theorem dX11_steer_34 : decode cX11_steer 34 = .ok (.goto 4, 3) := by decide +kernel
theorem dX11_steer_37 : decode cX11_steer 37 = .ok (.iconst 0, 1) := by decide +kernel
theorem dX11_steer_38 : decode cX11_steer 38 = .ok (.iconst 1, 1) := by decide +kernel
theorem dX11_steer_39 : decode cX11_steer 39 = .ok (.invokevirtual 73, 3) := by decide +kernel
theorem dX11_steer_42 : decode cX11_steer 42 = .ok (.ifCond .eq 5, 3) := by decide +kernel
theorem dX11_steer_45 : decode cX11_steer 45 = .ok (.iconst (-1), 1) := by decide +kernel
theorem dX11_steer_46 : decode cX11_steer 46 = .ok (.ireturn, 1) := by decide +kernel
theorem dX11_steer_47 : decode cX11_steer 47 = .ok (.bipush 10, 2) := by decide +kernel
theorem dX11_steer_49 : decode cX11_steer 49 = .ok (.aload_n 0, 1) := by decide +kernel
theorem dX11_steer_50 : decode cX11_steer 50 = .ok (.getfield 173, 3) := by decide +kernel
theorem dX11_steer_53 : decode cX11_steer 53 = .ok (.imul, 1) := by decide +kernel
theorem dX11_steer_54 : decode cX11_steer 54 = .ok (.aload_n 0, 1) := by decide +kernel
theorem dX11_steer_55 : decode cX11_steer 55 = .ok (.getfield 176, 3) := by decide +kernel
theorem dX11_steer_58 : decode cX11_steer 58 = .ok (.iadd, 1) := by decide +kernel
theorem dX11_steer_59 : decode cX11_steer 59 = .ok (.istore_n 3, 1) := by decide +kernel
theorem dX11_steer_60 : decode cX11_steer 60 = .ok (.aload_n 0, 1) := by decide +kernel
theorem dX11_steer_61 : decode cX11_steer 61 = .ok (.iload_n 1, 1) := by decide +kernel
theorem dX11_steer_62 : decode cX11_steer 62 = .ok (.putfield 173, 3) := by decide +kernel
theorem dX11_steer_65 : decode cX11_steer 65 = .ok (.aload_n 0, 1) := by decide +kernel
theorem dX11_steer_66 : decode cX11_steer 66 = .ok (.iload_n 2, 1) := by decide +kernel
theorem dX11_steer_67 : decode cX11_steer 67 = .ok (.putfield 176, 3) := by decide +kernel
theorem dX11_steer_70 : decode cX11_steer 70 = .ok (.iload_n 3, 1) := by decide +kernel
theorem dX11_steer_71 : decode cX11_steer 71 = .ok (.ireturn, 1) := by decide +kernel
theorem dX11_muckOf_0 : decode cX11_muckOf 0 = .ok (.bipush 50, 2) := by decide +kernel
theorem dX11_muckOf_2 : decode cX11_muckOf 2 = .ok (.getstatic 179, 3) := by decide +kernel
theorem dX11_muckOf_5 : decode cX11_muckOf 5 = .ok (.aload_n 0, 1) := by decide +kernel
theorem dX11_muckOf_6 : decode cX11_muckOf 6 = .ok (.getfield 23, 3) := by decide +kernel
theorem dX11_muckOf_9 : decode cX11_muckOf 9 = .ok (.iload_n 1, 1) := by decide +kernel
theorem dX11_muckOf_10 : decode cX11_muckOf 10 = .ok (.iaload, 1) := by decide +kernel
theorem dX11_muckOf_11 : decode cX11_muckOf 11 = .ok (.iaload, 1) := by decide +kernel
theorem dX11_muckOf_12 : decode cX11_muckOf 12 = .ok (.aload_n 0, 1) := by decide +kernel
theorem dX11_muckOf_13 : decode cX11_muckOf 13 = .ok (.getfield 159, 3) := by decide +kernel
theorem dX11_muckOf_16 : decode cX11_muckOf 16 = .ok (.ifCond .eq 8, 3) := by decide +kernel
theorem dX11_muckOf_19 : decode cX11_muckOf 19 = .ok (.bipush 10, 2) := by decide +kernel
theorem dX11_muckOf_21 : decode cX11_muckOf 21 = .ok (.goto 4, 3) := by decide +kernel
theorem dX11_muckOf_24 : decode cX11_muckOf 24 = .ok (.iconst 0, 1) := by decide +kernel
theorem dX11_muckOf_25 : decode cX11_muckOf 25 = .ok (.iadd, 1) := by decide +kernel
theorem dX11_muckOf_26 : decode cX11_muckOf 26 = .ok (.imul, 1) := by decide +kernel
theorem dX11_muckOf_27 : decode cX11_muckOf 27 = .ok (.bipush 100, 2) := by decide +kernel
theorem dX11_muckOf_29 : decode cX11_muckOf 29 = .ok (.idiv, 1) := by decide +kernel
theorem dX11_muckOf_30 : decode cX11_muckOf 30 = .ok (.ireturn, 1) := by decide +kernel
theorem dX11_away_0 : decode cX11_away 0 = .ok (.iload_n 1, 1) := by decide +kernel
theorem dX11_away_1 : decode cX11_away 1 = .ok (.aload_n 0, 1) := by decide +kernel
theorem dX11_away_2 : decode cX11_away 2 = .ok (.iconst 0, 1) := by decide +kernel
theorem dX11_away_3 : decode cX11_away 3 = .ok (.iaload, 1) := by decide +kernel
theorem dX11_away_4 : decode cX11_away 4 = .ok (.if_icmp .ge 11, 3) := by decide +kernel
theorem dX11_away_7 : decode cX11_away 7 = .ok (.aload_n 0, 1) := by decide +kernel
theorem dX11_away_8 : decode cX11_away 8 = .ok (.iconst 0, 1) := by decide +kernel
theorem dX11_away_9 : decode cX11_away 9 = .ok (.iaload, 1) := by decide +kernel
theorem dX11_away_10 : decode cX11_away 10 = .ok (.iload_n 1, 1) := by decide +kernel
theorem dX11_away_11 : decode cX11_away 11 = .ok (.isub, 1) := by decide +kernel
theorem dX11_away_12 : decode cX11_away 12 = .ok (.goto 19, 3) := by decide +kernel
theorem dX11_away_15 : decode cX11_away 15 = .ok (.iload_n 1, 1) := by decide +kernel
theorem dX11_away_16 : decode cX11_away 16 = .ok (.aload_n 0, 1) := by decide +kernel
theorem dX11_away_17 : decode cX11_away 17 = .ok (.iconst 1, 1) := by decide +kernel
theorem dX11_away_18 : decode cX11_away 18 = .ok (.iaload, 1) := by decide +kernel
theorem dX11_away_19 : decode cX11_away 19 = .ok (.if_icmp .le 11, 3) := by decide +kernel
theorem dX11_away_22 : decode cX11_away 22 = .ok (.iload_n 1, 1) := by decide +kernel
theorem dX11_away_23 : decode cX11_away 23 = .ok (.aload_n 0, 1) := by decide +kernel
theorem dX11_away_24 : decode cX11_away 24 = .ok (.iconst 1, 1) := by decide +kernel
theorem dX11_away_25 : decode cX11_away 25 = .ok (.iaload, 1) := by decide +kernel
theorem dX11_away_26 : decode cX11_away 26 = .ok (.isub, 1) := by decide +kernel
theorem dX11_away_27 : decode cX11_away 27 = .ok (.goto 4, 3) := by decide +kernel
theorem dX11_away_30 : decode cX11_away 30 = .ok (.iconst 0, 1) := by decide +kernel
theorem dX11_away_31 : decode cX11_away 31 = .ok (.ireturn, 1) := by decide +kernel
theorem dX11_barsNow_0 : decode cX11_barsNow 0 = .ok (.aload_n 0, 1) := by decide +kernel
theorem dX11_barsNow_1 : decode cX11_barsNow 1 = .ok (.getfield 49, 3) := by decide +kernel
theorem dX11_barsNow_4 : decode cX11_barsNow 4 = .ok (.invokeinterface 7 1, 5) := by decide +kernel
theorem dX11_barsNow_9 : decode cX11_barsNow 9 = .ok (.istore_n 2, 1) := by decide +kernel
theorem dX11_barsNow_10 : decode cX11_barsNow 10 = .ok (.iconst 0, 1) := by decide +kernel
theorem dX11_barsNow_11 : decode cX11_barsNow 11 = .ok (.istore_n 3, 1) := by decide +kernel
theorem dX11_barsNow_12 : decode cX11_barsNow 12 = .ok (.aload_n 0, 1) := by decide +kernel
theorem dX11_barsNow_13 : decode cX11_barsNow 13 = .ok (.getfield 52, 3) := by decide +kernel
theorem dX11_barsNow_16 : decode cX11_barsNow 16 = .ok (.astore 4, 2) := by decide +kernel
theorem dX11_barsNow_18 : decode cX11_barsNow 18 = .ok (.aload 4, 2) := by decide +kernel
theorem dX11_barsNow_20 : decode cX11_barsNow 20 = .ok (.arraylength, 1) := by decide +kernel
theorem dX11_barsNow_21 : decode cX11_barsNow 21 = .ok (.istore 5, 2) := by decide +kernel
theorem dX11_barsNow_23 : decode cX11_barsNow 23 = .ok (.iconst 0, 1) := by decide +kernel
theorem dX11_barsNow_24 : decode cX11_barsNow 24 = .ok (.istore 6, 2) := by decide +kernel
theorem dX11_barsNow_26 : decode cX11_barsNow 26 = .ok (.iload 6, 2) := by decide +kernel
theorem dX11_barsNow_28 : decode cX11_barsNow 28 = .ok (.iload 5, 2) := by decide +kernel
theorem dX11_barsNow_30 : decode cX11_barsNow 30 = .ok (.if_icmp .ge 33, 3) := by decide +kernel
theorem dX11_barsNow_33 : decode cX11_barsNow 33 = .ok (.aload 4, 2) := by decide +kernel
theorem dX11_barsNow_35 : decode cX11_barsNow 35 = .ok (.iload 6, 2) := by decide +kernel
theorem dX11_barsNow_37 : decode cX11_barsNow 37 = .ok (.iaload, 1) := by decide +kernel
theorem dX11_barsNow_38 : decode cX11_barsNow 38 = .ok (.istore 7, 2) := by decide +kernel
theorem dX11_barsNow_40 : decode cX11_barsNow 40 = .ok (.iload_n 3, 1) := by decide +kernel
theorem dX11_barsNow_41 : decode cX11_barsNow 41 = .ok (.ifCond .ne 10, 3) := by decide +kernel
theorem dX11_barsNow_44 : decode cX11_barsNow 44 = .ok (.iload 7, 2) := by decide +kernel
theorem dX11_barsNow_46 : decode cX11_barsNow 46 = .ok (.bipush 100, 2) := by decide +kernel
theorem dX11_barsNow_48 : decode cX11_barsNow 48 = .ok (.if_icmp .lt 7, 3) := by decide +kernel
theorem dX11_barsNow_51 : decode cX11_barsNow 51 = .ok (.iconst 1, 1) := by decide +kernel
theorem dX11_barsNow_52 : decode cX11_barsNow 52 = .ok (.goto 4, 3) := by decide +kernel
theorem dX11_barsNow_55 : decode cX11_barsNow 55 = .ok (.iconst 0, 1) := by decide +kernel
theorem dX11_barsNow_56 : decode cX11_barsNow 56 = .ok (.istore_n 3, 1) := by decide +kernel
theorem dX11_barsNow_57 : decode cX11_barsNow 57 = .ok (.iinc 6 1, 3) := by decide +kernel
theorem dX11_barsNow_60 : decode cX11_barsNow 60 = .ok (.goto (-34), 3) := by decide +kernel
theorem dX11_barsNow_63 : decode cX11_barsNow 63 = .ok (.iconst 0, 1) := by decide +kernel
theorem dX11_barsNow_64 : decode cX11_barsNow 64 = .ok (.istore 4, 2) := by decide +kernel
theorem dX11_barsNow_66 : decode cX11_barsNow 66 = .ok (.aload_n 0, 1) := by decide +kernel
theorem dX11_barsNow_67 : decode cX11_barsNow 67 = .ok (.getfield 55, 3) := by decide +kernel
theorem dX11_barsNow_70 : decode cX11_barsNow 70 = .ok (.invokeinterface 108 1, 5) := by decide +kernel
theorem dX11_barsNow_75 : decode cX11_barsNow 75 = .ok (.astore 5, 2) := by decide +kernel
theorem dX11_barsNow_77 : decode cX11_barsNow 77 = .ok (.aload 5, 2) := by decide +kernel
theorem dX11_barsNow_79 : decode cX11_barsNow 79 = .ok (.invokeinterface 112 1, 5) := by decide +kernel
theorem dX11_barsNow_84 : decode cX11_barsNow 84 = .ok (.ifCond .eq 59, 3) := by decide +kernel
theorem dX11_barsNow_87 : decode cX11_barsNow 87 = .ok (.aload 5, 2) := by decide +kernel
theorem dX11_barsNow_89 : decode cX11_barsNow 89 = .ok (.invokeinterface 118 1, 5) := by decide +kernel
theorem dX11_barsNow_94 : decode cX11_barsNow 94 = .ok (.checkcast 122, 3) := by decide +kernel
theorem dX11_barsNow_97 : decode cX11_barsNow 97 = .ok (.astore 6, 2) := by decide +kernel
theorem dX11_barsNow_99 : decode cX11_barsNow 99 = .ok (.iload 4, 2) := by decide +kernel
theorem dX11_barsNow_101 : decode cX11_barsNow 101 = .ok (.ifCond .ne 32, 3) := by decide +kernel
theorem dX11_barsNow_104 : decode cX11_barsNow 104 = .ok (.aload 6, 2) := by decide +kernel
theorem dX11_barsNow_106 : decode cX11_barsNow 106 = .ok (.iload_n 2, 1) := by decide +kernel
theorem dX11_barsNow_107 : decode cX11_barsNow 107 = .ok (.invokestatic 182, 3) := by decide +kernel
theorem dX11_barsNow_110 : decode cX11_barsNow 110 = .ok (.bipush 10, 2) := by decide +kernel
theorem dX11_barsNow_112 : decode cX11_barsNow 112 = .ok (.if_icmp .gt 25, 3) := by decide +kernel
theorem dX11_barsNow_115 : decode cX11_barsNow 115 = .ok (.aload 6, 2) := by decide +kernel
theorem dX11_barsNow_117 : decode cX11_barsNow 117 = .ok (.iconst 5, 1) := by decide +kernel
theorem dX11_barsNow_118 : decode cX11_barsNow 118 = .ok (.iaload, 1) := by decide +kernel
theorem dX11_barsNow_119 : decode cX11_barsNow 119 = .ok (.iconst 1, 1) := by decide +kernel
theorem dX11_barsNow_120 : decode cX11_barsNow 120 = .ok (.if_icmp .ne 17, 3) := by decide +kernel
theorem dX11_barsNow_123 : decode cX11_barsNow 123 = .ok (.aload 6, 2) := by decide +kernel
theorem dX11_barsNow_125 : decode cX11_barsNow 125 = .ok (.bipush 6, 2) := by decide +kernel
theorem dX11_barsNow_127 : decode cX11_barsNow 127 = .ok (.iaload, 1) := by decide +kernel
theorem dX11_barsNow_128 : decode cX11_barsNow 128 = .ok (.bipush 50, 2) := by decide +kernel
theorem dX11_barsNow_130 : decode cX11_barsNow 130 = .ok (.if_icmp .lt 7, 3) := by decide +kernel
theorem dX11_barsNow_133 : decode cX11_barsNow 133 = .ok (.iconst 1, 1) := by decide +kernel
theorem dX11_barsNow_134 : decode cX11_barsNow 134 = .ok (.goto 4, 3) := by decide +kernel
theorem dX11_barsNow_137 : decode cX11_barsNow 137 = .ok (.iconst 0, 1) := by decide +kernel
theorem dX11_barsNow_138 : decode cX11_barsNow 138 = .ok (.istore 4, 2) := by decide +kernel
theorem dX11_barsNow_140 : decode cX11_barsNow 140 = .ok (.goto (-63), 3) := by decide +kernel
theorem dX11_barsNow_143 : decode cX11_barsNow 143 = .ok (.iload_n 2, 1) := by decide +kernel
theorem dX11_barsNow_144 : decode cX11_barsNow 144 = .ok (.bipush 120, 2) := by decide +kernel
theorem dX11_barsNow_146 : decode cX11_barsNow 146 = .ok (.if_icmp .ne 6, 3) := by decide +kernel
theorem dX11_barsNow_149 : decode cX11_barsNow 149 = .ok (.bipush 101, 2) := by decide +kernel
theorem dX11_barsNow_151 : decode cX11_barsNow 151 = .ok (.ireturn, 1) := by decide +kernel
theorem dX11_barsNow_152 : decode cX11_barsNow 152 = .ok (.aload_n 0, 1) := by decide +kernel
theorem dX11_barsNow_153 : decode cX11_barsNow 153 = .ok (.getfield 146, 3) := by decide +kernel
theorem dX11_barsNow_156 : decode cX11_barsNow 156 = .ok (.i2l, 1) := by decide +kernel
theorem dX11_barsNow_157 : decode cX11_barsNow 157 = .ok (.aload_n 0, 1) := by decide +kernel
theorem dX11_barsNow_158 : decode cX11_barsNow 158 = .ok (.iload_n 2, 1) := by decide +kernel
theorem dX11_barsNow_159 : decode cX11_barsNow 159 = .ok (.getstatic 149, 3) := by decide +kernel
theorem dX11_barsNow_162 : decode cX11_barsNow 162 = .ok (.invokevirtual 152, 3) := by decide +kernel
theorem dX11_barsNow_165 : decode cX11_barsNow 165 = .ok (.i2l, 1) := by decide +kernel
theorem dX11_barsNow_166 : decode cX11_barsNow 166 = .ok (.aload_n 0, 1) := by decide +kernel
theorem dX11_barsNow_167 : decode cX11_barsNow 167 = .ok (.iload_n 2, 1) := by decide +kernel
theorem dX11_barsNow_168 : decode cX11_barsNow 168 = .ok (.getstatic 156, 3) := by decide +kernel
theorem dX11_barsNow_171 : decode cX11_barsNow 171 = .ok (.invokevirtual 152, 3) := by decide +kernel
theorem dX11_barsNow_174 : decode cX11_barsNow 174 = .ok (.i2l, 1) := by decide +kernel
theorem dX11_barsNow_175 : decode cX11_barsNow 175 = .ok (.invokestatic 13, 3) := by decide +kernel
theorem dX11_barsNow_178 : decode cX11_barsNow 178 = .ok (.ifCond .ne 6, 3) := by decide +kernel
theorem dX11_barsNow_181 : decode cX11_barsNow 181 = .ok (.bipush 112, 2) := by decide +kernel
theorem dX11_barsNow_183 : decode cX11_barsNow 183 = .ok (.ireturn, 1) := by decide +kernel
theorem dX11_barsNow_184 : decode cX11_barsNow 184 = .ok (.iload_n 2, 1) := by decide +kernel
theorem dX11_barsNow_185 : decode cX11_barsNow 185 = .ok (.ifCond .le 29, 3) := by decide +kernel
theorem dX11_barsNow_188 : decode cX11_barsNow 188 = .ok (.aload_n 0, 1) := by decide +kernel
theorem dX11_barsNow_189 : decode cX11_barsNow 189 = .ok (.getfield 49, 3) := by decide +kernel
theorem dX11_barsNow_192 : decode cX11_barsNow 192 = .ok (.iload_n 2, 1) := by decide +kernel
theorem dX11_barsNow_193 : decode cX11_barsNow 193 = .ok (.iconst 1, 1) := by decide +kernel
theorem dX11_barsNow_194 : decode cX11_barsNow 194 = .ok (.isub, 1) := by decide +kernel
theorem dX11_barsNow_195 : decode cX11_barsNow 195 = .ok (.invokeinterface 186 2, 5) := by decide +kernel
theorem dX11_barsNow_200 : decode cX11_barsNow 200 = .ok (.checkcast 190, 3) := by decide +kernel
theorem dX11_barsNow_203 : decode cX11_barsNow 203 = .ok (.getfield 192, 3) := by decide +kernel
theorem dX11_barsNow_206 : decode cX11_barsNow 206 = .ok (.iload_n 1, 1) := by decide +kernel
theorem dX11_barsNow_207 : decode cX11_barsNow 207 = .ok (.if_icmp .ne 7, 3) := by decide +kernel
theorem dX11_barsNow_210 : decode cX11_barsNow 210 = .ok (.iconst 1, 1) := by decide +kernel
theorem dX11_barsNow_211 : decode cX11_barsNow 211 = .ok (.goto 4, 3) := by decide +kernel
theorem dX11_barsNow_214 : decode cX11_barsNow 214 = .ok (.iconst 0, 1) := by decide +kernel
theorem dX11_barsNow_215 : decode cX11_barsNow 215 = .ok (.istore 5, 2) := by decide +kernel
theorem dX11_barsNow_217 : decode cX11_barsNow 217 = .ok (.iload_n 3, 1) := by decide +kernel
theorem dX11_barsNow_218 : decode cX11_barsNow 218 = .ok (.ifCond .eq 8, 3) := by decide +kernel
theorem dX11_barsNow_221 : decode cX11_barsNow 221 = .ok (.bipush 99, 2) := by decide +kernel
theorem dX11_barsNow_223 : decode cX11_barsNow 223 = .ok (.goto 58, 3) := by decide +kernel
theorem dX11_barsNow_226 : decode cX11_barsNow 226 = .ok (.aload_n 0, 1) := by decide +kernel
theorem dX11_barsNow_227 : decode cX11_barsNow 227 = .ok (.getfield 195, 3) := by decide +kernel
theorem dX11_barsNow_230 : decode cX11_barsNow 230 = .ok (.ifCond .ne 8, 3) := by decide +kernel
theorem dX11_barsNow_233 : decode cX11_barsNow 233 = .ok (.bipush 115, 2) := by decide +kernel
theorem dX11_barsNow_235 : decode cX11_barsNow 235 = .ok (.goto 46, 3) := by decide +kernel
theorem dX11_barsNow_238 : decode cX11_barsNow 238 = .ok (.sipush 2000, 3) := by decide +kernel
theorem dX11_barsNow_241 : decode cX11_barsNow 241 = .ok (.aload_n 0, 1) := by decide +kernel
theorem dX11_barsNow_242 : decode cX11_barsNow 242 = .ok (.getfield 198, 3) := by decide +kernel
theorem dX11_barsNow_245 : decode cX11_barsNow 245 = .ok (.isub, 1) := by decide +kernel
theorem dX11_barsNow_246 : decode cX11_barsNow 246 = .ok (.aload_n 0, 1) := by decide +kernel
theorem dX11_barsNow_247 : decode cX11_barsNow 247 = .ok (.iload_n 2, 1) := by decide +kernel
theorem dX11_barsNow_248 : decode cX11_barsNow 248 = .ok (.invokevirtual 201, 3) := by decide +kernel
theorem dX11_barsNow_251 : decode cX11_barsNow 251 = .ok (.if_icmp .ge 8, 3) := by decide +kernel
theorem dX11_barsNow_254 : decode cX11_barsNow 254 = .ok (.bipush 109, 2) := by decide +kernel
theorem dX11_barsNow_256 : decode cX11_barsNow 256 = .ok (.goto 25, 3) := by decide +kernel
theorem dX11_barsNow_259 : decode cX11_barsNow 259 = .ok (.iload 5, 2) := by decide +kernel
theorem dX11_barsNow_261 : decode cX11_barsNow 261 = .ok (.ifCond .eq 8, 3) := by decide +kernel
theorem dX11_barsNow_264 : decode cX11_barsNow 264 = .ok (.bipush 106, 2) := by decide +kernel
theorem dX11_barsNow_266 : decode cX11_barsNow 266 = .ok (.goto 15, 3) := by decide +kernel
theorem dX11_barsNow_269 : decode cX11_barsNow 269 = .ok (.iload 4, 2) := by decide +kernel
theorem dX11_barsNow_271 : decode cX11_barsNow 271 = .ok (.ifCond .eq 8, 3) := by decide +kernel
theorem dX11_barsNow_274 : decode cX11_barsNow 274 = .ok (.bipush 97, 2) := by decide +kernel
theorem dX11_barsNow_276 : decode cX11_barsNow 276 = .ok (.goto 5, 3) := by decide +kernel
theorem dX11_barsNow_279 : decode cX11_barsNow 279 = .ok (.bipush 45, 2) := by decide +kernel
theorem dX11_barsNow_281 : decode cX11_barsNow 281 = .ok (.ireturn, 1) := by decide +kernel
theorem dX11_bars_0 : decode cX11_bars 0 = .ok (.aload_n 0, 1) := by decide +kernel
theorem dX11_bars_1 : decode cX11_bars 1 = .ok (.invokevirtual 77, 3) := by decide +kernel
theorem dX11_bars_4 : decode cX11_bars 4 = .ok (.aload_n 0, 1) := by decide +kernel
theorem dX11_bars_5 : decode cX11_bars 5 = .ok (.iload_n 1, 1) := by decide +kernel
theorem dX11_bars_6 : decode cX11_bars 6 = .ok (.i2l, 1) := by decide +kernel
theorem dX11_bars_7 : decode cX11_bars 7 = .ok (.lconst 0, 1) := by decide +kernel
theorem dX11_bars_8 : decode cX11_bars 8 = .ok (.ldc2_w 163, 3) := by decide +kernel
theorem dX11_bars_11 : decode cX11_bars 11 = .ok (.invokestatic 13, 3) := by decide +kernel
theorem dX11_bars_14 : decode cX11_bars 14 = .ok (.ifCond .ne 7, 3) := by decide +kernel
theorem dX11_bars_17 : decode cX11_bars 17 = .ok (.iconst 1, 1) := by decide +kernel
theorem dX11_bars_18 : decode cX11_bars 18 = .ok (.goto 4, 3) := by decide +kernel
theorem dX11_bars_21 : decode cX11_bars 21 = .ok (.iconst 0, 1) := by decide +kernel
theorem dX11_bars_22 : decode cX11_bars 22 = .ok (.iconst 1, 1) := by decide +kernel
theorem dX11_bars_23 : decode cX11_bars 23 = .ok (.invokevirtual 73, 3) := by decide +kernel
theorem dX11_bars_26 : decode cX11_bars 26 = .ok (.ifCond .eq 8, 3) := by decide +kernel
theorem dX11_bars_29 : decode cX11_bars 29 = .ok (.bipush 32, 2) := by decide +kernel
theorem dX11_bars_31 : decode cX11_bars 31 = .ok (.goto 8, 3) := by decide +kernel
theorem dX11_bars_34 : decode cX11_bars 34 = .ok (.aload_n 0, 1) := by decide +kernel
theorem dX11_bars_35 : decode cX11_bars 35 = .ok (.iload_n 1, 1) := by decide +kernel
theorem dX11_bars_36 : decode cX11_bars 36 = .ok (.invokevirtual 204, 3) := by decide +kernel
theorem dX11_bars_39 : decode cX11_bars 39 = .ok (.ireturn, 1) := by decide +kernel
theorem dX11_advance_0 : decode cX11_advance 0 = .ok (.aload_n 0, 1) := by decide +kernel
theorem dX11_advance_1 : decode cX11_advance 1 = .ok (.invokevirtual 77, 3) := by decide +kernel
theorem dX11_advance_4 : decode cX11_advance 4 = .ok (.aload_n 0, 1) := by decide +kernel
theorem dX11_advance_5 : decode cX11_advance 5 = .ok (.iload_n 1, 1) := by decide +kernel
theorem dX11_advance_6 : decode cX11_advance 6 = .ok (.i2l, 1) := by decide +kernel
theorem dX11_advance_7 : decode cX11_advance 7 = .ok (.lconst 0, 1) := by decide +kernel
theorem dX11_advance_8 : decode cX11_advance 8 = .ok (.ldc2_w 163, 3) := by decide +kernel
theorem dX11_advance_11 : decode cX11_advance 11 = .ok (.invokestatic 13, 3) := by decide +kernel
theorem dX11_advance_14 : decode cX11_advance 14 = .ok (.ifCond .ne 7, 3) := by decide +kernel
theorem dX11_advance_17 : decode cX11_advance 17 = .ok (.iconst 1, 1) := by decide +kernel
theorem dX11_advance_18 : decode cX11_advance 18 = .ok (.goto 4, 3) := by decide +kernel
theorem dX11_advance_21 : decode cX11_advance 21 = .ok (.iconst 0, 1) := by decide +kernel
theorem dX11_advance_22 : decode cX11_advance 22 = .ok (.iconst 1, 1) := by decide +kernel
theorem dX11_advance_23 : decode cX11_advance 23 = .ok (.invokevirtual 73, 3) := by decide +kernel
theorem dX11_advance_26 : decode cX11_advance 26 = .ok (.ifCond .ne 26, 3) := by decide +kernel
theorem dX11_advance_29 : decode cX11_advance 29 = .ok (.aload_n 0, 1) := by decide +kernel
theorem dX11_advance_30 : decode cX11_advance 30 = .ok (.aload_n 0, 1) := by decide +kernel
theorem dX11_advance_31 : decode cX11_advance 31 = .ok (.iload_n 1, 1) := by decide +kernel
theorem dX11_advance_32 : decode cX11_advance 32 = .ok (.invokevirtual 204, 3) := by decide +kernel
theorem dX11_advance_35 : decode cX11_advance 35 = .ok (.bipush 45, 2) := by decide +kernel
theorem dX11_advance_37 : decode cX11_advance 37 = .ok (.if_icmp .eq 7, 3) := by decide +kernel
theorem dX11_advance_40 : decode cX11_advance 40 = .ok (.iconst 1, 1) := by decide +kernel
theorem dX11_advance_41 : decode cX11_advance 41 = .ok (.goto 4, 3) := by decide +kernel
theorem dX11_advance_44 : decode cX11_advance 44 = .ok (.iconst 0, 1) := by decide +kernel
theorem dX11_advance_45 : decode cX11_advance 45 = .ok (.iconst 2, 1) := by decide +kernel
theorem dX11_advance_46 : decode cX11_advance 46 = .ok (.invokevirtual 73, 3) := by decide +kernel
theorem dX11_advance_49 : decode cX11_advance 49 = .ok (.ifCond .eq 5, 3) := by decide +kernel
theorem dX11_advance_52 : decode cX11_advance 52 = .ok (.iconst (-1), 1) := by decide +kernel
theorem dX11_advance_53 : decode cX11_advance 53 = .ok (.ireturn, 1) := by decide +kernel
theorem dX11_advance_54 : decode cX11_advance 54 = .ok (.aload_n 0, 1) := by decide +kernel
theorem dX11_advance_55 : decode cX11_advance 55 = .ok (.getfield 49, 3) := by decide +kernel
theorem dX11_advance_58 : decode cX11_advance 58 = .ok (.invokeinterface 7 1, 5) := by decide +kernel
theorem dX11_advance_63 : decode cX11_advance 63 = .ok (.istore_n 2, 1) := by decide +kernel
theorem dX11_advance_64 : decode cX11_advance 64 = .ok (.aload_n 0, 1) := by decide +kernel
theorem dX11_advance_65 : decode cX11_advance 65 = .ok (.getfield 23, 3) := by decide +kernel
theorem dX11_advance_68 : decode cX11_advance 68 = .ok (.iload_n 2, 1) := by decide +kernel
theorem dX11_advance_69 : decode cX11_advance 69 = .ok (.iaload, 1) := by decide +kernel
theorem dX11_advance_70 : decode cX11_advance 70 = .ok (.istore_n 3, 1) := by decide +kernel
theorem dX11_advance_71 : decode cX11_advance 71 = .ok (.getstatic 207, 3) := by decide +kernel
theorem dX11_advance_74 : decode cX11_advance 74 = .ok (.iload_n 3, 1) := by decide +kernel
theorem dX11_advance_75 : decode cX11_advance 75 = .ok (.iaload, 1) := by decide +kernel
theorem dX11_advance_76 : decode cX11_advance 76 = .ok (.bipush 10, 2) := by decide +kernel
theorem dX11_advance_78 : decode cX11_advance 78 = .ok (.iload_n 2, 1) := by decide +kernel
theorem dX11_advance_79 : decode cX11_advance 79 = .ok (.bipush 10, 2) := by decide +kernel
theorem dX11_advance_81 : decode cX11_advance 81 = .ok (.idiv, 1) := by decide +kernel
theorem dX11_advance_82 : decode cX11_advance 82 = .ok (.invokestatic 210, 3) := by decide +kernel
theorem dX11_advance_85 : decode cX11_advance 85 = .ok (.isub, 1) := by decide +kernel
theorem dX11_advance_86 : decode cX11_advance 86 = .ok (.istore 4, 2) := by decide +kernel
theorem dX11_advance_88 : decode cX11_advance 88 = .ok (.aload_n 0, 1) := by decide +kernel
theorem dX11_advance_89 : decode cX11_advance 89 = .ok (.aload_n 0, 1) := by decide +kernel
theorem dX11_advance_90 : decode cX11_advance 90 = .ok (.getfield 165, 3) := by decide +kernel
theorem dX11_advance_93 : decode cX11_advance 93 = .ok (.iload 4, 2) := by decide +kernel
theorem dX11_advance_95 : decode cX11_advance 95 = .ok (.iadd, 1) := by decide +kernel
theorem dX11_advance_96 : decode cX11_advance 96 = .ok (.ldc 168, 2) := by decide +kernel
theorem dX11_advance_98 : decode cX11_advance 98 = .ok (.if_icmp .le 7, 3) := by decide +kernel
theorem dX11_advance_101 : decode cX11_advance 101 = .ok (.iconst 1, 1) := by decide +kernel
theorem dX11_advance_102 : decode cX11_advance 102 = .ok (.goto 4, 3) := by decide +kernel
theorem dX11_advance_105 : decode cX11_advance 105 = .ok (.iconst 0, 1) := by decide +kernel
theorem dX11_advance_106 : decode cX11_advance 106 = .ok (.iconst 3, 1) := by decide +kernel
theorem dX11_advance_107 : decode cX11_advance 107 = .ok (.invokevirtual 73, 3) := by decide +kernel
theorem dX11_advance_110 : decode cX11_advance 110 = .ok (.ifCond .eq 5, 3) := by decide +kernel
theorem dX11_advance_113 : decode cX11_advance 113 = .ok (.iconst (-1), 1) := by decide +kernel
theorem dX11_advance_114 : decode cX11_advance 114 = .ok (.ireturn, 1) := by decide +kernel
theorem dX11_advance_115 : decode cX11_advance 115 = .ok (.aload_n 0, 1) := by decide +kernel
theorem dX11_advance_116 : decode cX11_advance 116 = .ok (.getfield 159, 3) := by decide +kernel
theorem dX11_advance_119 : decode cX11_advance 119 = .ok (.ifCond .eq 23, 3) := by decide +kernel
theorem dX11_advance_122 : decode cX11_advance 122 = .ok (.iload_n 3, 1) := by decide +kernel
theorem dX11_advance_123 : decode cX11_advance 123 = .ok (.iconst 1, 1) := by decide +kernel
theorem dX11_advance_124 : decode cX11_advance 124 = .ok (.if_icmp .eq 8, 3) := by decide +kernel
theorem dX11_advance_127 : decode cX11_advance 127 = .ok (.iload_n 3, 1) := by decide +kernel
theorem dX11_advance_128 : decode cX11_advance 128 = .ok (.iconst 3, 1) := by decide +kernel
theorem dX11_advance_129 : decode cX11_advance 129 = .ok (.if_icmp .ne 13, 3) := by decide +kernel
theorem dX11_advance_132 : decode cX11_advance 132 = .ok (.getstatic 213, 3) := by decide +kernel
theorem dX11_advance_135 : decode cX11_advance 135 = .ok (.iload_n 3, 1) := by decide +kernel
theorem dX11_advance_136 : decode cX11_advance 136 = .ok (.iaload, 1) := by decide +kernel
theorem dX11_advance_137 : decode cX11_advance 137 = .ok (.iconst 2, 1) := by decide +kernel
theorem dX11_advance_138 : decode cX11_advance 138 = .ok (.idiv, 1) := by decide +kernel
theorem dX11_advance_139 : decode cX11_advance 139 = .ok (.goto 8, 3) := by decide +kernel
theorem dX11_advance_142 : decode cX11_advance 142 = .ok (.getstatic 213, 3) := by decide +kernel
theorem dX11_advance_145 : decode cX11_advance 145 = .ok (.iload_n 3, 1) := by decide +kernel
theorem dX11_advance_146 : decode cX11_advance 146 = .ok (.iaload, 1) := by decide +kernel
theorem dX11_advance_147 : decode cX11_advance 147 = .ok (.istore 5, 2) := by decide +kernel
theorem dX11_advance_149 : decode cX11_advance 149 = .ok (.iconst 0, 1) := by decide +kernel
theorem dX11_advance_150 : decode cX11_advance 150 = .ok (.istore 6, 2) := by decide +kernel
theorem dX11_advance_152 : decode cX11_advance 152 = .ok (.iload 6, 2) := by decide +kernel
theorem dX11_advance_154 : decode cX11_advance 154 = .ok (.bipush 8, 2) := by decide +kernel
theorem dX11_advance_156 : decode cX11_advance 156 = .ok (.if_icmp .ge 34, 3) := by decide +kernel
theorem dX11_advance_159 : decode cX11_advance 159 = .ok (.aload_n 0, 1) := by decide +kernel
theorem dX11_advance_160 : decode cX11_advance 160 = .ok (.getfield 52, 3) := by decide +kernel
theorem dX11_advance_163 : decode cX11_advance 163 = .ok (.iload 6, 2) := by decide +kernel
theorem dX11_advance_165 : decode cX11_advance 165 = .ok (.dup2, 1) := by decide +kernel
theorem dX11_advance_166 : decode cX11_advance 166 = .ok (.iaload, 1) := by decide +kernel
theorem dX11_advance_167 : decode cX11_advance 167 = .ok (.iload 6, 2) := by decide +kernel
theorem dX11_advance_169 : decode cX11_advance 169 = .ok (.iconst 2, 1) := by decide +kernel
theorem dX11_advance_170 : decode cX11_advance 170 = .ok (.if_icmp .ge 10, 3) := by decide +kernel
theorem dX11_advance_173 : decode cX11_advance 173 = .ok (.iconst 2, 1) := by decide +kernel
theorem dX11_advance_174 : decode cX11_advance 174 = .ok (.iload 5, 2) := by decide +kernel
theorem dX11_advance_176 : decode cX11_advance 176 = .ok (.imul, 1) := by decide +kernel
theorem dX11_advance_177 : decode cX11_advance 177 = .ok (.goto 5, 3) := by decide +kernel
theorem dX11_advance_180 : decode cX11_advance 180 = .ok (.iload 5, 2) := by decide +kernel
theorem dX11_advance_182 : decode cX11_advance 182 = .ok (.iadd, 1) := by decide +kernel
theorem dX11_advance_183 : decode cX11_advance 183 = .ok (.iastore, 1) := by decide +kernel
theorem dX11_advance_184 : decode cX11_advance 184 = .ok (.iinc 6 1, 3) := by decide +kernel
theorem dX11_advance_187 : decode cX11_advance 187 = .ok (.goto (-35), 3) := by decide +kernel
theorem dX11_advance_190 : decode cX11_advance 190 = .ok (.aload_n 0, 1) := by decide +kernel
theorem dX11_advance_191 : decode cX11_advance 191 = .ok (.dup, 1) := by decide +kernel
theorem dX11_advance_192 : decode cX11_advance 192 = .ok (.getfield 216, 3) := by decide +kernel
theorem dX11_advance_195 : decode cX11_advance 195 = .ok (.getstatic 219, 3) := by decide +kernel
theorem dX11_advance_198 : decode cX11_advance 198 = .ok (.iload_n 1, 1) := by decide +kernel
theorem dX11_advance_199 : decode cX11_advance 199 = .ok (.iaload, 1) := by decide +kernel
theorem dX11_advance_200 : decode cX11_advance 200 = .ok (.aload_n 0, 1) := by decide +kernel
theorem dX11_advance_201 : decode cX11_advance 201 = .ok (.getfield 173, 3) := by decide +kernel
theorem dX11_advance_204 : decode cX11_advance 204 = .ok (.iadd, 1) := by decide +kernel
theorem dX11_advance_205 : decode cX11_advance 205 = .ok (.aload_n 0, 1) := by decide +kernel
theorem dX11_advance_206 : decode cX11_advance 206 = .ok (.getfield 36, 3) := by decide +kernel
theorem dX11_advance_209 : decode cX11_advance 209 = .ok (.iload_n 2, 1) := by decide +kernel
theorem dX11_advance_210 : decode cX11_advance 210 = .ok (.iaload, 1) := by decide +kernel
theorem dX11_advance_211 : decode cX11_advance 211 = .ok (.isub, 1) := by decide +kernel
theorem dX11_advance_212 : decode cX11_advance 212 = .ok (.iadd, 1) := by decide +kernel
theorem dX11_advance_213 : decode cX11_advance 213 = .ok (.putfield 216, 3) := by decide +kernel
theorem dX11_advance_216 : decode cX11_advance 216 = .ok (.aload_n 0, 1) := by decide +kernel
theorem dX11_advance_217 : decode cX11_advance 217 = .ok (.dup, 1) := by decide +kernel
theorem dX11_advance_218 : decode cX11_advance 218 = .ok (.getfield 222, 3) := by decide +kernel
theorem dX11_advance_221 : decode cX11_advance 221 = .ok (.getstatic 225, 3) := by decide +kernel
theorem dX11_advance_224 : decode cX11_advance 224 = .ok (.iload_n 1, 1) := by decide +kernel
theorem dX11_advance_225 : decode cX11_advance 225 = .ok (.iaload, 1) := by decide +kernel
theorem dX11_advance_226 : decode cX11_advance 226 = .ok (.aload_n 0, 1) := by decide +kernel
theorem dX11_advance_227 : decode cX11_advance 227 = .ok (.getfield 176, 3) := by decide +kernel
theorem dX11_advance_230 : decode cX11_advance 230 = .ok (.iadd, 1) := by decide +kernel
theorem dX11_advance_231 : decode cX11_advance 231 = .ok (.aload_n 0, 1) := by decide +kernel
theorem dX11_advance_232 : decode cX11_advance 232 = .ok (.getfield 39, 3) := by decide +kernel
theorem dX11_advance_235 : decode cX11_advance 235 = .ok (.iload_n 2, 1) := by decide +kernel
theorem dX11_advance_236 : decode cX11_advance 236 = .ok (.iaload, 1) := by decide +kernel
theorem dX11_advance_237 : decode cX11_advance 237 = .ok (.isub, 1) := by decide +kernel
theorem dX11_advance_238 : decode cX11_advance 238 = .ok (.iadd, 1) := by decide +kernel
theorem dX11_advance_239 : decode cX11_advance 239 = .ok (.putfield 222, 3) := by decide +kernel
theorem dX11_advance_242 : decode cX11_advance 242 = .ok (.new 190, 3) := by decide +kernel
theorem dX11_advance_245 : decode cX11_advance 245 = .ok (.dup, 1) := by decide +kernel
theorem dX11_advance_246 : decode cX11_advance 246 = .ok (.invokespecial 228, 3) := by decide +kernel
theorem dX11_advance_249 : decode cX11_advance 249 = .ok (.astore 6, 2) := by decide +kernel
theorem dX11_advance_251 : decode cX11_advance 251 = .ok (.aload 6, 2) := by decide +kernel
theorem dX11_advance_253 : decode cX11_advance 253 = .ok (.iload_n 1, 1) := by decide +kernel
theorem dX11_advance_254 : decode cX11_advance 254 = .ok (.putfield 192, 3) := by decide +kernel
theorem dX11_advance_257 : decode cX11_advance 257 = .ok (.aload 6, 2) := by decide +kernel
theorem dX11_advance_259 : decode cX11_advance 259 = .ok (.iload_n 2, 1) := by decide +kernel
theorem dX11_advance_260 : decode cX11_advance 260 = .ok (.ifCond .ne 7, 3) := by decide +kernel
theorem dX11_advance_263 : decode cX11_advance 263 = .ok (.iconst 0, 1) := by decide +kernel
theorem dX11_advance_264 : decode cX11_advance 264 = .ok (.goto 21, 3) := by decide +kernel
theorem dX11_advance_267 : decode cX11_advance 267 = .ok (.aload_n 0, 1) := by decide +kernel
theorem dX11_advance_268 : decode cX11_advance 268 = .ok (.getfield 49, 3) := by decide +kernel
theorem dX11_advance_271 : decode cX11_advance 271 = .ok (.iload_n 2, 1) := by decide +kernel
theorem dX11_advance_272 : decode cX11_advance 272 = .ok (.iconst 1, 1) := by decide +kernel
theorem dX11_advance_273 : decode cX11_advance 273 = .ok (.isub, 1) := by decide +kernel
theorem dX11_advance_274 : decode cX11_advance 274 = .ok (.invokeinterface 186 2, 5) := by decide +kernel
theorem dX11_advance_279 : decode cX11_advance 279 = .ok (.checkcast 190, 3) := by decide +kernel
theorem dX11_advance_282 : decode cX11_advance 282 = .ok (.getfield 229, 3) := by decide +kernel
theorem dX11_advance_285 : decode cX11_advance 285 = .ok (.aload_n 0, 1) := by decide +kernel
theorem dX11_advance_286 : decode cX11_advance 286 = .ok (.getfield 216, 3) := by decide +kernel
theorem dX11_advance_289 : decode cX11_advance 289 = .ok (.iadd, 1) := by decide +kernel
theorem dX11_advance_290 : decode cX11_advance 290 = .ok (.putfield 229, 3) := by decide +kernel
theorem dX11_advance_293 : decode cX11_advance 293 = .ok (.aload 6, 2) := by decide +kernel
theorem dX11_advance_295 : decode cX11_advance 295 = .ok (.iload_n 2, 1) := by decide +kernel
theorem dX11_advance_296 : decode cX11_advance 296 = .ok (.ifCond .ne 7, 3) := by decide +kernel
theorem dX11_advance_299 : decode cX11_advance 299 = .ok (.iconst 0, 1) := by decide +kernel
theorem dX11_advance_300 : decode cX11_advance 300 = .ok (.goto 21, 3) := by decide +kernel
theorem dX11_advance_303 : decode cX11_advance 303 = .ok (.aload_n 0, 1) := by decide +kernel
theorem dX11_advance_304 : decode cX11_advance 304 = .ok (.getfield 49, 3) := by decide +kernel
theorem dX11_advance_307 : decode cX11_advance 307 = .ok (.iload_n 2, 1) := by decide +kernel
theorem dX11_advance_308 : decode cX11_advance 308 = .ok (.iconst 1, 1) := by decide +kernel
theorem dX11_advance_309 : decode cX11_advance 309 = .ok (.isub, 1) := by decide +kernel
theorem dX11_advance_310 : decode cX11_advance 310 = .ok (.invokeinterface 186 2, 5) := by decide +kernel
theorem dX11_advance_315 : decode cX11_advance 315 = .ok (.checkcast 190, 3) := by decide +kernel
theorem dX11_advance_318 : decode cX11_advance 318 = .ok (.getfield 232, 3) := by decide +kernel
theorem dX11_advance_321 : decode cX11_advance 321 = .ok (.aload_n 0, 1) := by decide +kernel
theorem dX11_advance_322 : decode cX11_advance 322 = .ok (.getfield 222, 3) := by decide +kernel
theorem dX11_advance_325 : decode cX11_advance 325 = .ok (.iadd, 1) := by decide +kernel
theorem dX11_advance_326 : decode cX11_advance 326 = .ok (.putfield 232, 3) := by decide +kernel
theorem dX11_advance_329 : decode cX11_advance 329 = .ok (.aload 6, 2) := by decide +kernel
theorem dX11_advance_331 : decode cX11_advance 331 = .ok (.iload 4, 2) := by decide +kernel
theorem dX11_advance_333 : decode cX11_advance 333 = .ok (.putfield 235, 3) := by decide +kernel
theorem dX11_advance_336 : decode cX11_advance 336 = .ok (.aload_n 0, 1) := by decide +kernel
theorem dX11_advance_337 : decode cX11_advance 337 = .ok (.dup, 1) := by decide +kernel
theorem dX11_advance_338 : decode cX11_advance 338 = .ok (.getfield 198, 3) := by decide +kernel
theorem dX11_advance_341 : decode cX11_advance 341 = .ok (.aload_n 0, 1) := by decide +kernel
theorem dX11_advance_342 : decode cX11_advance 342 = .ok (.iload_n 2, 1) := by decide +kernel
theorem dX11_advance_343 : decode cX11_advance 343 = .ok (.invokevirtual 201, 3) := by decide +kernel
theorem dX11_advance_346 : decode cX11_advance 346 = .ok (.iadd, 1) := by decide +kernel
theorem dX11_advance_347 : decode cX11_advance 347 = .ok (.putfield 198, 3) := by decide +kernel
theorem dX11_advance_350 : decode cX11_advance 350 = .ok (.aload_n 0, 1) := by decide +kernel
theorem dX11_advance_351 : decode cX11_advance 351 = .ok (.dup, 1) := by decide +kernel
theorem dX11_advance_352 : decode cX11_advance 352 = .ok (.getfield 195, 3) := by decide +kernel
theorem dX11_advance_355 : decode cX11_advance 355 = .ok (.iconst 1, 1) := by decide +kernel
theorem dX11_advance_356 : decode cX11_advance 356 = .ok (.isub, 1) := by decide +kernel
theorem dX11_advance_357 : decode cX11_advance 357 = .ok (.putfield 195, 3) := by decide +kernel
theorem dX11_advance_360 : decode cX11_advance 360 = .ok (.aload_n 0, 1) := by decide +kernel
theorem dX11_advance_361 : decode cX11_advance 361 = .ok (.dup, 1) := by decide +kernel
theorem dX11_advance_362 : decode cX11_advance 362 = .ok (.getfield 165, 3) := by decide +kernel
theorem dX11_advance_365 : decode cX11_advance 365 = .ok (.iload 4, 2) := by decide +kernel
theorem dX11_advance_367 : decode cX11_advance 367 = .ok (.iadd, 1) := by decide +kernel
theorem dX11_advance_368 : decode cX11_advance 368 = .ok (.putfield 165, 3) := by decide +kernel
theorem dX11_advance_371 : decode cX11_advance 371 = .ok (.aload 6, 2) := by decide +kernel
theorem dX11_advance_373 : decode cX11_advance 373 = .ok (.aload_n 0, 1) := by decide +kernel
theorem dX11_advance_374 : decode cX11_advance 374 = .ok (.getfield 165, 3) := by decide +kernel
theorem dX11_advance_377 : decode cX11_advance 377 = .ok (.putfield 238, 3) := by decide +kernel
theorem dX11_advance_380 : decode cX11_advance 380 = .ok (.aload_n 0, 1) := by decide +kernel
theorem dX11_advance_381 : decode cX11_advance 381 = .ok (.getfield 49, 3) := by decide +kernel
theorem dX11_advance_384 : decode cX11_advance 384 = .ok (.aload 6, 2) := by decide +kernel
theorem dX11_advance_386 : decode cX11_advance 386 = .ok (.invokeinterface 104 2, 5) := by decide +kernel
theorem dX11_advance_391 : decode cX11_advance 391 = .ok (.pop, 1) := by decide +kernel
theorem dX11_advance_392 : decode cX11_advance 392 = .ok (.iload 4, 2) := by decide +kernel
theorem dX11_advance_394 : decode cX11_advance 394 = .ok (.ireturn, 1) := by decide +kernel
theorem dX11_rings_0 : decode cX11_rings 0 = .ok (.aload_n 0, 1) := by decide +kernel
theorem dX11_rings_1 : decode cX11_rings 1 = .ok (.invokevirtual 77, 3) := by decide +kernel
theorem dX11_rings_4 : decode cX11_rings 4 = .ok (.aload_n 0, 1) := by decide +kernel
theorem dX11_rings_5 : decode cX11_rings 5 = .ok (.getfield 49, 3) := by decide +kernel
theorem dX11_rings_8 : decode cX11_rings 8 = .ok (.invokeinterface 7 1, 5) := by decide +kernel
theorem dX11_rings_13 : decode cX11_rings 13 = .ok (.ireturn, 1) := by decide +kernel
theorem dX11_noRing_0 : decode cX11_noRing 0 = .ok (.aload_n 0, 1) := by decide +kernel
theorem dX11_noRing_1 : decode cX11_noRing 1 = .ok (.aload_n 0, 1) := by decide +kernel
theorem dX11_noRing_2 : decode cX11_noRing 2 = .ok (.getfield 49, 3) := by decide +kernel
theorem dX11_noRing_5 : decode cX11_noRing 5 = .ok (.iload_n 1, 1) := by decide +kernel
theorem dX11_noRing_6 : decode cX11_noRing 6 = .ok (.invokestatic 241, 3) := by decide +kernel
theorem dX11_noRing_9 : decode cX11_noRing 9 = .ok (.ifCond .ne 7, 3) := by decide +kernel
theorem dX11_noRing_12 : decode cX11_noRing 12 = .ok (.iconst 1, 1) := by decide +kernel
theorem dX11_noRing_13 : decode cX11_noRing 13 = .ok (.goto 4, 3) := by decide +kernel
theorem dX11_noRing_16 : decode cX11_noRing 16 = .ok (.iconst 0, 1) := by decide +kernel
theorem dX11_noRing_17 : decode cX11_noRing 17 = .ok (.iconst 1, 1) := by decide +kernel
theorem dX11_noRing_18 : decode cX11_noRing 18 = .ok (.invokevirtual 73, 3) := by decide +kernel
theorem dX11_noRing_21 : decode cX11_noRing 21 = .ok (.ireturn, 1) := by decide +kernel
theorem dX11_off_0 : decode cX11_off 0 = .ok (.aload_n 0, 1) := by decide +kernel
theorem dX11_off_1 : decode cX11_off 1 = .ok (.invokevirtual 77, 3) := by decide +kernel
theorem dX11_off_4 : decode cX11_off 4 = .ok (.aload_n 0, 1) := by decide +kernel
theorem dX11_off_5 : decode cX11_off 5 = .ok (.iload_n 1, 1) := by decide +kernel
theorem dX11_off_6 : decode cX11_off 6 = .ok (.invokevirtual 245, 3) := by decide +kernel
theorem dX11_off_9 : decode cX11_off 9 = .ok (.ifCond .eq 7, 3) := by decide +kernel
theorem dX11_off_12 : decode cX11_off 12 = .ok (.iconst (-1), 1) := by decide +kernel
theorem dX11_off_13 : decode cX11_off 13 = .ok (.goto 42, 3) := by decide +kernel
theorem dX11_off_16 : decode cX11_off 16 = .ok (.iload_n 2, 1) := by decide +kernel
theorem dX11_off_17 : decode cX11_off 17 = .ok (.ifCond .eq 22, 3) := by decide +kernel
theorem dX11_off_20 : decode cX11_off 20 = .ok (.aload_n 0, 1) := by decide +kernel
theorem dX11_off_21 : decode cX11_off 21 = .ok (.getfield 49, 3) := by decide +kernel
theorem dX11_off_24 : decode cX11_off 24 = .ok (.iload_n 1, 1) := by decide +kernel
theorem dX11_off_25 : decode cX11_off 25 = .ok (.invokeinterface 186 2, 5) := by decide +kernel
theorem dX11_off_30 : decode cX11_off 30 = .ok (.checkcast 190, 3) := by decide +kernel
theorem dX11_off_33 : decode cX11_off 33 = .ok (.getfield 232, 3) := by decide +kernel
theorem dX11_off_36 : decode cX11_off 36 = .ok (.goto 19, 3) := by decide +kernel
theorem dX11_off_39 : decode cX11_off 39 = .ok (.aload_n 0, 1) := by decide +kernel
theorem dX11_off_40 : decode cX11_off 40 = .ok (.getfield 49, 3) := by decide +kernel
theorem dX11_off_43 : decode cX11_off 43 = .ok (.iload_n 1, 1) := by decide +kernel
theorem dX11_off_44 : decode cX11_off 44 = .ok (.invokeinterface 186 2, 5) := by decide +kernel
theorem dX11_off_49 : decode cX11_off 49 = .ok (.checkcast 190, 3) := by decide +kernel
theorem dX11_off_52 : decode cX11_off 52 = .ok (.getfield 229, 3) := by decide +kernel
theorem dX11_off_55 : decode cX11_off 55 = .ok (.ireturn, 1) := by decide +kernel
theorem dX11_heading_0 : decode cX11_heading 0 = .ok (.aload_n 0, 1) := by decide +kernel
theorem dX11_heading_1 : decode cX11_heading 1 = .ok (.invokevirtual 77, 3) := by decide +kernel
theorem dX11_heading_4 : decode cX11_heading 4 = .ok (.iload_n 1, 1) := by decide +kernel
theorem dX11_heading_5 : decode cX11_heading 5 = .ok (.ifCond .eq 10, 3) := by decide +kernel
theorem dX11_heading_8 : decode cX11_heading 8 = .ok (.aload_n 0, 1) := by decide +kernel
theorem dX11_heading_9 : decode cX11_heading 9 = .ok (.getfield 222, 3) := by decide +kernel
theorem dX11_heading_12 : decode cX11_heading 12 = .ok (.goto 7, 3) := by decide +kernel
theorem dX11_heading_15 : decode cX11_heading 15 = .ok (.aload_n 0, 1) := by decide +kernel
theorem dX11_heading_16 : decode cX11_heading 16 = .ok (.getfield 216, 3) := by decide +kernel
theorem dX11_heading_19 : decode cX11_heading 19 = .ok (.ireturn, 1) := by decide +kernel
theorem dX11_rotation_0 : decode cX11_rotation 0 = .ok (.aload_n 0, 1) := by decide +kernel
theorem dX11_rotation_1 : decode cX11_rotation 1 = .ok (.invokevirtual 77, 3) := by decide +kernel
theorem dX11_rotation_4 : decode cX11_rotation 4 = .ok (.aload_n 0, 1) := by decide +kernel
theorem dX11_rotation_5 : decode cX11_rotation 5 = .ok (.iload_n 1, 1) := by decide +kernel
theorem dX11_rotation_6 : decode cX11_rotation 6 = .ok (.invokevirtual 245, 3) := by decide +kernel
theorem dX11_rotation_9 : decode cX11_rotation 9 = .ok (.ifCond .eq 7, 3) := by decide +kernel
theorem dX11_rotation_12 : decode cX11_rotation 12 = .ok (.iconst (-1), 1) := by decide +kernel
theorem dX11_rotation_13 : decode cX11_rotation 13 = .ok (.goto 19, 3) := by decide +kernel
theorem dX11_rotation_16 : decode cX11_rotation 16 = .ok (.aload_n 0, 1) := by decide +kernel
theorem dX11_rotation_17 : decode cX11_rotation 17 = .ok (.getfield 49, 3) := by decide +kernel
theorem dX11_rotation_20 : decode cX11_rotation 20 = .ok (.iload_n 1, 1) := by decide +kernel
theorem dX11_rotation_21 : decode cX11_rotation 21 = .ok (.invokeinterface 186 2, 5) := by decide +kernel
theorem dX11_rotation_26 : decode cX11_rotation 26 = .ok (.checkcast 190, 3) := by decide +kernel
theorem dX11_rotation_29 : decode cX11_rotation 29 = .ok (.getfield 192, 3) := by decide +kernel
theorem dX11_rotation_32 : decode cX11_rotation 32 = .ok (.ireturn, 1) := by decide +kernel
theorem dX11_least_0 : decode cX11_least 0 = .ok (.ldc2_w 248, 3) := by decide +kernel
theorem dX11_least_3 : decode cX11_least 3 = .ok (.lstore 6, 2) := by decide +kernel
theorem dX11_least_5 : decode cX11_least 5 = .ok (.iconst 0, 1) := by decide +kernel
theorem dX11_least_6 : decode cX11_least 6 = .ok (.istore 8, 2) := by decide +kernel
theorem dX11_least_8 : decode cX11_least 8 = .ok (.iload 8, 2) := by decide +kernel
theorem dX11_least_10 : decode cX11_least 10 = .ok (.bipush 8, 2) := by decide +kernel
theorem dX11_least_12 : decode cX11_least 12 = .ok (.if_icmp .ge 185, 3) := by decide +kernel
theorem dX11_least_15 : decode cX11_least 15 = .ok (.iload_n 2, 1) := by decide +kernel
theorem dX11_least_16 : decode cX11_least 16 = .ok (.ifCond .le 181, 3) := by decide +kernel
theorem dX11_least_19 : decode cX11_least 19 = .ok (.iload 8, 2) := by decide +kernel
theorem dX11_least_21 : decode cX11_least 21 = .ok (.iload_n 3, 1) := by decide +kernel
theorem dX11_least_22 : decode cX11_least 22 = .ok (.if_icmp .eq 169, 3) := by decide +kernel
theorem dX11_least_25 : decode cX11_least 25 = .ok (.aload 4, 2) := by decide +kernel
theorem dX11_least_27 : decode cX11_least 27 = .ok (.iconst 0, 1) := by decide +kernel
theorem dX11_least_28 : decode cX11_least 28 = .ok (.laload, 1) := by decide +kernel
theorem dX11_least_29 : decode cX11_least 29 = .ok (.getstatic 219, 3) := by decide +kernel
theorem dX11_least_32 : decode cX11_least 32 = .ok (.iload 8, 2) := by decide +kernel
theorem dX11_least_34 : decode cX11_least 34 = .ok (.iaload, 1) := by decide +kernel
theorem dX11_least_35 : decode cX11_least 35 = .ok (.i2l, 1) := by decide +kernel
theorem dX11_least_36 : decode cX11_least 36 = .ok (.ladd, 1) := by decide +kernel
theorem dX11_least_37 : decode cX11_least 37 = .ok (.aload_n 0, 1) := by decide +kernel
theorem dX11_least_38 : decode cX11_least 38 = .ok (.getfield 173, 3) := by decide +kernel
theorem dX11_least_41 : decode cX11_least 41 = .ok (.i2l, 1) := by decide +kernel
theorem dX11_least_42 : decode cX11_least 42 = .ok (.ladd, 1) := by decide +kernel
theorem dX11_least_43 : decode cX11_least 43 = .ok (.aload_n 0, 1) := by decide +kernel
theorem dX11_least_44 : decode cX11_least 44 = .ok (.getfield 36, 3) := by decide +kernel
theorem dX11_least_47 : decode cX11_least 47 = .ok (.iload_n 1, 1) := by decide +kernel
theorem dX11_least_48 : decode cX11_least 48 = .ok (.iaload, 1) := by decide +kernel
theorem dX11_least_49 : decode cX11_least 49 = .ok (.i2l, 1) := by decide +kernel
theorem dX11_least_50 : decode cX11_least 50 = .ok (.lsub, 1) := by decide +kernel
theorem dX11_least_51 : decode cX11_least 51 = .ok (.lstore 9, 2) := by decide +kernel
theorem dX11_least_53 : decode cX11_least 53 = .ok (.aload 4, 2) := by decide +kernel
theorem dX11_least_55 : decode cX11_least 55 = .ok (.iconst 1, 1) := by decide +kernel
theorem dX11_least_56 : decode cX11_least 56 = .ok (.laload, 1) := by decide +kernel
theorem dX11_least_57 : decode cX11_least 57 = .ok (.getstatic 225, 3) := by decide +kernel
theorem dX11_least_60 : decode cX11_least 60 = .ok (.iload 8, 2) := by decide +kernel
theorem dX11_least_62 : decode cX11_least 62 = .ok (.iaload, 1) := by decide +kernel
theorem dX11_least_63 : decode cX11_least 63 = .ok (.i2l, 1) := by decide +kernel
theorem dX11_least_64 : decode cX11_least 64 = .ok (.ladd, 1) := by decide +kernel
theorem dX11_least_65 : decode cX11_least 65 = .ok (.aload_n 0, 1) := by decide +kernel
theorem dX11_least_66 : decode cX11_least 66 = .ok (.getfield 176, 3) := by decide +kernel
theorem dX11_least_69 : decode cX11_least 69 = .ok (.i2l, 1) := by decide +kernel
theorem dX11_least_70 : decode cX11_least 70 = .ok (.ladd, 1) := by decide +kernel
theorem dX11_least_71 : decode cX11_least 71 = .ok (.aload_n 0, 1) := by decide +kernel
theorem dX11_least_72 : decode cX11_least 72 = .ok (.getfield 39, 3) := by decide +kernel
theorem dX11_least_75 : decode cX11_least 75 = .ok (.iload_n 1, 1) := by decide +kernel
theorem dX11_least_76 : decode cX11_least 76 = .ok (.iaload, 1) := by decide +kernel
theorem dX11_least_77 : decode cX11_least 77 = .ok (.i2l, 1) := by decide +kernel
theorem dX11_least_78 : decode cX11_least 78 = .ok (.lsub, 1) := by decide +kernel
theorem dX11_least_79 : decode cX11_least 79 = .ok (.lstore 11, 2) := by decide +kernel
theorem dX11_least_81 : decode cX11_least 81 = .ok (.iconst 4, 1) := by decide +kernel
theorem dX11_least_82 : decode cX11_least 82 = .ok (.newarray .long, 2) := by decide +kernel
theorem dX11_least_84 : decode cX11_least 84 = .ok (.dup, 1) := by decide +kernel
theorem dX11_least_85 : decode cX11_least 85 = .ok (.iconst 0, 1) := by decide +kernel
theorem dX11_least_86 : decode cX11_least 86 = .ok (.lload 9, 2) := by decide +kernel
theorem dX11_least_88 : decode cX11_least 88 = .ok (.lastore, 1) := by decide +kernel
theorem dX11_least_89 : decode cX11_least 89 = .ok (.dup, 1) := by decide +kernel
theorem dX11_least_90 : decode cX11_least 90 = .ok (.iconst 1, 1) := by decide +kernel
theorem dX11_least_91 : decode cX11_least 91 = .ok (.lload 11, 2) := by decide +kernel
theorem dX11_least_93 : decode cX11_least 93 = .ok (.lastore, 1) := by decide +kernel
theorem dX11_least_94 : decode cX11_least 94 = .ok (.dup, 1) := by decide +kernel
theorem dX11_least_95 : decode cX11_least 95 = .ok (.iconst 2, 1) := by decide +kernel
theorem dX11_least_96 : decode cX11_least 96 = .ok (.aload 4, 2) := by decide +kernel
theorem dX11_least_98 : decode cX11_least 98 = .ok (.iconst 2, 1) := by decide +kernel
theorem dX11_least_99 : decode cX11_least 99 = .ok (.laload, 1) := by decide +kernel
theorem dX11_least_100 : decode cX11_least 100 = .ok (.lload 9, 2) := by decide +kernel
theorem dX11_least_102 : decode cX11_least 102 = .ok (.ladd, 1) := by decide +kernel
theorem dX11_least_103 : decode cX11_least 103 = .ok (.lastore, 1) := by decide +kernel
theorem dX11_least_104 : decode cX11_least 104 = .ok (.dup, 1) := by decide +kernel
theorem dX11_least_105 : decode cX11_least 105 = .ok (.iconst 3, 1) := by decide +kernel
theorem dX11_least_106 : decode cX11_least 106 = .ok (.aload 4, 2) := by decide +kernel
theorem dX11_least_108 : decode cX11_least 108 = .ok (.iconst 3, 1) := by decide +kernel
theorem dX11_least_109 : decode cX11_least 109 = .ok (.laload, 1) := by decide +kernel
theorem dX11_least_110 : decode cX11_least 110 = .ok (.lload 11, 2) := by decide +kernel
theorem dX11_least_112 : decode cX11_least 112 = .ok (.ladd, 1) := by decide +kernel
theorem dX11_least_113 : decode cX11_least 113 = .ok (.lastore, 1) := by decide +kernel
theorem dX11_least_114 : decode cX11_least 114 = .ok (.astore 13, 2) := by decide +kernel
theorem dX11_least_116 : decode cX11_least 116 = .ok (.aload 13, 2) := by decide +kernel
theorem dX11_least_118 : decode cX11_least 118 = .ok (.iconst 2, 1) := by decide +kernel
theorem dX11_least_119 : decode cX11_least 119 = .ok (.laload, 1) := by decide +kernel
theorem dX11_least_120 : decode cX11_least 120 = .ok (.aload 13, 2) := by decide +kernel
theorem dX11_least_122 : decode cX11_least 122 = .ok (.iconst 2, 1) := by decide +kernel
theorem dX11_least_123 : decode cX11_least 123 = .ok (.laload, 1) := by decide +kernel
theorem dX11_least_124 : decode cX11_least 124 = .ok (.lmul, 1) := by decide +kernel
theorem dX11_least_125 : decode cX11_least 125 = .ok (.aload 13, 2) := by decide +kernel
theorem dX11_least_127 : decode cX11_least 127 = .ok (.iconst 3, 1) := by decide +kernel
theorem dX11_least_128 : decode cX11_least 128 = .ok (.laload, 1) := by decide +kernel
theorem dX11_least_129 : decode cX11_least 129 = .ok (.aload 13, 2) := by decide +kernel
theorem dX11_least_131 : decode cX11_least 131 = .ok (.iconst 3, 1) := by decide +kernel
theorem dX11_least_132 : decode cX11_least 132 = .ok (.laload, 1) := by decide +kernel
theorem dX11_least_133 : decode cX11_least 133 = .ok (.lmul, 1) := by decide +kernel
theorem dX11_least_134 : decode cX11_least 134 = .ok (.ladd, 1) := by decide +kernel
theorem dX11_least_135 : decode cX11_least 135 = .ok (.iload_n 2, 1) := by decide +kernel
theorem dX11_least_136 : decode cX11_least 136 = .ok (.iconst 1, 1) := by decide +kernel
theorem dX11_least_137 : decode cX11_least 137 = .ok (.if_icmp .ne 7, 3) := by decide +kernel
theorem dX11_least_140 : decode cX11_least 140 = .ok (.lconst 0, 1) := by decide +kernel
theorem dX11_least_141 : decode cX11_least 141 = .ok (.goto 20, 3) := by decide +kernel
theorem dX11_least_144 : decode cX11_least 144 = .ok (.aload_n 0, 1) := by decide +kernel
theorem dX11_least_145 : decode cX11_least 145 = .ok (.iload_n 1, 1) := by decide +kernel
theorem dX11_least_146 : decode cX11_least 146 = .ok (.iconst 1, 1) := by decide +kernel
theorem dX11_least_147 : decode cX11_least 147 = .ok (.iadd, 1) := by decide +kernel
theorem dX11_least_148 : decode cX11_least 148 = .ok (.iload_n 2, 1) := by decide +kernel
theorem dX11_least_149 : decode cX11_least 149 = .ok (.iconst 1, 1) := by decide +kernel
theorem dX11_least_150 : decode cX11_least 150 = .ok (.isub, 1) := by decide +kernel
theorem dX11_least_151 : decode cX11_least 151 = .ok (.iload 8, 2) := by decide +kernel
theorem dX11_least_153 : decode cX11_least 153 = .ok (.aload 13, 2) := by decide +kernel
theorem dX11_least_155 : decode cX11_least 155 = .ok (.iconst 1, 1) := by decide +kernel
theorem dX11_least_156 : decode cX11_least 156 = .ok (.newarray .int, 2) := by decide +kernel
theorem dX11_least_158 : decode cX11_least 158 = .ok (.invokevirtual 250, 3) := by decide +kernel
theorem dX11_least_161 : decode cX11_least 161 = .ok (.ladd, 1) := by decide +kernel
theorem dX11_least_162 : decode cX11_least 162 = .ok (.lstore 14, 2) := by decide +kernel
theorem dX11_least_164 : decode cX11_least 164 = .ok (.lload 6, 2) := by decide +kernel
theorem dX11_least_166 : decode cX11_least 166 = .ok (.ldc2_w 248, 3) := by decide +kernel
theorem dX11_least_169 : decode cX11_least 169 = .ok (.lcmp, 1) := by decide +kernel
theorem dX11_least_170 : decode cX11_least 170 = .ok (.ifCond .eq 11, 3) := by decide +kernel
theorem dX11_least_173 : decode cX11_least 173 = .ok (.lload 14, 2) := by decide +kernel
theorem dX11_least_175 : decode cX11_least 175 = .ok (.lload 6, 2) := by decide +kernel
theorem dX11_least_177 : decode cX11_least 177 = .ok (.lcmp, 1) := by decide +kernel
theorem dX11_least_178 : decode cX11_least 178 = .ok (.ifCond .ge 13, 3) := by decide +kernel
theorem dX11_least_181 : decode cX11_least 181 = .ok (.lload 14, 2) := by decide +kernel
theorem dX11_least_183 : decode cX11_least 183 = .ok (.lstore 6, 2) := by decide +kernel
theorem dX11_least_185 : decode cX11_least 185 = .ok (.aload 5, 2) := by decide +kernel
theorem dX11_least_187 : decode cX11_least 187 = .ok (.iconst 0, 1) := by decide +kernel
theorem dX11_least_188 : decode cX11_least 188 = .ok (.iload 8, 2) := by decide +kernel
theorem dX11_least_190 : decode cX11_least 190 = .ok (.iastore, 1) := by decide +kernel
theorem dX11_least_191 : decode cX11_least 191 = .ok (.iinc 8 1, 3) := by decide +kernel
theorem dX11_least_194 : decode cX11_least 194 = .ok (.goto (-186), 3) := by decide +kernel
theorem dX11_least_197 : decode cX11_least 197 = .ok (.lload 6, 2) := by decide +kernel
theorem dX11_least_199 : decode cX11_least 199 = .ok (.lreturn, 1) := by decide +kernel
theorem dX11_planned_0 : decode cX11_planned 0 = .ok (.aload_n 0, 1) := by decide +kernel
theorem dX11_planned_1 : decode cX11_planned 1 = .ok (.getfield 49, 3) := by decide +kernel
theorem dX11_planned_4 : decode cX11_planned 4 = .ok (.invokeinterface 7 1, 5) := by decide +kernel
theorem dX11_planned_9 : decode cX11_planned 9 = .ok (.istore_n 3, 1) := by decide +kernel
theorem dX11_planned_10 : decode cX11_planned 10 = .ok (.iload_n 3, 1) := by decide +kernel
theorem dX11_planned_11 : decode cX11_planned 11 = .ok (.ifCond .ne 13, 3) := by decide +kernel
theorem dX11_planned_14 : decode cX11_planned 14 = .ok (.new 190, 3) := by decide +kernel
theorem dX11_planned_17 : decode cX11_planned 17 = .ok (.dup, 1) := by decide +kernel
theorem dX11_planned_18 : decode cX11_planned 18 = .ok (.invokespecial 228, 3) := by decide +kernel
theorem dX11_planned_21 : decode cX11_planned 21 = .ok (.goto 18, 3) := by decide +kernel
theorem dX11_planned_24 : decode cX11_planned 24 = .ok (.aload_n 0, 1) := by decide +kernel
theorem dX11_planned_25 : decode cX11_planned 25 = .ok (.getfield 49, 3) := by decide +kernel
theorem dX11_planned_28 : decode cX11_planned 28 = .ok (.iload_n 3, 1) := by decide +kernel
theorem dX11_planned_29 : decode cX11_planned 29 = .ok (.iconst 1, 1) := by decide +kernel
theorem dX11_planned_30 : decode cX11_planned 30 = .ok (.isub, 1) := by decide +kernel
theorem dX11_planned_31 : decode cX11_planned 31 = .ok (.invokeinterface 186 2, 5) := by decide +kernel
theorem dX11_planned_36 : decode cX11_planned 36 = .ok (.checkcast 190, 3) := by decide +kernel
theorem dX11_planned_39 : decode cX11_planned 39 = .ok (.astore 4, 2) := by decide +kernel
theorem dX11_planned_41 : decode cX11_planned 41 = .ok (.iconst 4, 1) := by decide +kernel
theorem dX11_planned_42 : decode cX11_planned 42 = .ok (.newarray .long, 2) := by decide +kernel
theorem dX11_planned_44 : decode cX11_planned 44 = .ok (.dup, 1) := by decide +kernel
theorem dX11_planned_45 : decode cX11_planned 45 = .ok (.iconst 0, 1) := by decide +kernel
theorem dX11_planned_46 : decode cX11_planned 46 = .ok (.aload_n 0, 1) := by decide +kernel
theorem dX11_planned_47 : decode cX11_planned 47 = .ok (.getfield 216, 3) := by decide +kernel
theorem dX11_planned_50 : decode cX11_planned 50 = .ok (.i2l, 1) := by decide +kernel
theorem dX11_planned_51 : decode cX11_planned 51 = .ok (.lastore, 1) := by decide +kernel
theorem dX11_planned_52 : decode cX11_planned 52 = .ok (.dup, 1) := by decide +kernel
theorem dX11_planned_53 : decode cX11_planned 53 = .ok (.iconst 1, 1) := by decide +kernel
theorem dX11_planned_54 : decode cX11_planned 54 = .ok (.aload_n 0, 1) := by decide +kernel
theorem dX11_planned_55 : decode cX11_planned 55 = .ok (.getfield 222, 3) := by decide +kernel
theorem dX11_planned_58 : decode cX11_planned 58 = .ok (.i2l, 1) := by decide +kernel
theorem dX11_planned_59 : decode cX11_planned 59 = .ok (.lastore, 1) := by decide +kernel
theorem dX11_planned_60 : decode cX11_planned 60 = .ok (.dup, 1) := by decide +kernel
theorem dX11_planned_61 : decode cX11_planned 61 = .ok (.iconst 2, 1) := by decide +kernel
theorem dX11_planned_62 : decode cX11_planned 62 = .ok (.aload 4, 2) := by decide +kernel
theorem dX11_planned_64 : decode cX11_planned 64 = .ok (.getfield 229, 3) := by decide +kernel
theorem dX11_planned_67 : decode cX11_planned 67 = .ok (.i2l, 1) := by decide +kernel
theorem dX11_planned_68 : decode cX11_planned 68 = .ok (.lastore, 1) := by decide +kernel
theorem dX11_planned_69 : decode cX11_planned 69 = .ok (.dup, 1) := by decide +kernel
theorem dX11_planned_70 : decode cX11_planned 70 = .ok (.iconst 3, 1) := by decide +kernel
theorem dX11_planned_71 : decode cX11_planned 71 = .ok (.aload 4, 2) := by decide +kernel
theorem dX11_planned_73 : decode cX11_planned 73 = .ok (.getfield 232, 3) := by decide +kernel
theorem dX11_planned_76 : decode cX11_planned 76 = .ok (.i2l, 1) := by decide +kernel
theorem dX11_planned_77 : decode cX11_planned 77 = .ok (.lastore, 1) := by decide +kernel
theorem dX11_planned_78 : decode cX11_planned 78 = .ok (.astore 5, 2) := by decide +kernel
theorem dX11_planned_80 : decode cX11_planned 80 = .ok (.aload_n 0, 1) := by decide +kernel
theorem dX11_planned_81 : decode cX11_planned 81 = .ok (.iload_n 3, 1) := by decide +kernel
theorem dX11_planned_82 : decode cX11_planned 82 = .ok (.iload_n 1, 1) := by decide +kernel
theorem dX11_planned_83 : decode cX11_planned 83 = .ok (.iload_n 3, 1) := by decide +kernel
theorem dX11_planned_84 : decode cX11_planned 84 = .ok (.ifCond .ne 7, 3) := by decide +kernel
theorem dX11_planned_87 : decode cX11_planned 87 = .ok (.iconst (-1), 1) := by decide +kernel
theorem dX11_planned_88 : decode cX11_planned 88 = .ok (.goto 8, 3) := by decide +kernel
theorem dX11_planned_91 : decode cX11_planned 91 = .ok (.aload 4, 2) := by decide +kernel
theorem dX11_planned_93 : decode cX11_planned 93 = .ok (.getfield 192, 3) := by decide +kernel
theorem dX11_planned_96 : decode cX11_planned 96 = .ok (.aload 5, 2) := by decide +kernel
theorem dX11_planned_98 : decode cX11_planned 98 = .ok (.aload_n 2, 1) := by decide +kernel
theorem dX11_planned_99 : decode cX11_planned 99 = .ok (.invokevirtual 250, 3) := by decide +kernel
theorem dX11_planned_102 : decode cX11_planned 102 = .ok (.lreturn, 1) := by decide +kernel
theorem dX11_plan_0 : decode cX11_plan 0 = .ok (.aload_n 0, 1) := by decide +kernel
theorem dX11_plan_1 : decode cX11_plan 1 = .ok (.invokevirtual 77, 3) := by decide +kernel
theorem dX11_plan_4 : decode cX11_plan 4 = .ok (.aload_n 0, 1) := by decide +kernel
theorem dX11_plan_5 : decode cX11_plan 5 = .ok (.iload_n 1, 1) := by decide +kernel
theorem dX11_plan_6 : decode cX11_plan 6 = .ok (.i2l, 1) := by decide +kernel
theorem dX11_plan_7 : decode cX11_plan 7 = .ok (.lconst 1, 1) := by decide +kernel
theorem dX11_plan_8 : decode cX11_plan 8 = .ok (.ldc2_w 254, 3) := by decide +kernel
theorem dX11_plan_11 : decode cX11_plan 11 = .ok (.invokestatic 13, 3) := by decide +kernel
theorem dX11_plan_14 : decode cX11_plan 14 = .ok (.ifCond .ne 7, 3) := by decide +kernel
theorem dX11_plan_17 : decode cX11_plan 17 = .ok (.iconst 1, 1) := by decide +kernel
theorem dX11_plan_18 : decode cX11_plan 18 = .ok (.goto 4, 3) := by decide +kernel
theorem dX11_plan_21 : decode cX11_plan 21 = .ok (.iconst 0, 1) := by decide +kernel
theorem dX11_plan_22 : decode cX11_plan 22 = .ok (.iconst 1, 1) := by decide +kernel
theorem dX11_plan_23 : decode cX11_plan 23 = .ok (.invokevirtual 73, 3) := by decide +kernel
theorem dX11_plan_26 : decode cX11_plan 26 = .ok (.ifCond .eq 5, 3) := by decide +kernel
theorem dX11_plan_29 : decode cX11_plan 29 = .ok (.iconst (-1), 1) := by decide +kernel
theorem dX11_plan_30 : decode cX11_plan 30 = .ok (.ireturn, 1) := by decide +kernel
theorem dX11_plan_31 : decode cX11_plan 31 = .ok (.iconst 1, 1) := by decide +kernel
theorem dX11_plan_32 : decode cX11_plan 32 = .ok (.newarray .int, 2) := by decide +kernel
theorem dX11_plan_34 : decode cX11_plan 34 = .ok (.astore_n 2, 1) := by decide +kernel
theorem dX11_plan_35 : decode cX11_plan 35 = .ok (.aload_n 0, 1) := by decide +kernel
theorem dX11_plan_36 : decode cX11_plan 36 = .ok (.iload_n 1, 1) := by decide +kernel
theorem dX11_plan_37 : decode cX11_plan 37 = .ok (.aload_n 2, 1) := by decide +kernel
theorem dX11_plan_38 : decode cX11_plan 38 = .ok (.invokevirtual 256, 3) := by decide +kernel
theorem dX11_plan_41 : decode cX11_plan 41 = .ok (.lconst 0, 1) := by decide +kernel
theorem dX11_plan_42 : decode cX11_plan 42 = .ok (.lcmp, 1) := by decide +kernel
theorem dX11_plan_43 : decode cX11_plan 43 = .ok (.ifCond .lt 9, 3) := by decide +kernel
theorem dX11_plan_46 : decode cX11_plan 46 = .ok (.aload_n 2, 1) := by decide +kernel
theorem dX11_plan_47 : decode cX11_plan 47 = .ok (.iconst 0, 1) := by decide +kernel
theorem dX11_plan_48 : decode cX11_plan 48 = .ok (.iaload, 1) := by decide +kernel
theorem dX11_plan_49 : decode cX11_plan 49 = .ok (.goto 4, 3) := by decide +kernel
theorem dX11_plan_52 : decode cX11_plan 52 = .ok (.iconst (-1), 1) := by decide +kernel
theorem dX11_plan_53 : decode cX11_plan 53 = .ok (.ireturn, 1) := by decide +kernel
theorem dX11_squares_0 : decode cX11_squares 0 = .ok (.aload_n 0, 1) := by decide +kernel
theorem dX11_squares_1 : decode cX11_squares 1 = .ok (.invokevirtual 77, 3) := by decide +kernel
theorem dX11_squares_4 : decode cX11_squares 4 = .ok (.aload_n 0, 1) := by decide +kernel
theorem dX11_squares_5 : decode cX11_squares 5 = .ok (.iload_n 1, 1) := by decide +kernel
theorem dX11_squares_6 : decode cX11_squares 6 = .ok (.i2l, 1) := by decide +kernel
theorem dX11_squares_7 : decode cX11_squares 7 = .ok (.lconst 1, 1) := by decide +kernel
theorem dX11_squares_8 : decode cX11_squares 8 = .ok (.ldc2_w 254, 3) := by decide +kernel
theorem dX11_squares_11 : decode cX11_squares 11 = .ok (.invokestatic 13, 3) := by decide +kernel
theorem dX11_squares_14 : decode cX11_squares 14 = .ok (.ifCond .ne 7, 3) := by decide +kernel
theorem dX11_squares_17 : decode cX11_squares 17 = .ok (.iconst 1, 1) := by decide +kernel
theorem dX11_squares_18 : decode cX11_squares 18 = .ok (.goto 4, 3) := by decide +kernel
theorem dX11_squares_21 : decode cX11_squares 21 = .ok (.iconst 0, 1) := by decide +kernel
theorem dX11_squares_22 : decode cX11_squares 22 = .ok (.iconst 1, 1) := by decide +kernel
theorem dX11_squares_23 : decode cX11_squares 23 = .ok (.invokevirtual 73, 3) := by decide +kernel
theorem dX11_squares_26 : decode cX11_squares 26 = .ok (.ifCond .eq 9, 3) := by decide +kernel
theorem dX11_squares_29 : decode cX11_squares 29 = .ok (.ldc2_w 248, 3) := by decide +kernel
theorem dX11_squares_32 : decode cX11_squares 32 = .ok (.goto 11, 3) := by decide +kernel
theorem dX11_squares_35 : decode cX11_squares 35 = .ok (.aload_n 0, 1) := by decide +kernel
theorem dX11_squares_36 : decode cX11_squares 36 = .ok (.iload_n 1, 1) := by decide +kernel
theorem dX11_squares_37 : decode cX11_squares 37 = .ok (.iconst 1, 1) := by decide +kernel
theorem dX11_squares_38 : decode cX11_squares 38 = .ok (.newarray .int, 2) := by decide +kernel
theorem dX11_squares_40 : decode cX11_squares 40 = .ok (.invokevirtual 256, 3) := by decide +kernel
theorem dX11_squares_43 : decode cX11_squares 43 = .ok (.lreturn, 1) := by decide +kernel
theorem dX11_offRings_0 : decode cX11_offRings 0 = .ok (.aload_n 0, 1) := by decide +kernel
theorem dX11_offRings_1 : decode cX11_offRings 1 = .ok (.invokevirtual 77, 3) := by decide +kernel
theorem dX11_offRings_4 : decode cX11_offRings 4 = .ok (.iconst 0, 1) := by decide +kernel
theorem dX11_offRings_5 : decode cX11_offRings 5 = .ok (.istore_n 1, 1) := by decide +kernel
theorem dX11_offRings_6 : decode cX11_offRings 6 = .ok (.aload_n 0, 1) := by decide +kernel
theorem dX11_offRings_7 : decode cX11_offRings 7 = .ok (.getfield 49, 3) := by decide +kernel
theorem dX11_offRings_10 : decode cX11_offRings 10 = .ok (.invokeinterface 108 1, 5) := by decide +kernel
theorem dX11_offRings_15 : decode cX11_offRings 15 = .ok (.astore_n 2, 1) := by decide +kernel
theorem dX11_offRings_16 : decode cX11_offRings 16 = .ok (.aload_n 2, 1) := by decide +kernel
theorem dX11_offRings_17 : decode cX11_offRings 17 = .ok (.invokeinterface 112 1, 5) := by decide +kernel
theorem dX11_offRings_22 : decode cX11_offRings 22 = .ok (.ifCond .eq 48, 3) := by decide +kernel
theorem dX11_offRings_25 : decode cX11_offRings 25 = .ok (.aload_n 2, 1) := by decide +kernel
theorem dX11_offRings_26 : decode cX11_offRings 26 = .ok (.invokeinterface 118 1, 5) := by decide +kernel
theorem dX11_offRings_31 : decode cX11_offRings 31 = .ok (.checkcast 190, 3) := by decide +kernel
theorem dX11_offRings_34 : decode cX11_offRings 34 = .ok (.astore_n 3, 1) := by decide +kernel
theorem dX11_offRings_35 : decode cX11_offRings 35 = .ok (.iload_n 1, 1) := by decide +kernel
theorem dX11_offRings_36 : decode cX11_offRings 36 = .ok (.aload_n 3, 1) := by decide +kernel
theorem dX11_offRings_37 : decode cX11_offRings 37 = .ok (.getfield 229, 3) := by decide +kernel
theorem dX11_offRings_40 : decode cX11_offRings 40 = .ok (.invokestatic 123, 3) := by decide +kernel
theorem dX11_offRings_43 : decode cX11_offRings 43 = .ok (.bipush 50, 2) := by decide +kernel
theorem dX11_offRings_45 : decode cX11_offRings 45 = .ok (.if_icmp .gt 15, 3) := by decide +kernel
theorem dX11_offRings_48 : decode cX11_offRings 48 = .ok (.aload_n 3, 1) := by decide +kernel
theorem dX11_offRings_49 : decode cX11_offRings 49 = .ok (.getfield 232, 3) := by decide +kernel
theorem dX11_offRings_52 : decode cX11_offRings 52 = .ok (.invokestatic 123, 3) := by decide +kernel
theorem dX11_offRings_55 : decode cX11_offRings 55 = .ok (.bipush 50, 2) := by decide +kernel
theorem dX11_offRings_57 : decode cX11_offRings 57 = .ok (.if_icmp .le 7, 3) := by decide +kernel
theorem dX11_offRings_60 : decode cX11_offRings 60 = .ok (.iconst 1, 1) := by decide +kernel
theorem dX11_offRings_61 : decode cX11_offRings 61 = .ok (.goto 4, 3) := by decide +kernel
theorem dX11_offRings_64 : decode cX11_offRings 64 = .ok (.iconst 0, 1) := by decide +kernel
theorem dX11_offRings_65 : decode cX11_offRings 65 = .ok (.iadd, 1) := by decide +kernel
theorem dX11_offRings_66 : decode cX11_offRings 66 = .ok (.istore_n 1, 1) := by decide +kernel
theorem dX11_offRings_67 : decode cX11_offRings 67 = .ok (.goto (-51), 3) := by decide +kernel
theorem dX11_offRings_70 : decode cX11_offRings 70 = .ok (.iload_n 1, 1) := by decide +kernel
theorem dX11_offRings_71 : decode cX11_offRings 71 = .ok (.ireturn, 1) := by decide +kernel
theorem dX11_gap_0 : decode cX11_gap 0 = .ok (.bipush 100, 2) := by decide +kernel
theorem dX11_gap_2 : decode cX11_gap 2 = .ok (.bipush 10, 2) := by decide +kernel
theorem dX11_gap_4 : decode cX11_gap 4 = .ok (.getstatic 260, 3) := by decide +kernel
theorem dX11_gap_7 : decode cX11_gap 7 = .ok (.aload_n 0, 1) := by decide +kernel
theorem dX11_gap_8 : decode cX11_gap 8 = .ok (.getfield 23, 3) := by decide +kernel
theorem dX11_gap_11 : decode cX11_gap 11 = .ok (.iload_n 1, 1) := by decide +kernel
theorem dX11_gap_12 : decode cX11_gap 12 = .ok (.iaload, 1) := by decide +kernel
theorem dX11_gap_13 : decode cX11_gap 13 = .ok (.iaload, 1) := by decide +kernel
theorem dX11_gap_14 : decode cX11_gap 14 = .ok (.imul, 1) := by decide +kernel
theorem dX11_gap_15 : decode cX11_gap 15 = .ok (.iadd, 1) := by decide +kernel
theorem dX11_gap_16 : decode cX11_gap 16 = .ok (.ireturn, 1) := by decide +kernel
theorem dX11_lostAt_0 : decode cX11_lostAt 0 = .ok (.iconst 0, 1) := by decide +kernel
theorem dX11_lostAt_1 : decode cX11_lostAt 1 = .ok (.aload_n 0, 1) := by decide +kernel
theorem dX11_lostAt_2 : decode cX11_lostAt 2 = .ok (.iload_n 1, 1) := by decide +kernel
theorem dX11_lostAt_3 : decode cX11_lostAt 3 = .ok (.invokevirtual 263, 3) := by decide +kernel
theorem dX11_lostAt_6 : decode cX11_lostAt 6 = .ok (.aload_n 0, 1) := by decide +kernel
theorem dX11_lostAt_7 : decode cX11_lostAt 7 = .ok (.getfield 49, 3) := by decide +kernel
theorem dX11_lostAt_10 : decode cX11_lostAt 10 = .ok (.iload_n 1, 1) := by decide +kernel
theorem dX11_lostAt_11 : decode cX11_lostAt 11 = .ok (.invokeinterface 186 2, 5) := by decide +kernel
theorem dX11_lostAt_16 : decode cX11_lostAt 16 = .ok (.checkcast 190, 3) := by decide +kernel
theorem dX11_lostAt_19 : decode cX11_lostAt 19 = .ok (.getfield 266, 3) := by decide +kernel
theorem dX11_lostAt_22 : decode cX11_lostAt 22 = .ok (.isub, 1) := by decide +kernel
theorem dX11_lostAt_23 : decode cX11_lostAt 23 = .ok (.invokestatic 128, 3) := by decide +kernel
theorem dX11_lostAt_26 : decode cX11_lostAt 26 = .ok (.ireturn, 1) := by decide +kernel
theorem dX11_grout_0 : decode cX11_grout 0 = .ok (.aload_n 0, 1) := by decide +kernel
theorem dX11_grout_1 : decode cX11_grout 1 = .ok (.invokevirtual 77, 3) := by decide +kernel
theorem dX11_grout_4 : decode cX11_grout 4 = .ok (.aload_n 0, 1) := by decide +kernel
theorem dX11_grout_5 : decode cX11_grout 5 = .ok (.iload_n 1, 1) := by decide +kernel
theorem dX11_grout_6 : decode cX11_grout 6 = .ok (.invokevirtual 245, 3) := by decide +kernel
theorem dX11_grout_9 : decode cX11_grout 9 = .ok (.ifCond .ne 28, 3) := by decide +kernel
theorem dX11_grout_12 : decode cX11_grout 12 = .ok (.aload_n 0, 1) := by decide +kernel
theorem dX11_grout_13 : decode cX11_grout 13 = .ok (.iload_n 2, 1) := by decide +kernel
theorem dX11_grout_14 : decode cX11_grout 14 = .ok (.i2l, 1) := by decide +kernel
theorem dX11_grout_15 : decode cX11_grout 15 = .ok (.lconst 1, 1) := by decide +kernel
theorem dX11_grout_16 : decode cX11_grout 16 = .ok (.ldc2_w 269, 3) := by decide +kernel
theorem dX11_grout_19 : decode cX11_grout 19 = .ok (.invokestatic 13, 3) := by decide +kernel
theorem dX11_grout_22 : decode cX11_grout 22 = .ok (.ifCond .ne 7, 3) := by decide +kernel
theorem dX11_grout_25 : decode cX11_grout 25 = .ok (.iconst 1, 1) := by decide +kernel
theorem dX11_grout_26 : decode cX11_grout 26 = .ok (.goto 4, 3) := by decide +kernel
theorem dX11_grout_29 : decode cX11_grout 29 = .ok (.iconst 0, 1) := by decide +kernel
theorem dX11_grout_30 : decode cX11_grout 30 = .ok (.iconst 2, 1) := by decide +kernel
theorem dX11_grout_31 : decode cX11_grout 31 = .ok (.invokevirtual 73, 3) := by decide +kernel
theorem dX11_grout_34 : decode cX11_grout 34 = .ok (.ifCond .eq 5, 3) := by decide +kernel
theorem dX11_grout_37 : decode cX11_grout 37 = .ok (.iconst (-1), 1) := by decide +kernel
theorem dX11_grout_38 : decode cX11_grout 38 = .ok (.ireturn, 1) := by decide +kernel
theorem dX11_grout_39 : decode cX11_grout 39 = .ok (.aload_n 0, 1) := by decide +kernel
theorem dX11_grout_40 : decode cX11_grout 40 = .ok (.getfield 49, 3) := by decide +kernel
theorem dX11_grout_43 : decode cX11_grout 43 = .ok (.iload_n 1, 1) := by decide +kernel
theorem dX11_grout_44 : decode cX11_grout 44 = .ok (.invokeinterface 186 2, 5) := by decide +kernel
theorem dX11_grout_49 : decode cX11_grout 49 = .ok (.checkcast 190, 3) := by decide +kernel
theorem dX11_grout_52 : decode cX11_grout 52 = .ok (.astore_n 3, 1) := by decide +kernel
theorem dX11_grout_53 : decode cX11_grout 53 = .ok (.aload_n 3, 1) := by decide +kernel
theorem dX11_grout_54 : decode cX11_grout 54 = .ok (.getfield 271, 3) := by decide +kernel
theorem dX11_grout_57 : decode cX11_grout 57 = .ok (.iconst (-1), 1) := by decide +kernel
theorem dX11_grout_58 : decode cX11_grout 58 = .ok (.if_icmp .eq 22, 3) := by decide +kernel
theorem dX11_grout_61 : decode cX11_grout 61 = .ok (.aload_n 0, 1) := by decide +kernel
theorem dX11_grout_62 : decode cX11_grout 62 = .ok (.getfield 165, 3) := by decide +kernel
theorem dX11_grout_65 : decode cX11_grout 65 = .ok (.aload_n 3, 1) := by decide +kernel
theorem dX11_grout_66 : decode cX11_grout 66 = .ok (.getfield 271, 3) := by decide +kernel
theorem dX11_grout_69 : decode cX11_grout 69 = .ok (.isub, 1) := by decide +kernel
theorem dX11_grout_70 : decode cX11_grout 70 = .ok (.sipush 600, 3) := by decide +kernel
theorem dX11_grout_73 : decode cX11_grout 73 = .ok (.if_icmp .lt 7, 3) := by decide +kernel
theorem dX11_grout_76 : decode cX11_grout 76 = .ok (.iconst 1, 1) := by decide +kernel
theorem dX11_grout_77 : decode cX11_grout 77 = .ok (.goto 4, 3) := by decide +kernel
theorem dX11_grout_80 : decode cX11_grout 80 = .ok (.iconst 0, 1) := by decide +kernel
theorem dX11_grout_81 : decode cX11_grout 81 = .ok (.istore 4, 2) := by decide +kernel
theorem dX11_grout_83 : decode cX11_grout 83 = .ok (.aload_n 0, 1) := by decide +kernel
theorem dX11_grout_84 : decode cX11_grout 84 = .ok (.iload 4, 2) := by decide +kernel
theorem dX11_grout_86 : decode cX11_grout 86 = .ok (.ifCond .ne 25, 3) := by decide +kernel
theorem dX11_grout_89 : decode cX11_grout 89 = .ok (.aload_n 3, 1) := by decide +kernel
theorem dX11_grout_90 : decode cX11_grout 90 = .ok (.getfield 266, 3) := by decide +kernel
theorem dX11_grout_93 : decode cX11_grout 93 = .ok (.iload_n 2, 1) := by decide +kernel
theorem dX11_grout_94 : decode cX11_grout 94 = .ok (.iadd, 1) := by decide +kernel
theorem dX11_grout_95 : decode cX11_grout 95 = .ok (.aload_n 0, 1) := by decide +kernel
theorem dX11_grout_96 : decode cX11_grout 96 = .ok (.iload_n 1, 1) := by decide +kernel
theorem dX11_grout_97 : decode cX11_grout 97 = .ok (.invokevirtual 263, 3) := by decide +kernel
theorem dX11_grout_100 : decode cX11_grout 100 = .ok (.aload_n 0, 1) := by decide +kernel
theorem dX11_grout_101 : decode cX11_grout 101 = .ok (.iload_n 1, 1) := by decide +kernel
theorem dX11_grout_102 : decode cX11_grout 102 = .ok (.invokevirtual 263, 3) := by decide +kernel
theorem dX11_grout_105 : decode cX11_grout 105 = .ok (.iconst 5, 1) := by decide +kernel
theorem dX11_grout_106 : decode cX11_grout 106 = .ok (.idiv, 1) := by decide +kernel
theorem dX11_grout_107 : decode cX11_grout 107 = .ok (.iadd, 1) := by decide +kernel
theorem dX11_grout_108 : decode cX11_grout 108 = .ok (.if_icmp .le 7, 3) := by decide +kernel
theorem dX11_grout_111 : decode cX11_grout 111 = .ok (.iconst 1, 1) := by decide +kernel
theorem dX11_grout_112 : decode cX11_grout 112 = .ok (.goto 4, 3) := by decide +kernel
theorem dX11_grout_115 : decode cX11_grout 115 = .ok (.iconst 0, 1) := by decide +kernel
theorem dX11_grout_116 : decode cX11_grout 116 = .ok (.iconst 3, 1) := by decide +kernel
theorem dX11_grout_117 : decode cX11_grout 117 = .ok (.invokevirtual 73, 3) := by decide +kernel
theorem dX11_grout_120 : decode cX11_grout 120 = .ok (.ifCond .eq 5, 3) := by decide +kernel
theorem dX11_grout_123 : decode cX11_grout 123 = .ok (.iconst (-1), 1) := by decide +kernel
theorem dX11_grout_124 : decode cX11_grout 124 = .ok (.ireturn, 1) := by decide +kernel
theorem dX11_grout_125 : decode cX11_grout 125 = .ok (.aload_n 3, 1) := by decide +kernel
theorem dX11_grout_126 : decode cX11_grout 126 = .ok (.aload_n 3, 1) := by decide +kernel
theorem dX11_grout_127 : decode cX11_grout 127 = .ok (.getfield 271, 3) := by decide +kernel
theorem dX11_grout_130 : decode cX11_grout 130 = .ok (.iconst (-1), 1) := by decide +kernel
theorem dX11_grout_131 : decode cX11_grout 131 = .ok (.if_icmp .ne 10, 3) := by decide +kernel
theorem dX11_grout_134 : decode cX11_grout 134 = .ok (.aload_n 0, 1) := by decide +kernel
theorem dX11_grout_135 : decode cX11_grout 135 = .ok (.getfield 165, 3) := by decide +kernel
theorem dX11_grout_138 : decode cX11_grout 138 = .ok (.goto 7, 3) := by decide +kernel
theorem dX11_grout_141 : decode cX11_grout 141 = .ok (.aload_n 3, 1) := by decide +kernel
theorem dX11_grout_142 : decode cX11_grout 142 = .ok (.getfield 271, 3) := by decide +kernel
theorem dX11_grout_145 : decode cX11_grout 145 = .ok (.putfield 271, 3) := by decide +kernel
theorem dX11_grout_148 : decode cX11_grout 148 = .ok (.aload_n 3, 1) := by decide +kernel
theorem dX11_grout_149 : decode cX11_grout 149 = .ok (.dup, 1) := by decide +kernel
theorem dX11_grout_150 : decode cX11_grout 150 = .ok (.getfield 266, 3) := by decide +kernel
theorem dX11_grout_153 : decode cX11_grout 153 = .ok (.iload_n 2, 1) := by decide +kernel
theorem dX11_grout_154 : decode cX11_grout 154 = .ok (.iadd, 1) := by decide +kernel
theorem dX11_grout_155 : decode cX11_grout 155 = .ok (.putfield 266, 3) := by decide +kernel
theorem dX11_grout_158 : decode cX11_grout 158 = .ok (.aload_n 0, 1) := by decide +kernel
theorem dX11_grout_159 : decode cX11_grout 159 = .ok (.iload_n 1, 1) := by decide +kernel
theorem dX11_grout_160 : decode cX11_grout 160 = .ok (.invokevirtual 274, 3) := by decide +kernel
theorem dX11_grout_163 : decode cX11_grout 163 = .ok (.ireturn, 1) := by decide +kernel
theorem dX11_lost_0 : decode cX11_lost 0 = .ok (.aload_n 0, 1) := by decide +kernel
theorem dX11_lost_1 : decode cX11_lost 1 = .ok (.invokevirtual 77, 3) := by decide +kernel
theorem dX11_lost_4 : decode cX11_lost 4 = .ok (.aload_n 0, 1) := by decide +kernel
theorem dX11_lost_5 : decode cX11_lost 5 = .ok (.iload_n 1, 1) := by decide +kernel
theorem dX11_lost_6 : decode cX11_lost 6 = .ok (.invokevirtual 245, 3) := by decide +kernel
theorem dX11_lost_9 : decode cX11_lost 9 = .ok (.ifCond .eq 7, 3) := by decide +kernel
theorem dX11_lost_12 : decode cX11_lost 12 = .ok (.iconst (-1), 1) := by decide +kernel
theorem dX11_lost_13 : decode cX11_lost 13 = .ok (.goto 8, 3) := by decide +kernel
theorem dX11_lost_16 : decode cX11_lost 16 = .ok (.aload_n 0, 1) := by decide +kernel
theorem dX11_lost_17 : decode cX11_lost 17 = .ok (.iload_n 1, 1) := by decide +kernel
theorem dX11_lost_18 : decode cX11_lost 18 = .ok (.invokevirtual 274, 3) := by decide +kernel
theorem dX11_lost_21 : decode cX11_lost 21 = .ok (.ireturn, 1) := by decide +kernel
theorem dX11_house_0 : decode cX11_house 0 = .ok (.aload_n 0, 1) := by decide +kernel
theorem dX11_house_1 : decode cX11_house 1 = .ok (.invokevirtual 77, 3) := by decide +kernel
theorem dX11_house_4 : decode cX11_house 4 = .ok (.aload_n 0, 1) := by decide +kernel
theorem dX11_house_5 : decode cX11_house 5 = .ok (.iload_n 1, 1) := by decide +kernel
theorem dX11_house_6 : decode cX11_house 6 = .ok (.invokestatic 69, 3) := by decide +kernel
theorem dX11_house_9 : decode cX11_house 9 = .ok (.ifCond .eq 27, 3) := by decide +kernel
theorem dX11_house_12 : decode cX11_house 12 = .ok (.iload_n 2, 1) := by decide +kernel
theorem dX11_house_13 : decode cX11_house 13 = .ok (.invokestatic 69, 3) := by decide +kernel
theorem dX11_house_16 : decode cX11_house 16 = .ok (.ifCond .eq 20, 3) := by decide +kernel
theorem dX11_house_19 : decode cX11_house 19 = .ok (.iload_n 2, 1) := by decide +kernel
theorem dX11_house_20 : decode cX11_house 20 = .ok (.iload_n 1, 1) := by decide +kernel
theorem dX11_house_21 : decode cX11_house 21 = .ok (.if_icmp .lt 15, 3) := by decide +kernel
theorem dX11_house_24 : decode cX11_house 24 = .ok (.iload_n 3, 1) := by decide +kernel
theorem dX11_house_25 : decode cX11_house 25 = .ok (.i2l, 1) := by decide +kernel
theorem dX11_house_26 : decode cX11_house 26 = .ok (.lconst 0, 1) := by decide +kernel
theorem dX11_house_27 : decode cX11_house 27 = .ok (.ldc2_w 277, 3) := by decide +kernel
theorem dX11_house_30 : decode cX11_house 30 = .ok (.invokestatic 13, 3) := by decide +kernel
theorem dX11_house_33 : decode cX11_house 33 = .ok (.ifCond .ne 7, 3) := by decide +kernel
theorem dX11_house_36 : decode cX11_house 36 = .ok (.iconst 1, 1) := by decide +kernel
theorem dX11_house_37 : decode cX11_house 37 = .ok (.goto 4, 3) := by decide +kernel
theorem dX11_house_40 : decode cX11_house 40 = .ok (.iconst 0, 1) := by decide +kernel
theorem dX11_house_41 : decode cX11_house 41 = .ok (.iconst 1, 1) := by decide +kernel
theorem dX11_house_42 : decode cX11_house 42 = .ok (.invokevirtual 73, 3) := by decide +kernel
theorem dX11_house_45 : decode cX11_house 45 = .ok (.ifCond .ne 30, 3) := by decide +kernel
theorem dX11_house_48 : decode cX11_house 48 = .ok (.aload_n 0, 1) := by decide +kernel
theorem dX11_house_49 : decode cX11_house 49 = .ok (.aload_n 0, 1) := by decide +kernel
theorem dX11_house_50 : decode cX11_house 50 = .ok (.getfield 55, 3) := by decide +kernel
theorem dX11_house_53 : decode cX11_house 53 = .ok (.invokeinterface 7 1, 5) := by decide +kernel
theorem dX11_house_58 : decode cX11_house 58 = .ok (.bipush 8, 2) := by decide +kernel
theorem dX11_house_60 : decode cX11_house 60 = .ok (.if_icmp .ne 7, 3) := by decide +kernel
theorem dX11_house_63 : decode cX11_house 63 = .ok (.iconst 1, 1) := by decide +kernel
theorem dX11_house_64 : decode cX11_house 64 = .ok (.goto 4, 3) := by decide +kernel
theorem dX11_house_67 : decode cX11_house 67 = .ok (.iconst 0, 1) := by decide +kernel
theorem dX11_house_68 : decode cX11_house 68 = .ok (.iconst 2, 1) := by decide +kernel
theorem dX11_house_69 : decode cX11_house 69 = .ok (.invokevirtual 73, 3) := by decide +kernel
theorem dX11_house_72 : decode cX11_house 72 = .ok (.ifCond .eq 5, 3) := by decide +kernel
theorem dX11_house_75 : decode cX11_house 75 = .ok (.iconst (-1), 1) := by decide +kernel
theorem dX11_house_76 : decode cX11_house 76 = .ok (.ireturn, 1) := by decide +kernel
theorem dX11_house_77 : decode cX11_house 77 = .ok (.aload_n 0, 1) := by decide +kernel
theorem dX11_house_78 : decode cX11_house 78 = .ok (.getfield 55, 3) := by decide +kernel
theorem dX11_house_81 : decode cX11_house 81 = .ok (.bipush 7, 2) := by decide +kernel
theorem dX11_house_83 : decode cX11_house 83 = .ok (.newarray .int, 2) := by decide +kernel
theorem dX11_house_85 : decode cX11_house 85 = .ok (.dup, 1) := by decide +kernel
theorem dX11_house_86 : decode cX11_house 86 = .ok (.iconst 0, 1) := by decide +kernel
theorem dX11_house_87 : decode cX11_house 87 = .ok (.iload_n 1, 1) := by decide +kernel
theorem dX11_house_88 : decode cX11_house 88 = .ok (.iastore, 1) := by decide +kernel
theorem dX11_house_89 : decode cX11_house 89 = .ok (.dup, 1) := by decide +kernel
theorem dX11_house_90 : decode cX11_house 90 = .ok (.iconst 1, 1) := by decide +kernel
theorem dX11_house_91 : decode cX11_house 91 = .ok (.iload_n 2, 1) := by decide +kernel
theorem dX11_house_92 : decode cX11_house 92 = .ok (.iastore, 1) := by decide +kernel
theorem dX11_house_93 : decode cX11_house 93 = .ok (.dup, 1) := by decide +kernel
theorem dX11_house_94 : decode cX11_house 94 = .ok (.iconst 2, 1) := by decide +kernel
theorem dX11_house_95 : decode cX11_house 95 = .ok (.iload_n 3, 1) := by decide +kernel
theorem dX11_house_96 : decode cX11_house 96 = .ok (.iastore, 1) := by decide +kernel
theorem dX11_house_97 : decode cX11_house 97 = .ok (.dup, 1) := by decide +kernel
theorem dX11_house_98 : decode cX11_house 98 = .ok (.iconst 3, 1) := by decide +kernel
theorem dX11_house_99 : decode cX11_house 99 = .ok (.iconst 0, 1) := by decide +kernel
theorem dX11_house_100 : decode cX11_house 100 = .ok (.iastore, 1) := by decide +kernel
theorem dX11_house_101 : decode cX11_house 101 = .ok (.dup, 1) := by decide +kernel
theorem dX11_house_102 : decode cX11_house 102 = .ok (.iconst 4, 1) := by decide +kernel
theorem dX11_house_103 : decode cX11_house 103 = .ok (.iconst 0, 1) := by decide +kernel
theorem dX11_house_104 : decode cX11_house 104 = .ok (.iastore, 1) := by decide +kernel
theorem dX11_house_105 : decode cX11_house 105 = .ok (.dup, 1) := by decide +kernel
theorem dX11_house_106 : decode cX11_house 106 = .ok (.iconst 5, 1) := by decide +kernel
theorem dX11_house_107 : decode cX11_house 107 = .ok (.iconst 0, 1) := by decide +kernel
theorem dX11_house_108 : decode cX11_house 108 = .ok (.iastore, 1) := by decide +kernel
theorem dX11_house_109 : decode cX11_house 109 = .ok (.dup, 1) := by decide +kernel
theorem dX11_house_110 : decode cX11_house 110 = .ok (.bipush 6, 2) := by decide +kernel
theorem dX11_house_112 : decode cX11_house 112 = .ok (.iconst 0, 1) := by decide +kernel
theorem dX11_house_113 : decode cX11_house 113 = .ok (.iastore, 1) := by decide +kernel
theorem dX11_house_114 : decode cX11_house 114 = .ok (.invokeinterface 104 2, 5) := by decide +kernel
theorem dX11_house_119 : decode cX11_house 119 = .ok (.pop, 1) := by decide +kernel
theorem dX11_house_120 : decode cX11_house 120 = .ok (.aload_n 0, 1) := by decide +kernel
theorem dX11_house_121 : decode cX11_house 121 = .ok (.getfield 55, 3) := by decide +kernel
theorem dX11_house_124 : decode cX11_house 124 = .ok (.invokeinterface 7 1, 5) := by decide +kernel
theorem dX11_house_129 : decode cX11_house 129 = .ok (.iconst 1, 1) := by decide +kernel
theorem dX11_house_130 : decode cX11_house 130 = .ok (.isub, 1) := by decide +kernel
theorem dX11_house_131 : decode cX11_house 131 = .ok (.ireturn, 1) := by decide +kernel
theorem dX11_settled_0 : decode cX11_settled 0 = .ok (.aload_n 0, 1) := by decide +kernel
theorem dX11_settled_1 : decode cX11_settled 1 = .ok (.getfield 55, 3) := by decide +kernel
theorem dX11_settled_4 : decode cX11_settled 4 = .ok (.iload_n 1, 1) := by decide +kernel
theorem dX11_settled_5 : decode cX11_settled 5 = .ok (.invokeinterface 186 2, 5) := by decide +kernel
theorem dX11_settled_10 : decode cX11_settled 10 = .ok (.checkcast 122, 3) := by decide +kernel
theorem dX11_settled_13 : decode cX11_settled 13 = .ok (.astore_n 3, 1) := by decide +kernel
theorem dX11_settled_14 : decode cX11_settled 14 = .ok (.iload_n 2, 1) := by decide +kernel
theorem dX11_settled_15 : decode cX11_settled 15 = .ok (.ifCond .eq 9, 3) := by decide +kernel
theorem dX11_settled_18 : decode cX11_settled 18 = .ok (.aload_n 3, 1) := by decide +kernel
theorem dX11_settled_19 : decode cX11_settled 19 = .ok (.iconst 1, 1) := by decide +kernel
theorem dX11_settled_20 : decode cX11_settled 20 = .ok (.iaload, 1) := by decide +kernel
theorem dX11_settled_21 : decode cX11_settled 21 = .ok (.goto 6, 3) := by decide +kernel
theorem dX11_settled_24 : decode cX11_settled 24 = .ok (.aload_n 3, 1) := by decide +kernel
theorem dX11_settled_25 : decode cX11_settled 25 = .ok (.iconst 0, 1) := by decide +kernel
theorem dX11_settled_26 : decode cX11_settled 26 = .ok (.iaload, 1) := by decide +kernel
theorem dX11_settled_27 : decode cX11_settled 27 = .ok (.istore 4, 2) := by decide +kernel
theorem dX11_settled_29 : decode cX11_settled 29 = .ok (.iconst 0, 1) := by decide +kernel
theorem dX11_settled_30 : decode cX11_settled 30 = .ok (.istore 5, 2) := by decide +kernel
theorem dX11_settled_32 : decode cX11_settled 32 = .ok (.iconst 0, 1) := by decide +kernel
theorem dX11_settled_33 : decode cX11_settled 33 = .ok (.istore 6, 2) := by decide +kernel
theorem dX11_settled_35 : decode cX11_settled 35 = .ok (.iload 6, 2) := by decide +kernel
theorem dX11_settled_37 : decode cX11_settled 37 = .ok (.aload_n 0, 1) := by decide +kernel
theorem dX11_settled_38 : decode cX11_settled 38 = .ok (.getfield 49, 3) := by decide +kernel
theorem dX11_settled_41 : decode cX11_settled 41 = .ok (.invokeinterface 7 1, 5) := by decide +kernel
theorem dX11_settled_46 : decode cX11_settled 46 = .ok (.if_icmp .ge 70, 3) := by decide +kernel
theorem dX11_settled_49 : decode cX11_settled 49 = .ok (.aload_n 0, 1) := by decide +kernel
theorem dX11_settled_50 : decode cX11_settled 50 = .ok (.getfield 30, 3) := by decide +kernel
theorem dX11_settled_53 : decode cX11_settled 53 = .ok (.iload 6, 2) := by decide +kernel
theorem dX11_settled_55 : decode cX11_settled 55 = .ok (.iaload, 1) := by decide +kernel
theorem dX11_settled_56 : decode cX11_settled 56 = .ok (.aload_n 0, 1) := by decide +kernel
theorem dX11_settled_57 : decode cX11_settled 57 = .ok (.getfield 30, 3) := by decide +kernel
theorem dX11_settled_60 : decode cX11_settled 60 = .ok (.iload 6, 2) := by decide +kernel
theorem dX11_settled_62 : decode cX11_settled 62 = .ok (.iaload, 1) := by decide +kernel
theorem dX11_settled_63 : decode cX11_settled 63 = .ok (.imul, 1) := by decide +kernel
theorem dX11_settled_64 : decode cX11_settled 64 = .ok (.istore 7, 2) := by decide +kernel
theorem dX11_settled_66 : decode cX11_settled 66 = .ok (.iload 4, 2) := by decide +kernel
theorem dX11_settled_68 : decode cX11_settled 68 = .ok (.iload 6, 2) := by decide +kernel
theorem dX11_settled_70 : decode cX11_settled 70 = .ok (.isub, 1) := by decide +kernel
theorem dX11_settled_71 : decode cX11_settled 71 = .ok (.iload 4, 2) := by decide +kernel
theorem dX11_settled_73 : decode cX11_settled 73 = .ok (.iload 6, 2) := by decide +kernel
theorem dX11_settled_75 : decode cX11_settled 75 = .ok (.isub, 1) := by decide +kernel
theorem dX11_settled_76 : decode cX11_settled 76 = .ok (.imul, 1) := by decide +kernel
theorem dX11_settled_77 : decode cX11_settled 77 = .ok (.aload_n 3, 1) := by decide +kernel
theorem dX11_settled_78 : decode cX11_settled 78 = .ok (.iconst 2, 1) := by decide +kernel
theorem dX11_settled_79 : decode cX11_settled 79 = .ok (.iaload, 1) := by decide +kernel
theorem dX11_settled_80 : decode cX11_settled 80 = .ok (.aload_n 3, 1) := by decide +kernel
theorem dX11_settled_81 : decode cX11_settled 81 = .ok (.iconst 2, 1) := by decide +kernel
theorem dX11_settled_82 : decode cX11_settled 82 = .ok (.iaload, 1) := by decide +kernel
theorem dX11_settled_83 : decode cX11_settled 83 = .ok (.imul, 1) := by decide +kernel
theorem dX11_settled_84 : decode cX11_settled 84 = .ok (.iadd, 1) := by decide +kernel
theorem dX11_settled_85 : decode cX11_settled 85 = .ok (.istore 8, 2) := by decide +kernel
theorem dX11_settled_87 : decode cX11_settled 87 = .ok (.iload 5, 2) := by decide +kernel
theorem dX11_settled_89 : decode cX11_settled 89 = .ok (.aload_n 0, 1) := by decide +kernel
theorem dX11_settled_90 : decode cX11_settled 90 = .ok (.iload 6, 2) := by decide +kernel
theorem dX11_settled_92 : decode cX11_settled 92 = .ok (.invokevirtual 274, 3) := by decide +kernel
theorem dX11_settled_95 : decode cX11_settled 95 = .ok (.iload 7, 2) := by decide +kernel
theorem dX11_settled_97 : decode cX11_settled 97 = .ok (.imul, 1) := by decide +kernel
theorem dX11_settled_98 : decode cX11_settled 98 = .ok (.bipush 10, 2) := by decide +kernel
theorem dX11_settled_100 : decode cX11_settled 100 = .ok (.iload 7, 2) := by decide +kernel
theorem dX11_settled_102 : decode cX11_settled 102 = .ok (.iload 8, 2) := by decide +kernel
theorem dX11_settled_104 : decode cX11_settled 104 = .ok (.iadd, 1) := by decide +kernel
theorem dX11_settled_105 : decode cX11_settled 105 = .ok (.imul, 1) := by decide +kernel
theorem dX11_settled_106 : decode cX11_settled 106 = .ok (.idiv, 1) := by decide +kernel
theorem dX11_settled_107 : decode cX11_settled 107 = .ok (.iadd, 1) := by decide +kernel
theorem dX11_settled_108 : decode cX11_settled 108 = .ok (.istore 5, 2) := by decide +kernel
theorem dX11_settled_110 : decode cX11_settled 110 = .ok (.iinc 6 1, 3) := by decide +kernel
theorem dX11_settled_113 : decode cX11_settled 113 = .ok (.goto (-78), 3) := by decide +kernel
theorem dX11_settled_116 : decode cX11_settled 116 = .ok (.iload 5, 2) := by decide +kernel
theorem dX11_settled_118 : decode cX11_settled 118 = .ok (.aload_n 3, 1) := by decide +kernel
theorem dX11_settled_119 : decode cX11_settled 119 = .ok (.iload_n 2, 1) := by decide +kernel
theorem dX11_settled_120 : decode cX11_settled 120 = .ok (.ifCond .eq 7, 3) := by decide +kernel
theorem dX11_settled_123 : decode cX11_settled 123 = .ok (.iconst 4, 1) := by decide +kernel
theorem dX11_settled_124 : decode cX11_settled 124 = .ok (.goto 4, 3) := by decide +kernel
theorem dX11_settled_127 : decode cX11_settled 127 = .ok (.iconst 3, 1) := by decide +kernel
theorem dX11_settled_128 : decode cX11_settled 128 = .ok (.iaload, 1) := by decide +kernel
theorem dX11_settled_129 : decode cX11_settled 129 = .ok (.isub, 1) := by decide +kernel
theorem dX11_settled_130 : decode cX11_settled 130 = .ok (.ireturn, 1) := by decide +kernel
theorem dX11_noHouse_0 : decode cX11_noHouse 0 = .ok (.aload_n 0, 1) := by decide +kernel
theorem dX11_noHouse_1 : decode cX11_noHouse 1 = .ok (.aload_n 0, 1) := by decide +kernel
theorem dX11_noHouse_2 : decode cX11_noHouse 2 = .ok (.getfield 55, 3) := by decide +kernel
theorem dX11_noHouse_5 : decode cX11_noHouse 5 = .ok (.iload_n 1, 1) := by decide +kernel
theorem dX11_noHouse_6 : decode cX11_noHouse 6 = .ok (.invokestatic 241, 3) := by decide +kernel
theorem dX11_noHouse_9 : decode cX11_noHouse 9 = .ok (.ifCond .ne 7, 3) := by decide +kernel
theorem dX11_noHouse_12 : decode cX11_noHouse 12 = .ok (.iconst 1, 1) := by decide +kernel
theorem dX11_noHouse_13 : decode cX11_noHouse 13 = .ok (.goto 4, 3) := by decide +kernel
theorem dX11_noHouse_16 : decode cX11_noHouse 16 = .ok (.iconst 0, 1) := by decide +kernel
theorem dX11_noHouse_17 : decode cX11_noHouse 17 = .ok (.iconst 1, 1) := by decide +kernel
theorem dX11_noHouse_18 : decode cX11_noHouse 18 = .ok (.invokevirtual 73, 3) := by decide +kernel
theorem dX11_noHouse_21 : decode cX11_noHouse 21 = .ok (.ireturn, 1) := by decide +kernel
theorem dX11_settles_0 : decode cX11_settles 0 = .ok (.aload_n 0, 1) := by decide +kernel
theorem dX11_settles_1 : decode cX11_settles 1 = .ok (.invokevirtual 77, 3) := by decide +kernel
theorem dX11_settles_4 : decode cX11_settles 4 = .ok (.aload_n 0, 1) := by decide +kernel
theorem dX11_settles_5 : decode cX11_settles 5 = .ok (.iload_n 1, 1) := by decide +kernel
theorem dX11_settles_6 : decode cX11_settles 6 = .ok (.invokevirtual 279, 3) := by decide +kernel
theorem dX11_settles_9 : decode cX11_settles 9 = .ok (.ifCond .eq 7, 3) := by decide +kernel
theorem dX11_settles_12 : decode cX11_settles 12 = .ok (.iconst (-1), 1) := by decide +kernel
theorem dX11_settles_13 : decode cX11_settles 13 = .ok (.goto 9, 3) := by decide +kernel
theorem dX11_settles_16 : decode cX11_settles 16 = .ok (.aload_n 0, 1) := by decide +kernel
theorem dX11_settles_17 : decode cX11_settles 17 = .ok (.iload_n 1, 1) := by decide +kernel
theorem dX11_settles_18 : decode cX11_settles 18 = .ok (.iload_n 2, 1) := by decide +kernel
theorem dX11_settles_19 : decode cX11_settles 19 = .ok (.invokevirtual 282, 3) := by decide +kernel
theorem dX11_settles_22 : decode cX11_settles 22 = .ok (.ireturn, 1) := by decide +kernel
theorem dX11_tilted_0 : decode cX11_tilted 0 = .ok (.aload_n 0, 1) := by decide +kernel
theorem dX11_tilted_1 : decode cX11_tilted 1 = .ok (.iload_n 1, 1) := by decide +kernel
theorem dX11_tilted_2 : decode cX11_tilted 2 = .ok (.iconst 1, 1) := by decide +kernel
theorem dX11_tilted_3 : decode cX11_tilted 3 = .ok (.invokevirtual 282, 3) := by decide +kernel
theorem dX11_tilted_6 : decode cX11_tilted 6 = .ok (.aload_n 0, 1) := by decide +kernel
theorem dX11_tilted_7 : decode cX11_tilted 7 = .ok (.iload_n 1, 1) := by decide +kernel
theorem dX11_tilted_8 : decode cX11_tilted 8 = .ok (.iconst 0, 1) := by decide +kernel
theorem dX11_tilted_9 : decode cX11_tilted 9 = .ok (.invokevirtual 282, 3) := by decide +kernel
theorem dX11_tilted_12 : decode cX11_tilted 12 = .ok (.isub, 1) := by decide +kernel
theorem dX11_tilted_13 : decode cX11_tilted 13 = .ok (.invokestatic 123, 3) := by decide +kernel
theorem dX11_tilted_16 : decode cX11_tilted 16 = .ok (.ireturn, 1) := by decide +kernel
theorem dX11_tilt_0 : decode cX11_tilt 0 = .ok (.aload_n 0, 1) := by decide +kernel
theorem dX11_tilt_1 : decode cX11_tilt 1 = .ok (.invokevirtual 77, 3) := by decide +kernel
theorem dX11_tilt_4 : decode cX11_tilt 4 = .ok (.aload_n 0, 1) := by decide +kernel
theorem dX11_tilt_5 : decode cX11_tilt 5 = .ok (.iload_n 1, 1) := by decide +kernel
theorem dX11_tilt_6 : decode cX11_tilt 6 = .ok (.invokevirtual 279, 3) := by decide +kernel
theorem dX11_tilt_9 : decode cX11_tilt 9 = .ok (.ifCond .eq 7, 3) := by decide +kernel
theorem dX11_tilt_12 : decode cX11_tilt 12 = .ok (.iconst (-1), 1) := by decide +kernel
theorem dX11_tilt_13 : decode cX11_tilt 13 = .ok (.goto 8, 3) := by decide +kernel
theorem dX11_tilt_16 : decode cX11_tilt 16 = .ok (.aload_n 0, 1) := by decide +kernel
theorem dX11_tilt_17 : decode cX11_tilt 17 = .ok (.iload_n 1, 1) := by decide +kernel
theorem dX11_tilt_18 : decode cX11_tilt 18 = .ok (.invokevirtual 286, 3) := by decide +kernel
theorem dX11_tilt_21 : decode cX11_tilt 21 = .ok (.ireturn, 1) := by decide +kernel
theorem dX11_damage_0 : decode cX11_damage 0 = .ok (.aload_n 0, 1) := by decide +kernel
theorem dX11_damage_1 : decode cX11_damage 1 = .ok (.invokevirtual 77, 3) := by decide +kernel
theorem dX11_damage_4 : decode cX11_damage 4 = .ok (.aload_n 0, 1) := by decide +kernel
theorem dX11_damage_5 : decode cX11_damage 5 = .ok (.iload_n 1, 1) := by decide +kernel
theorem dX11_damage_6 : decode cX11_damage 6 = .ok (.invokevirtual 279, 3) := by decide +kernel
theorem dX11_damage_9 : decode cX11_damage 9 = .ok (.ifCond .eq 5, 3) := by decide +kernel
theorem dX11_damage_12 : decode cX11_damage 12 = .ok (.iconst (-1), 1) := by decide +kernel
theorem dX11_damage_13 : decode cX11_damage 13 = .ok (.ireturn, 1) := by decide +kernel
theorem dX11_damage_14 : decode cX11_damage 14 = .ok (.aload_n 0, 1) := by decide +kernel
theorem dX11_damage_15 : decode cX11_damage 15 = .ok (.iload_n 1, 1) := by decide +kernel
theorem dX11_damage_16 : decode cX11_damage 16 = .ok (.invokevirtual 286, 3) := by decide +kernel
theorem dX11_damage_19 : decode cX11_damage 19 = .ok (.istore_n 2, 1) := by decide +kernel
theorem dX11_damage_20 : decode cX11_damage 20 = .ok (.iload_n 2, 1) := by decide +kernel
theorem dX11_damage_21 : decode cX11_damage 21 = .ok (.bipush 10, 2) := by decide +kernel
theorem dX11_damage_23 : decode cX11_damage 23 = .ok (.if_icmp .ge 7, 3) := by decide +kernel
theorem dX11_damage_26 : decode cX11_damage 26 = .ok (.iconst 0, 1) := by decide +kernel
theorem dX11_damage_27 : decode cX11_damage 27 = .ok (.goto 34, 3) := by decide +kernel
theorem dX11_damage_30 : decode cX11_damage 30 = .ok (.iload_n 2, 1) := by decide +kernel
theorem dX11_damage_31 : decode cX11_damage 31 = .ok (.bipush 30, 2) := by decide +kernel
theorem dX11_damage_33 : decode cX11_damage 33 = .ok (.if_icmp .ge 7, 3) := by decide +kernel
theorem dX11_damage_36 : decode cX11_damage 36 = .ok (.iconst 1, 1) := by decide +kernel
theorem dX11_damage_37 : decode cX11_damage 37 = .ok (.goto 24, 3) := by decide +kernel
theorem dX11_damage_40 : decode cX11_damage 40 = .ok (.iload_n 2, 1) := by decide +kernel
theorem dX11_damage_41 : decode cX11_damage 41 = .ok (.bipush 60, 2) := by decide +kernel
theorem dX11_damage_43 : decode cX11_damage 43 = .ok (.if_icmp .ge 7, 3) := by decide +kernel
theorem dX11_damage_46 : decode cX11_damage 46 = .ok (.iconst 2, 1) := by decide +kernel
theorem dX11_damage_47 : decode cX11_damage 47 = .ok (.goto 14, 3) := by decide +kernel
theorem dX11_damage_50 : decode cX11_damage 50 = .ok (.iload_n 2, 1) := by decide +kernel
theorem dX11_damage_51 : decode cX11_damage 51 = .ok (.bipush 100, 2) := by decide +kernel
theorem dX11_damage_53 : decode cX11_damage 53 = .ok (.if_icmp .ge 7, 3) := by decide +kernel
theorem dX11_damage_56 : decode cX11_damage 56 = .ok (.iconst 3, 1) := by decide +kernel
theorem dX11_damage_57 : decode cX11_damage 57 = .ok (.goto 4, 3) := by decide +kernel
theorem dX11_damage_60 : decode cX11_damage 60 = .ok (.iconst 4, 1) := by decide +kernel
theorem dX11_damage_61 : decode cX11_damage 61 = .ok (.ireturn, 1) := by decide +kernel
theorem dX11_read_0 : decode cX11_read 0 = .ok (.aload_n 0, 1) := by decide +kernel
theorem dX11_read_1 : decode cX11_read 1 = .ok (.invokevirtual 77, 3) := by decide +kernel
theorem dX11_read_4 : decode cX11_read 4 = .ok (.aload_n 0, 1) := by decide +kernel
theorem dX11_read_5 : decode cX11_read 5 = .ok (.iload_n 1, 1) := by decide +kernel
theorem dX11_read_6 : decode cX11_read 6 = .ok (.invokevirtual 279, 3) := by decide +kernel
theorem dX11_read_9 : decode cX11_read 9 = .ok (.ifCond .eq 5, 3) := by decide +kernel
theorem dX11_read_12 : decode cX11_read 12 = .ok (.iconst (-1), 1) := by decide +kernel
theorem dX11_read_13 : decode cX11_read 13 = .ok (.ireturn, 1) := by decide +kernel
theorem dX11_read_14 : decode cX11_read 14 = .ok (.aload_n 0, 1) := by decide +kernel
theorem dX11_read_15 : decode cX11_read 15 = .ok (.getfield 55, 3) := by decide +kernel
theorem dX11_read_18 : decode cX11_read 18 = .ok (.iload_n 1, 1) := by decide +kernel
theorem dX11_read_19 : decode cX11_read 19 = .ok (.invokeinterface 186 2, 5) := by decide +kernel
theorem dX11_read_24 : decode cX11_read 24 = .ok (.checkcast 122, 3) := by decide +kernel
theorem dX11_read_27 : decode cX11_read 27 = .ok (.iconst 5, 1) := by decide +kernel
theorem dX11_read_28 : decode cX11_read 28 = .ok (.iconst 1, 1) := by decide +kernel
theorem dX11_read_29 : decode cX11_read 29 = .ok (.iastore, 1) := by decide +kernel
theorem dX11_read_30 : decode cX11_read 30 = .ok (.aload_n 0, 1) := by decide +kernel
theorem dX11_read_31 : decode cX11_read 31 = .ok (.getfield 55, 3) := by decide +kernel
theorem dX11_read_34 : decode cX11_read 34 = .ok (.iload_n 1, 1) := by decide +kernel
theorem dX11_read_35 : decode cX11_read 35 = .ok (.invokeinterface 186 2, 5) := by decide +kernel
theorem dX11_read_40 : decode cX11_read 40 = .ok (.checkcast 122, 3) := by decide +kernel
theorem dX11_read_43 : decode cX11_read 43 = .ok (.bipush 6, 2) := by decide +kernel
theorem dX11_read_45 : decode cX11_read 45 = .ok (.aload_n 0, 1) := by decide +kernel
theorem dX11_read_46 : decode cX11_read 46 = .ok (.iload_n 1, 1) := by decide +kernel
theorem dX11_read_47 : decode cX11_read 47 = .ok (.iconst 1, 1) := by decide +kernel
theorem dX11_read_48 : decode cX11_read 48 = .ok (.invokevirtual 282, 3) := by decide +kernel
theorem dX11_read_51 : decode cX11_read 51 = .ok (.aload_n 0, 1) := by decide +kernel
theorem dX11_read_52 : decode cX11_read 52 = .ok (.iload_n 1, 1) := by decide +kernel
theorem dX11_read_53 : decode cX11_read 53 = .ok (.iconst 0, 1) := by decide +kernel
theorem dX11_read_54 : decode cX11_read 54 = .ok (.invokevirtual 282, 3) := by decide +kernel
theorem dX11_read_57 : decode cX11_read 57 = .ok (.invokestatic 128, 3) := by decide +kernel
theorem dX11_read_60 : decode cX11_read 60 = .ok (.iastore, 1) := by decide +kernel
theorem dX11_read_61 : decode cX11_read 61 = .ok (.aload_n 0, 1) := by decide +kernel
theorem dX11_read_62 : decode cX11_read 62 = .ok (.getfield 55, 3) := by decide +kernel
theorem dX11_read_65 : decode cX11_read 65 = .ok (.iload_n 1, 1) := by decide +kernel
theorem dX11_read_66 : decode cX11_read 66 = .ok (.invokeinterface 186 2, 5) := by decide +kernel
theorem dX11_read_71 : decode cX11_read 71 = .ok (.checkcast 122, 3) := by decide +kernel
theorem dX11_read_74 : decode cX11_read 74 = .ok (.bipush 6, 2) := by decide +kernel
theorem dX11_read_76 : decode cX11_read 76 = .ok (.iaload, 1) := by decide +kernel
theorem dX11_read_77 : decode cX11_read 77 = .ok (.ireturn, 1) := by decide +kernel
theorem dX11_alarm_0 : decode cX11_alarm 0 = .ok (.aload_n 0, 1) := by decide +kernel
theorem dX11_alarm_1 : decode cX11_alarm 1 = .ok (.invokevirtual 77, 3) := by decide +kernel
theorem dX11_alarm_4 : decode cX11_alarm 4 = .ok (.aload_n 0, 1) := by decide +kernel
theorem dX11_alarm_5 : decode cX11_alarm 5 = .ok (.iload_n 1, 1) := by decide +kernel
theorem dX11_alarm_6 : decode cX11_alarm 6 = .ok (.invokevirtual 279, 3) := by decide +kernel
theorem dX11_alarm_9 : decode cX11_alarm 9 = .ok (.ifCond .eq 6, 3) := by decide +kernel
theorem dX11_alarm_12 : decode cX11_alarm 12 = .ok (.bipush 32, 2) := by decide +kernel
theorem dX11_alarm_14 : decode cX11_alarm 14 = .ok (.ireturn, 1) := by decide +kernel
theorem dX11_alarm_15 : decode cX11_alarm 15 = .ok (.aload_n 0, 1) := by decide +kernel
theorem dX11_alarm_16 : decode cX11_alarm 16 = .ok (.getfield 55, 3) := by decide +kernel
theorem dX11_alarm_19 : decode cX11_alarm 19 = .ok (.iload_n 1, 1) := by decide +kernel
theorem dX11_alarm_20 : decode cX11_alarm 20 = .ok (.invokeinterface 186 2, 5) := by decide +kernel
theorem dX11_alarm_25 : decode cX11_alarm 25 = .ok (.checkcast 122, 3) := by decide +kernel
theorem dX11_alarm_28 : decode cX11_alarm 28 = .ok (.astore_n 2, 1) := by decide +kernel
theorem dX11_alarm_29 : decode cX11_alarm 29 = .ok (.aload_n 2, 1) := by decide +kernel
theorem dX11_alarm_30 : decode cX11_alarm 30 = .ok (.iconst 5, 1) := by decide +kernel
theorem dX11_alarm_31 : decode cX11_alarm 31 = .ok (.iaload, 1) := by decide +kernel
theorem dX11_alarm_32 : decode cX11_alarm 32 = .ok (.ifCond .ne 8, 3) := by decide +kernel
theorem dX11_alarm_35 : decode cX11_alarm 35 = .ok (.bipush 45, 2) := by decide +kernel
theorem dX11_alarm_37 : decode cX11_alarm 37 = .ok (.goto 33, 3) := by decide +kernel
theorem dX11_alarm_40 : decode cX11_alarm 40 = .ok (.aload_n 2, 1) := by decide +kernel
theorem dX11_alarm_41 : decode cX11_alarm 41 = .ok (.bipush 6, 2) := by decide +kernel
theorem dX11_alarm_43 : decode cX11_alarm 43 = .ok (.iaload, 1) := by decide +kernel
theorem dX11_alarm_44 : decode cX11_alarm 44 = .ok (.bipush 20, 2) := by decide +kernel
theorem dX11_alarm_46 : decode cX11_alarm 46 = .ok (.if_icmp .ge 8, 3) := by decide +kernel
theorem dX11_alarm_49 : decode cX11_alarm 49 = .ok (.bipush 103, 2) := by decide +kernel
theorem dX11_alarm_51 : decode cX11_alarm 51 = .ok (.goto 19, 3) := by decide +kernel
theorem dX11_alarm_54 : decode cX11_alarm 54 = .ok (.aload_n 2, 1) := by decide +kernel
theorem dX11_alarm_55 : decode cX11_alarm 55 = .ok (.bipush 6, 2) := by decide +kernel
theorem dX11_alarm_57 : decode cX11_alarm 57 = .ok (.iaload, 1) := by decide +kernel
theorem dX11_alarm_58 : decode cX11_alarm 58 = .ok (.bipush 50, 2) := by decide +kernel
theorem dX11_alarm_60 : decode cX11_alarm 60 = .ok (.if_icmp .ge 8, 3) := by decide +kernel
theorem dX11_alarm_63 : decode cX11_alarm 63 = .ok (.bipush 121, 2) := by decide +kernel
theorem dX11_alarm_65 : decode cX11_alarm 65 = .ok (.goto 5, 3) := by decide +kernel
theorem dX11_alarm_68 : decode cX11_alarm 68 = .ok (.bipush 114, 2) := by decide +kernel
theorem dX11_alarm_70 : decode cX11_alarm 70 = .ok (.ireturn, 1) := by decide +kernel
theorem dX11_lift_0 : decode cX11_lift 0 = .ok (.aload_n 0, 1) := by decide +kernel
theorem dX11_lift_1 : decode cX11_lift 1 = .ok (.invokevirtual 77, 3) := by decide +kernel
theorem dX11_lift_4 : decode cX11_lift 4 = .ok (.aload_n 0, 1) := by decide +kernel
theorem dX11_lift_5 : decode cX11_lift 5 = .ok (.iload_n 1, 1) := by decide +kernel
theorem dX11_lift_6 : decode cX11_lift 6 = .ok (.invokevirtual 279, 3) := by decide +kernel
theorem dX11_lift_9 : decode cX11_lift 9 = .ok (.ifCond .ne 53, 3) := by decide +kernel
theorem dX11_lift_12 : decode cX11_lift 12 = .ok (.aload_n 0, 1) := by decide +kernel
theorem dX11_lift_13 : decode cX11_lift 13 = .ok (.iload_n 3, 1) := by decide +kernel
theorem dX11_lift_14 : decode cX11_lift 14 = .ok (.i2l, 1) := by decide +kernel
theorem dX11_lift_15 : decode cX11_lift 15 = .ok (.lconst 1, 1) := by decide +kernel
theorem dX11_lift_16 : decode cX11_lift 16 = .ok (.ldc2_w 289, 3) := by decide +kernel
theorem dX11_lift_19 : decode cX11_lift 19 = .ok (.invokestatic 13, 3) := by decide +kernel
theorem dX11_lift_22 : decode cX11_lift 22 = .ok (.ifCond .ne 7, 3) := by decide +kernel
theorem dX11_lift_25 : decode cX11_lift 25 = .ok (.iconst 1, 1) := by decide +kernel
theorem dX11_lift_26 : decode cX11_lift 26 = .ok (.goto 4, 3) := by decide +kernel
theorem dX11_lift_29 : decode cX11_lift 29 = .ok (.iconst 0, 1) := by decide +kernel
theorem dX11_lift_30 : decode cX11_lift 30 = .ok (.iconst 2, 1) := by decide +kernel
theorem dX11_lift_31 : decode cX11_lift 31 = .ok (.invokevirtual 73, 3) := by decide +kernel
theorem dX11_lift_34 : decode cX11_lift 34 = .ok (.ifCond .ne 28, 3) := by decide +kernel
theorem dX11_lift_37 : decode cX11_lift 37 = .ok (.aload_n 0, 1) := by decide +kernel
theorem dX11_lift_38 : decode cX11_lift 38 = .ok (.aload_n 0, 1) := by decide +kernel
theorem dX11_lift_39 : decode cX11_lift 39 = .ok (.getfield 165, 3) := by decide +kernel
theorem dX11_lift_42 : decode cX11_lift 42 = .ok (.bipush 15, 2) := by decide +kernel
theorem dX11_lift_44 : decode cX11_lift 44 = .ok (.iadd, 1) := by decide +kernel
theorem dX11_lift_45 : decode cX11_lift 45 = .ok (.ldc 168, 2) := by decide +kernel
theorem dX11_lift_47 : decode cX11_lift 47 = .ok (.if_icmp .le 7, 3) := by decide +kernel
theorem dX11_lift_50 : decode cX11_lift 50 = .ok (.iconst 1, 1) := by decide +kernel
theorem dX11_lift_51 : decode cX11_lift 51 = .ok (.goto 4, 3) := by decide +kernel
theorem dX11_lift_54 : decode cX11_lift 54 = .ok (.iconst 0, 1) := by decide +kernel
theorem dX11_lift_55 : decode cX11_lift 55 = .ok (.iconst 3, 1) := by decide +kernel
theorem dX11_lift_56 : decode cX11_lift 56 = .ok (.invokevirtual 73, 3) := by decide +kernel
theorem dX11_lift_59 : decode cX11_lift 59 = .ok (.ifCond .eq 5, 3) := by decide +kernel
theorem dX11_lift_62 : decode cX11_lift 62 = .ok (.iconst (-1), 1) := by decide +kernel
theorem dX11_lift_63 : decode cX11_lift 63 = .ok (.ireturn, 1) := by decide +kernel
theorem dX11_lift_64 : decode cX11_lift 64 = .ok (.aload_n 0, 1) := by decide +kernel
theorem dX11_lift_65 : decode cX11_lift 65 = .ok (.dup, 1) := by decide +kernel
theorem dX11_lift_66 : decode cX11_lift 66 = .ok (.getfield 165, 3) := by decide +kernel
theorem dX11_lift_69 : decode cX11_lift 69 = .ok (.bipush 15, 2) := by decide +kernel
theorem dX11_lift_71 : decode cX11_lift 71 = .ok (.iadd, 1) := by decide +kernel
theorem dX11_lift_72 : decode cX11_lift 72 = .ok (.putfield 165, 3) := by decide +kernel
theorem dX11_lift_75 : decode cX11_lift 75 = .ok (.aload_n 0, 1) := by decide +kernel
theorem dX11_lift_76 : decode cX11_lift 76 = .ok (.getfield 55, 3) := by decide +kernel
theorem dX11_lift_79 : decode cX11_lift 79 = .ok (.iload_n 1, 1) := by decide +kernel
theorem dX11_lift_80 : decode cX11_lift 80 = .ok (.invokeinterface 186 2, 5) := by decide +kernel
theorem dX11_lift_85 : decode cX11_lift 85 = .ok (.checkcast 122, 3) := by decide +kernel
theorem dX11_lift_88 : decode cX11_lift 88 = .ok (.iload_n 2, 1) := by decide +kernel
theorem dX11_lift_89 : decode cX11_lift 89 = .ok (.ifCond .eq 7, 3) := by decide +kernel
theorem dX11_lift_92 : decode cX11_lift 92 = .ok (.iconst 4, 1) := by decide +kernel
theorem dX11_lift_93 : decode cX11_lift 93 = .ok (.goto 4, 3) := by decide +kernel
theorem dX11_lift_96 : decode cX11_lift 96 = .ok (.iconst 3, 1) := by decide +kernel
theorem dX11_lift_97 : decode cX11_lift 97 = .ok (.dup2, 1) := by decide +kernel
theorem dX11_lift_98 : decode cX11_lift 98 = .ok (.iaload, 1) := by decide +kernel
theorem dX11_lift_99 : decode cX11_lift 99 = .ok (.iload_n 3, 1) := by decide +kernel
theorem dX11_lift_100 : decode cX11_lift 100 = .ok (.iadd, 1) := by decide +kernel
theorem dX11_lift_101 : decode cX11_lift 101 = .ok (.iastore, 1) := by decide +kernel
theorem dX11_lift_102 : decode cX11_lift 102 = .ok (.aload_n 0, 1) := by decide +kernel
theorem dX11_lift_103 : decode cX11_lift 103 = .ok (.iload_n 1, 1) := by decide +kernel
theorem dX11_lift_104 : decode cX11_lift 104 = .ok (.iload_n 2, 1) := by decide +kernel
theorem dX11_lift_105 : decode cX11_lift 105 = .ok (.invokevirtual 282, 3) := by decide +kernel
theorem dX11_lift_108 : decode cX11_lift 108 = .ok (.ireturn, 1) := by decide +kernel
theorem dX11_deliver_0 : decode cX11_deliver 0 = .ok (.aload_n 0, 1) := by decide +kernel
theorem dX11_deliver_1 : decode cX11_deliver 1 = .ok (.invokevirtual 77, 3) := by decide +kernel
theorem dX11_deliver_4 : decode cX11_deliver 4 = .ok (.aload_n 0, 1) := by decide +kernel
theorem dX11_deliver_5 : decode cX11_deliver 5 = .ok (.iload_n 1, 1) := by decide +kernel
theorem dX11_deliver_6 : decode cX11_deliver 6 = .ok (.i2l, 1) := by decide +kernel
theorem dX11_deliver_7 : decode cX11_deliver 7 = .ok (.lconst 1, 1) := by decide +kernel
theorem dX11_deliver_8 : decode cX11_deliver 8 = .ok (.ldc2_w 291, 3) := by decide +kernel
theorem dX11_deliver_11 : decode cX11_deliver 11 = .ok (.invokestatic 13, 3) := by decide +kernel
theorem dX11_deliver_14 : decode cX11_deliver 14 = .ok (.ifCond .ne 7, 3) := by decide +kernel
theorem dX11_deliver_17 : decode cX11_deliver 17 = .ok (.iconst 1, 1) := by decide +kernel
theorem dX11_deliver_18 : decode cX11_deliver 18 = .ok (.goto 4, 3) := by decide +kernel
theorem dX11_deliver_21 : decode cX11_deliver 21 = .ok (.iconst 0, 1) := by decide +kernel
theorem dX11_deliver_22 : decode cX11_deliver 22 = .ok (.iconst 1, 1) := by decide +kernel
theorem dX11_deliver_23 : decode cX11_deliver 23 = .ok (.invokevirtual 73, 3) := by decide +kernel
theorem dX11_deliver_26 : decode cX11_deliver 26 = .ok (.ifCond .ne 27, 3) := by decide +kernel
theorem dX11_deliver_29 : decode cX11_deliver 29 = .ok (.aload_n 0, 1) := by decide +kernel
theorem dX11_deliver_30 : decode cX11_deliver 30 = .ok (.aload_n 0, 1) := by decide +kernel
theorem dX11_deliver_31 : decode cX11_deliver 31 = .ok (.getfield 195, 3) := by decide +kernel
theorem dX11_deliver_34 : decode cX11_deliver 34 = .ok (.iload_n 1, 1) := by decide +kernel
theorem dX11_deliver_35 : decode cX11_deliver 35 = .ok (.iadd, 1) := by decide +kernel
theorem dX11_deliver_36 : decode cX11_deliver 36 = .ok (.bipush 40, 2) := by decide +kernel
theorem dX11_deliver_38 : decode cX11_deliver 38 = .ok (.if_icmp .le 7, 3) := by decide +kernel
theorem dX11_deliver_41 : decode cX11_deliver 41 = .ok (.iconst 1, 1) := by decide +kernel
theorem dX11_deliver_42 : decode cX11_deliver 42 = .ok (.goto 4, 3) := by decide +kernel
theorem dX11_deliver_45 : decode cX11_deliver 45 = .ok (.iconst 0, 1) := by decide +kernel
theorem dX11_deliver_46 : decode cX11_deliver 46 = .ok (.iconst 2, 1) := by decide +kernel
theorem dX11_deliver_47 : decode cX11_deliver 47 = .ok (.invokevirtual 73, 3) := by decide +kernel
theorem dX11_deliver_50 : decode cX11_deliver 50 = .ok (.ifCond .eq 5, 3) := by decide +kernel
theorem dX11_deliver_53 : decode cX11_deliver 53 = .ok (.iconst (-1), 1) := by decide +kernel
theorem dX11_deliver_54 : decode cX11_deliver 54 = .ok (.ireturn, 1) := by decide +kernel
theorem dX11_deliver_55 : decode cX11_deliver 55 = .ok (.aload_n 0, 1) := by decide +kernel
theorem dX11_deliver_56 : decode cX11_deliver 56 = .ok (.dup, 1) := by decide +kernel
theorem dX11_deliver_57 : decode cX11_deliver 57 = .ok (.getfield 195, 3) := by decide +kernel
theorem dX11_deliver_60 : decode cX11_deliver 60 = .ok (.iload_n 1, 1) := by decide +kernel
theorem dX11_deliver_61 : decode cX11_deliver 61 = .ok (.iadd, 1) := by decide +kernel
theorem dX11_deliver_62 : decode cX11_deliver 62 = .ok (.putfield 195, 3) := by decide +kernel
theorem dX11_deliver_65 : decode cX11_deliver 65 = .ok (.aload_n 0, 1) := by decide +kernel
theorem dX11_deliver_66 : decode cX11_deliver 66 = .ok (.getfield 195, 3) := by decide +kernel
theorem dX11_deliver_69 : decode cX11_deliver 69 = .ok (.ireturn, 1) := by decide +kernel
theorem dX11_muck_0 : decode cX11_muck 0 = .ok (.aload_n 0, 1) := by decide +kernel
theorem dX11_muck_1 : decode cX11_muck 1 = .ok (.invokevirtual 77, 3) := by decide +kernel
theorem dX11_muck_4 : decode cX11_muck 4 = .ok (.aload_n 0, 1) := by decide +kernel
theorem dX11_muck_5 : decode cX11_muck 5 = .ok (.getfield 198, 3) := by decide +kernel
theorem dX11_muck_8 : decode cX11_muck 8 = .ok (.ireturn, 1) := by decide +kernel
theorem dX11_lorries_0 : decode cX11_lorries 0 = .ok (.aload_n 0, 1) := by decide +kernel
theorem dX11_lorries_1 : decode cX11_lorries 1 = .ok (.invokevirtual 77, 3) := by decide +kernel
theorem dX11_lorries_4 : decode cX11_lorries 4 = .ok (.aload_n 0, 1) := by decide +kernel
theorem dX11_lorries_5 : decode cX11_lorries 5 = .ok (.getfield 165, 3) := by decide +kernel
theorem dX11_lorries_8 : decode cX11_lorries 8 = .ok (.sipush 1440, 3) := by decide +kernel
theorem dX11_lorries_11 : decode cX11_lorries 11 = .ok (.irem, 1) := by decide +kernel
theorem dX11_lorries_12 : decode cX11_lorries 12 = .ok (.i2l, 1) := by decide +kernel
theorem dX11_lorries_13 : decode cX11_lorries 13 = .ok (.ldc2_w 293, 3) := by decide +kernel
theorem dX11_lorries_16 : decode cX11_lorries 16 = .ok (.ldc2_w 295, 3) := by decide +kernel
theorem dX11_lorries_19 : decode cX11_lorries 19 = .ok (.invokestatic 13, 3) := by decide +kernel
theorem dX11_lorries_22 : decode cX11_lorries 22 = .ok (.ifCond .eq 10, 3) := by decide +kernel
theorem dX11_lorries_25 : decode cX11_lorries 25 = .ok (.aload_n 0, 1) := by decide +kernel
theorem dX11_lorries_26 : decode cX11_lorries 26 = .ok (.getfield 198, 3) := by decide +kernel
theorem dX11_lorries_29 : decode cX11_lorries 29 = .ok (.ifCond .ne 7, 3) := by decide +kernel
theorem dX11_lorries_32 : decode cX11_lorries 32 = .ok (.iconst 1, 1) := by decide +kernel
theorem dX11_lorries_33 : decode cX11_lorries 33 = .ok (.goto 4, 3) := by decide +kernel
theorem dX11_lorries_36 : decode cX11_lorries 36 = .ok (.iconst 0, 1) := by decide +kernel
theorem dX11_lorries_37 : decode cX11_lorries 37 = .ok (.istore_n 2, 1) := by decide +kernel
theorem dX11_lorries_38 : decode cX11_lorries 38 = .ok (.aload_n 0, 1) := by decide +kernel
theorem dX11_lorries_39 : decode cX11_lorries 39 = .ok (.iload_n 1, 1) := by decide +kernel
theorem dX11_lorries_40 : decode cX11_lorries 40 = .ok (.i2l, 1) := by decide +kernel
theorem dX11_lorries_41 : decode cX11_lorries 41 = .ok (.lconst 1, 1) := by decide +kernel
theorem dX11_lorries_42 : decode cX11_lorries 42 = .ok (.ldc2_w 297, 3) := by decide +kernel
theorem dX11_lorries_45 : decode cX11_lorries 45 = .ok (.invokestatic 13, 3) := by decide +kernel
theorem dX11_lorries_48 : decode cX11_lorries 48 = .ok (.ifCond .ne 7, 3) := by decide +kernel
theorem dX11_lorries_51 : decode cX11_lorries 51 = .ok (.iconst 1, 1) := by decide +kernel
theorem dX11_lorries_52 : decode cX11_lorries 52 = .ok (.goto 4, 3) := by decide +kernel
theorem dX11_lorries_55 : decode cX11_lorries 55 = .ok (.iconst 0, 1) := by decide +kernel
theorem dX11_lorries_56 : decode cX11_lorries 56 = .ok (.iconst 1, 1) := by decide +kernel
theorem dX11_lorries_57 : decode cX11_lorries 57 = .ok (.invokevirtual 73, 3) := by decide +kernel
theorem dX11_lorries_60 : decode cX11_lorries 60 = .ok (.ifCond .ne 12, 3) := by decide +kernel
theorem dX11_lorries_63 : decode cX11_lorries 63 = .ok (.aload_n 0, 1) := by decide +kernel
theorem dX11_lorries_64 : decode cX11_lorries 64 = .ok (.iload_n 2, 1) := by decide +kernel
theorem dX11_lorries_65 : decode cX11_lorries 65 = .ok (.iconst 2, 1) := by decide +kernel
theorem dX11_lorries_66 : decode cX11_lorries 66 = .ok (.invokevirtual 73, 3) := by decide +kernel
theorem dX11_lorries_69 : decode cX11_lorries 69 = .ok (.ifCond .eq 5, 3) := by decide +kernel
theorem dX11_lorries_72 : decode cX11_lorries 72 = .ok (.iconst (-1), 1) := by decide +kernel
theorem dX11_lorries_73 : decode cX11_lorries 73 = .ok (.ireturn, 1) := by decide +kernel
theorem dX11_lorries_74 : decode cX11_lorries 74 = .ok (.iload_n 1, 1) := by decide +kernel
theorem dX11_lorries_75 : decode cX11_lorries 75 = .ok (.aload_n 0, 1) := by decide +kernel
theorem dX11_lorries_76 : decode cX11_lorries 76 = .ok (.getfield 198, 3) := by decide +kernel
theorem dX11_lorries_79 : decode cX11_lorries 79 = .ok (.bipush 19, 2) := by decide +kernel
theorem dX11_lorries_81 : decode cX11_lorries 81 = .ok (.iadd, 1) := by decide +kernel
theorem dX11_lorries_82 : decode cX11_lorries 82 = .ok (.bipush 20, 2) := by decide +kernel
theorem dX11_lorries_84 : decode cX11_lorries 84 = .ok (.idiv, 1) := by decide +kernel
theorem dX11_lorries_85 : decode cX11_lorries 85 = .ok (.invokestatic 210, 3) := by decide +kernel
theorem dX11_lorries_88 : decode cX11_lorries 88 = .ok (.istore_n 3, 1) := by decide +kernel
theorem dX11_lorries_89 : decode cX11_lorries 89 = .ok (.aload_n 0, 1) := by decide +kernel
theorem dX11_lorries_90 : decode cX11_lorries 90 = .ok (.aload_n 0, 1) := by decide +kernel
theorem dX11_lorries_91 : decode cX11_lorries 91 = .ok (.getfield 165, 3) := by decide +kernel
theorem dX11_lorries_94 : decode cX11_lorries 94 = .ok (.iconst 5, 1) := by decide +kernel
theorem dX11_lorries_95 : decode cX11_lorries 95 = .ok (.iload_n 3, 1) := by decide +kernel
theorem dX11_lorries_96 : decode cX11_lorries 96 = .ok (.imul, 1) := by decide +kernel
theorem dX11_lorries_97 : decode cX11_lorries 97 = .ok (.iadd, 1) := by decide +kernel
theorem dX11_lorries_98 : decode cX11_lorries 98 = .ok (.ldc 168, 2) := by decide +kernel
theorem dX11_lorries_100 : decode cX11_lorries 100 = .ok (.if_icmp .le 7, 3) := by decide +kernel
theorem dX11_lorries_103 : decode cX11_lorries 103 = .ok (.iconst 1, 1) := by decide +kernel
theorem dX11_lorries_104 : decode cX11_lorries 104 = .ok (.goto 4, 3) := by decide +kernel
theorem dX11_lorries_107 : decode cX11_lorries 107 = .ok (.iconst 0, 1) := by decide +kernel
theorem dX11_lorries_108 : decode cX11_lorries 108 = .ok (.iconst 3, 1) := by decide +kernel
theorem dX11_lorries_109 : decode cX11_lorries 109 = .ok (.invokevirtual 73, 3) := by decide +kernel
theorem dX11_lorries_112 : decode cX11_lorries 112 = .ok (.ifCond .eq 5, 3) := by decide +kernel
theorem dX11_lorries_115 : decode cX11_lorries 115 = .ok (.iconst (-1), 1) := by decide +kernel
theorem dX11_lorries_116 : decode cX11_lorries 116 = .ok (.ireturn, 1) := by decide +kernel
theorem dX11_lorries_117 : decode cX11_lorries 117 = .ok (.aload_n 0, 1) := by decide +kernel
theorem dX11_lorries_118 : decode cX11_lorries 118 = .ok (.getfield 198, 3) := by decide +kernel
theorem dX11_lorries_121 : decode cX11_lorries 121 = .ok (.bipush 20, 2) := by decide +kernel
theorem dX11_lorries_123 : decode cX11_lorries 123 = .ok (.iload_n 3, 1) := by decide +kernel
theorem dX11_lorries_124 : decode cX11_lorries 124 = .ok (.imul, 1) := by decide +kernel
theorem dX11_lorries_125 : decode cX11_lorries 125 = .ok (.invokestatic 210, 3) := by decide +kernel
theorem dX11_lorries_128 : decode cX11_lorries 128 = .ok (.istore 4, 2) := by decide +kernel
theorem dX11_lorries_130 : decode cX11_lorries 130 = .ok (.aload_n 0, 1) := by decide +kernel
theorem dX11_lorries_131 : decode cX11_lorries 131 = .ok (.dup, 1) := by decide +kernel
theorem dX11_lorries_132 : decode cX11_lorries 132 = .ok (.getfield 165, 3) := by decide +kernel
theorem dX11_lorries_135 : decode cX11_lorries 135 = .ok (.iconst 5, 1) := by decide +kernel
theorem dX11_lorries_136 : decode cX11_lorries 136 = .ok (.iload_n 3, 1) := by decide +kernel
theorem dX11_lorries_137 : decode cX11_lorries 137 = .ok (.imul, 1) := by decide +kernel
theorem dX11_lorries_138 : decode cX11_lorries 138 = .ok (.iadd, 1) := by decide +kernel
theorem dX11_lorries_139 : decode cX11_lorries 139 = .ok (.putfield 165, 3) := by decide +kernel
theorem dX11_lorries_142 : decode cX11_lorries 142 = .ok (.aload_n 0, 1) := by decide +kernel
theorem dX11_lorries_143 : decode cX11_lorries 143 = .ok (.dup, 1) := by decide +kernel
theorem dX11_lorries_144 : decode cX11_lorries 144 = .ok (.getfield 198, 3) := by decide +kernel
theorem dX11_lorries_147 : decode cX11_lorries 147 = .ok (.iload 4, 2) := by decide +kernel
theorem dX11_lorries_149 : decode cX11_lorries 149 = .ok (.isub, 1) := by decide +kernel
theorem dX11_lorries_150 : decode cX11_lorries 150 = .ok (.putfield 198, 3) := by decide +kernel
theorem dX11_lorries_153 : decode cX11_lorries 153 = .ok (.iload 4, 2) := by decide +kernel
theorem dX11_lorries_155 : decode cX11_lorries 155 = .ok (.ireturn, 1) := by decide +kernel
theorem dX11_now_0 : decode cX11_now 0 = .ok (.aload_n 0, 1) := by decide +kernel
theorem dX11_now_1 : decode cX11_now 1 = .ok (.invokevirtual 77, 3) := by decide +kernel
theorem dX11_now_4 : decode cX11_now 4 = .ok (.aload_n 0, 1) := by decide +kernel
theorem dX11_now_5 : decode cX11_now 5 = .ok (.getfield 165, 3) := by decide +kernel
theorem dX11_now_8 : decode cX11_now 8 = .ok (.ireturn, 1) := by decide +kernel
theorem dX11_whose_0 : decode cX11_whose 0 = .ok (.iload_n 0, 1) := by decide +kernel
theorem dX11_whose_1 : decode cX11_whose 1 = .ok (.bipush 103, 2) := by decide +kernel
theorem dX11_whose_3 : decode cX11_whose 3 = .ok (.if_icmp .eq 9, 3) := by decide +kernel
theorem dX11_whose_6 : decode cX11_whose 6 = .ok (.iload_n 0, 1) := by decide +kernel
theorem dX11_whose_7 : decode cX11_whose 7 = .ok (.bipush 104, 2) := by decide +kernel
theorem dX11_whose_9 : decode cX11_whose 9 = .ok (.if_icmp .ne 7, 3) := by decide +kernel
theorem dX11_whose_12 : decode cX11_whose 12 = .ok (.iconst 1, 1) := by decide +kernel
theorem dX11_whose_13 : decode cX11_whose 13 = .ok (.goto 14, 3) := by decide +kernel
theorem dX11_whose_16 : decode cX11_whose 16 = .ok (.iload_n 0, 1) := by decide +kernel
theorem dX11_whose_17 : decode cX11_whose 17 = .ok (.bipush 119, 2) := by decide +kernel
theorem dX11_whose_19 : decode cX11_whose 19 = .ok (.if_icmp .ne 7, 3) := by decide +kernel
theorem dX11_whose_22 : decode cX11_whose 22 = .ok (.iconst 2, 1) := by decide +kernel
theorem dX11_whose_23 : decode cX11_whose 23 = .ok (.goto 4, 3) := by decide +kernel
theorem dX11_whose_26 : decode cX11_whose 26 = .ok (.iconst 0, 1) := by decide +kernel
theorem dX11_whose_27 : decode cX11_whose 27 = .ok (.ireturn, 1) := by decide +kernel
theorem dX11_pause_0 : decode cX11_pause 0 = .ok (.aload_n 0, 1) := by decide +kernel
theorem dX11_pause_1 : decode cX11_pause 1 = .ok (.invokevirtual 77, 3) := by decide +kernel
theorem dX11_pause_4 : decode cX11_pause 4 = .ok (.iload_n 1, 1) := by decide +kernel
theorem dX11_pause_5 : decode cX11_pause 5 = .ok (.i2l, 1) := by decide +kernel
theorem dX11_pause_6 : decode cX11_pause 6 = .ok (.lconst 1, 1) := by decide +kernel
theorem dX11_pause_7 : decode cX11_pause 7 = .ok (.ldc2_w 299, 3) := by decide +kernel
theorem dX11_pause_10 : decode cX11_pause 10 = .ok (.invokestatic 13, 3) := by decide +kernel
theorem dX11_pause_13 : decode cX11_pause 13 = .ok (.ifCond .eq 40, 3) := by decide +kernel
theorem dX11_pause_16 : decode cX11_pause 16 = .ok (.aload_n 0, 1) := by decide +kernel
theorem dX11_pause_17 : decode cX11_pause 17 = .ok (.getfield 60, 3) := by decide +kernel
theorem dX11_pause_20 : decode cX11_pause 20 = .ok (.iload_n 2, 1) := by decide +kernel
theorem dX11_pause_21 : decode cX11_pause 21 = .ok (.invokevirtual 82, 3) := by decide +kernel
theorem dX11_pause_24 : decode cX11_pause 24 = .ok (.ifCond .lt 29, 3) := by decide +kernel
theorem dX11_pause_27 : decode cX11_pause 27 = .ok (.iload_n 3, 1) := by decide +kernel
theorem dX11_pause_28 : decode cX11_pause 28 = .ok (.bipush 45, 2) := by decide +kernel
theorem dX11_pause_30 : decode cX11_pause 30 = .ok (.if_icmp .eq 14, 3) := by decide +kernel
theorem dX11_pause_33 : decode cX11_pause 33 = .ok (.aload_n 0, 1) := by decide +kernel
theorem dX11_pause_34 : decode cX11_pause 34 = .ok (.getfield 60, 3) := by decide +kernel
theorem dX11_pause_37 : decode cX11_pause 37 = .ok (.iload_n 3, 1) := by decide +kernel
theorem dX11_pause_38 : decode cX11_pause 38 = .ok (.invokevirtual 82, 3) := by decide +kernel
theorem dX11_pause_41 : decode cX11_pause 41 = .ok (.ifCond .lt 12, 3) := by decide +kernel
theorem dX11_pause_44 : decode cX11_pause 44 = .ok (.iload_n 2, 1) := by decide +kernel
theorem dX11_pause_45 : decode cX11_pause 45 = .ok (.iload_n 3, 1) := by decide +kernel
theorem dX11_pause_46 : decode cX11_pause 46 = .ok (.if_icmp .eq 7, 3) := by decide +kernel
theorem dX11_pause_49 : decode cX11_pause 49 = .ok (.iconst 1, 1) := by decide +kernel
theorem dX11_pause_50 : decode cX11_pause 50 = .ok (.goto 4, 3) := by decide +kernel
theorem dX11_pause_53 : decode cX11_pause 53 = .ok (.iconst 0, 1) := by decide +kernel
theorem dX11_pause_54 : decode cX11_pause 54 = .ok (.istore 4, 2) := by decide +kernel
theorem dX11_pause_56 : decode cX11_pause 56 = .ok (.aload_n 0, 1) := by decide +kernel
theorem dX11_pause_57 : decode cX11_pause 57 = .ok (.iload 4, 2) := by decide +kernel
theorem dX11_pause_59 : decode cX11_pause 59 = .ok (.ifCond .ne 7, 3) := by decide +kernel
theorem dX11_pause_62 : decode cX11_pause 62 = .ok (.iconst 1, 1) := by decide +kernel
theorem dX11_pause_63 : decode cX11_pause 63 = .ok (.goto 4, 3) := by decide +kernel
theorem dX11_pause_66 : decode cX11_pause 66 = .ok (.iconst 0, 1) := by decide +kernel
theorem dX11_pause_67 : decode cX11_pause 67 = .ok (.iconst 1, 1) := by decide +kernel
theorem dX11_pause_68 : decode cX11_pause 68 = .ok (.invokevirtual 73, 3) := by decide +kernel
theorem dX11_pause_71 : decode cX11_pause 71 = .ok (.ifCond .ne 27, 3) := by decide +kernel
theorem dX11_pause_74 : decode cX11_pause 74 = .ok (.aload_n 0, 1) := by decide +kernel
theorem dX11_pause_75 : decode cX11_pause 75 = .ok (.aload_n 0, 1) := by decide +kernel
theorem dX11_pause_76 : decode cX11_pause 76 = .ok (.getfield 165, 3) := by decide +kernel
theorem dX11_pause_79 : decode cX11_pause 79 = .ok (.iload_n 1, 1) := by decide +kernel
theorem dX11_pause_80 : decode cX11_pause 80 = .ok (.iadd, 1) := by decide +kernel
theorem dX11_pause_81 : decode cX11_pause 81 = .ok (.ldc 168, 2) := by decide +kernel
theorem dX11_pause_83 : decode cX11_pause 83 = .ok (.if_icmp .le 7, 3) := by decide +kernel
theorem dX11_pause_86 : decode cX11_pause 86 = .ok (.iconst 1, 1) := by decide +kernel
theorem dX11_pause_87 : decode cX11_pause 87 = .ok (.goto 4, 3) := by decide +kernel
theorem dX11_pause_90 : decode cX11_pause 90 = .ok (.iconst 0, 1) := by decide +kernel
theorem dX11_pause_91 : decode cX11_pause 91 = .ok (.iconst 2, 1) := by decide +kernel
theorem dX11_pause_92 : decode cX11_pause 92 = .ok (.invokevirtual 73, 3) := by decide +kernel
theorem dX11_pause_95 : decode cX11_pause 95 = .ok (.ifCond .eq 5, 3) := by decide +kernel
theorem dX11_pause_98 : decode cX11_pause 98 = .ok (.iconst (-1), 1) := by decide +kernel
theorem dX11_pause_99 : decode cX11_pause 99 = .ok (.ireturn, 1) := by decide +kernel
theorem dX11_pause_100 : decode cX11_pause 100 = .ok (.iload_n 3, 1) := by decide +kernel
theorem dX11_pause_101 : decode cX11_pause 101 = .ok (.bipush 45, 2) := by decide +kernel
theorem dX11_pause_103 : decode cX11_pause 103 = .ok (.if_icmp .eq 26, 3) := by decide +kernel
theorem dX11_pause_106 : decode cX11_pause 106 = .ok (.aload_n 0, 1) := by decide +kernel
theorem dX11_pause_107 : decode cX11_pause 107 = .ok (.getfield 60, 3) := by decide +kernel
theorem dX11_pause_110 : decode cX11_pause 110 = .ok (.iload_n 3, 1) := by decide +kernel
theorem dX11_pause_111 : decode cX11_pause 111 = .ok (.invokevirtual 82, 3) := by decide +kernel
theorem dX11_pause_114 : decode cX11_pause 114 = .ok (.aload_n 0, 1) := by decide +kernel
theorem dX11_pause_115 : decode cX11_pause 115 = .ok (.getfield 60, 3) := by decide +kernel
theorem dX11_pause_118 : decode cX11_pause 118 = .ok (.iload_n 2, 1) := by decide +kernel
theorem dX11_pause_119 : decode cX11_pause 119 = .ok (.invokevirtual 82, 3) := by decide +kernel
theorem dX11_pause_122 : decode cX11_pause 122 = .ok (.if_icmp .ge 7, 3) := by decide +kernel
theorem dX11_pause_125 : decode cX11_pause 125 = .ok (.iload_n 3, 1) := by decide +kernel
theorem dX11_pause_126 : decode cX11_pause 126 = .ok (.goto 4, 3) := by decide +kernel
theorem dX11_pause_129 : decode cX11_pause 129 = .ok (.iload_n 2, 1) := by decide +kernel
theorem dX11_pause_130 : decode cX11_pause 130 = .ok (.istore 5, 2) := by decide +kernel
theorem dX11_pause_132 : decode cX11_pause 132 = .ok (.aload_n 0, 1) := by decide +kernel
theorem dX11_pause_133 : decode cX11_pause 133 = .ok (.getfield 64, 3) := by decide +kernel
theorem dX11_pause_136 : decode cX11_pause 136 = .ok (.iload 5, 2) := by decide +kernel
theorem dX11_pause_138 : decode cX11_pause 138 = .ok (.invokestatic 301, 3) := by decide +kernel
theorem dX11_pause_141 : decode cX11_pause 141 = .ok (.dup2, 1) := by decide +kernel
theorem dX11_pause_142 : decode cX11_pause 142 = .ok (.iaload, 1) := by decide +kernel
theorem dX11_pause_143 : decode cX11_pause 143 = .ok (.iload_n 1, 1) := by decide +kernel
theorem dX11_pause_144 : decode cX11_pause 144 = .ok (.iadd, 1) := by decide +kernel
theorem dX11_pause_145 : decode cX11_pause 145 = .ok (.iastore, 1) := by decide +kernel
theorem dX11_pause_146 : decode cX11_pause 146 = .ok (.aload_n 0, 1) := by decide +kernel
theorem dX11_pause_147 : decode cX11_pause 147 = .ok (.dup, 1) := by decide +kernel
theorem dX11_pause_148 : decode cX11_pause 148 = .ok (.getfield 165, 3) := by decide +kernel
theorem dX11_pause_151 : decode cX11_pause 151 = .ok (.iload_n 1, 1) := by decide +kernel
theorem dX11_pause_152 : decode cX11_pause 152 = .ok (.iadd, 1) := by decide +kernel
theorem dX11_pause_153 : decode cX11_pause 153 = .ok (.putfield 165, 3) := by decide +kernel
theorem dX11_pause_156 : decode cX11_pause 156 = .ok (.aload_n 0, 1) := by decide +kernel
theorem dX11_pause_157 : decode cX11_pause 157 = .ok (.getfield 165, 3) := by decide +kernel
theorem dX11_pause_160 : decode cX11_pause 160 = .ok (.ireturn, 1) := by decide +kernel
theorem dX11_first_0 : decode cX11_first 0 = .ok (.aload_n 0, 1) := by decide +kernel
theorem dX11_first_1 : decode cX11_first 1 = .ok (.invokevirtual 77, 3) := by decide +kernel
theorem dX11_first_4 : decode cX11_first 4 = .ok (.aload_n 0, 1) := by decide +kernel
theorem dX11_first_5 : decode cX11_first 5 = .ok (.getfield 60, 3) := by decide +kernel
theorem dX11_first_8 : decode cX11_first 8 = .ok (.iload_n 1, 1) := by decide +kernel
theorem dX11_first_9 : decode cX11_first 9 = .ok (.invokevirtual 82, 3) := by decide +kernel
theorem dX11_first_12 : decode cX11_first 12 = .ok (.istore_n 2, 1) := by decide +kernel
theorem dX11_first_13 : decode cX11_first 13 = .ok (.aload_n 0, 1) := by decide +kernel
theorem dX11_first_14 : decode cX11_first 14 = .ok (.iload_n 2, 1) := by decide +kernel
theorem dX11_first_15 : decode cX11_first 15 = .ok (.ifCond .ge 7, 3) := by decide +kernel
theorem dX11_first_18 : decode cX11_first 18 = .ok (.iconst 1, 1) := by decide +kernel
theorem dX11_first_19 : decode cX11_first 19 = .ok (.goto 4, 3) := by decide +kernel
theorem dX11_first_22 : decode cX11_first 22 = .ok (.iconst 0, 1) := by decide +kernel
theorem dX11_first_23 : decode cX11_first 23 = .ok (.iconst 1, 1) := by decide +kernel
theorem dX11_first_24 : decode cX11_first 24 = .ok (.invokevirtual 73, 3) := by decide +kernel
theorem dX11_first_27 : decode cX11_first 27 = .ok (.ifCond .eq 5, 3) := by decide +kernel
theorem dX11_first_30 : decode cX11_first 30 = .ok (.iconst (-1), 1) := by decide +kernel
theorem dX11_first_31 : decode cX11_first 31 = .ok (.ireturn, 1) := by decide +kernel
theorem dX11_first_32 : decode cX11_first 32 = .ok (.aload_n 0, 1) := by decide +kernel
theorem dX11_first_33 : decode cX11_first 33 = .ok (.new 305, 3) := by decide +kernel
theorem dX11_first_36 : decode cX11_first 36 = .ok (.dup, 1) := by decide +kernel
theorem dX11_first_37 : decode cX11_first 37 = .ok (.invokespecial 307, 3) := by decide +kernel
theorem dX11_first_40 : decode cX11_first 40 = .ok (.iload_n 1, 1) := by decide +kernel
theorem dX11_first_41 : decode cX11_first 41 = .ok (.invokevirtual 308, 3) := by decide +kernel
theorem dX11_first_44 : decode cX11_first 44 = .ok (.aload_n 0, 1) := by decide +kernel
theorem dX11_first_45 : decode cX11_first 45 = .ok (.getfield 60, 3) := by decide +kernel
theorem dX11_first_48 : decode cX11_first 48 = .ok (.iconst 0, 1) := by decide +kernel
theorem dX11_first_49 : decode cX11_first 49 = .ok (.iload_n 2, 1) := by decide +kernel
theorem dX11_first_50 : decode cX11_first 50 = .ok (.invokevirtual 312, 3) := by decide +kernel
theorem dX11_first_53 : decode cX11_first 53 = .ok (.invokevirtual 316, 3) := by decide +kernel
theorem dX11_first_56 : decode cX11_first 56 = .ok (.aload_n 0, 1) := by decide +kernel
theorem dX11_first_57 : decode cX11_first 57 = .ok (.getfield 60, 3) := by decide +kernel
theorem dX11_first_60 : decode cX11_first 60 = .ok (.iload_n 2, 1) := by decide +kernel
theorem dX11_first_61 : decode cX11_first 61 = .ok (.iconst 1, 1) := by decide +kernel
theorem dX11_first_62 : decode cX11_first 62 = .ok (.iadd, 1) := by decide +kernel
theorem dX11_first_63 : decode cX11_first 63 = .ok (.invokevirtual 319, 3) := by decide +kernel
theorem dX11_first_66 : decode cX11_first 66 = .ok (.invokevirtual 316, 3) := by decide +kernel
theorem dX11_first_69 : decode cX11_first 69 = .ok (.invokevirtual 322, 3) := by decide +kernel
theorem dX11_first_72 : decode cX11_first 72 = .ok (.putfield 60, 3) := by decide +kernel
theorem dX11_first_75 : decode cX11_first 75 = .ok (.iload_n 2, 1) := by decide +kernel
theorem dX11_first_76 : decode cX11_first 76 = .ok (.ireturn, 1) := by decide +kernel
theorem dX11_waited_0 : decode cX11_waited 0 = .ok (.aload_n 0, 1) := by decide +kernel
theorem dX11_waited_1 : decode cX11_waited 1 = .ok (.invokevirtual 77, 3) := by decide +kernel
theorem dX11_waited_4 : decode cX11_waited 4 = .ok (.ldc_w 326, 3) := by decide +kernel
theorem dX11_waited_7 : decode cX11_waited 7 = .ok (.iload_n 1, 1) := by decide +kernel
theorem dX11_waited_8 : decode cX11_waited 8 = .ok (.invokevirtual 82, 3) := by decide +kernel
theorem dX11_waited_11 : decode cX11_waited 11 = .ok (.istore_n 2, 1) := by decide +kernel
theorem dX11_waited_12 : decode cX11_waited 12 = .ok (.aload_n 0, 1) := by decide +kernel
theorem dX11_waited_13 : decode cX11_waited 13 = .ok (.iload_n 2, 1) := by decide +kernel
theorem dX11_waited_14 : decode cX11_waited 14 = .ok (.ifCond .ge 7, 3) := by decide +kernel
theorem dX11_waited_17 : decode cX11_waited 17 = .ok (.iconst 1, 1) := by decide +kernel
theorem dX11_waited_18 : decode cX11_waited 18 = .ok (.goto 4, 3) := by decide +kernel
theorem dX11_waited_21 : decode cX11_waited 21 = .ok (.iconst 0, 1) := by decide +kernel
theorem dX11_waited_22 : decode cX11_waited 22 = .ok (.iconst 1, 1) := by decide +kernel
theorem dX11_waited_23 : decode cX11_waited 23 = .ok (.invokevirtual 73, 3) := by decide +kernel
theorem dX11_waited_26 : decode cX11_waited 26 = .ok (.ifCond .eq 7, 3) := by decide +kernel
theorem dX11_waited_29 : decode cX11_waited 29 = .ok (.iconst (-1), 1) := by decide +kernel
theorem dX11_waited_30 : decode cX11_waited 30 = .ok (.goto 9, 3) := by decide +kernel
theorem dX11_waited_33 : decode cX11_waited 33 = .ok (.aload_n 0, 1) := by decide +kernel
theorem dX11_waited_34 : decode cX11_waited 34 = .ok (.getfield 64, 3) := by decide +kernel
theorem dX11_waited_37 : decode cX11_waited 37 = .ok (.iload_n 2, 1) := by decide +kernel
theorem dX11_waited_38 : decode cX11_waited 38 = .ok (.iaload, 1) := by decide +kernel
theorem dX11_waited_39 : decode cX11_waited 39 = .ok (.ireturn, 1) := by decide +kernel
theorem dX11_event_0 : decode cX11_event 0 = .ok (.iconst 0, 1) := by decide +kernel
theorem dX11_event_1 : decode cX11_event 1 = .ok (.getstatic 207, 3) := by decide +kernel
theorem dX11_event_4 : decode cX11_event 4 = .ok (.aload_n 0, 1) := by decide +kernel
theorem dX11_event_5 : decode cX11_event 5 = .ok (.getfield 23, 3) := by decide +kernel
theorem dX11_event_8 : decode cX11_event 8 = .ok (.iload_n 1, 1) := by decide +kernel
theorem dX11_event_9 : decode cX11_event 9 = .ok (.iaload, 1) := by decide +kernel
theorem dX11_event_10 : decode cX11_event 10 = .ok (.iaload, 1) := by decide +kernel
theorem dX11_event_11 : decode cX11_event 11 = .ok (.getstatic 207, 3) := by decide +kernel
theorem dX11_event_14 : decode cX11_event 14 = .ok (.aload_n 0, 1) := by decide +kernel
theorem dX11_event_15 : decode cX11_event 15 = .ok (.getfield 27, 3) := by decide +kernel
theorem dX11_event_18 : decode cX11_event 18 = .ok (.iload_n 1, 1) := by decide +kernel
theorem dX11_event_19 : decode cX11_event 19 = .ok (.iaload, 1) := by decide +kernel
theorem dX11_event_20 : decode cX11_event 20 = .ok (.iaload, 1) := by decide +kernel
theorem dX11_event_21 : decode cX11_event 21 = .ok (.isub, 1) := by decide +kernel
theorem dX11_event_22 : decode cX11_event 22 = .ok (.invokestatic 128, 3) := by decide +kernel
theorem dX11_event_25 : decode cX11_event 25 = .ok (.ireturn, 1) := by decide +kernel
theorem dX11_events_0 : decode cX11_events 0 = .ok (.aload_n 0, 1) := by decide +kernel
theorem dX11_events_1 : decode cX11_events 1 = .ok (.invokevirtual 77, 3) := by decide +kernel
theorem dX11_events_4 : decode cX11_events 4 = .ok (.iconst 0, 1) := by decide +kernel
theorem dX11_events_5 : decode cX11_events 5 = .ok (.istore_n 1, 1) := by decide +kernel
theorem dX11_events_6 : decode cX11_events 6 = .ok (.iconst 0, 1) := by decide +kernel
theorem dX11_events_7 : decode cX11_events 7 = .ok (.istore_n 2, 1) := by decide +kernel
theorem dX11_events_8 : decode cX11_events 8 = .ok (.iload_n 2, 1) := by decide +kernel
theorem dX11_events_9 : decode cX11_events 9 = .ok (.aload_n 0, 1) := by decide +kernel
theorem dX11_events_10 : decode cX11_events 10 = .ok (.getfield 49, 3) := by decide +kernel
theorem dX11_events_13 : decode cX11_events 13 = .ok (.invokeinterface 7 1, 5) := by decide +kernel
theorem dX11_events_18 : decode cX11_events 18 = .ok (.if_icmp .ge 25, 3) := by decide +kernel
theorem dX11_events_21 : decode cX11_events 21 = .ok (.iload_n 1, 1) := by decide +kernel
theorem dX11_events_22 : decode cX11_events 22 = .ok (.aload_n 0, 1) := by decide +kernel
theorem dX11_events_23 : decode cX11_events 23 = .ok (.iload_n 2, 1) := by decide +kernel
theorem dX11_events_24 : decode cX11_events 24 = .ok (.invokevirtual 328, 3) := by decide +kernel
theorem dX11_events_27 : decode cX11_events 27 = .ok (.ifCond .le 7, 3) := by decide +kernel
theorem dX11_events_30 : decode cX11_events 30 = .ok (.iconst 1, 1) := by decide +kernel
theorem dX11_events_31 : decode cX11_events 31 = .ok (.goto 4, 3) := by decide +kernel
theorem dX11_events_34 : decode cX11_events 34 = .ok (.iconst 0, 1) := by decide +kernel
theorem dX11_events_35 : decode cX11_events 35 = .ok (.iadd, 1) := by decide +kernel
theorem dX11_events_36 : decode cX11_events 36 = .ok (.istore_n 1, 1) := by decide +kernel
theorem dX11_events_37 : decode cX11_events 37 = .ok (.iinc 2 1, 3) := by decide +kernel
theorem dX11_events_40 : decode cX11_events 40 = .ok (.goto (-32), 3) := by decide +kernel
theorem dX11_events_43 : decode cX11_events 43 = .ok (.iload_n 1, 1) := by decide +kernel
theorem dX11_events_44 : decode cX11_events 44 = .ok (.ireturn, 1) := by decide +kernel
theorem dX11_notice_0 : decode cX11_notice 0 = .ok (.aload_n 0, 1) := by decide +kernel
theorem dX11_notice_1 : decode cX11_notice 1 = .ok (.invokevirtual 77, 3) := by decide +kernel
theorem dX11_notice_4 : decode cX11_notice 4 = .ok (.aload_n 0, 1) := by decide +kernel
theorem dX11_notice_5 : decode cX11_notice 5 = .ok (.iload_n 1, 1) := by decide +kernel
theorem dX11_notice_6 : decode cX11_notice 6 = .ok (.invokevirtual 245, 3) := by decide +kernel
theorem dX11_notice_9 : decode cX11_notice 9 = .ok (.ifCond .ne 43, 3) := by decide +kernel
theorem dX11_notice_12 : decode cX11_notice 12 = .ok (.aload_n 0, 1) := by decide +kernel
theorem dX11_notice_13 : decode cX11_notice 13 = .ok (.aload_n 0, 1) := by decide +kernel
theorem dX11_notice_14 : decode cX11_notice 14 = .ok (.iload_n 1, 1) := by decide +kernel
theorem dX11_notice_15 : decode cX11_notice 15 = .ok (.invokevirtual 328, 3) := by decide +kernel
theorem dX11_notice_18 : decode cX11_notice 18 = .ok (.ifCond .eq 22, 3) := by decide +kernel
theorem dX11_notice_21 : decode cX11_notice 21 = .ok (.aload_n 0, 1) := by decide +kernel
theorem dX11_notice_22 : decode cX11_notice 22 = .ok (.getfield 49, 3) := by decide +kernel
theorem dX11_notice_25 : decode cX11_notice 25 = .ok (.iload_n 1, 1) := by decide +kernel
theorem dX11_notice_26 : decode cX11_notice 26 = .ok (.invokeinterface 186 2, 5) := by decide +kernel
theorem dX11_notice_31 : decode cX11_notice 31 = .ok (.checkcast 190, 3) := by decide +kernel
theorem dX11_notice_34 : decode cX11_notice 34 = .ok (.getfield 331, 3) := by decide +kernel
theorem dX11_notice_37 : decode cX11_notice 37 = .ok (.ifCond .eq 7, 3) := by decide +kernel
theorem dX11_notice_40 : decode cX11_notice 40 = .ok (.iconst 1, 1) := by decide +kernel
theorem dX11_notice_41 : decode cX11_notice 41 = .ok (.goto 4, 3) := by decide +kernel
theorem dX11_notice_44 : decode cX11_notice 44 = .ok (.iconst 0, 1) := by decide +kernel
theorem dX11_notice_45 : decode cX11_notice 45 = .ok (.iconst 2, 1) := by decide +kernel
theorem dX11_notice_46 : decode cX11_notice 46 = .ok (.invokevirtual 73, 3) := by decide +kernel
theorem dX11_notice_49 : decode cX11_notice 49 = .ok (.ifCond .eq 5, 3) := by decide +kernel
theorem dX11_notice_52 : decode cX11_notice 52 = .ok (.iconst 0, 1) := by decide +kernel
theorem dX11_notice_53 : decode cX11_notice 53 = .ok (.ireturn, 1) := by decide +kernel
theorem dX11_notice_54 : decode cX11_notice 54 = .ok (.aload_n 0, 1) := by decide +kernel
theorem dX11_notice_55 : decode cX11_notice 55 = .ok (.getfield 49, 3) := by decide +kernel
theorem dX11_notice_58 : decode cX11_notice 58 = .ok (.iload_n 1, 1) := by decide +kernel
theorem dX11_notice_59 : decode cX11_notice 59 = .ok (.invokeinterface 186 2, 5) := by decide +kernel
theorem dX11_notice_64 : decode cX11_notice 64 = .ok (.checkcast 190, 3) := by decide +kernel
theorem dX11_notice_67 : decode cX11_notice 67 = .ok (.astore_n 2, 1) := by decide +kernel
theorem dX11_notice_68 : decode cX11_notice 68 = .ok (.aload_n 2, 1) := by decide +kernel
theorem dX11_notice_69 : decode cX11_notice 69 = .ok (.iconst 1, 1) := by decide +kernel
theorem dX11_notice_70 : decode cX11_notice 70 = .ok (.putfield 331, 3) := by decide +kernel
theorem dX11_notice_73 : decode cX11_notice 73 = .ok (.aload_n 2, 1) := by decide +kernel
theorem dX11_notice_74 : decode cX11_notice 74 = .ok (.aload_n 0, 1) := by decide +kernel
theorem dX11_notice_75 : decode cX11_notice 75 = .ok (.getfield 165, 3) := by decide +kernel
theorem dX11_notice_78 : decode cX11_notice 78 = .ok (.aload_n 2, 1) := by decide +kernel
theorem dX11_notice_79 : decode cX11_notice 79 = .ok (.getfield 238, 3) := by decide +kernel
theorem dX11_notice_82 : decode cX11_notice 82 = .ok (.isub, 1) := by decide +kernel
theorem dX11_notice_83 : decode cX11_notice 83 = .ok (.sipush 4320, 3) := by decide +kernel
theorem dX11_notice_86 : decode cX11_notice 86 = .ok (.if_icmp .gt 7, 3) := by decide +kernel
theorem dX11_notice_89 : decode cX11_notice 89 = .ok (.iconst 1, 1) := by decide +kernel
theorem dX11_notice_90 : decode cX11_notice 90 = .ok (.goto 4, 3) := by decide +kernel
theorem dX11_notice_93 : decode cX11_notice 93 = .ok (.iconst 0, 1) := by decide +kernel
theorem dX11_notice_94 : decode cX11_notice 94 = .ok (.putfield 334, 3) := by decide +kernel
theorem dX11_notice_97 : decode cX11_notice 97 = .ok (.aload_n 2, 1) := by decide +kernel
theorem dX11_notice_98 : decode cX11_notice 98 = .ok (.getfield 334, 3) := by decide +kernel
theorem dX11_notice_101 : decode cX11_notice 101 = .ok (.ireturn, 1) := by decide +kernel
theorem dX11_claimed_0 : decode cX11_claimed 0 = .ok (.aload_n 0, 1) := by decide +kernel
theorem dX11_claimed_1 : decode cX11_claimed 1 = .ok (.invokevirtual 77, 3) := by decide +kernel
theorem dX11_claimed_4 : decode cX11_claimed 4 = .ok (.iconst 0, 1) := by decide +kernel
theorem dX11_claimed_5 : decode cX11_claimed 5 = .ok (.istore_n 1, 1) := by decide +kernel
theorem dX11_claimed_6 : decode cX11_claimed 6 = .ok (.iconst 0, 1) := by decide +kernel
theorem dX11_claimed_7 : decode cX11_claimed 7 = .ok (.istore_n 2, 1) := by decide +kernel
theorem dX11_claimed_8 : decode cX11_claimed 8 = .ok (.iload_n 2, 1) := by decide +kernel
theorem dX11_claimed_9 : decode cX11_claimed 9 = .ok (.aload_n 0, 1) := by decide +kernel
theorem dX11_claimed_10 : decode cX11_claimed 10 = .ok (.getfield 49, 3) := by decide +kernel
theorem dX11_claimed_13 : decode cX11_claimed 13 = .ok (.invokeinterface 7 1, 5) := by decide +kernel
theorem dX11_claimed_18 : decode cX11_claimed 18 = .ok (.if_icmp .ge 40, 3) := by decide +kernel
theorem dX11_claimed_21 : decode cX11_claimed 21 = .ok (.iload_n 1, 1) := by decide +kernel
theorem dX11_claimed_22 : decode cX11_claimed 22 = .ok (.aload_n 0, 1) := by decide +kernel
theorem dX11_claimed_23 : decode cX11_claimed 23 = .ok (.getfield 49, 3) := by decide +kernel
theorem dX11_claimed_26 : decode cX11_claimed 26 = .ok (.iload_n 2, 1) := by decide +kernel
theorem dX11_claimed_27 : decode cX11_claimed 27 = .ok (.invokeinterface 186 2, 5) := by decide +kernel
theorem dX11_claimed_32 : decode cX11_claimed 32 = .ok (.checkcast 190, 3) := by decide +kernel
theorem dX11_claimed_35 : decode cX11_claimed 35 = .ok (.getfield 334, 3) := by decide +kernel
theorem dX11_claimed_38 : decode cX11_claimed 38 = .ok (.ifCond .eq 11, 3) := by decide +kernel
theorem dX11_claimed_41 : decode cX11_claimed 41 = .ok (.aload_n 0, 1) := by decide +kernel
theorem dX11_claimed_42 : decode cX11_claimed 42 = .ok (.iload_n 2, 1) := by decide +kernel
theorem dX11_claimed_43 : decode cX11_claimed 43 = .ok (.invokevirtual 328, 3) := by decide +kernel
theorem dX11_claimed_46 : decode cX11_claimed 46 = .ok (.goto 4, 3) := by decide +kernel
theorem dX11_claimed_49 : decode cX11_claimed 49 = .ok (.iconst 0, 1) := by decide +kernel
theorem dX11_claimed_50 : decode cX11_claimed 50 = .ok (.iadd, 1) := by decide +kernel
theorem dX11_claimed_51 : decode cX11_claimed 51 = .ok (.istore_n 1, 1) := by decide +kernel
theorem dX11_claimed_52 : decode cX11_claimed 52 = .ok (.iinc 2 1, 3) := by decide +kernel
theorem dX11_claimed_55 : decode cX11_claimed 55 = .ok (.goto (-47), 3) := by decide +kernel
theorem dX11_claimed_58 : decode cX11_claimed 58 = .ok (.iload_n 1, 1) := by decide +kernel
theorem dX11_claimed_59 : decode cX11_claimed 59 = .ok (.ireturn, 1) := by decide +kernel
theorem dX11_count_0 : decode cX11_count 0 = .ok (.aload_n 0, 1) := by decide +kernel
theorem dX11_count_1 : decode cX11_count 1 = .ok (.invokevirtual 77, 3) := by decide +kernel
theorem dX11_count_4 : decode cX11_count 4 = .ok (.aload_n 0, 1) := by decide +kernel
theorem dX11_count_5 : decode cX11_count 5 = .ok (.ldc 80, 2) := by decide +kernel
theorem dX11_count_7 : decode cX11_count 7 = .ok (.iload_n 1, 1) := by decide +kernel
theorem dX11_count_8 : decode cX11_count 8 = .ok (.invokevirtual 82, 3) := by decide +kernel
theorem dX11_count_11 : decode cX11_count 11 = .ok (.ifCond .ge 7, 3) := by decide +kernel
theorem dX11_count_14 : decode cX11_count 14 = .ok (.iconst 1, 1) := by decide +kernel
theorem dX11_count_15 : decode cX11_count 15 = .ok (.goto 4, 3) := by decide +kernel
theorem dX11_count_18 : decode cX11_count 18 = .ok (.iconst 0, 1) := by decide +kernel
theorem dX11_count_19 : decode cX11_count 19 = .ok (.iconst 1, 1) := by decide +kernel
theorem dX11_count_20 : decode cX11_count 20 = .ok (.invokevirtual 73, 3) := by decide +kernel
theorem dX11_count_23 : decode cX11_count 23 = .ok (.ifCond .eq 5, 3) := by decide +kernel
theorem dX11_count_26 : decode cX11_count 26 = .ok (.iconst (-1), 1) := by decide +kernel
theorem dX11_count_27 : decode cX11_count 27 = .ok (.ireturn, 1) := by decide +kernel
theorem dX11_count_28 : decode cX11_count 28 = .ok (.iconst 0, 1) := by decide +kernel
theorem dX11_count_29 : decode cX11_count 29 = .ok (.istore_n 2, 1) := by decide +kernel
theorem dX11_count_30 : decode cX11_count 30 = .ok (.iconst 0, 1) := by decide +kernel
theorem dX11_count_31 : decode cX11_count 31 = .ok (.istore_n 3, 1) := by decide +kernel
theorem dX11_count_32 : decode cX11_count 32 = .ok (.iload_n 3, 1) := by decide +kernel
theorem dX11_count_33 : decode cX11_count 33 = .ok (.aload_n 0, 1) := by decide +kernel
theorem dX11_count_34 : decode cX11_count 34 = .ok (.getfield 49, 3) := by decide +kernel
theorem dX11_count_37 : decode cX11_count 37 = .ok (.invokeinterface 7 1, 5) := by decide +kernel
theorem dX11_count_42 : decode cX11_count 42 = .ok (.if_icmp .ge 32, 3) := by decide +kernel
theorem dX11_count_45 : decode cX11_count 45 = .ok (.iload_n 2, 1) := by decide +kernel
theorem dX11_count_46 : decode cX11_count 46 = .ok (.aload_n 0, 1) := by decide +kernel
theorem dX11_count_47 : decode cX11_count 47 = .ok (.getfield 23, 3) := by decide +kernel
theorem dX11_count_50 : decode cX11_count 50 = .ok (.iload_n 3, 1) := by decide +kernel
theorem dX11_count_51 : decode cX11_count 51 = .ok (.iaload, 1) := by decide +kernel
theorem dX11_count_52 : decode cX11_count 52 = .ok (.ldc 80, 2) := by decide +kernel
theorem dX11_count_54 : decode cX11_count 54 = .ok (.iload_n 1, 1) := by decide +kernel
theorem dX11_count_55 : decode cX11_count 55 = .ok (.invokevirtual 82, 3) := by decide +kernel
theorem dX11_count_58 : decode cX11_count 58 = .ok (.if_icmp .ne 7, 3) := by decide +kernel
theorem dX11_count_61 : decode cX11_count 61 = .ok (.iconst 1, 1) := by decide +kernel
theorem dX11_count_62 : decode cX11_count 62 = .ok (.goto 4, 3) := by decide +kernel
theorem dX11_count_65 : decode cX11_count 65 = .ok (.iconst 0, 1) := by decide +kernel
theorem dX11_count_66 : decode cX11_count 66 = .ok (.iadd, 1) := by decide +kernel
theorem dX11_count_67 : decode cX11_count 67 = .ok (.istore_n 2, 1) := by decide +kernel
theorem dX11_count_68 : decode cX11_count 68 = .ok (.iinc 3 1, 3) := by decide +kernel
theorem dX11_count_71 : decode cX11_count 71 = .ok (.goto (-39), 3) := by decide +kernel
theorem dX11_count_74 : decode cX11_count 74 = .ok (.iload_n 2, 1) := by decide +kernel
theorem dX11_count_75 : decode cX11_count 75 = .ok (.ireturn, 1) := by decide +kernel
theorem dX11_groutShare_0 : decode cX11_groutShare 0 = .ok (.aload_n 0, 1) := by decide +kernel
theorem dX11_groutShare_1 : decode cX11_groutShare 1 = .ok (.invokevirtual 77, 3) := by decide +kernel
theorem dX11_groutShare_4 : decode cX11_groutShare 4 = .ok (.iconst 0, 1) := by decide +kernel
theorem dX11_groutShare_5 : decode cX11_groutShare 5 = .ok (.istore_n 1, 1) := by decide +kernel
theorem dX11_groutShare_6 : decode cX11_groutShare 6 = .ok (.iconst 0, 1) := by decide +kernel
theorem dX11_groutShare_7 : decode cX11_groutShare 7 = .ok (.istore_n 2, 1) := by decide +kernel
theorem dX11_groutShare_8 : decode cX11_groutShare 8 = .ok (.iconst 0, 1) := by decide +kernel
theorem dX11_groutShare_9 : decode cX11_groutShare 9 = .ok (.istore_n 3, 1) := by decide +kernel
theorem dX11_groutShare_10 : decode cX11_groutShare 10 = .ok (.iload_n 3, 1) := by decide +kernel
theorem dX11_groutShare_11 : decode cX11_groutShare 11 = .ok (.aload_n 0, 1) := by decide +kernel
theorem dX11_groutShare_12 : decode cX11_groutShare 12 = .ok (.getfield 49, 3) := by decide +kernel
theorem dX11_groutShare_15 : decode cX11_groutShare 15 = .ok (.invokeinterface 7 1, 5) := by decide +kernel
theorem dX11_groutShare_20 : decode cX11_groutShare 20 = .ok (.if_icmp .ge 36, 3) := by decide +kernel
theorem dX11_groutShare_23 : decode cX11_groutShare 23 = .ok (.iload_n 1, 1) := by decide +kernel
theorem dX11_groutShare_24 : decode cX11_groutShare 24 = .ok (.aload_n 0, 1) := by decide +kernel
theorem dX11_groutShare_25 : decode cX11_groutShare 25 = .ok (.getfield 49, 3) := by decide +kernel
theorem dX11_groutShare_28 : decode cX11_groutShare 28 = .ok (.iload_n 3, 1) := by decide +kernel
theorem dX11_groutShare_29 : decode cX11_groutShare 29 = .ok (.invokeinterface 186 2, 5) := by decide +kernel
theorem dX11_groutShare_34 : decode cX11_groutShare 34 = .ok (.checkcast 190, 3) := by decide +kernel
theorem dX11_groutShare_37 : decode cX11_groutShare 37 = .ok (.getfield 266, 3) := by decide +kernel
theorem dX11_groutShare_40 : decode cX11_groutShare 40 = .ok (.iadd, 1) := by decide +kernel
theorem dX11_groutShare_41 : decode cX11_groutShare 41 = .ok (.istore_n 1, 1) := by decide +kernel
theorem dX11_groutShare_42 : decode cX11_groutShare 42 = .ok (.iload_n 2, 1) := by decide +kernel
theorem dX11_groutShare_43 : decode cX11_groutShare 43 = .ok (.aload_n 0, 1) := by decide +kernel
theorem dX11_groutShare_44 : decode cX11_groutShare 44 = .ok (.iload_n 3, 1) := by decide +kernel
theorem dX11_groutShare_45 : decode cX11_groutShare 45 = .ok (.invokevirtual 263, 3) := by decide +kernel
theorem dX11_groutShare_48 : decode cX11_groutShare 48 = .ok (.iadd, 1) := by decide +kernel
theorem dX11_groutShare_49 : decode cX11_groutShare 49 = .ok (.istore_n 2, 1) := by decide +kernel
theorem dX11_groutShare_50 : decode cX11_groutShare 50 = .ok (.iinc 3 1, 3) := by decide +kernel
theorem dX11_groutShare_53 : decode cX11_groutShare 53 = .ok (.goto (-43), 3) := by decide +kernel
theorem dX11_groutShare_56 : decode cX11_groutShare 56 = .ok (.aload_n 0, 1) := by decide +kernel
theorem dX11_groutShare_57 : decode cX11_groutShare 57 = .ok (.aload_n 0, 1) := by decide +kernel
theorem dX11_groutShare_58 : decode cX11_groutShare 58 = .ok (.getfield 49, 3) := by decide +kernel
theorem dX11_groutShare_61 : decode cX11_groutShare 61 = .ok (.invokeinterface 337 1, 5) := by decide +kernel
theorem dX11_groutShare_66 : decode cX11_groutShare 66 = .ok (.iconst 1, 1) := by decide +kernel
theorem dX11_groutShare_67 : decode cX11_groutShare 67 = .ok (.invokevirtual 73, 3) := by decide +kernel
theorem dX11_groutShare_70 : decode cX11_groutShare 70 = .ok (.ifCond .eq 7, 3) := by decide +kernel
theorem dX11_groutShare_73 : decode cX11_groutShare 73 = .ok (.fconst 0, 1) := by decide +kernel
theorem dX11_groutShare_74 : decode cX11_groutShare 74 = .ok (.goto 8, 3) := by decide +kernel
theorem dX11_groutShare_77 : decode cX11_groutShare 77 = .ok (.iload_n 1, 1) := by decide +kernel
theorem dX11_groutShare_78 : decode cX11_groutShare 78 = .ok (.i2f, 1) := by decide +kernel
theorem dX11_groutShare_79 : decode cX11_groutShare 79 = .ok (.iload_n 2, 1) := by decide +kernel
theorem dX11_groutShare_80 : decode cX11_groutShare 80 = .ok (.i2f, 1) := by decide +kernel
theorem dX11_groutShare_81 : decode cX11_groutShare 81 = .ok (.fdiv, 1) := by decide +kernel
theorem dX11_groutShare_82 : decode cX11_groutShare 82 = .ok (.freturn, 1) := by decide +kernel
theorem dX11_meanMinutes_0 : decode cX11_meanMinutes 0 = .ok (.aload_n 0, 1) := by decide +kernel
theorem dX11_meanMinutes_1 : decode cX11_meanMinutes 1 = .ok (.invokevirtual 77, 3) := by decide +kernel
theorem dX11_meanMinutes_4 : decode cX11_meanMinutes 4 = .ok (.iconst 0, 1) := by decide +kernel
theorem dX11_meanMinutes_5 : decode cX11_meanMinutes 5 = .ok (.istore_n 1, 1) := by decide +kernel
theorem dX11_meanMinutes_6 : decode cX11_meanMinutes 6 = .ok (.aload_n 0, 1) := by decide +kernel
theorem dX11_meanMinutes_7 : decode cX11_meanMinutes 7 = .ok (.getfield 49, 3) := by decide +kernel
theorem dX11_meanMinutes_10 : decode cX11_meanMinutes 10 = .ok (.invokeinterface 108 1, 5) := by decide +kernel
theorem dX11_meanMinutes_15 : decode cX11_meanMinutes 15 = .ok (.astore_n 2, 1) := by decide +kernel
theorem dX11_meanMinutes_16 : decode cX11_meanMinutes 16 = .ok (.aload_n 2, 1) := by decide +kernel
theorem dX11_meanMinutes_17 : decode cX11_meanMinutes 17 = .ok (.invokeinterface 112 1, 5) := by decide +kernel
theorem dX11_meanMinutes_22 : decode cX11_meanMinutes 22 = .ok (.ifCond .eq 23, 3) := by decide +kernel
theorem dX11_meanMinutes_25 : decode cX11_meanMinutes 25 = .ok (.aload_n 2, 1) := by decide +kernel
theorem dX11_meanMinutes_26 : decode cX11_meanMinutes 26 = .ok (.invokeinterface 118 1, 5) := by decide +kernel
theorem dX11_meanMinutes_31 : decode cX11_meanMinutes 31 = .ok (.checkcast 190, 3) := by decide +kernel
theorem dX11_meanMinutes_34 : decode cX11_meanMinutes 34 = .ok (.astore_n 3, 1) := by decide +kernel
theorem dX11_meanMinutes_35 : decode cX11_meanMinutes 35 = .ok (.iload_n 1, 1) := by decide +kernel
theorem dX11_meanMinutes_36 : decode cX11_meanMinutes 36 = .ok (.aload_n 3, 1) := by decide +kernel
theorem dX11_meanMinutes_37 : decode cX11_meanMinutes 37 = .ok (.getfield 235, 3) := by decide +kernel
theorem dX11_meanMinutes_40 : decode cX11_meanMinutes 40 = .ok (.iadd, 1) := by decide +kernel
theorem dX11_meanMinutes_41 : decode cX11_meanMinutes 41 = .ok (.istore_n 1, 1) := by decide +kernel
theorem dX11_meanMinutes_42 : decode cX11_meanMinutes 42 = .ok (.goto (-26), 3) := by decide +kernel
theorem dX11_meanMinutes_45 : decode cX11_meanMinutes 45 = .ok (.aload_n 0, 1) := by decide +kernel
theorem dX11_meanMinutes_46 : decode cX11_meanMinutes 46 = .ok (.aload_n 0, 1) := by decide +kernel
theorem dX11_meanMinutes_47 : decode cX11_meanMinutes 47 = .ok (.getfield 49, 3) := by decide +kernel
theorem dX11_meanMinutes_50 : decode cX11_meanMinutes 50 = .ok (.invokeinterface 337 1, 5) := by decide +kernel
theorem dX11_meanMinutes_55 : decode cX11_meanMinutes 55 = .ok (.iconst 1, 1) := by decide +kernel
theorem dX11_meanMinutes_56 : decode cX11_meanMinutes 56 = .ok (.invokevirtual 73, 3) := by decide +kernel
theorem dX11_meanMinutes_59 : decode cX11_meanMinutes 59 = .ok (.ifCond .eq 7, 3) := by decide +kernel
theorem dX11_meanMinutes_62 : decode cX11_meanMinutes 62 = .ok (.dconst 0, 1) := by decide +kernel
theorem dX11_meanMinutes_63 : decode cX11_meanMinutes 63 = .ok (.goto 16, 3) := by decide +kernel
theorem dX11_meanMinutes_66 : decode cX11_meanMinutes 66 = .ok (.iload_n 1, 1) := by decide +kernel
theorem dX11_meanMinutes_67 : decode cX11_meanMinutes 67 = .ok (.i2d, 1) := by decide +kernel
theorem dX11_meanMinutes_68 : decode cX11_meanMinutes 68 = .ok (.aload_n 0, 1) := by decide +kernel
theorem dX11_meanMinutes_69 : decode cX11_meanMinutes 69 = .ok (.getfield 49, 3) := by decide +kernel
theorem dX11_meanMinutes_72 : decode cX11_meanMinutes 72 = .ok (.invokeinterface 7 1, 5) := by decide +kernel
theorem dX11_meanMinutes_77 : decode cX11_meanMinutes 77 = .ok (.i2d, 1) := by decide +kernel
theorem dX11_meanMinutes_78 : decode cX11_meanMinutes 78 = .ok (.ddiv, 1) := by decide +kernel
theorem dX11_meanMinutes_79 : decode cX11_meanMinutes 79 = .ok (.dreturn, 1) := by decide +kernel
theorem dX11_checksum_0 : decode cX11_checksum 0 = .ok (.aload_n 0, 1) := by decide +kernel
theorem dX11_checksum_1 : decode cX11_checksum 1 = .ok (.invokevirtual 77, 3) := by decide +kernel
theorem dX11_checksum_4 : decode cX11_checksum 4 = .ok (.ldc2_w 163, 3) := by decide +kernel
theorem dX11_checksum_7 : decode cX11_checksum 7 = .ok (.lstore_n 1, 1) := by decide +kernel
theorem dX11_checksum_8 : decode cX11_checksum 8 = .ok (.iconst 0, 1) := by decide +kernel
theorem dX11_checksum_9 : decode cX11_checksum 9 = .ok (.istore_n 3, 1) := by decide +kernel
theorem dX11_checksum_10 : decode cX11_checksum 10 = .ok (.iload_n 3, 1) := by decide +kernel
theorem dX11_checksum_11 : decode cX11_checksum 11 = .ok (.aload_n 0, 1) := by decide +kernel
theorem dX11_checksum_12 : decode cX11_checksum 12 = .ok (.getfield 49, 3) := by decide +kernel
theorem dX11_checksum_15 : decode cX11_checksum 15 = .ok (.invokeinterface 7 1, 5) := by decide +kernel
theorem dX11_checksum_20 : decode cX11_checksum 20 = .ok (.if_icmp .ge 94, 3) := by decide +kernel
theorem dX11_checksum_23 : decode cX11_checksum 23 = .ok (.ldc2_w 340, 3) := by decide +kernel
theorem dX11_checksum_26 : decode cX11_checksum 26 = .ok (.lload_n 1, 1) := by decide +kernel
theorem dX11_checksum_27 : decode cX11_checksum 27 = .ok (.lmul, 1) := by decide +kernel
theorem dX11_checksum_28 : decode cX11_checksum 28 = .ok (.aload_n 0, 1) := by decide +kernel
theorem dX11_checksum_29 : decode cX11_checksum 29 = .ok (.getfield 49, 3) := by decide +kernel
theorem dX11_checksum_32 : decode cX11_checksum 32 = .ok (.iload_n 3, 1) := by decide +kernel
theorem dX11_checksum_33 : decode cX11_checksum 33 = .ok (.invokeinterface 186 2, 5) := by decide +kernel
theorem dX11_checksum_38 : decode cX11_checksum 38 = .ok (.checkcast 190, 3) := by decide +kernel
theorem dX11_checksum_41 : decode cX11_checksum 41 = .ok (.getfield 192, 3) := by decide +kernel
theorem dX11_checksum_44 : decode cX11_checksum 44 = .ok (.i2l, 1) := by decide +kernel
theorem dX11_checksum_45 : decode cX11_checksum 45 = .ok (.ladd, 1) := by decide +kernel
theorem dX11_checksum_46 : decode cX11_checksum 46 = .ok (.lstore_n 1, 1) := by decide +kernel
theorem dX11_checksum_47 : decode cX11_checksum 47 = .ok (.ldc2_w 340, 3) := by decide +kernel
theorem dX11_checksum_50 : decode cX11_checksum 50 = .ok (.lload_n 1, 1) := by decide +kernel
theorem dX11_checksum_51 : decode cX11_checksum 51 = .ok (.lmul, 1) := by decide +kernel
theorem dX11_checksum_52 : decode cX11_checksum 52 = .ok (.aload_n 0, 1) := by decide +kernel
theorem dX11_checksum_53 : decode cX11_checksum 53 = .ok (.getfield 49, 3) := by decide +kernel
theorem dX11_checksum_56 : decode cX11_checksum 56 = .ok (.iload_n 3, 1) := by decide +kernel
theorem dX11_checksum_57 : decode cX11_checksum 57 = .ok (.invokeinterface 186 2, 5) := by decide +kernel
theorem dX11_checksum_62 : decode cX11_checksum 62 = .ok (.checkcast 190, 3) := by decide +kernel
theorem dX11_checksum_65 : decode cX11_checksum 65 = .ok (.getfield 229, 3) := by decide +kernel
theorem dX11_checksum_68 : decode cX11_checksum 68 = .ok (.i2l, 1) := by decide +kernel
theorem dX11_checksum_69 : decode cX11_checksum 69 = .ok (.ladd, 1) := by decide +kernel
theorem dX11_checksum_70 : decode cX11_checksum 70 = .ok (.lstore_n 1, 1) := by decide +kernel
theorem dX11_checksum_71 : decode cX11_checksum 71 = .ok (.ldc2_w 340, 3) := by decide +kernel
theorem dX11_checksum_74 : decode cX11_checksum 74 = .ok (.lload_n 1, 1) := by decide +kernel
theorem dX11_checksum_75 : decode cX11_checksum 75 = .ok (.lmul, 1) := by decide +kernel
theorem dX11_checksum_76 : decode cX11_checksum 76 = .ok (.aload_n 0, 1) := by decide +kernel
theorem dX11_checksum_77 : decode cX11_checksum 77 = .ok (.getfield 49, 3) := by decide +kernel
theorem dX11_checksum_80 : decode cX11_checksum 80 = .ok (.iload_n 3, 1) := by decide +kernel
theorem dX11_checksum_81 : decode cX11_checksum 81 = .ok (.invokeinterface 186 2, 5) := by decide +kernel
theorem dX11_checksum_86 : decode cX11_checksum 86 = .ok (.checkcast 190, 3) := by decide +kernel
theorem dX11_checksum_89 : decode cX11_checksum 89 = .ok (.getfield 232, 3) := by decide +kernel
theorem dX11_checksum_92 : decode cX11_checksum 92 = .ok (.i2l, 1) := by decide +kernel
theorem dX11_checksum_93 : decode cX11_checksum 93 = .ok (.ladd, 1) := by decide +kernel
theorem dX11_checksum_94 : decode cX11_checksum 94 = .ok (.lstore_n 1, 1) := by decide +kernel
theorem dX11_checksum_95 : decode cX11_checksum 95 = .ok (.ldc2_w 340, 3) := by decide +kernel
theorem dX11_checksum_98 : decode cX11_checksum 98 = .ok (.lload_n 1, 1) := by decide +kernel
theorem dX11_checksum_99 : decode cX11_checksum 99 = .ok (.lmul, 1) := by decide +kernel
theorem dX11_checksum_100 : decode cX11_checksum 100 = .ok (.aload_n 0, 1) := by decide +kernel
theorem dX11_checksum_101 : decode cX11_checksum 101 = .ok (.iload_n 3, 1) := by decide +kernel
theorem dX11_checksum_102 : decode cX11_checksum 102 = .ok (.invokevirtual 274, 3) := by decide +kernel
theorem dX11_checksum_105 : decode cX11_checksum 105 = .ok (.i2l, 1) := by decide +kernel
theorem dX11_checksum_106 : decode cX11_checksum 106 = .ok (.ladd, 1) := by decide +kernel
theorem dX11_checksum_107 : decode cX11_checksum 107 = .ok (.lstore_n 1, 1) := by decide +kernel
theorem dX11_checksum_108 : decode cX11_checksum 108 = .ok (.iinc 3 1, 3) := by decide +kernel
theorem dX11_checksum_111 : decode cX11_checksum 111 = .ok (.goto (-101), 3) := by decide +kernel
theorem dX11_checksum_114 : decode cX11_checksum 114 = .ok (.ldc2_w 340, 3) := by decide +kernel
theorem dX11_checksum_117 : decode cX11_checksum 117 = .ok (.lload_n 1, 1) := by decide +kernel
theorem dX11_checksum_118 : decode cX11_checksum 118 = .ok (.lmul, 1) := by decide +kernel
theorem dX11_checksum_119 : decode cX11_checksum 119 = .ok (.aload_n 0, 1) := by decide +kernel
theorem dX11_checksum_120 : decode cX11_checksum 120 = .ok (.getfield 165, 3) := by decide +kernel
theorem dX11_checksum_123 : decode cX11_checksum 123 = .ok (.i2l, 1) := by decide +kernel
theorem dX11_checksum_124 : decode cX11_checksum 124 = .ok (.ladd, 1) := by decide +kernel
theorem dX11_checksum_125 : decode cX11_checksum 125 = .ok (.lreturn, 1) := by decide +kernel
theorem dX11_isSound_0 : decode cX11_isSound 0 = .ok (.aload_n 0, 1) := by decide +kernel
theorem dX11_isSound_1 : decode cX11_isSound 1 = .ok (.invokevirtual 77, 3) := by decide +kernel
theorem dX11_isSound_4 : decode cX11_isSound 4 = .ok (.iconst 1, 1) := by decide +kernel
theorem dX11_isSound_5 : decode cX11_isSound 5 = .ok (.ireturn, 1) := by decide +kernel
theorem dJ5_init_d00df_0 : decode cJ5_init_d00df 0 = .ok (.aload_n 0, 1) := by decide +kernel
theorem dJ5_init_d00df_1 : decode cJ5_init_d00df 1 = .ok (.invokespecial 3, 3) := by decide +kernel
theorem dJ5_init_d00df_4 : decode cJ5_init_d00df 4 = .ok (.getstatic 18, 3) := by decide +kernel
theorem dJ5_init_d00df_7 : decode cJ5_init_d00df 7 = .ok (.ifCond .eq 18, 3) := by decide +kernel
theorem dJ5_init_d00df_10 : decode cJ5_init_d00df 10 = .ok (.aload_n 0, 1) := by decide +kernel
theorem dJ5_init_d00df_11 : decode cJ5_init_d00df 11 = .ok (.iload_n 1, 1) := by decide +kernel
theorem dJ5_init_d00df_12 : decode cJ5_init_d00df 12 = .ok (.newarray .byte, 2) := by decide +kernel
theorem dJ5_init_d00df_14 : decode cJ5_init_d00df 14 = .ok (.putfield 15, 3) := by decide +kernel
theorem dJ5_init_d00df_17 : decode cJ5_init_d00df 17 = .ok (.aload_n 0, 1) := by decide +kernel
theorem dJ5_init_d00df_18 : decode cJ5_init_d00df 18 = .ok (.iconst 0, 1) := by decide +kernel
theorem dJ5_init_d00df_19 : decode cJ5_init_d00df 19 = .ok (.putfield 22, 3) := by decide +kernel
theorem dJ5_init_d00df_22 : decode cJ5_init_d00df 22 = .ok (.goto 16, 3) := by decide +kernel
theorem dJ5_init_d00df_25 : decode cJ5_init_d00df 25 = .ok (.aload_n 0, 1) := by decide +kernel
theorem dJ5_init_d00df_26 : decode cJ5_init_d00df 26 = .ok (.iload_n 1, 1) := by decide +kernel
theorem dJ5_init_d00df_27 : decode cJ5_init_d00df 27 = .ok (.invokestatic 26, 3) := by decide +kernel
theorem dJ5_init_d00df_30 : decode cJ5_init_d00df 30 = .ok (.putfield 15, 3) := by decide +kernel
theorem dJ5_init_d00df_33 : decode cJ5_init_d00df 33 = .ok (.aload_n 0, 1) := by decide +kernel
theorem dJ5_init_d00df_34 : decode cJ5_init_d00df 34 = .ok (.iconst 1, 1) := by decide +kernel
theorem dJ5_init_d00df_35 : decode cJ5_init_d00df 35 = .ok (.putfield 22, 3) := by decide +kernel
theorem dJ5_init_d00df_38 : decode cJ5_init_d00df 38 = .ok (.return_, 1) := by decide +kernel
theorem dJ5_length_8abf5_0 : decode cJ5_length_8abf5 0 = .ok (.aload_n 0, 1) := by decide +kernel
theorem dJ5_length_8abf5_1 : decode cJ5_length_8abf5 1 = .ok (.getfield 79, 3) := by decide +kernel
theorem dJ5_length_8abf5_4 : decode cJ5_length_8abf5 4 = .ok (.ireturn, 1) := by decide +kernel
theorem dJ5_ensureCapacityInternal_d00df_0 : decode cJ5_ensureCapacityInternal_d00df 0 = .ok (.aload_n 0, 1) := by decide +kernel
theorem dJ5_ensureCapacityInternal_d00df_1 : decode cJ5_ensureCapacityInternal_d00df 1 = .ok (.getfield 15, 3) := by decide +kernel
theorem dJ5_ensureCapacityInternal_d00df_4 : decode cJ5_ensureCapacityInternal_d00df 4 = .ok (.arraylength, 1) := by decide +kernel
theorem dJ5_ensureCapacityInternal_d00df_5 : decode cJ5_ensureCapacityInternal_d00df 5 = .ok (.aload_n 0, 1) := by decide +kernel
theorem dJ5_ensureCapacityInternal_d00df_6 : decode cJ5_ensureCapacityInternal_d00df 6 = .ok (.getfield 22, 3) := by decide +kernel
theorem dJ5_ensureCapacityInternal_d00df_9 : decode cJ5_ensureCapacityInternal_d00df 9 = .ok (.ishr, 1) := by decide +kernel
theorem dJ5_ensureCapacityInternal_d00df_10 : decode cJ5_ensureCapacityInternal_d00df 10 = .ok (.istore_n 2, 1) := by decide +kernel
theorem dJ5_ensureCapacityInternal_d00df_11 : decode cJ5_ensureCapacityInternal_d00df 11 = .ok (.iload_n 1, 1) := by decide +kernel
theorem dJ5_ensureCapacityInternal_d00df_12 : decode cJ5_ensureCapacityInternal_d00df 12 = .ok (.iload_n 2, 1) := by decide +kernel
theorem dJ5_ensureCapacityInternal_d00df_13 : decode cJ5_ensureCapacityInternal_d00df 13 = .ok (.isub, 1) := by decide +kernel
theorem dJ5_ensureCapacityInternal_d00df_14 : decode cJ5_ensureCapacityInternal_d00df 14 = .ok (.ifCond .le 24, 3) := by decide +kernel
theorem dJ5_ensureCapacityInternal_d00df_17 : decode cJ5_ensureCapacityInternal_d00df 17 = .ok (.aload_n 0, 1) := by decide +kernel
theorem dJ5_ensureCapacityInternal_d00df_18 : decode cJ5_ensureCapacityInternal_d00df 18 = .ok (.aload_n 0, 1) := by decide +kernel
theorem dJ5_ensureCapacityInternal_d00df_19 : decode cJ5_ensureCapacityInternal_d00df 19 = .ok (.getfield 15, 3) := by decide +kernel
theorem dJ5_ensureCapacityInternal_d00df_22 : decode cJ5_ensureCapacityInternal_d00df 22 = .ok (.aload_n 0, 1) := by decide +kernel
theorem dJ5_ensureCapacityInternal_d00df_23 : decode cJ5_ensureCapacityInternal_d00df 23 = .ok (.iload_n 1, 1) := by decide +kernel
theorem dJ5_ensureCapacityInternal_d00df_24 : decode cJ5_ensureCapacityInternal_d00df 24 = .ok (.invokevirtual 104, 3) := by decide +kernel
theorem dJ5_ensureCapacityInternal_d00df_27 : decode cJ5_ensureCapacityInternal_d00df 27 = .ok (.aload_n 0, 1) := by decide +kernel
theorem dJ5_ensureCapacityInternal_d00df_28 : decode cJ5_ensureCapacityInternal_d00df 28 = .ok (.getfield 22, 3) := by decide +kernel
theorem dJ5_ensureCapacityInternal_d00df_31 : decode cJ5_ensureCapacityInternal_d00df 31 = .ok (.ishl, 1) := by decide +kernel
theorem dJ5_ensureCapacityInternal_d00df_32 : decode cJ5_ensureCapacityInternal_d00df 32 = .ok (.invokestatic 108, 3) := by decide +kernel
theorem dJ5_ensureCapacityInternal_d00df_35 : decode cJ5_ensureCapacityInternal_d00df 35 = .ok (.putfield 15, 3) := by decide +kernel
theorem dJ5_ensureCapacityInternal_d00df_38 : decode cJ5_ensureCapacityInternal_d00df 38 = .ok (.return_, 1) := by decide +kernel
theorem dJ5_newCapacity_0f7a4_0 : decode cJ5_newCapacity_0f7a4 0 = .ok (.aload_n 0, 1) := by decide +kernel
theorem dJ5_newCapacity_0f7a4_1 : decode cJ5_newCapacity_0f7a4 1 = .ok (.getfield 15, 3) := by decide +kernel
theorem dJ5_newCapacity_0f7a4_4 : decode cJ5_newCapacity_0f7a4 4 = .ok (.arraylength, 1) := by decide +kernel
theorem dJ5_newCapacity_0f7a4_5 : decode cJ5_newCapacity_0f7a4 5 = .ok (.istore_n 2, 1) := by decide +kernel
theorem dJ5_newCapacity_0f7a4_6 : decode cJ5_newCapacity_0f7a4 6 = .ok (.iload_n 1, 1) := by decide +kernel
theorem dJ5_newCapacity_0f7a4_7 : decode cJ5_newCapacity_0f7a4 7 = .ok (.aload_n 0, 1) := by decide +kernel
theorem dJ5_newCapacity_0f7a4_8 : decode cJ5_newCapacity_0f7a4 8 = .ok (.getfield 22, 3) := by decide +kernel
theorem dJ5_newCapacity_0f7a4_11 : decode cJ5_newCapacity_0f7a4 11 = .ok (.ishl, 1) := by decide +kernel
theorem dJ5_newCapacity_0f7a4_12 : decode cJ5_newCapacity_0f7a4 12 = .ok (.istore_n 3, 1) := by decide +kernel
theorem dJ5_newCapacity_0f7a4_13 : decode cJ5_newCapacity_0f7a4 13 = .ok (.iload_n 3, 1) := by decide +kernel
theorem dJ5_newCapacity_0f7a4_14 : decode cJ5_newCapacity_0f7a4 14 = .ok (.iload_n 2, 1) := by decide +kernel
theorem dJ5_newCapacity_0f7a4_15 : decode cJ5_newCapacity_0f7a4 15 = .ok (.isub, 1) := by decide +kernel
theorem dJ5_newCapacity_0f7a4_16 : decode cJ5_newCapacity_0f7a4 16 = .ok (.istore 4, 2) := by decide +kernel
theorem dJ5_newCapacity_0f7a4_18 : decode cJ5_newCapacity_0f7a4 18 = .ok (.iload_n 2, 1) := by decide +kernel
theorem dJ5_newCapacity_0f7a4_19 : decode cJ5_newCapacity_0f7a4 19 = .ok (.iload 4, 2) := by decide +kernel
theorem dJ5_newCapacity_0f7a4_21 : decode cJ5_newCapacity_0f7a4 21 = .ok (.iload_n 2, 1) := by decide +kernel
theorem dJ5_newCapacity_0f7a4_22 : decode cJ5_newCapacity_0f7a4 22 = .ok (.iconst 2, 1) := by decide +kernel
theorem dJ5_newCapacity_0f7a4_23 : decode cJ5_newCapacity_0f7a4 23 = .ok (.aload_n 0, 1) := by decide +kernel
theorem dJ5_newCapacity_0f7a4_24 : decode cJ5_newCapacity_0f7a4 24 = .ok (.getfield 22, 3) := by decide +kernel
theorem dJ5_newCapacity_0f7a4_27 : decode cJ5_newCapacity_0f7a4 27 = .ok (.ishl, 1) := by decide +kernel
theorem dJ5_newCapacity_0f7a4_28 : decode cJ5_newCapacity_0f7a4 28 = .ok (.iadd, 1) := by decide +kernel
theorem dJ5_newCapacity_0f7a4_29 : decode cJ5_newCapacity_0f7a4 29 = .ok (.invokestatic 114, 3) := by decide +kernel
theorem dJ5_newCapacity_0f7a4_32 : decode cJ5_newCapacity_0f7a4 32 = .ok (.istore 5, 2) := by decide +kernel
theorem dJ5_newCapacity_0f7a4_34 : decode cJ5_newCapacity_0f7a4 34 = .ok (.iload 5, 2) := by decide +kernel
theorem dJ5_newCapacity_0f7a4_36 : decode cJ5_newCapacity_0f7a4 36 = .ok (.ldc 39, 2) := by decide +kernel
theorem dJ5_newCapacity_0f7a4_38 : decode cJ5_newCapacity_0f7a4 38 = .ok (.if_icmp .ne 13, 3) := by decide +kernel
theorem dJ5_newCapacity_0f7a4_41 : decode cJ5_newCapacity_0f7a4 41 = .ok (.new 120, 3) := by decide +kernel
theorem dJ5_newCapacity_0f7a4_44 : decode cJ5_newCapacity_0f7a4 44 = .ok (.dup, 1) := by decide +kernel
theorem dJ5_newCapacity_0f7a4_45 : decode cJ5_newCapacity_0f7a4 45 = .ok (.ldc 122, 2) := by decide +kernel
theorem dJ5_newCapacity_0f7a4_47 : decode cJ5_newCapacity_0f7a4 47 = .ok (.invokespecial 124, 3) := by decide +kernel
theorem dJ5_newCapacity_0f7a4_50 : decode cJ5_newCapacity_0f7a4 50 = .ok (.athrow, 1) := by decide +kernel
theorem dJ5_newCapacity_0f7a4_51 : decode cJ5_newCapacity_0f7a4 51 = .ok (.iload 5, 2) := by decide +kernel
theorem dJ5_newCapacity_0f7a4_53 : decode cJ5_newCapacity_0f7a4 53 = .ok (.aload_n 0, 1) := by decide +kernel
theorem dJ5_newCapacity_0f7a4_54 : decode cJ5_newCapacity_0f7a4 54 = .ok (.getfield 22, 3) := by decide +kernel
theorem dJ5_newCapacity_0f7a4_57 : decode cJ5_newCapacity_0f7a4 57 = .ok (.ishr, 1) := by decide +kernel
theorem dJ5_newCapacity_0f7a4_58 : decode cJ5_newCapacity_0f7a4 58 = .ok (.ireturn, 1) := by decide +kernel
theorem dJ5_append_cf1ce_0 : decode cJ5_append_cf1ce 0 = .ok (.aload_n 1, 1) := by decide +kernel
theorem dJ5_append_cf1ce_1 : decode cJ5_append_cf1ce 1 = .ok (.ifnonnull 8, 3) := by decide +kernel
theorem dJ5_append_cf1ce_4 : decode cJ5_append_cf1ce 4 = .ok (.aload_n 0, 1) := by decide +kernel
theorem dJ5_append_cf1ce_5 : decode cJ5_append_cf1ce 5 = .ok (.invokevirtual 204, 3) := by decide +kernel
theorem dJ5_append_cf1ce_8 : decode cJ5_append_cf1ce 8 = .ok (.areturn, 1) := by decide +kernel
theorem dJ5_append_cf1ce_9 : decode cJ5_append_cf1ce 9 = .ok (.aload_n 1, 1) := by decide +kernel
theorem dJ5_append_cf1ce_10 : decode cJ5_append_cf1ce 10 = .ok (.invokevirtual 32, 3) := by decide +kernel
theorem dJ5_append_cf1ce_13 : decode cJ5_append_cf1ce 13 = .ok (.istore_n 2, 1) := by decide +kernel
theorem dJ5_append_cf1ce_14 : decode cJ5_append_cf1ce 14 = .ok (.aload_n 0, 1) := by decide +kernel
theorem dJ5_append_cf1ce_15 : decode cJ5_append_cf1ce 15 = .ok (.aload_n 0, 1) := by decide +kernel
theorem dJ5_append_cf1ce_16 : decode cJ5_append_cf1ce 16 = .ok (.getfield 79, 3) := by decide +kernel
theorem dJ5_append_cf1ce_19 : decode cJ5_append_cf1ce 19 = .ok (.iload_n 2, 1) := by decide +kernel
theorem dJ5_append_cf1ce_20 : decode cJ5_append_cf1ce 20 = .ok (.iadd, 1) := by decide +kernel
theorem dJ5_append_cf1ce_21 : decode cJ5_append_cf1ce 21 = .ok (.invokevirtual 100, 3) := by decide +kernel
theorem dJ5_append_cf1ce_24 : decode cJ5_append_cf1ce 24 = .ok (.aload_n 0, 1) := by decide +kernel
theorem dJ5_append_cf1ce_25 : decode cJ5_append_cf1ce 25 = .ok (.aload_n 0, 1) := by decide +kernel
theorem dJ5_append_cf1ce_26 : decode cJ5_append_cf1ce 26 = .ok (.getfield 79, 3) := by decide +kernel
theorem dJ5_append_cf1ce_29 : decode cJ5_append_cf1ce 29 = .ok (.aload_n 1, 1) := by decide +kernel
theorem dJ5_append_cf1ce_30 : decode cJ5_append_cf1ce 30 = .ok (.invokevirtual 208, 3) := by decide +kernel
theorem dJ5_append_cf1ce_33 : decode cJ5_append_cf1ce 33 = .ok (.aload_n 0, 1) := by decide +kernel
theorem dJ5_append_cf1ce_34 : decode cJ5_append_cf1ce 34 = .ok (.dup, 1) := by decide +kernel
theorem dJ5_append_cf1ce_35 : decode cJ5_append_cf1ce 35 = .ok (.getfield 79, 3) := by decide +kernel
theorem dJ5_append_cf1ce_38 : decode cJ5_append_cf1ce 38 = .ok (.iload_n 2, 1) := by decide +kernel
theorem dJ5_append_cf1ce_39 : decode cJ5_append_cf1ce 39 = .ok (.iadd, 1) := by decide +kernel
theorem dJ5_append_cf1ce_40 : decode cJ5_append_cf1ce 40 = .ok (.putfield 79, 3) := by decide +kernel
theorem dJ5_append_cf1ce_43 : decode cJ5_append_cf1ce 43 = .ok (.aload_n 0, 1) := by decide +kernel
theorem dJ5_append_cf1ce_44 : decode cJ5_append_cf1ce 44 = .ok (.areturn, 1) := by decide +kernel
theorem dJ5_append_3fe6f_0 : decode cJ5_append_3fe6f 0 = .ok (.aload_n 0, 1) := by decide +kernel
theorem dJ5_append_3fe6f_1 : decode cJ5_append_3fe6f 1 = .ok (.aload_n 0, 1) := by decide +kernel
theorem dJ5_append_3fe6f_2 : decode cJ5_append_3fe6f 2 = .ok (.getfield 79, 3) := by decide +kernel
theorem dJ5_append_3fe6f_5 : decode cJ5_append_3fe6f 5 = .ok (.iconst 1, 1) := by decide +kernel
theorem dJ5_append_3fe6f_6 : decode cJ5_append_3fe6f 6 = .ok (.iadd, 1) := by decide +kernel
theorem dJ5_append_3fe6f_7 : decode cJ5_append_3fe6f 7 = .ok (.invokevirtual 100, 3) := by decide +kernel
theorem dJ5_append_3fe6f_10 : decode cJ5_append_3fe6f 10 = .ok (.aload_n 0, 1) := by decide +kernel
theorem dJ5_append_3fe6f_11 : decode cJ5_append_3fe6f 11 = .ok (.invokevirtual 83, 3) := by decide +kernel
theorem dJ5_append_3fe6f_14 : decode cJ5_append_3fe6f 14 = .ok (.ifCond .eq 31, 3) := by decide +kernel
theorem dJ5_append_3fe6f_17 : decode cJ5_append_3fe6f 17 = .ok (.iload_n 1, 1) := by decide +kernel
theorem dJ5_append_3fe6f_18 : decode cJ5_append_3fe6f 18 = .ok (.invokestatic 191, 3) := by decide +kernel
theorem dJ5_append_3fe6f_21 : decode cJ5_append_3fe6f 21 = .ok (.ifCond .eq 24, 3) := by decide +kernel
theorem dJ5_append_3fe6f_24 : decode cJ5_append_3fe6f 24 = .ok (.aload_n 0, 1) := by decide +kernel
theorem dJ5_append_3fe6f_25 : decode cJ5_append_3fe6f 25 = .ok (.getfield 15, 3) := by decide +kernel
theorem dJ5_append_3fe6f_28 : decode cJ5_append_3fe6f 28 = .ok (.aload_n 0, 1) := by decide +kernel
theorem dJ5_append_3fe6f_29 : decode cJ5_append_3fe6f 29 = .ok (.dup, 1) := by decide +kernel
theorem dJ5_append_3fe6f_30 : decode cJ5_append_3fe6f 30 = .ok (.getfield 79, 3) := by decide +kernel
theorem dJ5_append_3fe6f_33 : decode cJ5_append_3fe6f 33 = .ok (.dup_x1, 1) := by decide +kernel
theorem dJ5_append_3fe6f_34 : decode cJ5_append_3fe6f 34 = .ok (.iconst 1, 1) := by decide +kernel
theorem dJ5_append_3fe6f_35 : decode cJ5_append_3fe6f 35 = .ok (.iadd, 1) := by decide +kernel
theorem dJ5_append_3fe6f_36 : decode cJ5_append_3fe6f 36 = .ok (.putfield 79, 3) := by decide +kernel
theorem dJ5_append_3fe6f_39 : decode cJ5_append_3fe6f 39 = .ok (.iload_n 1, 1) := by decide +kernel
theorem dJ5_append_3fe6f_40 : decode cJ5_append_3fe6f 40 = .ok (.i2b, 1) := by decide +kernel
theorem dJ5_append_3fe6f_41 : decode cJ5_append_3fe6f 41 = .ok (.bastore, 1) := by decide +kernel
theorem dJ5_append_3fe6f_42 : decode cJ5_append_3fe6f 42 = .ok (.goto 33, 3) := by decide +kernel
theorem dJ5_append_3fe6f_45 : decode cJ5_append_3fe6f 45 = .ok (.aload_n 0, 1) := by decide +kernel
theorem dJ5_append_3fe6f_46 : decode cJ5_append_3fe6f 46 = .ok (.invokevirtual 83, 3) := by decide +kernel
theorem dJ5_append_3fe6f_49 : decode cJ5_append_3fe6f 49 = .ok (.ifCond .eq 7, 3) := by decide +kernel
theorem dJ5_append_3fe6f_52 : decode cJ5_append_3fe6f 52 = .ok (.aload_n 0, 1) := by decide +kernel
theorem dJ5_append_3fe6f_53 : decode cJ5_append_3fe6f 53 = .ok (.invokevirtual 195, 3) := by decide +kernel
theorem dJ5_append_3fe6f_56 : decode cJ5_append_3fe6f 56 = .ok (.aload_n 0, 1) := by decide +kernel
theorem dJ5_append_3fe6f_57 : decode cJ5_append_3fe6f 57 = .ok (.getfield 15, 3) := by decide +kernel
theorem dJ5_append_3fe6f_60 : decode cJ5_append_3fe6f 60 = .ok (.aload_n 0, 1) := by decide +kernel
theorem dJ5_append_3fe6f_61 : decode cJ5_append_3fe6f 61 = .ok (.dup, 1) := by decide +kernel
theorem dJ5_append_3fe6f_62 : decode cJ5_append_3fe6f 62 = .ok (.getfield 79, 3) := by decide +kernel
theorem dJ5_append_3fe6f_65 : decode cJ5_append_3fe6f 65 = .ok (.dup_x1, 1) := by decide +kernel
theorem dJ5_append_3fe6f_66 : decode cJ5_append_3fe6f 66 = .ok (.iconst 1, 1) := by decide +kernel
theorem dJ5_append_3fe6f_67 : decode cJ5_append_3fe6f 67 = .ok (.iadd, 1) := by decide +kernel
theorem dJ5_append_3fe6f_68 : decode cJ5_append_3fe6f 68 = .ok (.putfield 79, 3) := by decide +kernel
theorem dJ5_append_3fe6f_71 : decode cJ5_append_3fe6f 71 = .ok (.iload_n 1, 1) := by decide +kernel
theorem dJ5_append_3fe6f_72 : decode cJ5_append_3fe6f 72 = .ok (.invokestatic 197, 3) := by decide +kernel
theorem dJ5_append_3fe6f_75 : decode cJ5_append_3fe6f 75 = .ok (.aload_n 0, 1) := by decide +kernel
theorem dJ5_append_3fe6f_76 : decode cJ5_append_3fe6f 76 = .ok (.areturn, 1) := by decide +kernel
theorem dJ5_getValue_6d5f1_0 : decode cJ5_getValue_6d5f1 0 = .ok (.aload_n 0, 1) := by decide +kernel
theorem dJ5_getValue_6d5f1_1 : decode cJ5_getValue_6d5f1 1 = .ok (.getfield 15, 3) := by decide +kernel
theorem dJ5_getValue_6d5f1_4 : decode cJ5_getValue_6d5f1 4 = .ok (.areturn, 1) := by decide +kernel
theorem dJ5_isLatin1_aae02_0 : decode cJ5_isLatin1_aae02 0 = .ok (.getstatic 18, 3) := by decide +kernel
theorem dJ5_isLatin1_aae02_3 : decode cJ5_isLatin1_aae02 3 = .ok (.ifCond .eq 14, 3) := by decide +kernel
theorem dJ5_isLatin1_aae02_6 : decode cJ5_isLatin1_aae02 6 = .ok (.aload_n 0, 1) := by decide +kernel
theorem dJ5_isLatin1_aae02_7 : decode cJ5_isLatin1_aae02 7 = .ok (.getfield 22, 3) := by decide +kernel
theorem dJ5_isLatin1_aae02_10 : decode cJ5_isLatin1_aae02 10 = .ok (.ifCond .ne 7, 3) := by decide +kernel
theorem dJ5_isLatin1_aae02_13 : decode cJ5_isLatin1_aae02 13 = .ok (.iconst 1, 1) := by decide +kernel
theorem dJ5_isLatin1_aae02_14 : decode cJ5_isLatin1_aae02 14 = .ok (.goto 4, 3) := by decide +kernel
theorem dJ5_isLatin1_aae02_17 : decode cJ5_isLatin1_aae02 17 = .ok (.iconst 0, 1) := by decide +kernel
theorem dJ5_isLatin1_aae02_18 : decode cJ5_isLatin1_aae02 18 = .ok (.ireturn, 1) := by decide +kernel
theorem dJ5_inflateIfNeededFor_a7421_0 : decode cJ5_inflateIfNeededFor_a7421 0 = .ok (.getstatic 18, 3) := by decide +kernel
theorem dJ5_inflateIfNeededFor_a7421_3 : decode cJ5_inflateIfNeededFor_a7421 3 = .ok (.ifCond .eq 18, 3) := by decide +kernel
theorem dJ5_inflateIfNeededFor_a7421_6 : decode cJ5_inflateIfNeededFor_a7421 6 = .ok (.aload_n 0, 1) := by decide +kernel
theorem dJ5_inflateIfNeededFor_a7421_7 : decode cJ5_inflateIfNeededFor_a7421 7 = .ok (.getfield 22, 3) := by decide +kernel
theorem dJ5_inflateIfNeededFor_a7421_10 : decode cJ5_inflateIfNeededFor_a7421 10 = .ok (.aload_n 1, 1) := by decide +kernel
theorem dJ5_inflateIfNeededFor_a7421_11 : decode cJ5_inflateIfNeededFor_a7421 11 = .ok (.invokevirtual 40, 3) := by decide +kernel
theorem dJ5_inflateIfNeededFor_a7421_14 : decode cJ5_inflateIfNeededFor_a7421 14 = .ok (.if_icmp .eq 7, 3) := by decide +kernel
theorem dJ5_inflateIfNeededFor_a7421_17 : decode cJ5_inflateIfNeededFor_a7421 17 = .ok (.aload_n 0, 1) := by decide +kernel
theorem dJ5_inflateIfNeededFor_a7421_18 : decode cJ5_inflateIfNeededFor_a7421 18 = .ok (.invokevirtual 195, 3) := by decide +kernel
theorem dJ5_inflateIfNeededFor_a7421_21 : decode cJ5_inflateIfNeededFor_a7421 21 = .ok (.return_, 1) := by decide +kernel
theorem dJ5_putStringAt_47b60_0 : decode cJ5_putStringAt_47b60 0 = .ok (.aload_n 0, 1) := by decide +kernel
theorem dJ5_putStringAt_47b60_1 : decode cJ5_putStringAt_47b60 1 = .ok (.aload_n 2, 1) := by decide +kernel
theorem dJ5_putStringAt_47b60_2 : decode cJ5_putStringAt_47b60 2 = .ok (.invokevirtual 397, 3) := by decide +kernel
theorem dJ5_putStringAt_47b60_5 : decode cJ5_putStringAt_47b60 5 = .ok (.aload_n 2, 1) := by decide +kernel
theorem dJ5_putStringAt_47b60_6 : decode cJ5_putStringAt_47b60 6 = .ok (.aload_n 0, 1) := by decide +kernel
theorem dJ5_putStringAt_47b60_7 : decode cJ5_putStringAt_47b60 7 = .ok (.getfield 15, 3) := by decide +kernel
theorem dJ5_putStringAt_47b60_10 : decode cJ5_putStringAt_47b60 10 = .ok (.iload_n 1, 1) := by decide +kernel
theorem dJ5_putStringAt_47b60_11 : decode cJ5_putStringAt_47b60 11 = .ok (.aload_n 0, 1) := by decide +kernel
theorem dJ5_putStringAt_47b60_12 : decode cJ5_putStringAt_47b60 12 = .ok (.getfield 22, 3) := by decide +kernel
theorem dJ5_putStringAt_47b60_15 : decode cJ5_putStringAt_47b60 15 = .ok (.invokevirtual 399, 3) := by decide +kernel
theorem dJ5_putStringAt_47b60_18 : decode cJ5_putStringAt_47b60 18 = .ok (.return_, 1) := by decide +kernel
theorem dJ0_init_81219_0 : decode cJ0_init_81219 0 = .ok (.aload_n 0, 1) := by decide +kernel
theorem dJ0_init_81219_1 : decode cJ0_init_81219 1 = .ok (.aload_n 1, 1) := by decide +kernel
theorem dJ0_init_81219_2 : decode cJ0_init_81219 2 = .ok (.aconst_null, 1) := by decide +kernel
theorem dJ0_init_81219_3 : decode cJ0_init_81219 3 = .ok (.invokespecial 489, 3) := by decide +kernel
theorem dJ0_init_81219_6 : decode cJ0_init_81219 6 = .ok (.return_, 1) := by decide +kernel
theorem dJ0_length_8abf5_0 : decode cJ0_length_8abf5 0 = .ok (.aload_n 0, 1) := by decide +kernel
theorem dJ0_length_8abf5_1 : decode cJ0_length_8abf5 1 = .ok (.getfield 9, 3) := by decide +kernel
theorem dJ0_length_8abf5_4 : decode cJ0_length_8abf5 4 = .ok (.arraylength, 1) := by decide +kernel
theorem dJ0_length_8abf5_5 : decode cJ0_length_8abf5 5 = .ok (.aload_n 0, 1) := by decide +kernel
theorem dJ0_length_8abf5_6 : decode cJ0_length_8abf5 6 = .ok (.invokevirtual 335, 3) := by decide +kernel
theorem dJ0_length_8abf5_9 : decode cJ0_length_8abf5 9 = .ok (.ishr, 1) := by decide +kernel
theorem dJ0_length_8abf5_10 : decode cJ0_length_8abf5 10 = .ok (.ireturn, 1) := by decide +kernel
theorem dJ0_charAt_5068e_0 : decode cJ0_charAt_5068e 0 = .ok (.aload_n 0, 1) := by decide +kernel
theorem dJ0_charAt_5068e_1 : decode cJ0_charAt_5068e 1 = .ok (.invokevirtual 492, 3) := by decide +kernel
theorem dJ0_charAt_5068e_4 : decode cJ0_charAt_5068e 4 = .ok (.ifCond .eq 12, 3) := by decide +kernel
theorem dJ0_charAt_5068e_7 : decode cJ0_charAt_5068e 7 = .ok (.aload_n 0, 1) := by decide +kernel
theorem dJ0_charAt_5068e_8 : decode cJ0_charAt_5068e 8 = .ok (.getfield 9, 3) := by decide +kernel
theorem dJ0_charAt_5068e_11 : decode cJ0_charAt_5068e 11 = .ok (.iload_n 1, 1) := by decide +kernel
theorem dJ0_charAt_5068e_12 : decode cJ0_charAt_5068e 12 = .ok (.invokestatic 495, 3) := by decide +kernel
theorem dJ0_charAt_5068e_15 : decode cJ0_charAt_5068e 15 = .ok (.ireturn, 1) := by decide +kernel
theorem dJ0_charAt_5068e_16 : decode cJ0_charAt_5068e 16 = .ok (.aload_n 0, 1) := by decide +kernel
theorem dJ0_charAt_5068e_17 : decode cJ0_charAt_5068e 17 = .ok (.getfield 9, 3) := by decide +kernel
theorem dJ0_charAt_5068e_20 : decode cJ0_charAt_5068e 20 = .ok (.iload_n 1, 1) := by decide +kernel
theorem dJ0_charAt_5068e_21 : decode cJ0_charAt_5068e 21 = .ok (.invokestatic 498, 3) := by decide +kernel
theorem dJ0_charAt_5068e_24 : decode cJ0_charAt_5068e 24 = .ok (.ireturn, 1) := by decide +kernel
theorem dJ0_indexOf_0f7a4_0 : decode cJ0_indexOf_0f7a4 0 = .ok (.aload_n 0, 1) := by decide +kernel
theorem dJ0_indexOf_0f7a4_1 : decode cJ0_indexOf_0f7a4 1 = .ok (.iload_n 1, 1) := by decide +kernel
theorem dJ0_indexOf_0f7a4_2 : decode cJ0_indexOf_0f7a4 2 = .ok (.iconst 0, 1) := by decide +kernel
theorem dJ0_indexOf_0f7a4_3 : decode cJ0_indexOf_0f7a4 3 = .ok (.invokevirtual 633, 3) := by decide +kernel
theorem dJ0_indexOf_0f7a4_6 : decode cJ0_indexOf_0f7a4 6 = .ok (.ireturn, 1) := by decide +kernel
theorem dJ0_indexOf_7cf53_0 : decode cJ0_indexOf_7cf53 0 = .ok (.aload_n 0, 1) := by decide +kernel
theorem dJ0_indexOf_7cf53_1 : decode cJ0_indexOf_7cf53 1 = .ok (.invokevirtual 492, 3) := by decide +kernel
theorem dJ0_indexOf_7cf53_4 : decode cJ0_indexOf_7cf53 4 = .ok (.ifCond .eq 19, 3) := by decide +kernel
theorem dJ0_indexOf_7cf53_7 : decode cJ0_indexOf_7cf53 7 = .ok (.aload_n 0, 1) := by decide +kernel
theorem dJ0_indexOf_7cf53_8 : decode cJ0_indexOf_7cf53 8 = .ok (.getfield 9, 3) := by decide +kernel
theorem dJ0_indexOf_7cf53_11 : decode cJ0_indexOf_7cf53 11 = .ok (.iload_n 1, 1) := by decide +kernel
theorem dJ0_indexOf_7cf53_12 : decode cJ0_indexOf_7cf53 12 = .ok (.iload_n 2, 1) := by decide +kernel
theorem dJ0_indexOf_7cf53_13 : decode cJ0_indexOf_7cf53 13 = .ok (.aload_n 0, 1) := by decide +kernel
theorem dJ0_indexOf_7cf53_14 : decode cJ0_indexOf_7cf53 14 = .ok (.invokevirtual 505, 3) := by decide +kernel
theorem dJ0_indexOf_7cf53_17 : decode cJ0_indexOf_7cf53 17 = .ok (.invokestatic 637, 3) := by decide +kernel
theorem dJ0_indexOf_7cf53_20 : decode cJ0_indexOf_7cf53 20 = .ok (.goto 16, 3) := by decide +kernel
theorem dJ0_indexOf_7cf53_23 : decode cJ0_indexOf_7cf53 23 = .ok (.aload_n 0, 1) := by decide +kernel
theorem dJ0_indexOf_7cf53_24 : decode cJ0_indexOf_7cf53 24 = .ok (.getfield 9, 3) := by decide +kernel
theorem dJ0_indexOf_7cf53_27 : decode cJ0_indexOf_7cf53 27 = .ok (.iload_n 1, 1) := by decide +kernel
theorem dJ0_indexOf_7cf53_28 : decode cJ0_indexOf_7cf53 28 = .ok (.iload_n 2, 1) := by decide +kernel
theorem dJ0_indexOf_7cf53_29 : decode cJ0_indexOf_7cf53 29 = .ok (.aload_n 0, 1) := by decide +kernel
theorem dJ0_indexOf_7cf53_30 : decode cJ0_indexOf_7cf53 30 = .ok (.invokevirtual 505, 3) := by decide +kernel
theorem dJ0_indexOf_7cf53_33 : decode cJ0_indexOf_7cf53 33 = .ok (.invokestatic 640, 3) := by decide +kernel
theorem dJ0_indexOf_7cf53_36 : decode cJ0_indexOf_7cf53 36 = .ok (.ireturn, 1) := by decide +kernel
theorem dJ0_substring_b52d3_0 : decode cJ0_substring_b52d3 0 = .ok (.aload_n 0, 1) := by decide +kernel
theorem dJ0_substring_b52d3_1 : decode cJ0_substring_b52d3 1 = .ok (.iload_n 1, 1) := by decide +kernel
theorem dJ0_substring_b52d3_2 : decode cJ0_substring_b52d3 2 = .ok (.aload_n 0, 1) := by decide +kernel
theorem dJ0_substring_b52d3_3 : decode cJ0_substring_b52d3 3 = .ok (.invokevirtual 505, 3) := by decide +kernel
theorem dJ0_substring_b52d3_6 : decode cJ0_substring_b52d3 6 = .ok (.invokevirtual 681, 3) := by decide +kernel
theorem dJ0_substring_b52d3_9 : decode cJ0_substring_b52d3 9 = .ok (.areturn, 1) := by decide +kernel
theorem dJ0_substring_37a41_0 : decode cJ0_substring_37a41 0 = .ok (.aload_n 0, 1) := by decide +kernel
theorem dJ0_substring_37a41_1 : decode cJ0_substring_37a41 1 = .ok (.invokevirtual 505, 3) := by decide +kernel
theorem dJ0_substring_37a41_4 : decode cJ0_substring_37a41 4 = .ok (.istore_n 3, 1) := by decide +kernel
theorem dJ0_substring_37a41_5 : decode cJ0_substring_37a41 5 = .ok (.iload_n 1, 1) := by decide +kernel
theorem dJ0_substring_37a41_6 : decode cJ0_substring_37a41 6 = .ok (.iload_n 2, 1) := by decide +kernel
theorem dJ0_substring_37a41_7 : decode cJ0_substring_37a41 7 = .ok (.iload_n 3, 1) := by decide +kernel
theorem dJ0_substring_37a41_8 : decode cJ0_substring_37a41 8 = .ok (.invokestatic 521, 3) := by decide +kernel
theorem dJ0_substring_37a41_11 : decode cJ0_substring_37a41 11 = .ok (.iload_n 1, 1) := by decide +kernel
theorem dJ0_substring_37a41_12 : decode cJ0_substring_37a41 12 = .ok (.ifCond .ne 10, 3) := by decide +kernel
theorem dJ0_substring_37a41_15 : decode cJ0_substring_37a41 15 = .ok (.iload_n 2, 1) := by decide +kernel
theorem dJ0_substring_37a41_16 : decode cJ0_substring_37a41 16 = .ok (.iload_n 3, 1) := by decide +kernel
theorem dJ0_substring_37a41_17 : decode cJ0_substring_37a41 17 = .ok (.if_icmp .ne 5, 3) := by decide +kernel
theorem dJ0_substring_37a41_20 : decode cJ0_substring_37a41 20 = .ok (.aload_n 0, 1) := by decide +kernel
theorem dJ0_substring_37a41_21 : decode cJ0_substring_37a41 21 = .ok (.areturn, 1) := by decide +kernel
theorem dJ0_substring_37a41_22 : decode cJ0_substring_37a41 22 = .ok (.iload_n 2, 1) := by decide +kernel
theorem dJ0_substring_37a41_23 : decode cJ0_substring_37a41 23 = .ok (.iload_n 1, 1) := by decide +kernel
theorem dJ0_substring_37a41_24 : decode cJ0_substring_37a41 24 = .ok (.isub, 1) := by decide +kernel
theorem dJ0_substring_37a41_25 : decode cJ0_substring_37a41 25 = .ok (.istore 4, 2) := by decide +kernel
theorem dJ0_substring_37a41_27 : decode cJ0_substring_37a41 27 = .ok (.aload_n 0, 1) := by decide +kernel
theorem dJ0_substring_37a41_28 : decode cJ0_substring_37a41 28 = .ok (.invokevirtual 492, 3) := by decide +kernel
theorem dJ0_substring_37a41_31 : decode cJ0_substring_37a41 31 = .ok (.ifCond .eq 16, 3) := by decide +kernel
theorem dJ0_substring_37a41_34 : decode cJ0_substring_37a41 34 = .ok (.aload_n 0, 1) := by decide +kernel
theorem dJ0_substring_37a41_35 : decode cJ0_substring_37a41 35 = .ok (.getfield 9, 3) := by decide +kernel
theorem dJ0_substring_37a41_38 : decode cJ0_substring_37a41 38 = .ok (.iload_n 1, 1) := by decide +kernel
theorem dJ0_substring_37a41_39 : decode cJ0_substring_37a41 39 = .ok (.iload 4, 2) := by decide +kernel
theorem dJ0_substring_37a41_41 : decode cJ0_substring_37a41 41 = .ok (.invokestatic 685, 3) := by decide +kernel
theorem dJ0_substring_37a41_44 : decode cJ0_substring_37a41 44 = .ok (.goto 13, 3) := by decide +kernel
theorem dJ0_substring_37a41_47 : decode cJ0_substring_37a41 47 = .ok (.aload_n 0, 1) := by decide +kernel
theorem dJ0_substring_37a41_48 : decode cJ0_substring_37a41 48 = .ok (.getfield 9, 3) := by decide +kernel
theorem dJ0_substring_37a41_51 : decode cJ0_substring_37a41 51 = .ok (.iload_n 1, 1) := by decide +kernel
theorem dJ0_substring_37a41_52 : decode cJ0_substring_37a41 52 = .ok (.iload 4, 2) := by decide +kernel
theorem dJ0_substring_37a41_54 : decode cJ0_substring_37a41 54 = .ok (.invokestatic 689, 3) := by decide +kernel
theorem dJ0_substring_37a41_57 : decode cJ0_substring_37a41 57 = .ok (.areturn, 1) := by decide +kernel
theorem dJ0_getBytes_840e7_0 : decode cJ0_getBytes_840e7 0 = .ok (.aload_n 0, 1) := by decide +kernel
theorem dJ0_getBytes_840e7_1 : decode cJ0_getBytes_840e7 1 = .ok (.invokevirtual 335, 3) := by decide +kernel
theorem dJ0_getBytes_840e7_4 : decode cJ0_getBytes_840e7 4 = .ok (.iload_n 3, 1) := by decide +kernel
theorem dJ0_getBytes_840e7_5 : decode cJ0_getBytes_840e7 5 = .ok (.if_icmp .ne 23, 3) := by decide +kernel
theorem dJ0_getBytes_840e7_8 : decode cJ0_getBytes_840e7 8 = .ok (.aload_n 0, 1) := by decide +kernel
theorem dJ0_getBytes_840e7_9 : decode cJ0_getBytes_840e7 9 = .ok (.getfield 9, 3) := by decide +kernel
theorem dJ0_getBytes_840e7_12 : decode cJ0_getBytes_840e7 12 = .ok (.iconst 0, 1) := by decide +kernel
theorem dJ0_getBytes_840e7_13 : decode cJ0_getBytes_840e7 13 = .ok (.aload_n 1, 1) := by decide +kernel
theorem dJ0_getBytes_840e7_14 : decode cJ0_getBytes_840e7 14 = .ok (.iload_n 2, 1) := by decide +kernel
theorem dJ0_getBytes_840e7_15 : decode cJ0_getBytes_840e7 15 = .ok (.iload_n 3, 1) := by decide +kernel
theorem dJ0_getBytes_840e7_16 : decode cJ0_getBytes_840e7 16 = .ok (.ishl, 1) := by decide +kernel
theorem dJ0_getBytes_840e7_17 : decode cJ0_getBytes_840e7 17 = .ok (.aload_n 0, 1) := by decide +kernel
theorem dJ0_getBytes_840e7_18 : decode cJ0_getBytes_840e7 18 = .ok (.getfield 9, 3) := by decide +kernel
theorem dJ0_getBytes_840e7_21 : decode cJ0_getBytes_840e7 21 = .ok (.arraylength, 1) := by decide +kernel
theorem dJ0_getBytes_840e7_22 : decode cJ0_getBytes_840e7 22 = .ok (.invokestatic 212, 3) := by decide +kernel
theorem dJ0_getBytes_840e7_25 : decode cJ0_getBytes_840e7 25 = .ok (.goto 18, 3) := by decide +kernel
theorem dJ0_getBytes_840e7_28 : decode cJ0_getBytes_840e7 28 = .ok (.aload_n 0, 1) := by decide +kernel
theorem dJ0_getBytes_840e7_29 : decode cJ0_getBytes_840e7 29 = .ok (.getfield 9, 3) := by decide +kernel
theorem dJ0_getBytes_840e7_32 : decode cJ0_getBytes_840e7 32 = .ok (.iconst 0, 1) := by decide +kernel
theorem dJ0_getBytes_840e7_33 : decode cJ0_getBytes_840e7 33 = .ok (.aload_n 1, 1) := by decide +kernel
theorem dJ0_getBytes_840e7_34 : decode cJ0_getBytes_840e7 34 = .ok (.iload_n 2, 1) := by decide +kernel
theorem dJ0_getBytes_840e7_35 : decode cJ0_getBytes_840e7 35 = .ok (.aload_n 0, 1) := by decide +kernel
theorem dJ0_getBytes_840e7_36 : decode cJ0_getBytes_840e7 36 = .ok (.getfield 9, 3) := by decide +kernel
theorem dJ0_getBytes_840e7_39 : decode cJ0_getBytes_840e7 39 = .ok (.arraylength, 1) := by decide +kernel
theorem dJ0_getBytes_840e7_40 : decode cJ0_getBytes_840e7 40 = .ok (.invokestatic 106, 3) := by decide +kernel
theorem dJ0_getBytes_840e7_43 : decode cJ0_getBytes_840e7 43 = .ok (.return_, 1) := by decide +kernel
theorem dJ0_init_db425_0 : decode cJ0_init_db425 0 = .ok (.aload_n 0, 1) := by decide +kernel
theorem dJ0_init_db425_1 : decode cJ0_init_db425 1 = .ok (.invokespecial 1, 3) := by decide +kernel
theorem dJ0_init_db425_4 : decode cJ0_init_db425 4 = .ok (.aload_n 1, 1) := by decide +kernel
theorem dJ0_init_db425_5 : decode cJ0_init_db425 5 = .ok (.invokevirtual 552, 3) := by decide +kernel
theorem dJ0_init_db425_8 : decode cJ0_init_db425 8 = .ok (.astore_n 3, 1) := by decide +kernel
theorem dJ0_init_db425_9 : decode cJ0_init_db425 9 = .ok (.aload_n 1, 1) := by decide +kernel
theorem dJ0_init_db425_10 : decode cJ0_init_db425 10 = .ok (.invokevirtual 549, 3) := by decide +kernel
theorem dJ0_init_db425_13 : decode cJ0_init_db425 13 = .ok (.istore 4, 2) := by decide +kernel
theorem dJ0_init_db425_15 : decode cJ0_init_db425 15 = .ok (.aload_n 1, 1) := by decide +kernel
theorem dJ0_init_db425_16 : decode cJ0_init_db425 16 = .ok (.invokevirtual 1047, 3) := by decide +kernel
theorem dJ0_init_db425_19 : decode cJ0_init_db425 19 = .ok (.ifCond .eq 22, 3) := by decide +kernel
theorem dJ0_init_db425_22 : decode cJ0_init_db425 22 = .ok (.aload_n 0, 1) := by decide +kernel
theorem dJ0_init_db425_23 : decode cJ0_init_db425 23 = .ok (.iconst 0, 1) := by decide +kernel
theorem dJ0_init_db425_24 : decode cJ0_init_db425 24 = .ok (.putfield 15, 3) := by decide +kernel
theorem dJ0_init_db425_27 : decode cJ0_init_db425 27 = .ok (.aload_n 0, 1) := by decide +kernel
theorem dJ0_init_db425_28 : decode cJ0_init_db425 28 = .ok (.aload_n 3, 1) := by decide +kernel
theorem dJ0_init_db425_29 : decode cJ0_init_db425 29 = .ok (.iconst 0, 1) := by decide +kernel
theorem dJ0_init_db425_30 : decode cJ0_init_db425 30 = .ok (.iload 4, 2) := by decide +kernel
theorem dJ0_init_db425_32 : decode cJ0_init_db425 32 = .ok (.invokestatic 54, 3) := by decide +kernel
theorem dJ0_init_db425_35 : decode cJ0_init_db425 35 = .ok (.putfield 9, 3) := by decide +kernel
theorem dJ0_init_db425_38 : decode cJ0_init_db425 38 = .ok (.goto 59, 3) := by decide +kernel
theorem dJ0_init_db425_41 : decode cJ0_init_db425 41 = .ok (.getstatic 38, 3) := by decide +kernel
theorem dJ0_init_db425_44 : decode cJ0_init_db425 44 = .ok (.ifCond .eq 35, 3) := by decide +kernel
theorem dJ0_init_db425_47 : decode cJ0_init_db425 47 = .ok (.aload_n 1, 1) := by decide +kernel
theorem dJ0_init_db425_48 : decode cJ0_init_db425 48 = .ok (.getfield 1048, 3) := by decide +kernel
theorem dJ0_init_db425_51 : decode cJ0_init_db425 51 = .ok (.ifCond .eq 28, 3) := by decide +kernel
theorem dJ0_init_db425_54 : decode cJ0_init_db425 54 = .ok (.aload_n 0, 1) := by decide +kernel
theorem dJ0_init_db425_55 : decode cJ0_init_db425 55 = .ok (.aload_n 3, 1) := by decide +kernel
theorem dJ0_init_db425_56 : decode cJ0_init_db425 56 = .ok (.iconst 0, 1) := by decide +kernel
theorem dJ0_init_db425_57 : decode cJ0_init_db425 57 = .ok (.iload 4, 2) := by decide +kernel
theorem dJ0_init_db425_59 : decode cJ0_init_db425 59 = .ok (.invokestatic 1051, 3) := by decide +kernel
theorem dJ0_init_db425_62 : decode cJ0_init_db425 62 = .ok (.putfield 9, 3) := by decide +kernel
theorem dJ0_init_db425_65 : decode cJ0_init_db425 65 = .ok (.aload_n 0, 1) := by decide +kernel
theorem dJ0_init_db425_66 : decode cJ0_init_db425 66 = .ok (.aload_n 0, 1) := by decide +kernel
theorem dJ0_init_db425_67 : decode cJ0_init_db425 67 = .ok (.getfield 9, 3) := by decide +kernel
theorem dJ0_init_db425_70 : decode cJ0_init_db425 70 = .ok (.iload 4, 2) := by decide +kernel
theorem dJ0_init_db425_72 : decode cJ0_init_db425 72 = .ok (.invokestatic 47, 3) := by decide +kernel
theorem dJ0_init_db425_75 : decode cJ0_init_db425 75 = .ok (.putfield 15, 3) := by decide +kernel
theorem dJ0_init_db425_78 : decode cJ0_init_db425 78 = .ok (.return_, 1) := by decide +kernel
theorem dJ0_init_db425_79 : decode cJ0_init_db425 79 = .ok (.aload_n 0, 1) := by decide +kernel
theorem dJ0_init_db425_80 : decode cJ0_init_db425 80 = .ok (.iconst 1, 1) := by decide +kernel
theorem dJ0_init_db425_81 : decode cJ0_init_db425 81 = .ok (.putfield 15, 3) := by decide +kernel
theorem dJ0_init_db425_84 : decode cJ0_init_db425 84 = .ok (.aload_n 0, 1) := by decide +kernel
theorem dJ0_init_db425_85 : decode cJ0_init_db425 85 = .ok (.aload_n 3, 1) := by decide +kernel
theorem dJ0_init_db425_86 : decode cJ0_init_db425 86 = .ok (.iconst 0, 1) := by decide +kernel
theorem dJ0_init_db425_87 : decode cJ0_init_db425 87 = .ok (.iload 4, 2) := by decide +kernel
theorem dJ0_init_db425_89 : decode cJ0_init_db425 89 = .ok (.iconst 1, 1) := by decide +kernel
theorem dJ0_init_db425_90 : decode cJ0_init_db425 90 = .ok (.ishl, 1) := by decide +kernel
theorem dJ0_init_db425_91 : decode cJ0_init_db425 91 = .ok (.invokestatic 54, 3) := by decide +kernel
theorem dJ0_init_db425_94 : decode cJ0_init_db425 94 = .ok (.putfield 9, 3) := by decide +kernel
theorem dJ0_init_db425_97 : decode cJ0_init_db425 97 = .ok (.return_, 1) := by decide +kernel
theorem dJ0_init_031fb_0 : decode cJ0_init_031fb 0 = .ok (.aload_n 0, 1) := by decide +kernel
theorem dJ0_init_031fb_1 : decode cJ0_init_031fb 1 = .ok (.invokespecial 1, 3) := by decide +kernel
theorem dJ0_init_031fb_4 : decode cJ0_init_031fb 4 = .ok (.aload_n 0, 1) := by decide +kernel
theorem dJ0_init_031fb_5 : decode cJ0_init_031fb 5 = .ok (.aload_n 1, 1) := by decide +kernel
theorem dJ0_init_031fb_6 : decode cJ0_init_031fb 6 = .ok (.putfield 9, 3) := by decide +kernel
theorem dJ0_init_031fb_9 : decode cJ0_init_031fb 9 = .ok (.aload_n 0, 1) := by decide +kernel
theorem dJ0_init_031fb_10 : decode cJ0_init_031fb 10 = .ok (.iload_n 2, 1) := by decide +kernel
theorem dJ0_init_031fb_11 : decode cJ0_init_031fb 11 = .ok (.putfield 15, 3) := by decide +kernel
theorem dJ0_init_031fb_14 : decode cJ0_init_031fb 14 = .ok (.return_, 1) := by decide +kernel
theorem dJ0_coder_7d493_0 : decode cJ0_coder_7d493 0 = .ok (.getstatic 38, 3) := by decide +kernel
theorem dJ0_coder_7d493_3 : decode cJ0_coder_7d493 3 = .ok (.ifCond .eq 10, 3) := by decide +kernel
theorem dJ0_coder_7d493_6 : decode cJ0_coder_7d493 6 = .ok (.aload_n 0, 1) := by decide +kernel
theorem dJ0_coder_7d493_7 : decode cJ0_coder_7d493 7 = .ok (.getfield 15, 3) := by decide +kernel
theorem dJ0_coder_7d493_10 : decode cJ0_coder_7d493 10 = .ok (.goto 4, 3) := by decide +kernel
theorem dJ0_coder_7d493_13 : decode cJ0_coder_7d493 13 = .ok (.iconst 1, 1) := by decide +kernel
theorem dJ0_coder_7d493_14 : decode cJ0_coder_7d493 14 = .ok (.ireturn, 1) := by decide +kernel
theorem dJ0_isLatin1_aae02_0 : decode cJ0_isLatin1_aae02 0 = .ok (.getstatic 38, 3) := by decide +kernel
theorem dJ0_isLatin1_aae02_3 : decode cJ0_isLatin1_aae02 3 = .ok (.ifCond .eq 14, 3) := by decide +kernel
theorem dJ0_isLatin1_aae02_6 : decode cJ0_isLatin1_aae02 6 = .ok (.aload_n 0, 1) := by decide +kernel
theorem dJ0_isLatin1_aae02_7 : decode cJ0_isLatin1_aae02 7 = .ok (.getfield 15, 3) := by decide +kernel
theorem dJ0_isLatin1_aae02_10 : decode cJ0_isLatin1_aae02 10 = .ok (.ifCond .ne 7, 3) := by decide +kernel
theorem dJ0_isLatin1_aae02_13 : decode cJ0_isLatin1_aae02 13 = .ok (.iconst 1, 1) := by decide +kernel
theorem dJ0_isLatin1_aae02_14 : decode cJ0_isLatin1_aae02 14 = .ok (.goto 4, 3) := by decide +kernel
theorem dJ0_isLatin1_aae02_17 : decode cJ0_isLatin1_aae02 17 = .ok (.iconst 0, 1) := by decide +kernel
theorem dJ0_isLatin1_aae02_18 : decode cJ0_isLatin1_aae02 18 = .ok (.ireturn, 1) := by decide +kernel
theorem dJ0_checkIndex_df160_0 : decode cJ0_checkIndex_df160 0 = .ok (.iload_n 0, 1) := by decide +kernel
theorem dJ0_checkIndex_df160_1 : decode cJ0_checkIndex_df160 1 = .ok (.iload_n 1, 1) := by decide +kernel
theorem dJ0_checkIndex_df160_2 : decode cJ0_checkIndex_df160 2 = .ok (.getstatic 1053, 3) := by decide +kernel
theorem dJ0_checkIndex_df160_5 : decode cJ0_checkIndex_df160 5 = .ok (.invokestatic 1059, 3) := by decide +kernel
theorem dJ0_checkIndex_df160_8 : decode cJ0_checkIndex_df160 8 = .ok (.pop, 1) := by decide +kernel
theorem dJ0_checkIndex_df160_9 : decode cJ0_checkIndex_df160 9 = .ok (.return_, 1) := by decide +kernel
theorem dJ0_checkBoundsOffCount_cabcc_0 : decode cJ0_checkBoundsOffCount_cabcc 0 = .ok (.iload_n 0, 1) := by decide +kernel
theorem dJ0_checkBoundsOffCount_cabcc_1 : decode cJ0_checkBoundsOffCount_cabcc 1 = .ok (.iload_n 1, 1) := by decide +kernel
theorem dJ0_checkBoundsOffCount_cabcc_2 : decode cJ0_checkBoundsOffCount_cabcc 2 = .ok (.iload_n 2, 1) := by decide +kernel
theorem dJ0_checkBoundsOffCount_cabcc_3 : decode cJ0_checkBoundsOffCount_cabcc 3 = .ok (.getstatic 1053, 3) := by decide +kernel
theorem dJ0_checkBoundsOffCount_cabcc_6 : decode cJ0_checkBoundsOffCount_cabcc 6 = .ok (.invokestatic 1065, 3) := by decide +kernel
theorem dJ0_checkBoundsOffCount_cabcc_9 : decode cJ0_checkBoundsOffCount_cabcc 9 = .ok (.ireturn, 1) := by decide +kernel
theorem dJ0_checkBoundsBeginEnd_23922_0 : decode cJ0_checkBoundsBeginEnd_23922 0 = .ok (.iload_n 0, 1) := by decide +kernel
theorem dJ0_checkBoundsBeginEnd_23922_1 : decode cJ0_checkBoundsBeginEnd_23922 1 = .ok (.iload_n 1, 1) := by decide +kernel
theorem dJ0_checkBoundsBeginEnd_23922_2 : decode cJ0_checkBoundsBeginEnd_23922 2 = .ok (.iload_n 2, 1) := by decide +kernel
theorem dJ0_checkBoundsBeginEnd_23922_3 : decode cJ0_checkBoundsBeginEnd_23922 3 = .ok (.getstatic 1053, 3) := by decide +kernel
theorem dJ0_checkBoundsBeginEnd_23922_6 : decode cJ0_checkBoundsBeginEnd_23922 6 = .ok (.invokestatic 1062, 3) := by decide +kernel
theorem dJ0_checkBoundsBeginEnd_23922_9 : decode cJ0_checkBoundsBeginEnd_23922 9 = .ok (.pop, 1) := by decide +kernel
theorem dJ0_checkBoundsBeginEnd_23922_10 : decode cJ0_checkBoundsBeginEnd_23922 10 = .ok (.return_, 1) := by decide +kernel
theorem dJ4_init_da8c8_0 : decode cJ4_init_da8c8 0 = .ok (.aload_n 0, 1) := by decide +kernel
theorem dJ4_init_da8c8_1 : decode cJ4_init_da8c8 1 = .ok (.bipush 16, 2) := by decide +kernel
theorem dJ4_init_da8c8_3 : decode cJ4_init_da8c8 3 = .ok (.invokespecial 1, 3) := by decide +kernel
theorem dJ4_init_da8c8_6 : decode cJ4_init_da8c8 6 = .ok (.return_, 1) := by decide +kernel
theorem dJ4_append_15ec4_0 : decode cJ4_append_15ec4 0 = .ok (.aload_n 0, 1) := by decide +kernel
theorem dJ4_append_15ec4_1 : decode cJ4_append_15ec4 1 = .ok (.aload_n 1, 1) := by decide +kernel
theorem dJ4_append_15ec4_2 : decode cJ4_append_15ec4 2 = .ok (.invokespecial 29, 3) := by decide +kernel
theorem dJ4_append_15ec4_5 : decode cJ4_append_15ec4 5 = .ok (.pop, 1) := by decide +kernel
theorem dJ4_append_15ec4_6 : decode cJ4_append_15ec4 6 = .ok (.aload_n 0, 1) := by decide +kernel
theorem dJ4_append_15ec4_7 : decode cJ4_append_15ec4 7 = .ok (.areturn, 1) := by decide +kernel
theorem dJ4_append_cf468_0 : decode cJ4_append_cf468 0 = .ok (.aload_n 0, 1) := by decide +kernel
theorem dJ4_append_cf468_1 : decode cJ4_append_cf468 1 = .ok (.iload_n 1, 1) := by decide +kernel
theorem dJ4_append_cf468_2 : decode cJ4_append_cf468 2 = .ok (.invokespecial 50, 3) := by decide +kernel
theorem dJ4_append_cf468_5 : decode cJ4_append_cf468 5 = .ok (.pop, 1) := by decide +kernel
theorem dJ4_append_cf468_6 : decode cJ4_append_cf468 6 = .ok (.aload_n 0, 1) := by decide +kernel
theorem dJ4_append_cf468_7 : decode cJ4_append_cf468 7 = .ok (.areturn, 1) := by decide +kernel
theorem dJ4_toString_0e30d_0 : decode cJ4_toString_0e30d 0 = .ok (.new 18, 3) := by decide +kernel
theorem dJ4_toString_0e30d_3 : decode cJ4_toString_0e30d 3 = .ok (.dup, 1) := by decide +kernel
theorem dJ4_toString_0e30d_4 : decode cJ4_toString_0e30d 4 = .ok (.aload_n 0, 1) := by decide +kernel
theorem dJ4_toString_0e30d_5 : decode cJ4_toString_0e30d 5 = .ok (.invokespecial 137, 3) := by decide +kernel
theorem dJ4_toString_0e30d_8 : decode cJ4_toString_0e30d 8 = .ok (.areturn, 1) := by decide +kernel
theorem dJ1_charAt_3b067_0 : decode cJ1_charAt_3b067 0 = .ok (.iload_n 1, 1) := by decide +kernel
theorem dJ1_charAt_3b067_1 : decode cJ1_charAt_3b067 1 = .ok (.aload_n 0, 1) := by decide +kernel
theorem dJ1_charAt_3b067_2 : decode cJ1_charAt_3b067 2 = .ok (.arraylength, 1) := by decide +kernel
theorem dJ1_charAt_3b067_3 : decode cJ1_charAt_3b067 3 = .ok (.invokestatic 9, 3) := by decide +kernel
theorem dJ1_charAt_3b067_6 : decode cJ1_charAt_3b067 6 = .ok (.aload_n 0, 1) := by decide +kernel
theorem dJ1_charAt_3b067_7 : decode cJ1_charAt_3b067 7 = .ok (.iload_n 1, 1) := by decide +kernel
theorem dJ1_charAt_3b067_8 : decode cJ1_charAt_3b067 8 = .ok (.baload, 1) := by decide +kernel
theorem dJ1_charAt_3b067_9 : decode cJ1_charAt_3b067 9 = .ok (.sipush 255, 3) := by decide +kernel
theorem dJ1_charAt_3b067_12 : decode cJ1_charAt_3b067 12 = .ok (.iand, 1) := by decide +kernel
theorem dJ1_charAt_3b067_13 : decode cJ1_charAt_3b067 13 = .ok (.i2c, 1) := by decide +kernel
theorem dJ1_charAt_3b067_14 : decode cJ1_charAt_3b067 14 = .ok (.ireturn, 1) := by decide +kernel
theorem dJ1_canEncode_fc78d_0 : decode cJ1_canEncode_fc78d 0 = .ok (.iload_n 0, 1) := by decide +kernel
theorem dJ1_canEncode_fc78d_1 : decode cJ1_canEncode_fc78d 1 = .ok (.sipush 255, 3) := by decide +kernel
theorem dJ1_canEncode_fc78d_4 : decode cJ1_canEncode_fc78d 4 = .ok (.if_icmp .gt 7, 3) := by decide +kernel
theorem dJ1_canEncode_fc78d_7 : decode cJ1_canEncode_fc78d 7 = .ok (.iconst 1, 1) := by decide +kernel
theorem dJ1_canEncode_fc78d_8 : decode cJ1_canEncode_fc78d 8 = .ok (.goto 4, 3) := by decide +kernel
theorem dJ1_canEncode_fc78d_11 : decode cJ1_canEncode_fc78d 11 = .ok (.iconst 0, 1) := by decide +kernel
theorem dJ1_canEncode_fc78d_12 : decode cJ1_canEncode_fc78d 12 = .ok (.ireturn, 1) := by decide +kernel
theorem dJ1_canEncode_9a6ad_0 : decode cJ1_canEncode_9a6ad 0 = .ok (.iload_n 0, 1) := by decide +kernel
theorem dJ1_canEncode_9a6ad_1 : decode cJ1_canEncode_9a6ad 1 = .ok (.ifCond .lt 14, 3) := by decide +kernel
theorem dJ1_canEncode_9a6ad_4 : decode cJ1_canEncode_9a6ad 4 = .ok (.iload_n 0, 1) := by decide +kernel
theorem dJ1_canEncode_9a6ad_5 : decode cJ1_canEncode_9a6ad 5 = .ok (.sipush 255, 3) := by decide +kernel
theorem dJ1_canEncode_9a6ad_8 : decode cJ1_canEncode_9a6ad 8 = .ok (.if_icmp .gt 7, 3) := by decide +kernel
theorem dJ1_canEncode_9a6ad_11 : decode cJ1_canEncode_9a6ad 11 = .ok (.iconst 1, 1) := by decide +kernel
theorem dJ1_canEncode_9a6ad_12 : decode cJ1_canEncode_9a6ad 12 = .ok (.goto 4, 3) := by decide +kernel
theorem dJ1_canEncode_9a6ad_15 : decode cJ1_canEncode_9a6ad 15 = .ok (.iconst 0, 1) := by decide +kernel
theorem dJ1_canEncode_9a6ad_16 : decode cJ1_canEncode_9a6ad 16 = .ok (.ireturn, 1) := by decide +kernel
theorem dJ1_indexOf_4cfef_0 : decode cJ1_indexOf_4cfef 0 = .ok (.iload_n 1, 1) := by decide +kernel
theorem dJ1_indexOf_4cfef_1 : decode cJ1_indexOf_4cfef 1 = .ok (.invokestatic 88, 3) := by decide +kernel
theorem dJ1_indexOf_4cfef_4 : decode cJ1_indexOf_4cfef 4 = .ok (.ifCond .ne 5, 3) := by decide +kernel
theorem dJ1_indexOf_4cfef_7 : decode cJ1_indexOf_4cfef 7 = .ok (.iconst (-1), 1) := by decide +kernel
theorem dJ1_indexOf_4cfef_8 : decode cJ1_indexOf_4cfef 8 = .ok (.ireturn, 1) := by decide +kernel
theorem dJ1_indexOf_4cfef_9 : decode cJ1_indexOf_4cfef 9 = .ok (.iload_n 2, 1) := by decide +kernel
theorem dJ1_indexOf_4cfef_10 : decode cJ1_indexOf_4cfef 10 = .ok (.iconst 0, 1) := by decide +kernel
theorem dJ1_indexOf_4cfef_11 : decode cJ1_indexOf_4cfef 11 = .ok (.invokestatic 92, 3) := by decide +kernel
theorem dJ1_indexOf_4cfef_14 : decode cJ1_indexOf_4cfef 14 = .ok (.istore_n 2, 1) := by decide +kernel
theorem dJ1_indexOf_4cfef_15 : decode cJ1_indexOf_4cfef 15 = .ok (.iload_n 3, 1) := by decide +kernel
theorem dJ1_indexOf_4cfef_16 : decode cJ1_indexOf_4cfef 16 = .ok (.aload_n 0, 1) := by decide +kernel
theorem dJ1_indexOf_4cfef_17 : decode cJ1_indexOf_4cfef 17 = .ok (.arraylength, 1) := by decide +kernel
theorem dJ1_indexOf_4cfef_18 : decode cJ1_indexOf_4cfef 18 = .ok (.invokestatic 38, 3) := by decide +kernel
theorem dJ1_indexOf_4cfef_21 : decode cJ1_indexOf_4cfef 21 = .ok (.istore_n 3, 1) := by decide +kernel
theorem dJ1_indexOf_4cfef_22 : decode cJ1_indexOf_4cfef 22 = .ok (.iload_n 2, 1) := by decide +kernel
theorem dJ1_indexOf_4cfef_23 : decode cJ1_indexOf_4cfef 23 = .ok (.iload_n 3, 1) := by decide +kernel
theorem dJ1_indexOf_4cfef_24 : decode cJ1_indexOf_4cfef 24 = .ok (.if_icmp .lt 5, 3) := by decide +kernel
theorem dJ1_indexOf_4cfef_27 : decode cJ1_indexOf_4cfef 27 = .ok (.iconst (-1), 1) := by decide +kernel
theorem dJ1_indexOf_4cfef_28 : decode cJ1_indexOf_4cfef 28 = .ok (.ireturn, 1) := by decide +kernel
theorem dJ1_indexOf_4cfef_29 : decode cJ1_indexOf_4cfef 29 = .ok (.aload_n 0, 1) := by decide +kernel
theorem dJ1_indexOf_4cfef_30 : decode cJ1_indexOf_4cfef 30 = .ok (.iload_n 1, 1) := by decide +kernel
theorem dJ1_indexOf_4cfef_31 : decode cJ1_indexOf_4cfef 31 = .ok (.iload_n 2, 1) := by decide +kernel
theorem dJ1_indexOf_4cfef_32 : decode cJ1_indexOf_4cfef 32 = .ok (.iload_n 3, 1) := by decide +kernel
theorem dJ1_indexOf_4cfef_33 : decode cJ1_indexOf_4cfef 33 = .ok (.invokestatic 95, 3) := by decide +kernel
theorem dJ1_indexOf_4cfef_36 : decode cJ1_indexOf_4cfef 36 = .ok (.ireturn, 1) := by decide +kernel
theorem dJ1_indexOfChar_4cfef_0 : decode cJ1_indexOfChar_4cfef 0 = .ok (.iload_n 1, 1) := by decide +kernel
theorem dJ1_indexOfChar_4cfef_1 : decode cJ1_indexOfChar_4cfef 1 = .ok (.i2b, 1) := by decide +kernel
theorem dJ1_indexOfChar_4cfef_2 : decode cJ1_indexOfChar_4cfef 2 = .ok (.istore 4, 2) := by decide +kernel
theorem dJ1_indexOfChar_4cfef_4 : decode cJ1_indexOfChar_4cfef 4 = .ok (.iload_n 2, 1) := by decide +kernel
theorem dJ1_indexOfChar_4cfef_5 : decode cJ1_indexOfChar_4cfef 5 = .ok (.istore 5, 2) := by decide +kernel
theorem dJ1_indexOfChar_4cfef_7 : decode cJ1_indexOfChar_4cfef 7 = .ok (.iload 5, 2) := by decide +kernel
theorem dJ1_indexOfChar_4cfef_9 : decode cJ1_indexOfChar_4cfef 9 = .ok (.iload_n 3, 1) := by decide +kernel
theorem dJ1_indexOfChar_4cfef_10 : decode cJ1_indexOfChar_4cfef 10 = .ok (.if_icmp .ge 21, 3) := by decide +kernel
theorem dJ1_indexOfChar_4cfef_13 : decode cJ1_indexOfChar_4cfef 13 = .ok (.aload_n 0, 1) := by decide +kernel
theorem dJ1_indexOfChar_4cfef_14 : decode cJ1_indexOfChar_4cfef 14 = .ok (.iload 5, 2) := by decide +kernel
theorem dJ1_indexOfChar_4cfef_16 : decode cJ1_indexOfChar_4cfef 16 = .ok (.baload, 1) := by decide +kernel
theorem dJ1_indexOfChar_4cfef_17 : decode cJ1_indexOfChar_4cfef 17 = .ok (.iload 4, 2) := by decide +kernel
theorem dJ1_indexOfChar_4cfef_19 : decode cJ1_indexOfChar_4cfef 19 = .ok (.if_icmp .ne 6, 3) := by decide +kernel
theorem dJ1_indexOfChar_4cfef_22 : decode cJ1_indexOfChar_4cfef 22 = .ok (.iload 5, 2) := by decide +kernel
theorem dJ1_indexOfChar_4cfef_24 : decode cJ1_indexOfChar_4cfef 24 = .ok (.ireturn, 1) := by decide +kernel
theorem dJ1_indexOfChar_4cfef_25 : decode cJ1_indexOfChar_4cfef 25 = .ok (.iinc 5 1, 3) := by decide +kernel
theorem dJ1_indexOfChar_4cfef_28 : decode cJ1_indexOfChar_4cfef 28 = .ok (.goto (-21), 3) := by decide +kernel
theorem dJ1_indexOfChar_4cfef_31 : decode cJ1_indexOfChar_4cfef 31 = .ok (.iconst (-1), 1) := by decide +kernel
theorem dJ1_indexOfChar_4cfef_32 : decode cJ1_indexOfChar_4cfef 32 = .ok (.ireturn, 1) := by decide +kernel
theorem dJ1_newString_b4f7a_0 : decode cJ1_newString_b4f7a 0 = .ok (.iload_n 2, 1) := by decide +kernel
theorem dJ1_newString_b4f7a_1 : decode cJ1_newString_b4f7a 1 = .ok (.ifCond .ne 6, 3) := by decide +kernel
theorem dJ1_newString_b4f7a_4 : decode cJ1_newString_b4f7a 4 = .ok (.ldc 151, 2) := by decide +kernel
theorem dJ1_newString_b4f7a_6 : decode cJ1_newString_b4f7a 6 = .ok (.areturn, 1) := by decide +kernel
theorem dJ1_newString_b4f7a_7 : decode cJ1_newString_b4f7a 7 = .ok (.new 1, 3) := by decide +kernel
theorem dJ1_newString_b4f7a_10 : decode cJ1_newString_b4f7a 10 = .ok (.dup, 1) := by decide +kernel
theorem dJ1_newString_b4f7a_11 : decode cJ1_newString_b4f7a 11 = .ok (.aload_n 0, 1) := by decide +kernel
theorem dJ1_newString_b4f7a_12 : decode cJ1_newString_b4f7a 12 = .ok (.iload_n 1, 1) := by decide +kernel
theorem dJ1_newString_b4f7a_13 : decode cJ1_newString_b4f7a 13 = .ok (.iload_n 1, 1) := by decide +kernel
theorem dJ1_newString_b4f7a_14 : decode cJ1_newString_b4f7a 14 = .ok (.iload_n 2, 1) := by decide +kernel
theorem dJ1_newString_b4f7a_15 : decode cJ1_newString_b4f7a 15 = .ok (.iadd, 1) := by decide +kernel
theorem dJ1_newString_b4f7a_16 : decode cJ1_newString_b4f7a 16 = .ok (.invokestatic 232, 3) := by decide +kernel
theorem dJ1_newString_b4f7a_19 : decode cJ1_newString_b4f7a 19 = .ok (.iconst 0, 1) := by decide +kernel
theorem dJ1_newString_b4f7a_20 : decode cJ1_newString_b4f7a 20 = .ok (.invokespecial 112, 3) := by decide +kernel
theorem dJ1_newString_b4f7a_23 : decode cJ1_newString_b4f7a 23 = .ok (.areturn, 1) := by decide +kernel
theorem dJxa1e45_init_da8c8_0 : decode cJxa1e45_init_da8c8 0 = .ok (.aload_n 0, 1) := by decide +kernel
theorem dJxa1e45_init_da8c8_1 : decode cJxa1e45_init_da8c8 1 = .ok (.invokespecial 1, 3) := by decide +kernel
theorem dJxa1e45_init_da8c8_4 : decode cJxa1e45_init_da8c8 4 = .ok (.return_, 1) := by decide +kernel
theorem dJxc12de_init_da8c8_0 : decode cJxc12de_init_da8c8 0 = .ok (.aload_n 0, 1) := by decide +kernel
theorem dJxc12de_init_da8c8_1 : decode cJxc12de_init_da8c8 1 = .ok (.invokespecial 1, 3) := by decide +kernel
theorem dJxc12de_init_da8c8_4 : decode cJxc12de_init_da8c8 4 = .ok (.aload_n 0, 1) := by decide +kernel
theorem dJxc12de_init_da8c8_5 : decode cJxc12de_init_da8c8 5 = .ok (.iconst 0, 1) := by decide +kernel
theorem dJxc12de_init_da8c8_6 : decode cJxc12de_init_da8c8 6 = .ok (.putfield 7, 3) := by decide +kernel
theorem dJxc12de_init_da8c8_9 : decode cJxc12de_init_da8c8 9 = .ok (.return_, 1) := by decide +kernel
theorem dJx35411_init_45d68_0 : decode cJx35411_init_45d68 0 = .ok (.aload_n 0, 1) := by decide +kernel
theorem dJx35411_init_45d68_1 : decode cJx35411_init_45d68 1 = .ok (.aload_n 1, 1) := by decide +kernel
theorem dJx35411_init_45d68_2 : decode cJx35411_init_45d68 2 = .ok (.putfield 1, 3) := by decide +kernel
theorem dJx35411_init_45d68_5 : decode cJx35411_init_45d68 5 = .ok (.aload_n 0, 1) := by decide +kernel
theorem dJx35411_init_45d68_6 : decode cJx35411_init_45d68 6 = .ok (.invokespecial 7, 3) := by decide +kernel
theorem dJx35411_init_45d68_9 : decode cJx35411_init_45d68 9 = .ok (.aload_n 0, 1) := by decide +kernel
theorem dJx35411_init_45d68_10 : decode cJx35411_init_45d68 10 = .ok (.iconst (-1), 1) := by decide +kernel
theorem dJx35411_init_45d68_11 : decode cJx35411_init_45d68 11 = .ok (.putfield 13, 3) := by decide +kernel
theorem dJx35411_init_45d68_14 : decode cJx35411_init_45d68 14 = .ok (.aload_n 0, 1) := by decide +kernel
theorem dJx35411_init_45d68_15 : decode cJx35411_init_45d68 15 = .ok (.aload_n 0, 1) := by decide +kernel
theorem dJx35411_init_45d68_16 : decode cJx35411_init_45d68 16 = .ok (.getfield 1, 3) := by decide +kernel
theorem dJx35411_init_45d68_19 : decode cJx35411_init_45d68 19 = .ok (.getfield 17, 3) := by decide +kernel
theorem dJx35411_init_45d68_22 : decode cJx35411_init_45d68 22 = .ok (.putfield 22, 3) := by decide +kernel
theorem dJx35411_init_45d68_25 : decode cJx35411_init_45d68 25 = .ok (.return_, 1) := by decide +kernel
theorem dJx35411_hasNext_aae02_0 : decode cJx35411_hasNext_aae02 0 = .ok (.aload_n 0, 1) := by decide +kernel
theorem dJx35411_hasNext_aae02_1 : decode cJx35411_hasNext_aae02 1 = .ok (.getfield 25, 3) := by decide +kernel
theorem dJx35411_hasNext_aae02_4 : decode cJx35411_hasNext_aae02 4 = .ok (.aload_n 0, 1) := by decide +kernel
theorem dJx35411_hasNext_aae02_5 : decode cJx35411_hasNext_aae02 5 = .ok (.getfield 1, 3) := by decide +kernel
theorem dJx35411_hasNext_aae02_8 : decode cJx35411_hasNext_aae02 8 = .ok (.getfield 28, 3) := by decide +kernel
theorem dJx35411_hasNext_aae02_11 : decode cJx35411_hasNext_aae02 11 = .ok (.if_icmp .eq 7, 3) := by decide +kernel
theorem dJx35411_hasNext_aae02_14 : decode cJx35411_hasNext_aae02 14 = .ok (.iconst 1, 1) := by decide +kernel
theorem dJx35411_hasNext_aae02_15 : decode cJx35411_hasNext_aae02 15 = .ok (.goto 4, 3) := by decide +kernel
theorem dJx35411_hasNext_aae02_18 : decode cJx35411_hasNext_aae02 18 = .ok (.iconst 0, 1) := by decide +kernel
theorem dJx35411_hasNext_aae02_19 : decode cJx35411_hasNext_aae02 19 = .ok (.ireturn, 1) := by decide +kernel
theorem dJx35411_next_0502b_0 : decode cJx35411_next_0502b 0 = .ok (.aload_n 0, 1) := by decide +kernel
theorem dJx35411_next_0502b_1 : decode cJx35411_next_0502b 1 = .ok (.invokevirtual 31, 3) := by decide +kernel
theorem dJx35411_next_0502b_4 : decode cJx35411_next_0502b 4 = .ok (.aload_n 0, 1) := by decide +kernel
theorem dJx35411_next_0502b_5 : decode cJx35411_next_0502b 5 = .ok (.getfield 25, 3) := by decide +kernel
theorem dJx35411_next_0502b_8 : decode cJx35411_next_0502b 8 = .ok (.istore_n 1, 1) := by decide +kernel
theorem dJx35411_next_0502b_9 : decode cJx35411_next_0502b 9 = .ok (.iload_n 1, 1) := by decide +kernel
theorem dJx35411_next_0502b_10 : decode cJx35411_next_0502b 10 = .ok (.aload_n 0, 1) := by decide +kernel
theorem dJx35411_next_0502b_11 : decode cJx35411_next_0502b 11 = .ok (.getfield 1, 3) := by decide +kernel
theorem dJx35411_next_0502b_14 : decode cJx35411_next_0502b 14 = .ok (.getfield 28, 3) := by decide +kernel
theorem dJx35411_next_0502b_17 : decode cJx35411_next_0502b 17 = .ok (.if_icmp .lt 11, 3) := by decide +kernel
theorem dJx35411_next_0502b_20 : decode cJx35411_next_0502b 20 = .ok (.new 34, 3) := by decide +kernel
theorem dJx35411_next_0502b_23 : decode cJx35411_next_0502b 23 = .ok (.dup, 1) := by decide +kernel
theorem dJx35411_next_0502b_24 : decode cJx35411_next_0502b 24 = .ok (.invokespecial 36, 3) := by decide +kernel
theorem dJx35411_next_0502b_27 : decode cJx35411_next_0502b 27 = .ok (.athrow, 1) := by decide +kernel
theorem dJx35411_next_0502b_28 : decode cJx35411_next_0502b 28 = .ok (.aload_n 0, 1) := by decide +kernel
theorem dJx35411_next_0502b_29 : decode cJx35411_next_0502b 29 = .ok (.getfield 1, 3) := by decide +kernel
theorem dJx35411_next_0502b_32 : decode cJx35411_next_0502b 32 = .ok (.getfield 37, 3) := by decide +kernel
theorem dJx35411_next_0502b_35 : decode cJx35411_next_0502b 35 = .ok (.astore_n 2, 1) := by decide +kernel
theorem dJx35411_next_0502b_36 : decode cJx35411_next_0502b 36 = .ok (.iload_n 1, 1) := by decide +kernel
theorem dJx35411_next_0502b_37 : decode cJx35411_next_0502b 37 = .ok (.aload_n 2, 1) := by decide +kernel
theorem dJx35411_next_0502b_38 : decode cJx35411_next_0502b 38 = .ok (.arraylength, 1) := by decide +kernel
theorem dJx35411_next_0502b_39 : decode cJx35411_next_0502b 39 = .ok (.if_icmp .lt 11, 3) := by decide +kernel
theorem dJx35411_next_0502b_42 : decode cJx35411_next_0502b 42 = .ok (.new 41, 3) := by decide +kernel
theorem dJx35411_next_0502b_45 : decode cJx35411_next_0502b 45 = .ok (.dup, 1) := by decide +kernel
theorem dJx35411_next_0502b_46 : decode cJx35411_next_0502b 46 = .ok (.invokespecial 43, 3) := by decide +kernel
theorem dJx35411_next_0502b_49 : decode cJx35411_next_0502b 49 = .ok (.athrow, 1) := by decide +kernel
theorem dJx35411_next_0502b_50 : decode cJx35411_next_0502b 50 = .ok (.aload_n 0, 1) := by decide +kernel
theorem dJx35411_next_0502b_51 : decode cJx35411_next_0502b 51 = .ok (.iload_n 1, 1) := by decide +kernel
theorem dJx35411_next_0502b_52 : decode cJx35411_next_0502b 52 = .ok (.iconst 1, 1) := by decide +kernel
theorem dJx35411_next_0502b_53 : decode cJx35411_next_0502b 53 = .ok (.iadd, 1) := by decide +kernel
theorem dJx35411_next_0502b_54 : decode cJx35411_next_0502b 54 = .ok (.putfield 25, 3) := by decide +kernel
theorem dJx35411_next_0502b_57 : decode cJx35411_next_0502b 57 = .ok (.aload_n 2, 1) := by decide +kernel
theorem dJx35411_next_0502b_58 : decode cJx35411_next_0502b 58 = .ok (.aload_n 0, 1) := by decide +kernel
theorem dJx35411_next_0502b_59 : decode cJx35411_next_0502b 59 = .ok (.iload_n 1, 1) := by decide +kernel
theorem dJx35411_next_0502b_60 : decode cJx35411_next_0502b 60 = .ok (.dup_x1, 1) := by decide +kernel
theorem dJx35411_next_0502b_61 : decode cJx35411_next_0502b 61 = .ok (.putfield 13, 3) := by decide +kernel
theorem dJx35411_next_0502b_64 : decode cJx35411_next_0502b 64 = .ok (.aaload, 1) := by decide +kernel
theorem dJx35411_next_0502b_65 : decode cJx35411_next_0502b 65 = .ok (.areturn, 1) := by decide +kernel
theorem dJx35411_checkForComodification_da8c8_0 : decode cJx35411_checkForComodification_da8c8 0 = .ok (.aload_n 0, 1) := by decide +kernel
theorem dJx35411_checkForComodification_da8c8_1 : decode cJx35411_checkForComodification_da8c8 1 = .ok (.getfield 1, 3) := by decide +kernel
theorem dJx35411_checkForComodification_da8c8_4 : decode cJx35411_checkForComodification_da8c8 4 = .ok (.getfield 17, 3) := by decide +kernel
theorem dJx35411_checkForComodification_da8c8_7 : decode cJx35411_checkForComodification_da8c8 7 = .ok (.aload_n 0, 1) := by decide +kernel
theorem dJx35411_checkForComodification_da8c8_8 : decode cJx35411_checkForComodification_da8c8 8 = .ok (.getfield 22, 3) := by decide +kernel
theorem dJx35411_checkForComodification_da8c8_11 : decode cJx35411_checkForComodification_da8c8 11 = .ok (.if_icmp .eq 11, 3) := by decide +kernel
theorem dJx35411_checkForComodification_da8c8_14 : decode cJx35411_checkForComodification_da8c8 14 = .ok (.new 41, 3) := by decide +kernel
theorem dJx35411_checkForComodification_da8c8_17 : decode cJx35411_checkForComodification_da8c8 17 = .ok (.dup, 1) := by decide +kernel
theorem dJx35411_checkForComodification_da8c8_18 : decode cJx35411_checkForComodification_da8c8 18 = .ok (.invokespecial 43, 3) := by decide +kernel
theorem dJx35411_checkForComodification_da8c8_21 : decode cJx35411_checkForComodification_da8c8 21 = .ok (.athrow, 1) := by decide +kernel
theorem dJx35411_checkForComodification_da8c8_22 : decode cJx35411_checkForComodification_da8c8 22 = .ok (.return_, 1) := by decide +kernel
theorem dJx4a65c_init_da8c8_0 : decode cJx4a65c_init_da8c8 0 = .ok (.aload_n 0, 1) := by decide +kernel
theorem dJx4a65c_init_da8c8_1 : decode cJx4a65c_init_da8c8 1 = .ok (.invokespecial 1, 3) := by decide +kernel
theorem dJx4a65c_init_da8c8_4 : decode cJx4a65c_init_da8c8 4 = .ok (.aload_n 0, 1) := by decide +kernel
theorem dJx4a65c_init_da8c8_5 : decode cJx4a65c_init_da8c8 5 = .ok (.getstatic 39, 3) := by decide +kernel
theorem dJx4a65c_init_da8c8_8 : decode cJx4a65c_init_da8c8 8 = .ok (.putfield 9, 3) := by decide +kernel
theorem dJx4a65c_init_da8c8_11 : decode cJx4a65c_init_da8c8 11 = .ok (.return_, 1) := by decide +kernel
theorem dJx4a65c_grow_92f84_0 : decode cJx4a65c_grow_92f84 0 = .ok (.aload_n 0, 1) := by decide +kernel
theorem dJx4a65c_grow_92f84_1 : decode cJx4a65c_grow_92f84 1 = .ok (.getfield 9, 3) := by decide +kernel
theorem dJx4a65c_grow_92f84_4 : decode cJx4a65c_grow_92f84 4 = .ok (.arraylength, 1) := by decide +kernel
theorem dJx4a65c_grow_92f84_5 : decode cJx4a65c_grow_92f84 5 = .ok (.istore_n 2, 1) := by decide +kernel
theorem dJx4a65c_grow_92f84_6 : decode cJx4a65c_grow_92f84 6 = .ok (.iload_n 2, 1) := by decide +kernel
theorem dJx4a65c_grow_92f84_7 : decode cJx4a65c_grow_92f84 7 = .ok (.ifCond .gt 13, 3) := by decide +kernel
theorem dJx4a65c_grow_92f84_10 : decode cJx4a65c_grow_92f84 10 = .ok (.aload_n 0, 1) := by decide +kernel
theorem dJx4a65c_grow_92f84_11 : decode cJx4a65c_grow_92f84 11 = .ok (.getfield 9, 3) := by decide +kernel
theorem dJx4a65c_grow_92f84_14 : decode cJx4a65c_grow_92f84 14 = .ok (.getstatic 39, 3) := by decide +kernel
theorem dJx4a65c_grow_92f84_17 : decode cJx4a65c_grow_92f84 17 = .ok (.if_acmp .eq 28, 3) := by decide +kernel
theorem dJx4a65c_grow_92f84_20 : decode cJx4a65c_grow_92f84 20 = .ok (.iload_n 2, 1) := by decide +kernel
theorem dJx4a65c_grow_92f84_21 : decode cJx4a65c_grow_92f84 21 = .ok (.iload_n 1, 1) := by decide +kernel
theorem dJx4a65c_grow_92f84_22 : decode cJx4a65c_grow_92f84 22 = .ok (.iload_n 2, 1) := by decide +kernel
theorem dJx4a65c_grow_92f84_23 : decode cJx4a65c_grow_92f84 23 = .ok (.isub, 1) := by decide +kernel
theorem dJx4a65c_grow_92f84_24 : decode cJx4a65c_grow_92f84 24 = .ok (.iload_n 2, 1) := by decide +kernel
theorem dJx4a65c_grow_92f84_25 : decode cJx4a65c_grow_92f84 25 = .ok (.iconst 1, 1) := by decide +kernel
theorem dJx4a65c_grow_92f84_26 : decode cJx4a65c_grow_92f84 26 = .ok (.ishr, 1) := by decide +kernel
theorem dJx4a65c_grow_92f84_27 : decode cJx4a65c_grow_92f84 27 = .ok (.invokestatic 73, 3) := by decide +kernel
theorem dJx4a65c_grow_92f84_30 : decode cJx4a65c_grow_92f84 30 = .ok (.istore_n 3, 1) := by decide +kernel
theorem dJx4a65c_grow_92f84_31 : decode cJx4a65c_grow_92f84 31 = .ok (.aload_n 0, 1) := by decide +kernel
theorem dJx4a65c_grow_92f84_32 : decode cJx4a65c_grow_92f84 32 = .ok (.aload_n 0, 1) := by decide +kernel
theorem dJx4a65c_grow_92f84_33 : decode cJx4a65c_grow_92f84 33 = .ok (.getfield 9, 3) := by decide +kernel
theorem dJx4a65c_grow_92f84_36 : decode cJx4a65c_grow_92f84 36 = .ok (.iload_n 3, 1) := by decide +kernel
theorem dJx4a65c_grow_92f84_37 : decode cJx4a65c_grow_92f84 37 = .ok (.invokestatic 66, 3) := by decide +kernel
theorem dJx4a65c_grow_92f84_40 : decode cJx4a65c_grow_92f84 40 = .ok (.dup_x1, 1) := by decide +kernel
theorem dJx4a65c_grow_92f84_41 : decode cJx4a65c_grow_92f84 41 = .ok (.putfield 9, 3) := by decide +kernel
theorem dJx4a65c_grow_92f84_44 : decode cJx4a65c_grow_92f84 44 = .ok (.areturn, 1) := by decide +kernel
theorem dJx4a65c_grow_92f84_45 : decode cJx4a65c_grow_92f84 45 = .ok (.aload_n 0, 1) := by decide +kernel
theorem dJx4a65c_grow_92f84_46 : decode cJx4a65c_grow_92f84 46 = .ok (.bipush 10, 2) := by decide +kernel
theorem dJx4a65c_grow_92f84_48 : decode cJx4a65c_grow_92f84 48 = .ok (.iload_n 1, 1) := by decide +kernel
theorem dJx4a65c_grow_92f84_49 : decode cJx4a65c_grow_92f84 49 = .ok (.invokestatic 79, 3) := by decide +kernel
theorem dJx4a65c_grow_92f84_52 : decode cJx4a65c_grow_92f84 52 = .ok (.anewarray 7, 3) := by decide +kernel
theorem dJx4a65c_grow_92f84_55 : decode cJx4a65c_grow_92f84 55 = .ok (.dup_x1, 1) := by decide +kernel
theorem dJx4a65c_grow_92f84_56 : decode cJx4a65c_grow_92f84 56 = .ok (.putfield 9, 3) := by decide +kernel
theorem dJx4a65c_grow_92f84_59 : decode cJx4a65c_grow_92f84 59 = .ok (.areturn, 1) := by decide +kernel
theorem dJx4a65c_grow_d5877_0 : decode cJx4a65c_grow_d5877 0 = .ok (.aload_n 0, 1) := by decide +kernel
theorem dJx4a65c_grow_d5877_1 : decode cJx4a65c_grow_d5877 1 = .ok (.aload_n 0, 1) := by decide +kernel
theorem dJx4a65c_grow_d5877_2 : decode cJx4a65c_grow_d5877 2 = .ok (.getfield 48, 3) := by decide +kernel
theorem dJx4a65c_grow_d5877_5 : decode cJx4a65c_grow_d5877 5 = .ok (.iconst 1, 1) := by decide +kernel
theorem dJx4a65c_grow_d5877_6 : decode cJx4a65c_grow_d5877 6 = .ok (.iadd, 1) := by decide +kernel
theorem dJx4a65c_grow_d5877_7 : decode cJx4a65c_grow_d5877 7 = .ok (.invokevirtual 69, 3) := by decide +kernel
theorem dJx4a65c_grow_d5877_10 : decode cJx4a65c_grow_d5877 10 = .ok (.areturn, 1) := by decide +kernel
theorem dJx4a65c_size_8abf5_0 : decode cJx4a65c_size_8abf5 0 = .ok (.aload_n 0, 1) := by decide +kernel
theorem dJx4a65c_size_8abf5_1 : decode cJx4a65c_size_8abf5 1 = .ok (.getfield 48, 3) := by decide +kernel
theorem dJx4a65c_size_8abf5_4 : decode cJx4a65c_size_8abf5 4 = .ok (.ireturn, 1) := by decide +kernel
theorem dJx4a65c_isEmpty_aae02_0 : decode cJx4a65c_isEmpty_aae02 0 = .ok (.aload_n 0, 1) := by decide +kernel
theorem dJx4a65c_isEmpty_aae02_1 : decode cJx4a65c_isEmpty_aae02 1 = .ok (.getfield 48, 3) := by decide +kernel
theorem dJx4a65c_isEmpty_aae02_4 : decode cJx4a65c_isEmpty_aae02 4 = .ok (.ifCond .ne 7, 3) := by decide +kernel
theorem dJx4a65c_isEmpty_aae02_7 : decode cJx4a65c_isEmpty_aae02 7 = .ok (.iconst 1, 1) := by decide +kernel
theorem dJx4a65c_isEmpty_aae02_8 : decode cJx4a65c_isEmpty_aae02 8 = .ok (.goto 4, 3) := by decide +kernel
theorem dJx4a65c_isEmpty_aae02_11 : decode cJx4a65c_isEmpty_aae02 11 = .ok (.iconst 0, 1) := by decide +kernel
theorem dJx4a65c_isEmpty_aae02_12 : decode cJx4a65c_isEmpty_aae02 12 = .ok (.ireturn, 1) := by decide +kernel
theorem dJx4a65c_elementData_915e3_0 : decode cJx4a65c_elementData_915e3 0 = .ok (.aload_n 0, 1) := by decide +kernel
theorem dJx4a65c_elementData_915e3_1 : decode cJx4a65c_elementData_915e3 1 = .ok (.getfield 9, 3) := by decide +kernel
theorem dJx4a65c_elementData_915e3_4 : decode cJx4a65c_elementData_915e3 4 = .ok (.iload_n 1, 1) := by decide +kernel
theorem dJx4a65c_elementData_915e3_5 : decode cJx4a65c_elementData_915e3 5 = .ok (.aaload, 1) := by decide +kernel
theorem dJx4a65c_elementData_915e3_6 : decode cJx4a65c_elementData_915e3 6 = .ok (.areturn, 1) := by decide +kernel
theorem dJx4a65c_get_915e3_0 : decode cJx4a65c_get_915e3 0 = .ok (.iload_n 1, 1) := by decide +kernel
theorem dJx4a65c_get_915e3_1 : decode cJx4a65c_get_915e3 1 = .ok (.aload_n 0, 1) := by decide +kernel
theorem dJx4a65c_get_915e3_2 : decode cJx4a65c_get_915e3 2 = .ok (.getfield 48, 3) := by decide +kernel
theorem dJx4a65c_get_915e3_5 : decode cJx4a65c_get_915e3 5 = .ok (.invokestatic 118, 3) := by decide +kernel
theorem dJx4a65c_get_915e3_8 : decode cJx4a65c_get_915e3 8 = .ok (.pop, 1) := by decide +kernel
theorem dJx4a65c_get_915e3_9 : decode cJx4a65c_get_915e3 9 = .ok (.aload_n 0, 1) := by decide +kernel
theorem dJx4a65c_get_915e3_10 : decode cJx4a65c_get_915e3 10 = .ok (.iload_n 1, 1) := by decide +kernel
theorem dJx4a65c_get_915e3_11 : decode cJx4a65c_get_915e3 11 = .ok (.invokevirtual 123, 3) := by decide +kernel
theorem dJx4a65c_get_915e3_14 : decode cJx4a65c_get_915e3 14 = .ok (.areturn, 1) := by decide +kernel
theorem dJx4a65c_add_72be8_0 : decode cJx4a65c_add_72be8 0 = .ok (.iload_n 3, 1) := by decide +kernel
theorem dJx4a65c_add_72be8_1 : decode cJx4a65c_add_72be8 1 = .ok (.aload_n 2, 1) := by decide +kernel
theorem dJx4a65c_add_72be8_2 : decode cJx4a65c_add_72be8 2 = .ok (.arraylength, 1) := by decide +kernel
theorem dJx4a65c_add_72be8_3 : decode cJx4a65c_add_72be8 3 = .ok (.if_icmp .ne 8, 3) := by decide +kernel
theorem dJx4a65c_add_72be8_6 : decode cJx4a65c_add_72be8 6 = .ok (.aload_n 0, 1) := by decide +kernel
theorem dJx4a65c_add_72be8_7 : decode cJx4a65c_add_72be8 7 = .ok (.invokevirtual 129, 3) := by decide +kernel
theorem dJx4a65c_add_72be8_10 : decode cJx4a65c_add_72be8 10 = .ok (.astore_n 2, 1) := by decide +kernel
theorem dJx4a65c_add_72be8_11 : decode cJx4a65c_add_72be8 11 = .ok (.aload_n 2, 1) := by decide +kernel
theorem dJx4a65c_add_72be8_12 : decode cJx4a65c_add_72be8 12 = .ok (.iload_n 3, 1) := by decide +kernel
theorem dJx4a65c_add_72be8_13 : decode cJx4a65c_add_72be8 13 = .ok (.aload_n 1, 1) := by decide +kernel
theorem dJx4a65c_add_72be8_14 : decode cJx4a65c_add_72be8 14 = .ok (.aastore, 1) := by decide +kernel
theorem dJx4a65c_add_72be8_15 : decode cJx4a65c_add_72be8 15 = .ok (.aload_n 0, 1) := by decide +kernel
theorem dJx4a65c_add_72be8_16 : decode cJx4a65c_add_72be8 16 = .ok (.iload_n 3, 1) := by decide +kernel
theorem dJx4a65c_add_72be8_17 : decode cJx4a65c_add_72be8 17 = .ok (.iconst 1, 1) := by decide +kernel
theorem dJx4a65c_add_72be8_18 : decode cJx4a65c_add_72be8 18 = .ok (.iadd, 1) := by decide +kernel
theorem dJx4a65c_add_72be8_19 : decode cJx4a65c_add_72be8 19 = .ok (.putfield 48, 3) := by decide +kernel
theorem dJx4a65c_add_72be8_22 : decode cJx4a65c_add_72be8 22 = .ok (.return_, 1) := by decide +kernel
theorem dJx4a65c_add_9ea2d_0 : decode cJx4a65c_add_9ea2d 0 = .ok (.aload_n 0, 1) := by decide +kernel
theorem dJx4a65c_add_9ea2d_1 : decode cJx4a65c_add_9ea2d 1 = .ok (.dup, 1) := by decide +kernel
theorem dJx4a65c_add_9ea2d_2 : decode cJx4a65c_add_9ea2d 2 = .ok (.getfield 63, 3) := by decide +kernel
theorem dJx4a65c_add_9ea2d_5 : decode cJx4a65c_add_9ea2d 5 = .ok (.iconst 1, 1) := by decide +kernel
theorem dJx4a65c_add_9ea2d_6 : decode cJx4a65c_add_9ea2d 6 = .ok (.iadd, 1) := by decide +kernel
theorem dJx4a65c_add_9ea2d_7 : decode cJx4a65c_add_9ea2d 7 = .ok (.putfield 63, 3) := by decide +kernel
theorem dJx4a65c_add_9ea2d_10 : decode cJx4a65c_add_9ea2d 10 = .ok (.aload_n 0, 1) := by decide +kernel
theorem dJx4a65c_add_9ea2d_11 : decode cJx4a65c_add_9ea2d 11 = .ok (.aload_n 1, 1) := by decide +kernel
theorem dJx4a65c_add_9ea2d_12 : decode cJx4a65c_add_9ea2d 12 = .ok (.aload_n 0, 1) := by decide +kernel
theorem dJx4a65c_add_9ea2d_13 : decode cJx4a65c_add_9ea2d 13 = .ok (.getfield 9, 3) := by decide +kernel
theorem dJx4a65c_add_9ea2d_16 : decode cJx4a65c_add_9ea2d 16 = .ok (.aload_n 0, 1) := by decide +kernel
theorem dJx4a65c_add_9ea2d_17 : decode cJx4a65c_add_9ea2d 17 = .ok (.getfield 48, 3) := by decide +kernel
theorem dJx4a65c_add_9ea2d_20 : decode cJx4a65c_add_9ea2d 20 = .ok (.invokevirtual 131, 3) := by decide +kernel
theorem dJx4a65c_add_9ea2d_23 : decode cJx4a65c_add_9ea2d 23 = .ok (.iconst 1, 1) := by decide +kernel
theorem dJx4a65c_add_9ea2d_24 : decode cJx4a65c_add_9ea2d 24 = .ok (.ireturn, 1) := by decide +kernel
theorem dJx4a65c_iterator_32c93_0 : decode cJx4a65c_iterator_32c93 0 = .ok (.new 267, 3) := by decide +kernel
theorem dJx4a65c_iterator_32c93_3 : decode cJx4a65c_iterator_32c93 3 = .ok (.dup, 1) := by decide +kernel
theorem dJx4a65c_iterator_32c93_4 : decode cJx4a65c_iterator_32c93 4 = .ok (.aload_n 0, 1) := by decide +kernel
theorem dJx4a65c_iterator_32c93_5 : decode cJx4a65c_iterator_32c93 5 = .ok (.invokespecial 269, 3) := by decide +kernel
theorem dJx4a65c_iterator_32c93_8 : decode cJx4a65c_iterator_32c93 8 = .ok (.areturn, 1) := by decide +kernel
theorem dJ7_copyOf_1904c_0 : decode cJ7_copyOf_1904c 0 = .ok (.aload_n 0, 1) := by decide +kernel
theorem dJ7_copyOf_1904c_1 : decode cJ7_copyOf_1904c 1 = .ok (.iload_n 1, 1) := by decide +kernel
theorem dJ7_copyOf_1904c_2 : decode cJ7_copyOf_1904c 2 = .ok (.aload_n 0, 1) := by decide +kernel
theorem dJ7_copyOf_1904c_3 : decode cJ7_copyOf_1904c 3 = .ok (.invokevirtual 86, 3) := by decide +kernel
theorem dJ7_copyOf_1904c_6 : decode cJ7_copyOf_1904c 6 = .ok (.invokestatic 300, 3) := by decide +kernel
theorem dJ7_copyOf_1904c_9 : decode cJ7_copyOf_1904c 9 = .ok (.areturn, 1) := by decide +kernel
theorem dJ7_copyOf_6403c_0 : decode cJ7_copyOf_6403c 0 = .ok (.aload_n 2, 1) := by decide +kernel
theorem dJ7_copyOf_6403c_1 : decode cJ7_copyOf_6403c 1 = .ok (.ldc 110, 2) := by decide +kernel
theorem dJ7_copyOf_6403c_3 : decode cJ7_copyOf_6403c 3 = .ok (.if_acmp .ne 10, 3) := by decide +kernel
theorem dJ7_copyOf_6403c_6 : decode cJ7_copyOf_6403c 6 = .ok (.iload_n 1, 1) := by decide +kernel
theorem dJ7_copyOf_6403c_7 : decode cJ7_copyOf_6403c 7 = .ok (.anewarray 2, 3) := by decide +kernel
theorem dJ7_copyOf_6403c_10 : decode cJ7_copyOf_6403c 10 = .ok (.goto 14, 3) := by decide +kernel
theorem dJ7_copyOf_6403c_13 : decode cJ7_copyOf_6403c 13 = .ok (.aload_n 2, 1) := by decide +kernel
theorem dJ7_copyOf_6403c_14 : decode cJ7_copyOf_6403c 14 = .ok (.invokevirtual 90, 3) := by decide +kernel
theorem dJ7_copyOf_6403c_17 : decode cJ7_copyOf_6403c 17 = .ok (.iload_n 1, 1) := by decide +kernel
theorem dJ7_copyOf_6403c_18 : decode cJ7_copyOf_6403c 18 = .ok (.invokestatic 95, 3) := by decide +kernel
theorem dJ7_copyOf_6403c_21 : decode cJ7_copyOf_6403c 21 = .ok (.checkcast 110, 3) := by decide +kernel
theorem dJ7_copyOf_6403c_24 : decode cJ7_copyOf_6403c 24 = .ok (.astore_n 3, 1) := by decide +kernel
theorem dJ7_copyOf_6403c_25 : decode cJ7_copyOf_6403c 25 = .ok (.aload_n 0, 1) := by decide +kernel
theorem dJ7_copyOf_6403c_26 : decode cJ7_copyOf_6403c 26 = .ok (.iconst 0, 1) := by decide +kernel
theorem dJ7_copyOf_6403c_27 : decode cJ7_copyOf_6403c 27 = .ok (.aload_n 3, 1) := by decide +kernel
theorem dJ7_copyOf_6403c_28 : decode cJ7_copyOf_6403c 28 = .ok (.iconst 0, 1) := by decide +kernel
theorem dJ7_copyOf_6403c_29 : decode cJ7_copyOf_6403c 29 = .ok (.aload_n 0, 1) := by decide +kernel
theorem dJ7_copyOf_6403c_30 : decode cJ7_copyOf_6403c 30 = .ok (.arraylength, 1) := by decide +kernel
theorem dJ7_copyOf_6403c_31 : decode cJ7_copyOf_6403c 31 = .ok (.iload_n 1, 1) := by decide +kernel
theorem dJ7_copyOf_6403c_32 : decode cJ7_copyOf_6403c 32 = .ok (.invokestatic 304, 3) := by decide +kernel
theorem dJ7_copyOf_6403c_35 : decode cJ7_copyOf_6403c 35 = .ok (.invokestatic 150, 3) := by decide +kernel
theorem dJ7_copyOf_6403c_38 : decode cJ7_copyOf_6403c 38 = .ok (.aload_n 3, 1) := by decide +kernel
theorem dJ7_copyOf_6403c_39 : decode cJ7_copyOf_6403c 39 = .ok (.areturn, 1) := by decide +kernel
theorem dJ7_copyOf_9075b_0 : decode cJ7_copyOf_9075b 0 = .ok (.iload_n 1, 1) := by decide +kernel
theorem dJ7_copyOf_9075b_1 : decode cJ7_copyOf_9075b 1 = .ok (.aload_n 0, 1) := by decide +kernel
theorem dJ7_copyOf_9075b_2 : decode cJ7_copyOf_9075b 2 = .ok (.arraylength, 1) := by decide +kernel
theorem dJ7_copyOf_9075b_3 : decode cJ7_copyOf_9075b 3 = .ok (.if_icmp .ne 11, 3) := by decide +kernel
theorem dJ7_copyOf_9075b_6 : decode cJ7_copyOf_9075b 6 = .ok (.aload_n 0, 1) := by decide +kernel
theorem dJ7_copyOf_9075b_7 : decode cJ7_copyOf_9075b 7 = .ok (.invokevirtual 310, 3) := by decide +kernel
theorem dJ7_copyOf_9075b_10 : decode cJ7_copyOf_9075b 10 = .ok (.checkcast 311, 3) := by decide +kernel
theorem dJ7_copyOf_9075b_13 : decode cJ7_copyOf_9075b 13 = .ok (.areturn, 1) := by decide +kernel
theorem dJ7_copyOf_9075b_14 : decode cJ7_copyOf_9075b 14 = .ok (.iload_n 1, 1) := by decide +kernel
theorem dJ7_copyOf_9075b_15 : decode cJ7_copyOf_9075b 15 = .ok (.newarray .byte, 2) := by decide +kernel
theorem dJ7_copyOf_9075b_17 : decode cJ7_copyOf_9075b 17 = .ok (.astore_n 2, 1) := by decide +kernel
theorem dJ7_copyOf_9075b_18 : decode cJ7_copyOf_9075b 18 = .ok (.aload_n 0, 1) := by decide +kernel
theorem dJ7_copyOf_9075b_19 : decode cJ7_copyOf_9075b 19 = .ok (.iconst 0, 1) := by decide +kernel
theorem dJ7_copyOf_9075b_20 : decode cJ7_copyOf_9075b 20 = .ok (.aload_n 2, 1) := by decide +kernel
theorem dJ7_copyOf_9075b_21 : decode cJ7_copyOf_9075b 21 = .ok (.iconst 0, 1) := by decide +kernel
theorem dJ7_copyOf_9075b_22 : decode cJ7_copyOf_9075b 22 = .ok (.aload_n 0, 1) := by decide +kernel
theorem dJ7_copyOf_9075b_23 : decode cJ7_copyOf_9075b 23 = .ok (.arraylength, 1) := by decide +kernel
theorem dJ7_copyOf_9075b_24 : decode cJ7_copyOf_9075b 24 = .ok (.iload_n 1, 1) := by decide +kernel
theorem dJ7_copyOf_9075b_25 : decode cJ7_copyOf_9075b 25 = .ok (.invokestatic 304, 3) := by decide +kernel
theorem dJ7_copyOf_9075b_28 : decode cJ7_copyOf_9075b 28 = .ok (.invokestatic 150, 3) := by decide +kernel
theorem dJ7_copyOf_9075b_31 : decode cJ7_copyOf_9075b 31 = .ok (.aload_n 2, 1) := by decide +kernel
theorem dJ7_copyOf_9075b_32 : decode cJ7_copyOf_9075b 32 = .ok (.areturn, 1) := by decide +kernel
theorem dJ7_checkLength_df160_0 : decode cJ7_checkLength_df160 0 = .ok (.iload_n 1, 1) := by decide +kernel
theorem dJ7_checkLength_df160_1 : decode cJ7_checkLength_df160 1 = .ok (.iload_n 0, 1) := by decide +kernel
theorem dJ7_checkLength_df160_2 : decode cJ7_checkLength_df160 2 = .ok (.if_icmp .ge 35, 3) := by decide +kernel
theorem dJ7_checkLength_df160_5 : decode cJ7_checkLength_df160 5 = .ok (.new 43, 3) := by decide +kernel
theorem dJ7_checkLength_df160_8 : decode cJ7_checkLength_df160 8 = .ok (.dup, 1) := by decide +kernel
theorem dJ7_checkLength_df160_9 : decode cJ7_checkLength_df160 9 = .ok (.new 45, 3) := by decide +kernel
theorem dJ7_checkLength_df160_12 : decode cJ7_checkLength_df160 12 = .ok (.dup, 1) := by decide +kernel
theorem dJ7_checkLength_df160_13 : decode cJ7_checkLength_df160 13 = .ok (.invokespecial 47, 3) := by decide +kernel
theorem dJ7_checkLength_df160_16 : decode cJ7_checkLength_df160 16 = .ok (.iload_n 0, 1) := by decide +kernel
theorem dJ7_checkLength_df160_17 : decode cJ7_checkLength_df160 17 = .ok (.invokevirtual 54, 3) := by decide +kernel
theorem dJ7_checkLength_df160_20 : decode cJ7_checkLength_df160 20 = .ok (.ldc_w 337, 3) := by decide +kernel
theorem dJ7_checkLength_df160_23 : decode cJ7_checkLength_df160 23 = .ok (.invokevirtual 50, 3) := by decide +kernel
theorem dJ7_checkLength_df160_26 : decode cJ7_checkLength_df160 26 = .ok (.iload_n 1, 1) := by decide +kernel
theorem dJ7_checkLength_df160_27 : decode cJ7_checkLength_df160 27 = .ok (.invokevirtual 54, 3) := by decide +kernel
theorem dJ7_checkLength_df160_30 : decode cJ7_checkLength_df160 30 = .ok (.invokevirtual 61, 3) := by decide +kernel
theorem dJ7_checkLength_df160_33 : decode cJ7_checkLength_df160 33 = .ok (.invokespecial 65, 3) := by decide +kernel
theorem dJ7_checkLength_df160_36 : decode cJ7_checkLength_df160 36 = .ok (.athrow, 1) := by decide +kernel
theorem dJ7_checkLength_df160_37 : decode cJ7_checkLength_df160 37 = .ok (.return_, 1) := by decide +kernel
theorem dJ7_copyOfRange_39247_0 : decode cJ7_copyOfRange_39247 0 = .ok (.iload_n 1, 1) := by decide +kernel
theorem dJ7_copyOfRange_39247_1 : decode cJ7_copyOfRange_39247 1 = .ok (.ifCond .ne 9, 3) := by decide +kernel
theorem dJ7_copyOfRange_39247_4 : decode cJ7_copyOfRange_39247 4 = .ok (.iload_n 2, 1) := by decide +kernel
theorem dJ7_copyOfRange_39247_5 : decode cJ7_copyOfRange_39247 5 = .ok (.aload_n 0, 1) := by decide +kernel
theorem dJ7_copyOfRange_39247_6 : decode cJ7_copyOfRange_39247 6 = .ok (.arraylength, 1) := by decide +kernel
theorem dJ7_copyOfRange_39247_7 : decode cJ7_copyOfRange_39247 7 = .ok (.if_icmp .eq 10, 3) := by decide +kernel
theorem dJ7_copyOfRange_39247_10 : decode cJ7_copyOfRange_39247 10 = .ok (.aload_n 0, 1) := by decide +kernel
theorem dJ7_copyOfRange_39247_11 : decode cJ7_copyOfRange_39247 11 = .ok (.iload_n 1, 1) := by decide +kernel
theorem dJ7_copyOfRange_39247_12 : decode cJ7_copyOfRange_39247 12 = .ok (.iload_n 2, 1) := by decide +kernel
theorem dJ7_copyOfRange_39247_13 : decode cJ7_copyOfRange_39247 13 = .ok (.invokestatic 339, 3) := by decide +kernel
theorem dJ7_copyOfRange_39247_16 : decode cJ7_copyOfRange_39247 16 = .ok (.areturn, 1) := by decide +kernel
theorem dJ7_copyOfRange_39247_17 : decode cJ7_copyOfRange_39247 17 = .ok (.aload_n 0, 1) := by decide +kernel
theorem dJ7_copyOfRange_39247_18 : decode cJ7_copyOfRange_39247 18 = .ok (.invokevirtual 310, 3) := by decide +kernel
theorem dJ7_copyOfRange_39247_21 : decode cJ7_copyOfRange_39247 21 = .ok (.checkcast 311, 3) := by decide +kernel
theorem dJ7_copyOfRange_39247_24 : decode cJ7_copyOfRange_39247 24 = .ok (.areturn, 1) := by decide +kernel
theorem dJ7_copyOfRangeByte_39247_0 : decode cJ7_copyOfRangeByte_39247 0 = .ok (.iload_n 1, 1) := by decide +kernel
theorem dJ7_copyOfRangeByte_39247_1 : decode cJ7_copyOfRangeByte_39247 1 = .ok (.iload_n 2, 1) := by decide +kernel
theorem dJ7_copyOfRangeByte_39247_2 : decode cJ7_copyOfRangeByte_39247 2 = .ok (.invokestatic 343, 3) := by decide +kernel
theorem dJ7_copyOfRangeByte_39247_5 : decode cJ7_copyOfRangeByte_39247 5 = .ok (.iload_n 2, 1) := by decide +kernel
theorem dJ7_copyOfRangeByte_39247_6 : decode cJ7_copyOfRangeByte_39247 6 = .ok (.iload_n 1, 1) := by decide +kernel
theorem dJ7_copyOfRangeByte_39247_7 : decode cJ7_copyOfRangeByte_39247 7 = .ok (.isub, 1) := by decide +kernel
theorem dJ7_copyOfRangeByte_39247_8 : decode cJ7_copyOfRangeByte_39247 8 = .ok (.istore_n 3, 1) := by decide +kernel
theorem dJ7_copyOfRangeByte_39247_9 : decode cJ7_copyOfRangeByte_39247 9 = .ok (.iload_n 3, 1) := by decide +kernel
theorem dJ7_copyOfRangeByte_39247_10 : decode cJ7_copyOfRangeByte_39247 10 = .ok (.newarray .byte, 2) := by decide +kernel
theorem dJ7_copyOfRangeByte_39247_12 : decode cJ7_copyOfRangeByte_39247 12 = .ok (.astore 4, 2) := by decide +kernel
theorem dJ7_copyOfRangeByte_39247_14 : decode cJ7_copyOfRangeByte_39247 14 = .ok (.aload_n 0, 1) := by decide +kernel
theorem dJ7_copyOfRangeByte_39247_15 : decode cJ7_copyOfRangeByte_39247 15 = .ok (.iload_n 1, 1) := by decide +kernel
theorem dJ7_copyOfRangeByte_39247_16 : decode cJ7_copyOfRangeByte_39247 16 = .ok (.aload 4, 2) := by decide +kernel
theorem dJ7_copyOfRangeByte_39247_18 : decode cJ7_copyOfRangeByte_39247 18 = .ok (.iconst 0, 1) := by decide +kernel
theorem dJ7_copyOfRangeByte_39247_19 : decode cJ7_copyOfRangeByte_39247 19 = .ok (.aload_n 0, 1) := by decide +kernel
theorem dJ7_copyOfRangeByte_39247_20 : decode cJ7_copyOfRangeByte_39247 20 = .ok (.arraylength, 1) := by decide +kernel
theorem dJ7_copyOfRangeByte_39247_21 : decode cJ7_copyOfRangeByte_39247 21 = .ok (.iload_n 1, 1) := by decide +kernel
theorem dJ7_copyOfRangeByte_39247_22 : decode cJ7_copyOfRangeByte_39247 22 = .ok (.isub, 1) := by decide +kernel
theorem dJ7_copyOfRangeByte_39247_23 : decode cJ7_copyOfRangeByte_39247 23 = .ok (.iload_n 3, 1) := by decide +kernel
theorem dJ7_copyOfRangeByte_39247_24 : decode cJ7_copyOfRangeByte_39247 24 = .ok (.invokestatic 304, 3) := by decide +kernel
theorem dJ7_copyOfRangeByte_39247_27 : decode cJ7_copyOfRangeByte_39247 27 = .ok (.invokestatic 150, 3) := by decide +kernel
theorem dJ7_copyOfRangeByte_39247_30 : decode cJ7_copyOfRangeByte_39247 30 = .ok (.aload 4, 2) := by decide +kernel
theorem dJ7_copyOfRangeByte_39247_32 : decode cJ7_copyOfRangeByte_39247 32 = .ok (.areturn, 1) := by decide +kernel
theorem dJ15_checkIndex_7cf53_0 : decode cJ15_checkIndex_7cf53 0 = .ok (.iload_n 0, 1) := by decide +kernel
theorem dJ15_checkIndex_7cf53_1 : decode cJ15_checkIndex_7cf53 1 = .ok (.iload_n 1, 1) := by decide +kernel
theorem dJ15_checkIndex_7cf53_2 : decode cJ15_checkIndex_7cf53 2 = .ok (.aconst_null, 1) := by decide +kernel
theorem dJ15_checkIndex_7cf53_3 : decode cJ15_checkIndex_7cf53 3 = .ok (.invokestatic 105, 3) := by decide +kernel
theorem dJ15_checkIndex_7cf53_6 : decode cJ15_checkIndex_7cf53 6 = .ok (.ireturn, 1) := by decide +kernel
theorem dJ8_newLength_cabcc_0 : decode cJ8_newLength_cabcc 0 = .ok (.iload_n 0, 1) := by decide +kernel
theorem dJ8_newLength_cabcc_1 : decode cJ8_newLength_cabcc 1 = .ok (.iload_n 1, 1) := by decide +kernel
theorem dJ8_newLength_cabcc_2 : decode cJ8_newLength_cabcc 2 = .ok (.iload_n 2, 1) := by decide +kernel
theorem dJ8_newLength_cabcc_3 : decode cJ8_newLength_cabcc 3 = .ok (.invokestatic 194, 3) := by decide +kernel
theorem dJ8_newLength_cabcc_6 : decode cJ8_newLength_cabcc 6 = .ok (.iadd, 1) := by decide +kernel
theorem dJ8_newLength_cabcc_7 : decode cJ8_newLength_cabcc 7 = .ok (.istore_n 3, 1) := by decide +kernel
theorem dJ8_newLength_cabcc_8 : decode cJ8_newLength_cabcc 8 = .ok (.iconst 0, 1) := by decide +kernel
theorem dJ8_newLength_cabcc_9 : decode cJ8_newLength_cabcc 9 = .ok (.iload_n 3, 1) := by decide +kernel
theorem dJ8_newLength_cabcc_10 : decode cJ8_newLength_cabcc 10 = .ok (.if_icmp .ge 11, 3) := by decide +kernel
theorem dJ8_newLength_cabcc_13 : decode cJ8_newLength_cabcc 13 = .ok (.iload_n 3, 1) := by decide +kernel
theorem dJ8_newLength_cabcc_14 : decode cJ8_newLength_cabcc 14 = .ok (.ldc 200, 2) := by decide +kernel
theorem dJ8_newLength_cabcc_16 : decode cJ8_newLength_cabcc 16 = .ok (.if_icmp .gt 5, 3) := by decide +kernel
theorem dJ8_newLength_cabcc_19 : decode cJ8_newLength_cabcc 19 = .ok (.iload_n 3, 1) := by decide +kernel
theorem dJ8_newLength_cabcc_20 : decode cJ8_newLength_cabcc 20 = .ok (.ireturn, 1) := by decide +kernel
theorem dJ8_newLength_cabcc_21 : decode cJ8_newLength_cabcc 21 = .ok (.iload_n 0, 1) := by decide +kernel
theorem dJ8_newLength_cabcc_22 : decode cJ8_newLength_cabcc 22 = .ok (.iload_n 1, 1) := by decide +kernel
theorem dJ8_newLength_cabcc_23 : decode cJ8_newLength_cabcc 23 = .ok (.invokestatic 201, 3) := by decide +kernel
theorem dJ8_newLength_cabcc_26 : decode cJ8_newLength_cabcc 26 = .ok (.ireturn, 1) := by decide +kernel
theorem dJ3_checkIndex_8e157_0 : decode cJ3_checkIndex_8e157 0 = .ok (.iload_n 0, 1) := by decide +kernel
theorem dJ3_checkIndex_8e157_1 : decode cJ3_checkIndex_8e157 1 = .ok (.ifCond .lt 8, 3) := by decide +kernel
theorem dJ3_checkIndex_8e157_4 : decode cJ3_checkIndex_8e157 4 = .ok (.iload_n 0, 1) := by decide +kernel
theorem dJ3_checkIndex_8e157_5 : decode cJ3_checkIndex_8e157 5 = .ok (.iload_n 1, 1) := by decide +kernel
theorem dJ3_checkIndex_8e157_6 : decode cJ3_checkIndex_8e157 6 = .ok (.if_icmp .lt 10, 3) := by decide +kernel
theorem dJ3_checkIndex_8e157_9 : decode cJ3_checkIndex_8e157 9 = .ok (.aload_n 2, 1) := by decide +kernel
theorem dJ3_checkIndex_8e157_10 : decode cJ3_checkIndex_8e157 10 = .ok (.iload_n 0, 1) := by decide +kernel
theorem dJ3_checkIndex_8e157_11 : decode cJ3_checkIndex_8e157 11 = .ok (.iload_n 1, 1) := by decide +kernel
theorem dJ3_checkIndex_8e157_12 : decode cJ3_checkIndex_8e157 12 = .ok (.invokestatic 95, 3) := by decide +kernel
theorem dJ3_checkIndex_8e157_15 : decode cJ3_checkIndex_8e157 15 = .ok (.athrow, 1) := by decide +kernel
theorem dJ3_checkIndex_8e157_16 : decode cJ3_checkIndex_8e157 16 = .ok (.iload_n 0, 1) := by decide +kernel
theorem dJ3_checkIndex_8e157_17 : decode cJ3_checkIndex_8e157 17 = .ok (.ireturn, 1) := by decide +kernel
theorem dJ3_checkFromToIndex_8c36e_0 : decode cJ3_checkFromToIndex_8c36e 0 = .ok (.iload_n 0, 1) := by decide +kernel
theorem dJ3_checkFromToIndex_8c36e_1 : decode cJ3_checkFromToIndex_8c36e 1 = .ok (.ifCond .lt 13, 3) := by decide +kernel
theorem dJ3_checkFromToIndex_8c36e_4 : decode cJ3_checkFromToIndex_8c36e 4 = .ok (.iload_n 0, 1) := by decide +kernel
theorem dJ3_checkFromToIndex_8c36e_5 : decode cJ3_checkFromToIndex_8c36e 5 = .ok (.iload_n 1, 1) := by decide +kernel
theorem dJ3_checkFromToIndex_8c36e_6 : decode cJ3_checkFromToIndex_8c36e 6 = .ok (.if_icmp .gt 8, 3) := by decide +kernel
theorem dJ3_checkFromToIndex_8c36e_9 : decode cJ3_checkFromToIndex_8c36e 9 = .ok (.iload_n 1, 1) := by decide +kernel
theorem dJ3_checkFromToIndex_8c36e_10 : decode cJ3_checkFromToIndex_8c36e 10 = .ok (.iload_n 2, 1) := by decide +kernel
theorem dJ3_checkFromToIndex_8c36e_11 : decode cJ3_checkFromToIndex_8c36e 11 = .ok (.if_icmp .le 11, 3) := by decide +kernel
theorem dJ3_checkFromToIndex_8c36e_14 : decode cJ3_checkFromToIndex_8c36e 14 = .ok (.aload_n 3, 1) := by decide +kernel
theorem dJ3_checkFromToIndex_8c36e_15 : decode cJ3_checkFromToIndex_8c36e 15 = .ok (.iload_n 0, 1) := by decide +kernel
theorem dJ3_checkFromToIndex_8c36e_16 : decode cJ3_checkFromToIndex_8c36e 16 = .ok (.iload_n 1, 1) := by decide +kernel
theorem dJ3_checkFromToIndex_8c36e_17 : decode cJ3_checkFromToIndex_8c36e 17 = .ok (.iload_n 2, 1) := by decide +kernel
theorem dJ3_checkFromToIndex_8c36e_18 : decode cJ3_checkFromToIndex_8c36e 18 = .ok (.invokestatic 99, 3) := by decide +kernel
theorem dJ3_checkFromToIndex_8c36e_21 : decode cJ3_checkFromToIndex_8c36e 21 = .ok (.athrow, 1) := by decide +kernel
theorem dJ3_checkFromToIndex_8c36e_22 : decode cJ3_checkFromToIndex_8c36e 22 = .ok (.iload_n 0, 1) := by decide +kernel
theorem dJ3_checkFromToIndex_8c36e_23 : decode cJ3_checkFromToIndex_8c36e 23 = .ok (.ireturn, 1) := by decide +kernel
theorem dJ3_checkFromIndexSize_8c36e_0 : decode cJ3_checkFromIndexSize_8c36e 0 = .ok (.iload_n 2, 1) := by decide +kernel
theorem dJ3_checkFromIndexSize_8c36e_1 : decode cJ3_checkFromIndexSize_8c36e 1 = .ok (.iload_n 0, 1) := by decide +kernel
theorem dJ3_checkFromIndexSize_8c36e_2 : decode cJ3_checkFromIndexSize_8c36e 2 = .ok (.ior, 1) := by decide +kernel
theorem dJ3_checkFromIndexSize_8c36e_3 : decode cJ3_checkFromIndexSize_8c36e 3 = .ok (.iload_n 1, 1) := by decide +kernel
theorem dJ3_checkFromIndexSize_8c36e_4 : decode cJ3_checkFromIndexSize_8c36e 4 = .ok (.ior, 1) := by decide +kernel
theorem dJ3_checkFromIndexSize_8c36e_5 : decode cJ3_checkFromIndexSize_8c36e 5 = .ok (.ifCond .lt 10, 3) := by decide +kernel
theorem dJ3_checkFromIndexSize_8c36e_8 : decode cJ3_checkFromIndexSize_8c36e 8 = .ok (.iload_n 1, 1) := by decide +kernel
theorem dJ3_checkFromIndexSize_8c36e_9 : decode cJ3_checkFromIndexSize_8c36e 9 = .ok (.iload_n 2, 1) := by decide +kernel
theorem dJ3_checkFromIndexSize_8c36e_10 : decode cJ3_checkFromIndexSize_8c36e 10 = .ok (.iload_n 0, 1) := by decide +kernel
theorem dJ3_checkFromIndexSize_8c36e_11 : decode cJ3_checkFromIndexSize_8c36e 11 = .ok (.isub, 1) := by decide +kernel
theorem dJ3_checkFromIndexSize_8c36e_12 : decode cJ3_checkFromIndexSize_8c36e 12 = .ok (.if_icmp .le 11, 3) := by decide +kernel
theorem dJ3_checkFromIndexSize_8c36e_15 : decode cJ3_checkFromIndexSize_8c36e 15 = .ok (.aload_n 3, 1) := by decide +kernel
theorem dJ3_checkFromIndexSize_8c36e_16 : decode cJ3_checkFromIndexSize_8c36e 16 = .ok (.iload_n 0, 1) := by decide +kernel
theorem dJ3_checkFromIndexSize_8c36e_17 : decode cJ3_checkFromIndexSize_8c36e 17 = .ok (.iload_n 1, 1) := by decide +kernel
theorem dJ3_checkFromIndexSize_8c36e_18 : decode cJ3_checkFromIndexSize_8c36e 18 = .ok (.iload_n 2, 1) := by decide +kernel
theorem dJ3_checkFromIndexSize_8c36e_19 : decode cJ3_checkFromIndexSize_8c36e 19 = .ok (.invokestatic 103, 3) := by decide +kernel
theorem dJ3_checkFromIndexSize_8c36e_22 : decode cJ3_checkFromIndexSize_8c36e 22 = .ok (.athrow, 1) := by decide +kernel
theorem dJ3_checkFromIndexSize_8c36e_23 : decode cJ3_checkFromIndexSize_8c36e 23 = .ok (.iload_n 0, 1) := by decide +kernel
theorem dJ3_checkFromIndexSize_8c36e_24 : decode cJ3_checkFromIndexSize_8c36e 24 = .ok (.ireturn, 1) := by decide +kernel
theorem dL_ground_0 : decode cL_ground 0 = .ok (.aload 4, 2) := by decide +kernel
theorem dL_ground_2 : decode cL_ground 2 = .ok (.iconst 0, 1) := by decide +kernel
theorem dL_ground_3 : decode cL_ground 3 = .ok (.aload_n 0, 1) := by decide +kernel
theorem dL_ground_4 : decode cL_ground 4 = .ok (.iload_n 1, 1) := by decide +kernel
theorem dL_ground_5 : decode cL_ground 5 = .ok (.iload_n 2, 1) := by decide +kernel
theorem dL_ground_6 : decode cL_ground 6 = .ok (.iload_n 3, 1) := by decide +kernel
theorem dL_ground_7 : decode cL_ground 7 = .ok (.invokevirtual 7, 3) := by decide +kernel
theorem dL_ground_10 : decode cL_ground 10 = .ok (.i2l, 1) := by decide +kernel
theorem dL_ground_11 : decode cL_ground 11 = .ok (.lastore, 1) := by decide +kernel
theorem dL_ground_12 : decode cL_ground 12 = .ok (.goto 11, 3) := by decide +kernel
theorem dL_ground_15 : decode cL_ground 15 = .ok (.astore 5, 2) := by decide +kernel
theorem dL_ground_17 : decode cL_ground 17 = .ok (.iconst 1, 1) := by decide +kernel
theorem dL_ground_18 : decode cL_ground 18 = .ok (.ireturn, 1) := by decide +kernel
theorem dL_ground_19 : decode cL_ground 19 = .ok (.astore 5, 2) := by decide +kernel
theorem dL_ground_21 : decode cL_ground 21 = .ok (.iconst 2, 1) := by decide +kernel
theorem dL_ground_22 : decode cL_ground 22 = .ok (.ireturn, 1) := by decide +kernel
theorem dL_ground_23 : decode cL_ground 23 = .ok (.iconst 0, 1) := by decide +kernel
theorem dL_ground_24 : decode cL_ground 24 = .ok (.ireturn, 1) := by decide +kernel
theorem dL_reference_0 : decode cL_reference 0 = .ok (.aload 4, 2) := by decide +kernel
theorem dL_reference_2 : decode cL_reference 2 = .ok (.iconst 0, 1) := by decide +kernel
theorem dL_reference_3 : decode cL_reference 3 = .ok (.aload_n 0, 1) := by decide +kernel
theorem dL_reference_4 : decode cL_reference 4 = .ok (.iload_n 1, 1) := by decide +kernel
theorem dL_reference_5 : decode cL_reference 5 = .ok (.iload_n 2, 1) := by decide +kernel
theorem dL_reference_6 : decode cL_reference 6 = .ok (.iload_n 3, 1) := by decide +kernel
theorem dL_reference_7 : decode cL_reference 7 = .ok (.invokevirtual 17, 3) := by decide +kernel
theorem dL_reference_10 : decode cL_reference 10 = .ok (.i2l, 1) := by decide +kernel
theorem dL_reference_11 : decode cL_reference 11 = .ok (.lastore, 1) := by decide +kernel
theorem dL_reference_12 : decode cL_reference 12 = .ok (.goto 11, 3) := by decide +kernel
theorem dL_reference_15 : decode cL_reference 15 = .ok (.astore 5, 2) := by decide +kernel
theorem dL_reference_17 : decode cL_reference 17 = .ok (.iconst 1, 1) := by decide +kernel
theorem dL_reference_18 : decode cL_reference 18 = .ok (.ireturn, 1) := by decide +kernel
theorem dL_reference_19 : decode cL_reference 19 = .ok (.astore 5, 2) := by decide +kernel
theorem dL_reference_21 : decode cL_reference 21 = .ok (.iconst 2, 1) := by decide +kernel
theorem dL_reference_22 : decode cL_reference 22 = .ok (.ireturn, 1) := by decide +kernel
theorem dL_reference_23 : decode cL_reference 23 = .ok (.iconst 0, 1) := by decide +kernel
theorem dL_reference_24 : decode cL_reference 24 = .ok (.ireturn, 1) := by decide +kernel
theorem dL_depth_0 : decode cL_depth 0 = .ok (.aload 4, 2) := by decide +kernel
theorem dL_depth_2 : decode cL_depth 2 = .ok (.iconst 0, 1) := by decide +kernel
theorem dL_depth_3 : decode cL_depth 3 = .ok (.aload_n 0, 1) := by decide +kernel
theorem dL_depth_4 : decode cL_depth 4 = .ok (.iload_n 1, 1) := by decide +kernel
theorem dL_depth_5 : decode cL_depth 5 = .ok (.iload_n 2, 1) := by decide +kernel
theorem dL_depth_6 : decode cL_depth 6 = .ok (.iload_n 3, 1) := by decide +kernel
theorem dL_depth_7 : decode cL_depth 7 = .ok (.invokevirtual 20, 3) := by decide +kernel
theorem dL_depth_10 : decode cL_depth 10 = .ok (.i2l, 1) := by decide +kernel
theorem dL_depth_11 : decode cL_depth 11 = .ok (.lastore, 1) := by decide +kernel
theorem dL_depth_12 : decode cL_depth 12 = .ok (.goto 11, 3) := by decide +kernel
theorem dL_depth_15 : decode cL_depth 15 = .ok (.astore 5, 2) := by decide +kernel
theorem dL_depth_17 : decode cL_depth 17 = .ok (.iconst 1, 1) := by decide +kernel
theorem dL_depth_18 : decode cL_depth 18 = .ok (.ireturn, 1) := by decide +kernel
theorem dL_depth_19 : decode cL_depth 19 = .ok (.astore 5, 2) := by decide +kernel
theorem dL_depth_21 : decode cL_depth 21 = .ok (.iconst 2, 1) := by decide +kernel
theorem dL_depth_22 : decode cL_depth 22 = .ok (.ireturn, 1) := by decide +kernel
theorem dL_depth_23 : decode cL_depth 23 = .ok (.iconst 0, 1) := by decide +kernel
theorem dL_depth_24 : decode cL_depth 24 = .ok (.ireturn, 1) := by decide +kernel
theorem dL_water_0 : decode cL_water 0 = .ok (.aload 4, 2) := by decide +kernel
theorem dL_water_2 : decode cL_water 2 = .ok (.iconst 0, 1) := by decide +kernel
theorem dL_water_3 : decode cL_water 3 = .ok (.aload_n 0, 1) := by decide +kernel
theorem dL_water_4 : decode cL_water 4 = .ok (.iload_n 1, 1) := by decide +kernel
theorem dL_water_5 : decode cL_water 5 = .ok (.iload_n 2, 1) := by decide +kernel
theorem dL_water_6 : decode cL_water 6 = .ok (.iload_n 3, 1) := by decide +kernel
theorem dL_water_7 : decode cL_water 7 = .ok (.invokevirtual 24, 3) := by decide +kernel
theorem dL_water_10 : decode cL_water 10 = .ok (.i2l, 1) := by decide +kernel
theorem dL_water_11 : decode cL_water 11 = .ok (.lastore, 1) := by decide +kernel
theorem dL_water_12 : decode cL_water 12 = .ok (.goto 11, 3) := by decide +kernel
theorem dL_water_15 : decode cL_water 15 = .ok (.astore 5, 2) := by decide +kernel
theorem dL_water_17 : decode cL_water 17 = .ok (.iconst 1, 1) := by decide +kernel
theorem dL_water_18 : decode cL_water 18 = .ok (.ireturn, 1) := by decide +kernel
theorem dL_water_19 : decode cL_water 19 = .ok (.astore 5, 2) := by decide +kernel
theorem dL_water_21 : decode cL_water 21 = .ok (.iconst 2, 1) := by decide +kernel
theorem dL_water_22 : decode cL_water 22 = .ok (.ireturn, 1) := by decide +kernel
theorem dL_water_23 : decode cL_water 23 = .ok (.iconst 0, 1) := by decide +kernel
theorem dL_water_24 : decode cL_water 24 = .ok (.ireturn, 1) := by decide +kernel
theorem dL_bend_0 : decode cL_bend 0 = .ok (.aload 5, 2) := by decide +kernel
theorem dL_bend_2 : decode cL_bend 2 = .ok (.iconst 0, 1) := by decide +kernel
theorem dL_bend_3 : decode cL_bend 3 = .ok (.aload_n 0, 1) := by decide +kernel
theorem dL_bend_4 : decode cL_bend 4 = .ok (.iload_n 1, 1) := by decide +kernel
theorem dL_bend_5 : decode cL_bend 5 = .ok (.iload_n 2, 1) := by decide +kernel
theorem dL_bend_6 : decode cL_bend 6 = .ok (.iload_n 3, 1) := by decide +kernel
theorem dL_bend_7 : decode cL_bend 7 = .ok (.iload 4, 2) := by decide +kernel
theorem dL_bend_9 : decode cL_bend 9 = .ok (.invokevirtual 27, 3) := by decide +kernel
theorem dL_bend_12 : decode cL_bend 12 = .ok (.i2l, 1) := by decide +kernel
theorem dL_bend_13 : decode cL_bend 13 = .ok (.lastore, 1) := by decide +kernel
theorem dL_bend_14 : decode cL_bend 14 = .ok (.goto 11, 3) := by decide +kernel
theorem dL_bend_17 : decode cL_bend 17 = .ok (.astore 6, 2) := by decide +kernel
theorem dL_bend_19 : decode cL_bend 19 = .ok (.iconst 1, 1) := by decide +kernel
theorem dL_bend_20 : decode cL_bend 20 = .ok (.ireturn, 1) := by decide +kernel
theorem dL_bend_21 : decode cL_bend 21 = .ok (.astore 6, 2) := by decide +kernel
theorem dL_bend_23 : decode cL_bend 23 = .ok (.iconst 2, 1) := by decide +kernel
theorem dL_bend_24 : decode cL_bend 24 = .ok (.ireturn, 1) := by decide +kernel
theorem dL_bend_25 : decode cL_bend 25 = .ok (.iconst 0, 1) := by decide +kernel
theorem dL_bend_26 : decode cL_bend 26 = .ok (.ireturn, 1) := by decide +kernel
theorem dL_bore_0 : decode cL_bore 0 = .ok (.aload_n 3, 1) := by decide +kernel
theorem dL_bore_1 : decode cL_bore 1 = .ok (.iconst 0, 1) := by decide +kernel
theorem dL_bore_2 : decode cL_bore 2 = .ok (.aload_n 0, 1) := by decide +kernel
theorem dL_bore_3 : decode cL_bore 3 = .ok (.iload_n 1, 1) := by decide +kernel
theorem dL_bore_4 : decode cL_bore 4 = .ok (.iload_n 2, 1) := by decide +kernel
theorem dL_bore_5 : decode cL_bore 5 = .ok (.invokevirtual 31, 3) := by decide +kernel
theorem dL_bore_8 : decode cL_bore 8 = .ok (.i2l, 1) := by decide +kernel
theorem dL_bore_9 : decode cL_bore 9 = .ok (.lastore, 1) := by decide +kernel
theorem dL_bore_10 : decode cL_bore 10 = .ok (.goto 11, 3) := by decide +kernel
theorem dL_bore_13 : decode cL_bore 13 = .ok (.astore 4, 2) := by decide +kernel
theorem dL_bore_15 : decode cL_bore 15 = .ok (.iconst 1, 1) := by decide +kernel
theorem dL_bore_16 : decode cL_bore 16 = .ok (.ireturn, 1) := by decide +kernel
theorem dL_bore_17 : decode cL_bore 17 = .ok (.astore 4, 2) := by decide +kernel
theorem dL_bore_19 : decode cL_bore 19 = .ok (.iconst 2, 1) := by decide +kernel
theorem dL_bore_20 : decode cL_bore 20 = .ok (.ireturn, 1) := by decide +kernel
theorem dL_bore_21 : decode cL_bore 21 = .ok (.iconst 0, 1) := by decide +kernel
theorem dL_bore_22 : decode cL_bore 22 = .ok (.ireturn, 1) := by decide +kernel
theorem dL_guess_0 : decode cL_guess 0 = .ok (.aload_n 2, 1) := by decide +kernel
theorem dL_guess_1 : decode cL_guess 1 = .ok (.iconst 0, 1) := by decide +kernel
theorem dL_guess_2 : decode cL_guess 2 = .ok (.aload_n 0, 1) := by decide +kernel
theorem dL_guess_3 : decode cL_guess 3 = .ok (.iload_n 1, 1) := by decide +kernel
theorem dL_guess_4 : decode cL_guess 4 = .ok (.invokevirtual 37, 3) := by decide +kernel
theorem dL_guess_7 : decode cL_guess 7 = .ok (.i2l, 1) := by decide +kernel
theorem dL_guess_8 : decode cL_guess 8 = .ok (.lastore, 1) := by decide +kernel
theorem dL_guess_9 : decode cL_guess 9 = .ok (.goto 6, 3) := by decide +kernel
theorem dL_guess_12 : decode cL_guess 12 = .ok (.astore_n 3, 1) := by decide +kernel
theorem dL_guess_13 : decode cL_guess 13 = .ok (.iconst 1, 1) := by decide +kernel
theorem dL_guess_14 : decode cL_guess 14 = .ok (.ireturn, 1) := by decide +kernel
theorem dL_guess_15 : decode cL_guess 15 = .ok (.iconst 0, 1) := by decide +kernel
theorem dL_guess_16 : decode cL_guess 16 = .ok (.ireturn, 1) := by decide +kernel
theorem dL_doubt_0 : decode cL_doubt 0 = .ok (.aload_n 2, 1) := by decide +kernel
theorem dL_doubt_1 : decode cL_doubt 1 = .ok (.iconst 0, 1) := by decide +kernel
theorem dL_doubt_2 : decode cL_doubt 2 = .ok (.aload_n 0, 1) := by decide +kernel
theorem dL_doubt_3 : decode cL_doubt 3 = .ok (.iload_n 1, 1) := by decide +kernel
theorem dL_doubt_4 : decode cL_doubt 4 = .ok (.invokevirtual 41, 3) := by decide +kernel
theorem dL_doubt_7 : decode cL_doubt 7 = .ok (.i2l, 1) := by decide +kernel
theorem dL_doubt_8 : decode cL_doubt 8 = .ok (.lastore, 1) := by decide +kernel
theorem dL_doubt_9 : decode cL_doubt 9 = .ok (.goto 6, 3) := by decide +kernel
theorem dL_doubt_12 : decode cL_doubt 12 = .ok (.astore_n 3, 1) := by decide +kernel
theorem dL_doubt_13 : decode cL_doubt 13 = .ok (.iconst 1, 1) := by decide +kernel
theorem dL_doubt_14 : decode cL_doubt 14 = .ok (.ireturn, 1) := by decide +kernel
theorem dL_doubt_15 : decode cL_doubt 15 = .ok (.iconst 0, 1) := by decide +kernel
theorem dL_doubt_16 : decode cL_doubt 16 = .ok (.ireturn, 1) := by decide +kernel
theorem dL_pressure_0 : decode cL_pressure 0 = .ok (.aload_n 2, 1) := by decide +kernel
theorem dL_pressure_1 : decode cL_pressure 1 = .ok (.iconst 0, 1) := by decide +kernel
theorem dL_pressure_2 : decode cL_pressure 2 = .ok (.aload_n 0, 1) := by decide +kernel
theorem dL_pressure_3 : decode cL_pressure 3 = .ok (.iload_n 1, 1) := by decide +kernel
theorem dL_pressure_4 : decode cL_pressure 4 = .ok (.invokevirtual 45, 3) := by decide +kernel
theorem dL_pressure_7 : decode cL_pressure 7 = .ok (.i2l, 1) := by decide +kernel
theorem dL_pressure_8 : decode cL_pressure 8 = .ok (.lastore, 1) := by decide +kernel
theorem dL_pressure_9 : decode cL_pressure 9 = .ok (.goto 6, 3) := by decide +kernel
theorem dL_pressure_12 : decode cL_pressure 12 = .ok (.astore_n 3, 1) := by decide +kernel
theorem dL_pressure_13 : decode cL_pressure 13 = .ok (.iconst 1, 1) := by decide +kernel
theorem dL_pressure_14 : decode cL_pressure 14 = .ok (.ireturn, 1) := by decide +kernel
theorem dL_pressure_15 : decode cL_pressure 15 = .ok (.iconst 0, 1) := by decide +kernel
theorem dL_pressure_16 : decode cL_pressure 16 = .ok (.ireturn, 1) := by decide +kernel
theorem dL_lower_0 : decode cL_lower 0 = .ok (.aload_n 2, 1) := by decide +kernel
theorem dL_lower_1 : decode cL_lower 1 = .ok (.iconst 0, 1) := by decide +kernel
theorem dL_lower_2 : decode cL_lower 2 = .ok (.aload_n 0, 1) := by decide +kernel
theorem dL_lower_3 : decode cL_lower 3 = .ok (.iload_n 1, 1) := by decide +kernel
theorem dL_lower_4 : decode cL_lower 4 = .ok (.invokevirtual 48, 3) := by decide +kernel
theorem dL_lower_7 : decode cL_lower 7 = .ok (.i2l, 1) := by decide +kernel
theorem dL_lower_8 : decode cL_lower 8 = .ok (.lastore, 1) := by decide +kernel
theorem dL_lower_9 : decode cL_lower 9 = .ok (.goto 6, 3) := by decide +kernel
theorem dL_lower_12 : decode cL_lower 12 = .ok (.astore_n 3, 1) := by decide +kernel
theorem dL_lower_13 : decode cL_lower 13 = .ok (.iconst 1, 1) := by decide +kernel
theorem dL_lower_14 : decode cL_lower 14 = .ok (.ireturn, 1) := by decide +kernel
theorem dL_lower_15 : decode cL_lower 15 = .ok (.iconst 0, 1) := by decide +kernel
theorem dL_lower_16 : decode cL_lower 16 = .ok (.ireturn, 1) := by decide +kernel
theorem dL_upper_0 : decode cL_upper 0 = .ok (.aload_n 2, 1) := by decide +kernel
theorem dL_upper_1 : decode cL_upper 1 = .ok (.iconst 0, 1) := by decide +kernel
theorem dL_upper_2 : decode cL_upper 2 = .ok (.aload_n 0, 1) := by decide +kernel
theorem dL_upper_3 : decode cL_upper 3 = .ok (.iload_n 1, 1) := by decide +kernel
theorem dL_upper_4 : decode cL_upper 4 = .ok (.invokevirtual 51, 3) := by decide +kernel
theorem dL_upper_7 : decode cL_upper 7 = .ok (.i2l, 1) := by decide +kernel
theorem dL_upper_8 : decode cL_upper 8 = .ok (.lastore, 1) := by decide +kernel
theorem dL_upper_9 : decode cL_upper 9 = .ok (.goto 6, 3) := by decide +kernel
theorem dL_upper_12 : decode cL_upper 12 = .ok (.astore_n 3, 1) := by decide +kernel
theorem dL_upper_13 : decode cL_upper 13 = .ok (.iconst 1, 1) := by decide +kernel
theorem dL_upper_14 : decode cL_upper 14 = .ok (.ireturn, 1) := by decide +kernel
theorem dL_upper_15 : decode cL_upper 15 = .ok (.iconst 0, 1) := by decide +kernel
theorem dL_upper_16 : decode cL_upper 16 = .ok (.ireturn, 1) := by decide +kernel
theorem dL_worn_0 : decode cL_worn 0 = .ok (.aload_n 2, 1) := by decide +kernel
theorem dL_worn_1 : decode cL_worn 1 = .ok (.iconst 0, 1) := by decide +kernel
theorem dL_worn_2 : decode cL_worn 2 = .ok (.aload_n 0, 1) := by decide +kernel
theorem dL_worn_3 : decode cL_worn 3 = .ok (.iload_n 1, 1) := by decide +kernel
theorem dL_worn_4 : decode cL_worn 4 = .ok (.invokevirtual 54, 3) := by decide +kernel
theorem dL_worn_7 : decode cL_worn 7 = .ok (.i2l, 1) := by decide +kernel
theorem dL_worn_8 : decode cL_worn 8 = .ok (.lastore, 1) := by decide +kernel
theorem dL_worn_9 : decode cL_worn 9 = .ok (.goto 6, 3) := by decide +kernel
theorem dL_worn_12 : decode cL_worn 12 = .ok (.astore_n 3, 1) := by decide +kernel
theorem dL_worn_13 : decode cL_worn 13 = .ok (.iconst 1, 1) := by decide +kernel
theorem dL_worn_14 : decode cL_worn 14 = .ok (.ireturn, 1) := by decide +kernel
theorem dL_worn_15 : decode cL_worn 15 = .ok (.iconst 0, 1) := by decide +kernel
theorem dL_worn_16 : decode cL_worn 16 = .ok (.ireturn, 1) := by decide +kernel
theorem dL_change_0 : decode cL_change 0 = .ok (.aload_n 2, 1) := by decide +kernel
theorem dL_change_1 : decode cL_change 1 = .ok (.iconst 0, 1) := by decide +kernel
theorem dL_change_2 : decode cL_change 2 = .ok (.aload_n 0, 1) := by decide +kernel
theorem dL_change_3 : decode cL_change 3 = .ok (.iload_n 1, 1) := by decide +kernel
theorem dL_change_4 : decode cL_change 4 = .ok (.invokevirtual 59, 3) := by decide +kernel
theorem dL_change_7 : decode cL_change 7 = .ok (.i2l, 1) := by decide +kernel
theorem dL_change_8 : decode cL_change 8 = .ok (.lastore, 1) := by decide +kernel
theorem dL_change_9 : decode cL_change 9 = .ok (.goto 12, 3) := by decide +kernel
theorem dL_change_12 : decode cL_change 12 = .ok (.astore_n 3, 1) := by decide +kernel
theorem dL_change_13 : decode cL_change 13 = .ok (.iconst 1, 1) := by decide +kernel
theorem dL_change_14 : decode cL_change 14 = .ok (.ireturn, 1) := by decide +kernel
theorem dL_change_15 : decode cL_change 15 = .ok (.astore_n 3, 1) := by decide +kernel
theorem dL_change_16 : decode cL_change 16 = .ok (.iconst 2, 1) := by decide +kernel
theorem dL_change_17 : decode cL_change 17 = .ok (.ireturn, 1) := by decide +kernel
theorem dL_change_18 : decode cL_change 18 = .ok (.astore_n 3, 1) := by decide +kernel
theorem dL_change_19 : decode cL_change 19 = .ok (.iconst 3, 1) := by decide +kernel
theorem dL_change_20 : decode cL_change 20 = .ok (.ireturn, 1) := by decide +kernel
theorem dL_change_21 : decode cL_change 21 = .ok (.iconst 0, 1) := by decide +kernel
theorem dL_change_22 : decode cL_change 22 = .ok (.ireturn, 1) := by decide +kernel
theorem dL_steer_0 : decode cL_steer 0 = .ok (.aload_n 3, 1) := by decide +kernel
theorem dL_steer_1 : decode cL_steer 1 = .ok (.iconst 0, 1) := by decide +kernel
theorem dL_steer_2 : decode cL_steer 2 = .ok (.aload_n 0, 1) := by decide +kernel
theorem dL_steer_3 : decode cL_steer 3 = .ok (.iload_n 1, 1) := by decide +kernel
theorem dL_steer_4 : decode cL_steer 4 = .ok (.iload_n 2, 1) := by decide +kernel
theorem dL_steer_5 : decode cL_steer 5 = .ok (.invokevirtual 62, 3) := by decide +kernel
theorem dL_steer_8 : decode cL_steer 8 = .ok (.i2l, 1) := by decide +kernel
theorem dL_steer_9 : decode cL_steer 9 = .ok (.lastore, 1) := by decide +kernel
theorem dL_steer_10 : decode cL_steer 10 = .ok (.goto 7, 3) := by decide +kernel
theorem dL_steer_13 : decode cL_steer 13 = .ok (.astore 4, 2) := by decide +kernel
theorem dL_steer_15 : decode cL_steer 15 = .ok (.iconst 1, 1) := by decide +kernel
theorem dL_steer_16 : decode cL_steer 16 = .ok (.ireturn, 1) := by decide +kernel
theorem dL_steer_17 : decode cL_steer 17 = .ok (.iconst 0, 1) := by decide +kernel
theorem dL_steer_18 : decode cL_steer 18 = .ok (.ireturn, 1) := by decide +kernel
theorem dL_bars_0 : decode cL_bars 0 = .ok (.aload_n 2, 1) := by decide +kernel
theorem dL_bars_1 : decode cL_bars 1 = .ok (.iconst 0, 1) := by decide +kernel
theorem dL_bars_2 : decode cL_bars 2 = .ok (.aload_n 0, 1) := by decide +kernel
theorem dL_bars_3 : decode cL_bars 3 = .ok (.iload_n 1, 1) := by decide +kernel
theorem dL_bars_4 : decode cL_bars 4 = .ok (.invokevirtual 66, 3) := by decide +kernel
theorem dL_bars_7 : decode cL_bars 7 = .ok (.i2l, 1) := by decide +kernel
theorem dL_bars_8 : decode cL_bars 8 = .ok (.lastore, 1) := by decide +kernel
theorem dL_bars_9 : decode cL_bars 9 = .ok (.goto 6, 3) := by decide +kernel
theorem dL_bars_12 : decode cL_bars 12 = .ok (.astore_n 3, 1) := by decide +kernel
theorem dL_bars_13 : decode cL_bars 13 = .ok (.iconst 1, 1) := by decide +kernel
theorem dL_bars_14 : decode cL_bars 14 = .ok (.ireturn, 1) := by decide +kernel
theorem dL_bars_15 : decode cL_bars 15 = .ok (.iconst 0, 1) := by decide +kernel
theorem dL_bars_16 : decode cL_bars 16 = .ok (.ireturn, 1) := by decide +kernel
theorem dL_advance_0 : decode cL_advance 0 = .ok (.aload_n 2, 1) := by decide +kernel
theorem dL_advance_1 : decode cL_advance 1 = .ok (.iconst 0, 1) := by decide +kernel
theorem dL_advance_2 : decode cL_advance 2 = .ok (.aload_n 0, 1) := by decide +kernel
theorem dL_advance_3 : decode cL_advance 3 = .ok (.iload_n 1, 1) := by decide +kernel
theorem dL_advance_4 : decode cL_advance 4 = .ok (.invokevirtual 69, 3) := by decide +kernel
theorem dL_advance_7 : decode cL_advance 7 = .ok (.i2l, 1) := by decide +kernel
theorem dL_advance_8 : decode cL_advance 8 = .ok (.lastore, 1) := by decide +kernel
theorem dL_advance_9 : decode cL_advance 9 = .ok (.goto 12, 3) := by decide +kernel
theorem dL_advance_12 : decode cL_advance 12 = .ok (.astore_n 3, 1) := by decide +kernel
theorem dL_advance_13 : decode cL_advance 13 = .ok (.iconst 1, 1) := by decide +kernel
theorem dL_advance_14 : decode cL_advance 14 = .ok (.ireturn, 1) := by decide +kernel
theorem dL_advance_15 : decode cL_advance 15 = .ok (.astore_n 3, 1) := by decide +kernel
theorem dL_advance_16 : decode cL_advance 16 = .ok (.iconst 2, 1) := by decide +kernel
theorem dL_advance_17 : decode cL_advance 17 = .ok (.ireturn, 1) := by decide +kernel
theorem dL_advance_18 : decode cL_advance 18 = .ok (.astore_n 3, 1) := by decide +kernel
theorem dL_advance_19 : decode cL_advance 19 = .ok (.iconst 3, 1) := by decide +kernel
theorem dL_advance_20 : decode cL_advance 20 = .ok (.ireturn, 1) := by decide +kernel
theorem dL_advance_21 : decode cL_advance 21 = .ok (.iconst 0, 1) := by decide +kernel
theorem dL_advance_22 : decode cL_advance 22 = .ok (.ireturn, 1) := by decide +kernel
theorem dL_off_0 : decode cL_off 0 = .ok (.aload_n 3, 1) := by decide +kernel
theorem dL_off_1 : decode cL_off 1 = .ok (.iconst 0, 1) := by decide +kernel
theorem dL_off_2 : decode cL_off 2 = .ok (.aload_n 0, 1) := by decide +kernel
theorem dL_off_3 : decode cL_off 3 = .ok (.iload_n 1, 1) := by decide +kernel
theorem dL_off_4 : decode cL_off 4 = .ok (.iload_n 2, 1) := by decide +kernel
theorem dL_off_5 : decode cL_off 5 = .ok (.invokevirtual 72, 3) := by decide +kernel
theorem dL_off_8 : decode cL_off 8 = .ok (.i2l, 1) := by decide +kernel
theorem dL_off_9 : decode cL_off 9 = .ok (.lastore, 1) := by decide +kernel
theorem dL_off_10 : decode cL_off 10 = .ok (.goto 7, 3) := by decide +kernel
theorem dL_off_13 : decode cL_off 13 = .ok (.astore 4, 2) := by decide +kernel
theorem dL_off_15 : decode cL_off 15 = .ok (.iconst 1, 1) := by decide +kernel
theorem dL_off_16 : decode cL_off 16 = .ok (.ireturn, 1) := by decide +kernel
theorem dL_off_17 : decode cL_off 17 = .ok (.iconst 0, 1) := by decide +kernel
theorem dL_off_18 : decode cL_off 18 = .ok (.ireturn, 1) := by decide +kernel
theorem dL_rotation_0 : decode cL_rotation 0 = .ok (.aload_n 2, 1) := by decide +kernel
theorem dL_rotation_1 : decode cL_rotation 1 = .ok (.iconst 0, 1) := by decide +kernel
theorem dL_rotation_2 : decode cL_rotation 2 = .ok (.aload_n 0, 1) := by decide +kernel
theorem dL_rotation_3 : decode cL_rotation 3 = .ok (.iload_n 1, 1) := by decide +kernel
theorem dL_rotation_4 : decode cL_rotation 4 = .ok (.invokevirtual 76, 3) := by decide +kernel
theorem dL_rotation_7 : decode cL_rotation 7 = .ok (.i2l, 1) := by decide +kernel
theorem dL_rotation_8 : decode cL_rotation 8 = .ok (.lastore, 1) := by decide +kernel
theorem dL_rotation_9 : decode cL_rotation 9 = .ok (.goto 6, 3) := by decide +kernel
theorem dL_rotation_12 : decode cL_rotation 12 = .ok (.astore_n 3, 1) := by decide +kernel
theorem dL_rotation_13 : decode cL_rotation 13 = .ok (.iconst 1, 1) := by decide +kernel
theorem dL_rotation_14 : decode cL_rotation 14 = .ok (.ireturn, 1) := by decide +kernel
theorem dL_rotation_15 : decode cL_rotation 15 = .ok (.iconst 0, 1) := by decide +kernel
theorem dL_rotation_16 : decode cL_rotation 16 = .ok (.ireturn, 1) := by decide +kernel
theorem dL_plan_0 : decode cL_plan 0 = .ok (.aload_n 2, 1) := by decide +kernel
theorem dL_plan_1 : decode cL_plan 1 = .ok (.iconst 0, 1) := by decide +kernel
theorem dL_plan_2 : decode cL_plan 2 = .ok (.aload_n 0, 1) := by decide +kernel
theorem dL_plan_3 : decode cL_plan 3 = .ok (.iload_n 1, 1) := by decide +kernel
theorem dL_plan_4 : decode cL_plan 4 = .ok (.invokevirtual 79, 3) := by decide +kernel
theorem dL_plan_7 : decode cL_plan 7 = .ok (.i2l, 1) := by decide +kernel
theorem dL_plan_8 : decode cL_plan 8 = .ok (.lastore, 1) := by decide +kernel
theorem dL_plan_9 : decode cL_plan 9 = .ok (.goto 6, 3) := by decide +kernel
theorem dL_plan_12 : decode cL_plan 12 = .ok (.astore_n 3, 1) := by decide +kernel
theorem dL_plan_13 : decode cL_plan 13 = .ok (.iconst 1, 1) := by decide +kernel
theorem dL_plan_14 : decode cL_plan 14 = .ok (.ireturn, 1) := by decide +kernel
theorem dL_plan_15 : decode cL_plan 15 = .ok (.iconst 0, 1) := by decide +kernel
theorem dL_plan_16 : decode cL_plan 16 = .ok (.ireturn, 1) := by decide +kernel
theorem dL_squares_0 : decode cL_squares 0 = .ok (.aload_n 2, 1) := by decide +kernel
theorem dL_squares_1 : decode cL_squares 1 = .ok (.iconst 0, 1) := by decide +kernel
theorem dL_squares_2 : decode cL_squares 2 = .ok (.aload_n 0, 1) := by decide +kernel
theorem dL_squares_3 : decode cL_squares 3 = .ok (.iload_n 1, 1) := by decide +kernel
theorem dL_squares_4 : decode cL_squares 4 = .ok (.invokevirtual 82, 3) := by decide +kernel
theorem dL_squares_7 : decode cL_squares 7 = .ok (.lastore, 1) := by decide +kernel
theorem dL_squares_8 : decode cL_squares 8 = .ok (.goto 6, 3) := by decide +kernel
theorem dL_squares_11 : decode cL_squares 11 = .ok (.astore_n 3, 1) := by decide +kernel
theorem dL_squares_12 : decode cL_squares 12 = .ok (.iconst 1, 1) := by decide +kernel
theorem dL_squares_13 : decode cL_squares 13 = .ok (.ireturn, 1) := by decide +kernel
theorem dL_squares_14 : decode cL_squares 14 = .ok (.iconst 0, 1) := by decide +kernel
theorem dL_squares_15 : decode cL_squares 15 = .ok (.ireturn, 1) := by decide +kernel
theorem dL_grout_0 : decode cL_grout 0 = .ok (.aload_n 3, 1) := by decide +kernel
theorem dL_grout_1 : decode cL_grout 1 = .ok (.iconst 0, 1) := by decide +kernel
theorem dL_grout_2 : decode cL_grout 2 = .ok (.aload_n 0, 1) := by decide +kernel
theorem dL_grout_3 : decode cL_grout 3 = .ok (.iload_n 1, 1) := by decide +kernel
theorem dL_grout_4 : decode cL_grout 4 = .ok (.iload_n 2, 1) := by decide +kernel
theorem dL_grout_5 : decode cL_grout 5 = .ok (.invokevirtual 86, 3) := by decide +kernel
theorem dL_grout_8 : decode cL_grout 8 = .ok (.i2l, 1) := by decide +kernel
theorem dL_grout_9 : decode cL_grout 9 = .ok (.lastore, 1) := by decide +kernel
theorem dL_grout_10 : decode cL_grout 10 = .ok (.goto 15, 3) := by decide +kernel
theorem dL_grout_13 : decode cL_grout 13 = .ok (.astore 4, 2) := by decide +kernel
theorem dL_grout_15 : decode cL_grout 15 = .ok (.iconst 1, 1) := by decide +kernel
theorem dL_grout_16 : decode cL_grout 16 = .ok (.ireturn, 1) := by decide +kernel
theorem dL_grout_17 : decode cL_grout 17 = .ok (.astore 4, 2) := by decide +kernel
theorem dL_grout_19 : decode cL_grout 19 = .ok (.iconst 2, 1) := by decide +kernel
theorem dL_grout_20 : decode cL_grout 20 = .ok (.ireturn, 1) := by decide +kernel
theorem dL_grout_21 : decode cL_grout 21 = .ok (.astore 4, 2) := by decide +kernel
theorem dL_grout_23 : decode cL_grout 23 = .ok (.iconst 3, 1) := by decide +kernel
theorem dL_grout_24 : decode cL_grout 24 = .ok (.ireturn, 1) := by decide +kernel
theorem dL_grout_25 : decode cL_grout 25 = .ok (.iconst 0, 1) := by decide +kernel
theorem dL_grout_26 : decode cL_grout 26 = .ok (.ireturn, 1) := by decide +kernel
theorem dL_lost_0 : decode cL_lost 0 = .ok (.aload_n 2, 1) := by decide +kernel
theorem dL_lost_1 : decode cL_lost 1 = .ok (.iconst 0, 1) := by decide +kernel
theorem dL_lost_2 : decode cL_lost 2 = .ok (.aload_n 0, 1) := by decide +kernel
theorem dL_lost_3 : decode cL_lost 3 = .ok (.iload_n 1, 1) := by decide +kernel
theorem dL_lost_4 : decode cL_lost 4 = .ok (.invokevirtual 89, 3) := by decide +kernel
theorem dL_lost_7 : decode cL_lost 7 = .ok (.i2l, 1) := by decide +kernel
theorem dL_lost_8 : decode cL_lost 8 = .ok (.lastore, 1) := by decide +kernel
theorem dL_lost_9 : decode cL_lost 9 = .ok (.goto 6, 3) := by decide +kernel
theorem dL_lost_12 : decode cL_lost 12 = .ok (.astore_n 3, 1) := by decide +kernel
theorem dL_lost_13 : decode cL_lost 13 = .ok (.iconst 1, 1) := by decide +kernel
theorem dL_lost_14 : decode cL_lost 14 = .ok (.ireturn, 1) := by decide +kernel
theorem dL_lost_15 : decode cL_lost 15 = .ok (.iconst 0, 1) := by decide +kernel
theorem dL_lost_16 : decode cL_lost 16 = .ok (.ireturn, 1) := by decide +kernel
theorem dL_house_0 : decode cL_house 0 = .ok (.aload 4, 2) := by decide +kernel
theorem dL_house_2 : decode cL_house 2 = .ok (.iconst 0, 1) := by decide +kernel
theorem dL_house_3 : decode cL_house 3 = .ok (.aload_n 0, 1) := by decide +kernel
theorem dL_house_4 : decode cL_house 4 = .ok (.iload_n 1, 1) := by decide +kernel
theorem dL_house_5 : decode cL_house 5 = .ok (.iload_n 2, 1) := by decide +kernel
theorem dL_house_6 : decode cL_house 6 = .ok (.iload_n 3, 1) := by decide +kernel
theorem dL_house_7 : decode cL_house 7 = .ok (.invokevirtual 92, 3) := by decide +kernel
theorem dL_house_10 : decode cL_house 10 = .ok (.i2l, 1) := by decide +kernel
theorem dL_house_11 : decode cL_house 11 = .ok (.lastore, 1) := by decide +kernel
theorem dL_house_12 : decode cL_house 12 = .ok (.goto 11, 3) := by decide +kernel
theorem dL_house_15 : decode cL_house 15 = .ok (.astore 5, 2) := by decide +kernel
theorem dL_house_17 : decode cL_house 17 = .ok (.iconst 1, 1) := by decide +kernel
theorem dL_house_18 : decode cL_house 18 = .ok (.ireturn, 1) := by decide +kernel
theorem dL_house_19 : decode cL_house 19 = .ok (.astore 5, 2) := by decide +kernel
theorem dL_house_21 : decode cL_house 21 = .ok (.iconst 2, 1) := by decide +kernel
theorem dL_house_22 : decode cL_house 22 = .ok (.ireturn, 1) := by decide +kernel
theorem dL_house_23 : decode cL_house 23 = .ok (.iconst 0, 1) := by decide +kernel
theorem dL_house_24 : decode cL_house 24 = .ok (.ireturn, 1) := by decide +kernel
theorem dL_settles_0 : decode cL_settles 0 = .ok (.aload_n 3, 1) := by decide +kernel
theorem dL_settles_1 : decode cL_settles 1 = .ok (.iconst 0, 1) := by decide +kernel
theorem dL_settles_2 : decode cL_settles 2 = .ok (.aload_n 0, 1) := by decide +kernel
theorem dL_settles_3 : decode cL_settles 3 = .ok (.iload_n 1, 1) := by decide +kernel
theorem dL_settles_4 : decode cL_settles 4 = .ok (.iload_n 2, 1) := by decide +kernel
theorem dL_settles_5 : decode cL_settles 5 = .ok (.invokevirtual 95, 3) := by decide +kernel
theorem dL_settles_8 : decode cL_settles 8 = .ok (.i2l, 1) := by decide +kernel
theorem dL_settles_9 : decode cL_settles 9 = .ok (.lastore, 1) := by decide +kernel
theorem dL_settles_10 : decode cL_settles 10 = .ok (.goto 7, 3) := by decide +kernel
theorem dL_settles_13 : decode cL_settles 13 = .ok (.astore 4, 2) := by decide +kernel
theorem dL_settles_15 : decode cL_settles 15 = .ok (.iconst 1, 1) := by decide +kernel
theorem dL_settles_16 : decode cL_settles 16 = .ok (.ireturn, 1) := by decide +kernel
theorem dL_settles_17 : decode cL_settles 17 = .ok (.iconst 0, 1) := by decide +kernel
theorem dL_settles_18 : decode cL_settles 18 = .ok (.ireturn, 1) := by decide +kernel
theorem dL_tilt_0 : decode cL_tilt 0 = .ok (.aload_n 2, 1) := by decide +kernel
theorem dL_tilt_1 : decode cL_tilt 1 = .ok (.iconst 0, 1) := by decide +kernel
theorem dL_tilt_2 : decode cL_tilt 2 = .ok (.aload_n 0, 1) := by decide +kernel
theorem dL_tilt_3 : decode cL_tilt 3 = .ok (.iload_n 1, 1) := by decide +kernel
theorem dL_tilt_4 : decode cL_tilt 4 = .ok (.invokevirtual 98, 3) := by decide +kernel
theorem dL_tilt_7 : decode cL_tilt 7 = .ok (.i2l, 1) := by decide +kernel
theorem dL_tilt_8 : decode cL_tilt 8 = .ok (.lastore, 1) := by decide +kernel
theorem dL_tilt_9 : decode cL_tilt 9 = .ok (.goto 6, 3) := by decide +kernel
theorem dL_tilt_12 : decode cL_tilt 12 = .ok (.astore_n 3, 1) := by decide +kernel
theorem dL_tilt_13 : decode cL_tilt 13 = .ok (.iconst 1, 1) := by decide +kernel
theorem dL_tilt_14 : decode cL_tilt 14 = .ok (.ireturn, 1) := by decide +kernel
theorem dL_tilt_15 : decode cL_tilt 15 = .ok (.iconst 0, 1) := by decide +kernel
theorem dL_tilt_16 : decode cL_tilt 16 = .ok (.ireturn, 1) := by decide +kernel
theorem dL_damage_0 : decode cL_damage 0 = .ok (.aload_n 2, 1) := by decide +kernel
theorem dL_damage_1 : decode cL_damage 1 = .ok (.iconst 0, 1) := by decide +kernel
theorem dL_damage_2 : decode cL_damage 2 = .ok (.aload_n 0, 1) := by decide +kernel
theorem dL_damage_3 : decode cL_damage 3 = .ok (.iload_n 1, 1) := by decide +kernel
theorem dL_damage_4 : decode cL_damage 4 = .ok (.invokevirtual 101, 3) := by decide +kernel
theorem dL_damage_7 : decode cL_damage 7 = .ok (.i2l, 1) := by decide +kernel
theorem dL_damage_8 : decode cL_damage 8 = .ok (.lastore, 1) := by decide +kernel
theorem dL_damage_9 : decode cL_damage 9 = .ok (.goto 6, 3) := by decide +kernel
theorem dL_damage_12 : decode cL_damage 12 = .ok (.astore_n 3, 1) := by decide +kernel
theorem dL_damage_13 : decode cL_damage 13 = .ok (.iconst 1, 1) := by decide +kernel
theorem dL_damage_14 : decode cL_damage 14 = .ok (.ireturn, 1) := by decide +kernel
theorem dL_damage_15 : decode cL_damage 15 = .ok (.iconst 0, 1) := by decide +kernel
theorem dL_damage_16 : decode cL_damage 16 = .ok (.ireturn, 1) := by decide +kernel
theorem dL_read_0 : decode cL_read 0 = .ok (.aload_n 2, 1) := by decide +kernel
theorem dL_read_1 : decode cL_read 1 = .ok (.iconst 0, 1) := by decide +kernel
theorem dL_read_2 : decode cL_read 2 = .ok (.aload_n 0, 1) := by decide +kernel
theorem dL_read_3 : decode cL_read 3 = .ok (.iload_n 1, 1) := by decide +kernel
theorem dL_read_4 : decode cL_read 4 = .ok (.invokevirtual 104, 3) := by decide +kernel
theorem dL_read_7 : decode cL_read 7 = .ok (.i2l, 1) := by decide +kernel
theorem dL_read_8 : decode cL_read 8 = .ok (.lastore, 1) := by decide +kernel
theorem dL_read_9 : decode cL_read 9 = .ok (.goto 6, 3) := by decide +kernel
theorem dL_read_12 : decode cL_read 12 = .ok (.astore_n 3, 1) := by decide +kernel
theorem dL_read_13 : decode cL_read 13 = .ok (.iconst 1, 1) := by decide +kernel
theorem dL_read_14 : decode cL_read 14 = .ok (.ireturn, 1) := by decide +kernel
theorem dL_read_15 : decode cL_read 15 = .ok (.iconst 0, 1) := by decide +kernel
theorem dL_read_16 : decode cL_read 16 = .ok (.ireturn, 1) := by decide +kernel
theorem dL_alarm_0 : decode cL_alarm 0 = .ok (.aload_n 2, 1) := by decide +kernel
theorem dL_alarm_1 : decode cL_alarm 1 = .ok (.iconst 0, 1) := by decide +kernel
theorem dL_alarm_2 : decode cL_alarm 2 = .ok (.aload_n 0, 1) := by decide +kernel
theorem dL_alarm_3 : decode cL_alarm 3 = .ok (.iload_n 1, 1) := by decide +kernel
theorem dL_alarm_4 : decode cL_alarm 4 = .ok (.invokevirtual 107, 3) := by decide +kernel
theorem dL_alarm_7 : decode cL_alarm 7 = .ok (.i2l, 1) := by decide +kernel
theorem dL_alarm_8 : decode cL_alarm 8 = .ok (.lastore, 1) := by decide +kernel
theorem dL_alarm_9 : decode cL_alarm 9 = .ok (.goto 6, 3) := by decide +kernel
theorem dL_alarm_12 : decode cL_alarm 12 = .ok (.astore_n 3, 1) := by decide +kernel
theorem dL_alarm_13 : decode cL_alarm 13 = .ok (.iconst 1, 1) := by decide +kernel
theorem dL_alarm_14 : decode cL_alarm 14 = .ok (.ireturn, 1) := by decide +kernel
theorem dL_alarm_15 : decode cL_alarm 15 = .ok (.iconst 0, 1) := by decide +kernel
theorem dL_alarm_16 : decode cL_alarm 16 = .ok (.ireturn, 1) := by decide +kernel
theorem dL_lift_0 : decode cL_lift 0 = .ok (.aload 4, 2) := by decide +kernel
theorem dL_lift_2 : decode cL_lift 2 = .ok (.iconst 0, 1) := by decide +kernel
theorem dL_lift_3 : decode cL_lift 3 = .ok (.aload_n 0, 1) := by decide +kernel
theorem dL_lift_4 : decode cL_lift 4 = .ok (.iload_n 1, 1) := by decide +kernel
theorem dL_lift_5 : decode cL_lift 5 = .ok (.iload_n 2, 1) := by decide +kernel
theorem dL_lift_6 : decode cL_lift 6 = .ok (.iload_n 3, 1) := by decide +kernel
theorem dL_lift_7 : decode cL_lift 7 = .ok (.invokevirtual 110, 3) := by decide +kernel
theorem dL_lift_10 : decode cL_lift 10 = .ok (.i2l, 1) := by decide +kernel
theorem dL_lift_11 : decode cL_lift 11 = .ok (.lastore, 1) := by decide +kernel
theorem dL_lift_12 : decode cL_lift 12 = .ok (.goto 15, 3) := by decide +kernel
theorem dL_lift_15 : decode cL_lift 15 = .ok (.astore 5, 2) := by decide +kernel
theorem dL_lift_17 : decode cL_lift 17 = .ok (.iconst 1, 1) := by decide +kernel
theorem dL_lift_18 : decode cL_lift 18 = .ok (.ireturn, 1) := by decide +kernel
theorem dL_lift_19 : decode cL_lift 19 = .ok (.astore 5, 2) := by decide +kernel
theorem dL_lift_21 : decode cL_lift 21 = .ok (.iconst 2, 1) := by decide +kernel
theorem dL_lift_22 : decode cL_lift 22 = .ok (.ireturn, 1) := by decide +kernel
theorem dL_lift_23 : decode cL_lift 23 = .ok (.astore 5, 2) := by decide +kernel
theorem dL_lift_25 : decode cL_lift 25 = .ok (.iconst 3, 1) := by decide +kernel
theorem dL_lift_26 : decode cL_lift 26 = .ok (.ireturn, 1) := by decide +kernel
theorem dL_lift_27 : decode cL_lift 27 = .ok (.iconst 0, 1) := by decide +kernel
theorem dL_lift_28 : decode cL_lift 28 = .ok (.ireturn, 1) := by decide +kernel
theorem dL_deliver_0 : decode cL_deliver 0 = .ok (.aload_n 2, 1) := by decide +kernel
theorem dL_deliver_1 : decode cL_deliver 1 = .ok (.iconst 0, 1) := by decide +kernel
theorem dL_deliver_2 : decode cL_deliver 2 = .ok (.aload_n 0, 1) := by decide +kernel
theorem dL_deliver_3 : decode cL_deliver 3 = .ok (.iload_n 1, 1) := by decide +kernel
theorem dL_deliver_4 : decode cL_deliver 4 = .ok (.invokevirtual 114, 3) := by decide +kernel
theorem dL_deliver_7 : decode cL_deliver 7 = .ok (.i2l, 1) := by decide +kernel
theorem dL_deliver_8 : decode cL_deliver 8 = .ok (.lastore, 1) := by decide +kernel
theorem dL_deliver_9 : decode cL_deliver 9 = .ok (.goto 9, 3) := by decide +kernel
theorem dL_deliver_12 : decode cL_deliver 12 = .ok (.astore_n 3, 1) := by decide +kernel
theorem dL_deliver_13 : decode cL_deliver 13 = .ok (.iconst 1, 1) := by decide +kernel
theorem dL_deliver_14 : decode cL_deliver 14 = .ok (.ireturn, 1) := by decide +kernel
theorem dL_deliver_15 : decode cL_deliver 15 = .ok (.astore_n 3, 1) := by decide +kernel
theorem dL_deliver_16 : decode cL_deliver 16 = .ok (.iconst 2, 1) := by decide +kernel
theorem dL_deliver_17 : decode cL_deliver 17 = .ok (.ireturn, 1) := by decide +kernel
theorem dL_deliver_18 : decode cL_deliver 18 = .ok (.iconst 0, 1) := by decide +kernel
theorem dL_deliver_19 : decode cL_deliver 19 = .ok (.ireturn, 1) := by decide +kernel
theorem dL_lorries_0 : decode cL_lorries 0 = .ok (.aload_n 2, 1) := by decide +kernel
theorem dL_lorries_1 : decode cL_lorries 1 = .ok (.iconst 0, 1) := by decide +kernel
theorem dL_lorries_2 : decode cL_lorries 2 = .ok (.aload_n 0, 1) := by decide +kernel
theorem dL_lorries_3 : decode cL_lorries 3 = .ok (.iload_n 1, 1) := by decide +kernel
theorem dL_lorries_4 : decode cL_lorries 4 = .ok (.invokevirtual 117, 3) := by decide +kernel
theorem dL_lorries_7 : decode cL_lorries 7 = .ok (.i2l, 1) := by decide +kernel
theorem dL_lorries_8 : decode cL_lorries 8 = .ok (.lastore, 1) := by decide +kernel
theorem dL_lorries_9 : decode cL_lorries 9 = .ok (.goto 12, 3) := by decide +kernel
theorem dL_lorries_12 : decode cL_lorries 12 = .ok (.astore_n 3, 1) := by decide +kernel
theorem dL_lorries_13 : decode cL_lorries 13 = .ok (.iconst 1, 1) := by decide +kernel
theorem dL_lorries_14 : decode cL_lorries 14 = .ok (.ireturn, 1) := by decide +kernel
theorem dL_lorries_15 : decode cL_lorries 15 = .ok (.astore_n 3, 1) := by decide +kernel
theorem dL_lorries_16 : decode cL_lorries 16 = .ok (.iconst 2, 1) := by decide +kernel
theorem dL_lorries_17 : decode cL_lorries 17 = .ok (.ireturn, 1) := by decide +kernel
theorem dL_lorries_18 : decode cL_lorries 18 = .ok (.astore_n 3, 1) := by decide +kernel
theorem dL_lorries_19 : decode cL_lorries 19 = .ok (.iconst 3, 1) := by decide +kernel
theorem dL_lorries_20 : decode cL_lorries 20 = .ok (.ireturn, 1) := by decide +kernel
theorem dL_lorries_21 : decode cL_lorries 21 = .ok (.iconst 0, 1) := by decide +kernel
theorem dL_lorries_22 : decode cL_lorries 22 = .ok (.ireturn, 1) := by decide +kernel
theorem dL_pause_0 : decode cL_pause 0 = .ok (.aload 4, 2) := by decide +kernel
theorem dL_pause_2 : decode cL_pause 2 = .ok (.iconst 0, 1) := by decide +kernel
theorem dL_pause_3 : decode cL_pause 3 = .ok (.aload_n 0, 1) := by decide +kernel
theorem dL_pause_4 : decode cL_pause 4 = .ok (.iload_n 1, 1) := by decide +kernel
theorem dL_pause_5 : decode cL_pause 5 = .ok (.iload_n 2, 1) := by decide +kernel
theorem dL_pause_6 : decode cL_pause 6 = .ok (.iload_n 3, 1) := by decide +kernel
theorem dL_pause_7 : decode cL_pause 7 = .ok (.invokevirtual 120, 3) := by decide +kernel
theorem dL_pause_10 : decode cL_pause 10 = .ok (.i2l, 1) := by decide +kernel
theorem dL_pause_11 : decode cL_pause 11 = .ok (.lastore, 1) := by decide +kernel
theorem dL_pause_12 : decode cL_pause 12 = .ok (.goto 11, 3) := by decide +kernel
theorem dL_pause_15 : decode cL_pause 15 = .ok (.astore 5, 2) := by decide +kernel
theorem dL_pause_17 : decode cL_pause 17 = .ok (.iconst 1, 1) := by decide +kernel
theorem dL_pause_18 : decode cL_pause 18 = .ok (.ireturn, 1) := by decide +kernel
theorem dL_pause_19 : decode cL_pause 19 = .ok (.astore 5, 2) := by decide +kernel
theorem dL_pause_21 : decode cL_pause 21 = .ok (.iconst 2, 1) := by decide +kernel
theorem dL_pause_22 : decode cL_pause 22 = .ok (.ireturn, 1) := by decide +kernel
theorem dL_pause_23 : decode cL_pause 23 = .ok (.iconst 0, 1) := by decide +kernel
theorem dL_pause_24 : decode cL_pause 24 = .ok (.ireturn, 1) := by decide +kernel
theorem dL_first_0 : decode cL_first 0 = .ok (.aload_n 2, 1) := by decide +kernel
theorem dL_first_1 : decode cL_first 1 = .ok (.iconst 0, 1) := by decide +kernel
theorem dL_first_2 : decode cL_first 2 = .ok (.aload_n 0, 1) := by decide +kernel
theorem dL_first_3 : decode cL_first 3 = .ok (.iload_n 1, 1) := by decide +kernel
theorem dL_first_4 : decode cL_first 4 = .ok (.invokevirtual 124, 3) := by decide +kernel
theorem dL_first_7 : decode cL_first 7 = .ok (.i2l, 1) := by decide +kernel
theorem dL_first_8 : decode cL_first 8 = .ok (.lastore, 1) := by decide +kernel
theorem dL_first_9 : decode cL_first 9 = .ok (.goto 6, 3) := by decide +kernel
theorem dL_first_12 : decode cL_first 12 = .ok (.astore_n 3, 1) := by decide +kernel
theorem dL_first_13 : decode cL_first 13 = .ok (.iconst 1, 1) := by decide +kernel
theorem dL_first_14 : decode cL_first 14 = .ok (.ireturn, 1) := by decide +kernel
theorem dL_first_15 : decode cL_first 15 = .ok (.iconst 0, 1) := by decide +kernel
theorem dL_first_16 : decode cL_first 16 = .ok (.ireturn, 1) := by decide +kernel
theorem dL_waited_0 : decode cL_waited 0 = .ok (.aload_n 2, 1) := by decide +kernel
theorem dL_waited_1 : decode cL_waited 1 = .ok (.iconst 0, 1) := by decide +kernel
theorem dL_waited_2 : decode cL_waited 2 = .ok (.aload_n 0, 1) := by decide +kernel
theorem dL_waited_3 : decode cL_waited 3 = .ok (.iload_n 1, 1) := by decide +kernel
theorem dL_waited_4 : decode cL_waited 4 = .ok (.invokevirtual 128, 3) := by decide +kernel
theorem dL_waited_7 : decode cL_waited 7 = .ok (.i2l, 1) := by decide +kernel
theorem dL_waited_8 : decode cL_waited 8 = .ok (.lastore, 1) := by decide +kernel
theorem dL_waited_9 : decode cL_waited 9 = .ok (.goto 6, 3) := by decide +kernel
theorem dL_waited_12 : decode cL_waited 12 = .ok (.astore_n 3, 1) := by decide +kernel
theorem dL_waited_13 : decode cL_waited 13 = .ok (.iconst 1, 1) := by decide +kernel
theorem dL_waited_14 : decode cL_waited 14 = .ok (.ireturn, 1) := by decide +kernel
theorem dL_waited_15 : decode cL_waited 15 = .ok (.iconst 0, 1) := by decide +kernel
theorem dL_waited_16 : decode cL_waited 16 = .ok (.ireturn, 1) := by decide +kernel
theorem dL_notice_0 : decode cL_notice 0 = .ok (.aload_n 2, 1) := by decide +kernel
theorem dL_notice_1 : decode cL_notice 1 = .ok (.iconst 0, 1) := by decide +kernel
theorem dL_notice_2 : decode cL_notice 2 = .ok (.aload_n 0, 1) := by decide +kernel
theorem dL_notice_3 : decode cL_notice 3 = .ok (.iload_n 1, 1) := by decide +kernel
theorem dL_notice_4 : decode cL_notice 4 = .ok (.invokevirtual 131, 3) := by decide +kernel
theorem dL_notice_7 : decode cL_notice 7 = .ok (.ifCond .eq 7, 3) := by decide +kernel
theorem dL_notice_10 : decode cL_notice 10 = .ok (.lconst 1, 1) := by decide +kernel
theorem dL_notice_11 : decode cL_notice 11 = .ok (.goto 4, 3) := by decide +kernel
theorem dL_notice_14 : decode cL_notice 14 = .ok (.lconst 0, 1) := by decide +kernel
theorem dL_notice_15 : decode cL_notice 15 = .ok (.lastore, 1) := by decide +kernel
theorem dL_notice_16 : decode cL_notice 16 = .ok (.goto 9, 3) := by decide +kernel
theorem dL_notice_19 : decode cL_notice 19 = .ok (.astore_n 3, 1) := by decide +kernel
theorem dL_notice_20 : decode cL_notice 20 = .ok (.iconst 1, 1) := by decide +kernel
theorem dL_notice_21 : decode cL_notice 21 = .ok (.ireturn, 1) := by decide +kernel
theorem dL_notice_22 : decode cL_notice 22 = .ok (.astore_n 3, 1) := by decide +kernel
theorem dL_notice_23 : decode cL_notice 23 = .ok (.iconst 2, 1) := by decide +kernel
theorem dL_notice_24 : decode cL_notice 24 = .ok (.ireturn, 1) := by decide +kernel
theorem dL_notice_25 : decode cL_notice 25 = .ok (.iconst 0, 1) := by decide +kernel
theorem dL_notice_26 : decode cL_notice 26 = .ok (.ireturn, 1) := by decide +kernel
theorem dL_count_0 : decode cL_count 0 = .ok (.aload_n 2, 1) := by decide +kernel
theorem dL_count_1 : decode cL_count 1 = .ok (.iconst 0, 1) := by decide +kernel
theorem dL_count_2 : decode cL_count 2 = .ok (.aload_n 0, 1) := by decide +kernel
theorem dL_count_3 : decode cL_count 3 = .ok (.iload_n 1, 1) := by decide +kernel
theorem dL_count_4 : decode cL_count 4 = .ok (.invokevirtual 135, 3) := by decide +kernel
theorem dL_count_7 : decode cL_count 7 = .ok (.i2l, 1) := by decide +kernel
theorem dL_count_8 : decode cL_count 8 = .ok (.lastore, 1) := by decide +kernel
theorem dL_count_9 : decode cL_count 9 = .ok (.goto 6, 3) := by decide +kernel
theorem dL_count_12 : decode cL_count 12 = .ok (.astore_n 3, 1) := by decide +kernel
theorem dL_count_13 : decode cL_count 13 = .ok (.iconst 1, 1) := by decide +kernel
theorem dL_count_14 : decode cL_count 14 = .ok (.ireturn, 1) := by decide +kernel
theorem dL_count_15 : decode cL_count 15 = .ok (.iconst 0, 1) := by decide +kernel
theorem dL_count_16 : decode cL_count 16 = .ok (.ireturn, 1) := by decide +kernel
theorem dL_groutShare_0 : decode cL_groutShare 0 = .ok (.aload_n 1, 1) := by decide +kernel
theorem dL_groutShare_1 : decode cL_groutShare 1 = .ok (.iconst 0, 1) := by decide +kernel
theorem dL_groutShare_2 : decode cL_groutShare 2 = .ok (.aload_n 0, 1) := by decide +kernel
theorem dL_groutShare_3 : decode cL_groutShare 3 = .ok (.invokevirtual 138, 3) := by decide +kernel
theorem dL_groutShare_6 : decode cL_groutShare 6 = .ok (.f2d, 1) := by decide +kernel
theorem dL_groutShare_7 : decode cL_groutShare 7 = .ok (.dastore, 1) := by decide +kernel
theorem dL_groutShare_8 : decode cL_groutShare 8 = .ok (.goto 6, 3) := by decide +kernel
theorem dL_groutShare_11 : decode cL_groutShare 11 = .ok (.astore_n 2, 1) := by decide +kernel
theorem dL_groutShare_12 : decode cL_groutShare 12 = .ok (.iconst 1, 1) := by decide +kernel
theorem dL_groutShare_13 : decode cL_groutShare 13 = .ok (.ireturn, 1) := by decide +kernel
theorem dL_groutShare_14 : decode cL_groutShare 14 = .ok (.iconst 0, 1) := by decide +kernel
theorem dL_groutShare_15 : decode cL_groutShare 15 = .ok (.ireturn, 1) := by decide +kernel
theorem dL_meanMinutes_0 : decode cL_meanMinutes 0 = .ok (.aload_n 1, 1) := by decide +kernel
theorem dL_meanMinutes_1 : decode cL_meanMinutes 1 = .ok (.iconst 0, 1) := by decide +kernel
theorem dL_meanMinutes_2 : decode cL_meanMinutes 2 = .ok (.aload_n 0, 1) := by decide +kernel
theorem dL_meanMinutes_3 : decode cL_meanMinutes 3 = .ok (.invokevirtual 144, 3) := by decide +kernel
theorem dL_meanMinutes_6 : decode cL_meanMinutes 6 = .ok (.dastore, 1) := by decide +kernel
theorem dL_meanMinutes_7 : decode cL_meanMinutes 7 = .ok (.goto 6, 3) := by decide +kernel
theorem dL_meanMinutes_10 : decode cL_meanMinutes 10 = .ok (.astore_n 2, 1) := by decide +kernel
theorem dL_meanMinutes_11 : decode cL_meanMinutes 11 = .ok (.iconst 1, 1) := by decide +kernel
theorem dL_meanMinutes_12 : decode cL_meanMinutes 12 = .ok (.ireturn, 1) := by decide +kernel
theorem dL_meanMinutes_13 : decode cL_meanMinutes 13 = .ok (.iconst 0, 1) := by decide +kernel
theorem dL_meanMinutes_14 : decode cL_meanMinutes 14 = .ok (.ireturn, 1) := by decide +kernel
