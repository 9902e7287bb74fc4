theorem dL_bits_12 : decode cL_bits 12 = .ok (.goto (-10), 3) := by decide +kernel
theorem dL_bits_15 : decode cL_bits 15 = .ok (.iload_n 0, 1) := by decide +kernel
theorem dL_bits_16 : decode cL_bits 16 = .ok (.ifCond .ne 7, 3) := by decide +kernel
theorem dL_bits_19 : decode cL_bits 19 = .ok (.iconst 0, 1) := by decide +kernel
theorem dL_bits_20 : decode cL_bits 20 = .ok (.goto 21, 3) := by decide +kernel
theorem dL_bits_23 : decode cL_bits 23 = .ok (.bipush 124, 2) := by decide +kernel
theorem dL_bits_25 : decode cL_bits 25 = .ok (.iload_n 1, 1) := by decide +kernel
theorem dL_bits_26 : decode cL_bits 26 = .ok (.iadd, 1) := by decide +kernel
theorem dL_bits_27 : decode cL_bits 27 = .ok (.bipush 23, 2) := by decide +kernel
theorem dL_bits_29 : decode cL_bits 29 = .ok (.ishl, 1) := by decide +kernel
theorem dL_bits_30 : decode cL_bits 30 = .ok (.iload_n 0, 1) := by decide +kernel
theorem dL_bits_31 : decode cL_bits 31 = .ok (.iconst 1, 1) := by decide +kernel
theorem dL_bits_32 : decode cL_bits 32 = .ok (.iload_n 1, 1) := by decide +kernel
theorem dL_bits_33 : decode cL_bits 33 = .ok (.ishl, 1) := by decide +kernel
theorem dL_bits_34 : decode cL_bits 34 = .ok (.isub, 1) := by decide +kernel
theorem dL_bits_35 : decode cL_bits 35 = .ok (.bipush 23, 2) := by decide +kernel
theorem dL_bits_37 : decode cL_bits 37 = .ok (.iload_n 1, 1) := by decide +kernel
theorem dL_bits_38 : decode cL_bits 38 = .ok (.isub, 1) := by decide +kernel
theorem dL_bits_39 : decode cL_bits 39 = .ok (.ishl, 1) := by decide +kernel
theorem dL_bits_40 : decode cL_bits 40 = .ok (.ior, 1) := by decide +kernel
theorem dL_bits_41 : decode cL_bits 41 = .ok (.ireturn, 1) := by decide +kernel
theorem dL_isDusty_0 : decode cL_isDusty 0 = .ok (.aload_n 0, 1) := by decide +kernel
theorem dL_isDusty_1 : decode cL_isDusty 1 = .ok (.iconst 2, 1) := by decide +kernel
theorem dL_isDusty_2 : decode cL_isDusty 2 = .ok (.iload_n 1, 1) := by decide +kernel
theorem dL_isDusty_3 : decode cL_isDusty 3 = .ok (.imul, 1) := by decide +kernel
theorem dL_isDusty_4 : decode cL_isDusty 4 = .ok (.daload, 1) := by decide +kernel
theorem dL_isDusty_5 : decode cL_isDusty 5 = .ok (.aload_n 0, 1) := by decide +kernel
theorem dL_isDusty_6 : decode cL_isDusty 6 = .ok (.iconst 2, 1) := by decide +kernel
theorem dL_isDusty_7 : decode cL_isDusty 7 = .ok (.iload_n 1, 1) := by decide +kernel
theorem dL_isDusty_8 : decode cL_isDusty 8 = .ok (.imul, 1) := by decide +kernel
theorem dL_isDusty_9 : decode cL_isDusty 9 = .ok (.iconst 1, 1) := by decide +kernel
theorem dL_isDusty_10 : decode cL_isDusty 10 = .ok (.iadd, 1) := by decide +kernel
theorem dL_isDusty_11 : decode cL_isDusty 11 = .ok (.daload, 1) := by decide +kernel
theorem dL_isDusty_12 : decode cL_isDusty 12 = .ok (.dcmp .l, 1) := by decide +kernel
theorem dL_isDusty_13 : decode cL_isDusty 13 = .ok (.ifCond .le 7, 3) := by decide +kernel
theorem dL_isDusty_16 : decode cL_isDusty 16 = .ok (.iconst 1, 1) := by decide +kernel
theorem dL_isDusty_17 : decode cL_isDusty 17 = .ok (.goto 4, 3) := by decide +kernel
theorem dL_isDusty_20 : decode cL_isDusty 20 = .ok (.iconst 0, 1) := by decide +kernel
theorem dL_isDusty_21 : decode cL_isDusty 21 = .ok (.ireturn, 1) := by decide +kernel
theorem dL_away_0 : decode cL_away 0 = .ok (.iload_n 0, 1) := by decide +kernel
theorem dL_away_1 : decode cL_away 1 = .ok (.iload_n 1, 1) := by decide +kernel
theorem dL_away_2 : decode cL_away 2 = .ok (.if_icmp .le 9, 3) := by decide +kernel
theorem dL_away_5 : decode cL_away 5 = .ok (.iload_n 0, 1) := by decide +kernel
theorem dL_away_6 : decode cL_away 6 = .ok (.iload_n 1, 1) := by decide +kernel
theorem dL_away_7 : decode cL_away 7 = .ok (.isub, 1) := by decide +kernel
theorem dL_away_8 : decode cL_away 8 = .ok (.goto 6, 3) := by decide +kernel
theorem dL_away_11 : decode cL_away 11 = .ok (.iload_n 1, 1) := by decide +kernel
theorem dL_away_12 : decode cL_away 12 = .ok (.iload_n 0, 1) := by decide +kernel
theorem dL_away_13 : decode cL_away 13 = .ok (.isub, 1) := by decide +kernel
theorem dL_away_14 : decode cL_away 14 = .ok (.ireturn, 1) := by decide +kernel
theorem dL_atHome_0 : decode cL_atHome 0 = .ok (.bipush (-5), 2) := by decide +kernel
theorem dL_atHome_2 : decode cL_atHome 2 = .ok (.istore_n 3, 1) := by decide +kernel
theorem dL_atHome_3 : decode cL_atHome 3 = .ok (.iconst 0, 1) := by decide +kernel
theorem dL_atHome_4 : decode cL_atHome 4 = .ok (.istore 4, 2) := by decide +kernel
theorem dL_atHome_6 : decode cL_atHome 6 = .ok (.iload 4, 2) := by decide +kernel
theorem dL_atHome_8 : decode cL_atHome 8 = .ok (.aload_n 0, 1) := by decide +kernel
theorem dL_atHome_9 : decode cL_atHome 9 = .ok (.bipush 9, 2) := by decide +kernel
theorem dL_atHome_11 : decode cL_atHome 11 = .ok (.iaload, 1) := by decide +kernel
theorem dL_atHome_12 : decode cL_atHome 12 = .ok (.if_icmp .ge 29, 3) := by decide +kernel
theorem dL_atHome_15 : decode cL_atHome 15 = .ok (.aload_n 1, 1) := by decide +kernel
theorem dL_atHome_16 : decode cL_atHome 16 = .ok (.bipush 6, 2) := by decide +kernel
theorem dL_atHome_18 : decode cL_atHome 18 = .ok (.iload 4, 2) := by decide +kernel
theorem dL_atHome_20 : decode cL_atHome 20 = .ok (.imul, 1) := by decide +kernel
theorem dL_atHome_21 : decode cL_atHome 21 = .ok (.iconst 1, 1) := by decide +kernel
theorem dL_atHome_22 : decode cL_atHome 22 = .ok (.iadd, 1) := by decide +kernel
theorem dL_atHome_23 : decode cL_atHome 23 = .ok (.iaload, 1) := by decide +kernel
theorem dL_atHome_24 : decode cL_atHome 24 = .ok (.iload_n 2, 1) := by decide +kernel
theorem dL_atHome_25 : decode cL_atHome 25 = .ok (.if_icmp .ne 8, 3) := by decide +kernel
theorem dL_atHome_28 : decode cL_atHome 28 = .ok (.iload 4, 2) := by decide +kernel
theorem dL_atHome_30 : decode cL_atHome 30 = .ok (.goto 4, 3) := by decide +kernel
theorem dL_atHome_33 : decode cL_atHome 33 = .ok (.iload_n 3, 1) := by decide +kernel
theorem dL_atHome_34 : decode cL_atHome 34 = .ok (.istore_n 3, 1) := by decide +kernel
theorem dL_atHome_35 : decode cL_atHome 35 = .ok (.iinc 4 1, 3) := by decide +kernel
theorem dL_atHome_38 : decode cL_atHome 38 = .ok (.goto (-32), 3) := by decide +kernel
theorem dL_atHome_41 : decode cL_atHome 41 = .ok (.iload_n 3, 1) := by decide +kernel
theorem dL_atHome_42 : decode cL_atHome 42 = .ok (.ireturn, 1) := by decide +kernel
theorem dL_rank_0 : decode cL_rank 0 = .ok (.aload_n 0, 1) := by decide +kernel
theorem dL_rank_1 : decode cL_rank 1 = .ok (.bipush 6, 2) := by decide +kernel
theorem dL_rank_3 : decode cL_rank 3 = .ok (.iaload, 1) := by decide +kernel
theorem dL_rank_4 : decode cL_rank 4 = .ok (.iload_n 1, 1) := by decide +kernel
theorem dL_rank_5 : decode cL_rank 5 = .ok (.if_icmp .ne 7, 3) := by decide +kernel
theorem dL_rank_8 : decode cL_rank 8 = .ok (.iconst 0, 1) := by decide +kernel
theorem dL_rank_9 : decode cL_rank 9 = .ok (.goto 16, 3) := by decide +kernel
theorem dL_rank_12 : decode cL_rank 12 = .ok (.aload_n 0, 1) := by decide +kernel
theorem dL_rank_13 : decode cL_rank 13 = .ok (.bipush 7, 2) := by decide +kernel
theorem dL_rank_15 : decode cL_rank 15 = .ok (.iaload, 1) := by decide +kernel
theorem dL_rank_16 : decode cL_rank 16 = .ok (.iload_n 1, 1) := by decide +kernel
theorem dL_rank_17 : decode cL_rank 17 = .ok (.if_icmp .ne 7, 3) := by decide +kernel
theorem dL_rank_20 : decode cL_rank 20 = .ok (.iconst 1, 1) := by decide +kernel
theorem dL_rank_21 : decode cL_rank 21 = .ok (.goto 4, 3) := by decide +kernel
theorem dL_rank_24 : decode cL_rank 24 = .ok (.iconst 2, 1) := by decide +kernel
theorem dL_rank_25 : decode cL_rank 25 = .ok (.ireturn, 1) := by decide +kernel
theorem dL_isAhead_0 : decode cL_isAhead 0 = .ok (.aload_n 2, 1) := by decide +kernel
theorem dL_isAhead_1 : decode cL_isAhead 1 = .ok (.bipush 6, 2) := by decide +kernel
theorem dL_isAhead_3 : decode cL_isAhead 3 = .ok (.iload_n 3, 1) := by decide +kernel
theorem dL_isAhead_4 : decode cL_isAhead 4 = .ok (.imul, 1) := by decide +kernel
theorem dL_isAhead_5 : decode cL_isAhead 5 = .ok (.iaload, 1) := by decide +kernel
theorem dL_isAhead_6 : decode cL_isAhead 6 = .ok (.iconst 1, 1) := by decide +kernel
theorem dL_isAhead_7 : decode cL_isAhead 7 = .ok (.if_icmp .ne 22, 3) := by decide +kernel
theorem dL_isAhead_10 : decode cL_isAhead 10 = .ok (.aload_n 1, 1) := by decide +kernel
theorem dL_isAhead_11 : decode cL_isAhead 11 = .ok (.aload_n 2, 1) := by decide +kernel
theorem dL_isAhead_12 : decode cL_isAhead 12 = .ok (.bipush 6, 2) := by decide +kernel
theorem dL_isAhead_14 : decode cL_isAhead 14 = .ok (.iload_n 3, 1) := by decide +kernel
theorem dL_isAhead_15 : decode cL_isAhead 15 = .ok (.imul, 1) := by decide +kernel
theorem dL_isAhead_16 : decode cL_isAhead 16 = .ok (.iconst 1, 1) := by decide +kernel
theorem dL_isAhead_17 : decode cL_isAhead 17 = .ok (.iadd, 1) := by decide +kernel
theorem dL_isAhead_18 : decode cL_isAhead 18 = .ok (.iaload, 1) := by decide +kernel
theorem dL_isAhead_19 : decode cL_isAhead 19 = .ok (.invokestatic 9, 3) := by decide +kernel
theorem dL_isAhead_22 : decode cL_isAhead 22 = .ok (.ifCond .eq 7, 3) := by decide +kernel
theorem dL_isAhead_25 : decode cL_isAhead 25 = .ok (.iconst 1, 1) := by decide +kernel
theorem dL_isAhead_26 : decode cL_isAhead 26 = .ok (.goto 4, 3) := by decide +kernel
theorem dL_isAhead_29 : decode cL_isAhead 29 = .ok (.iconst 0, 1) := by decide +kernel
theorem dL_isAhead_30 : decode cL_isAhead 30 = .ok (.istore 5, 2) := by decide +kernel
theorem dL_isAhead_32 : decode cL_isAhead 32 = .ok (.aload_n 2, 1) := by decide +kernel
theorem dL_isAhead_33 : decode cL_isAhead 33 = .ok (.bipush 6, 2) := by decide +kernel
theorem dL_isAhead_35 : decode cL_isAhead 35 = .ok (.iload 4, 2) := by decide +kernel
theorem dL_isAhead_37 : decode cL_isAhead 37 = .ok (.imul, 1) := by decide +kernel
theorem dL_isAhead_38 : decode cL_isAhead 38 = .ok (.iaload, 1) := by decide +kernel
theorem dL_isAhead_39 : decode cL_isAhead 39 = .ok (.iconst 1, 1) := by decide +kernel
theorem dL_isAhead_40 : decode cL_isAhead 40 = .ok (.if_icmp .ne 23, 3) := by decide +kernel
theorem dL_isAhead_43 : decode cL_isAhead 43 = .ok (.aload_n 1, 1) := by decide +kernel
theorem dL_isAhead_44 : decode cL_isAhead 44 = .ok (.aload_n 2, 1) := by decide +kernel
theorem dL_isAhead_45 : decode cL_isAhead 45 = .ok (.bipush 6, 2) := by decide +kernel
theorem dL_isAhead_47 : decode cL_isAhead 47 = .ok (.iload 4, 2) := by decide +kernel
theorem dL_isAhead_49 : decode cL_isAhead 49 = .ok (.imul, 1) := by decide +kernel
theorem dL_isAhead_50 : decode cL_isAhead 50 = .ok (.iconst 1, 1) := by decide +kernel
theorem dL_isAhead_51 : decode cL_isAhead 51 = .ok (.iadd, 1) := by decide +kernel
theorem dL_isAhead_52 : decode cL_isAhead 52 = .ok (.iaload, 1) := by decide +kernel
theorem dL_isAhead_53 : decode cL_isAhead 53 = .ok (.invokestatic 9, 3) := by decide +kernel
theorem dL_isAhead_56 : decode cL_isAhead 56 = .ok (.ifCond .eq 7, 3) := by decide +kernel
theorem dL_isAhead_59 : decode cL_isAhead 59 = .ok (.iconst 1, 1) := by decide +kernel
theorem dL_isAhead_60 : decode cL_isAhead 60 = .ok (.goto 4, 3) := by decide +kernel
theorem dL_isAhead_63 : decode cL_isAhead 63 = .ok (.iconst 0, 1) := by decide +kernel
theorem dL_isAhead_64 : decode cL_isAhead 64 = .ok (.istore 6, 2) := by decide +kernel
theorem dL_isAhead_66 : decode cL_isAhead 66 = .ok (.iload 5, 2) := by decide +kernel
theorem dL_isAhead_68 : decode cL_isAhead 68 = .ok (.iload 6, 2) := by decide +kernel
theorem dL_isAhead_70 : decode cL_isAhead 70 = .ok (.if_icmp .eq 6, 3) := by decide +kernel
theorem dL_isAhead_73 : decode cL_isAhead 73 = .ok (.iload 5, 2) := by decide +kernel
theorem dL_isAhead_75 : decode cL_isAhead 75 = .ok (.ireturn, 1) := by decide +kernel
theorem dL_isAhead_76 : decode cL_isAhead 76 = .ok (.iload 5, 2) := by decide +kernel
theorem dL_isAhead_78 : decode cL_isAhead 78 = .ok (.ifCond .eq 7, 3) := by decide +kernel
theorem dL_isAhead_81 : decode cL_isAhead 81 = .ok (.iconst 0, 1) := by decide +kernel
theorem dL_isAhead_82 : decode cL_isAhead 82 = .ok (.goto 25, 3) := by decide +kernel
theorem dL_isAhead_85 : decode cL_isAhead 85 = .ok (.aload_n 0, 1) := by decide +kernel
theorem dL_isAhead_86 : decode cL_isAhead 86 = .ok (.aload_n 2, 1) := by decide +kernel
theorem dL_isAhead_87 : decode cL_isAhead 87 = .ok (.bipush 6, 2) := by decide +kernel
theorem dL_isAhead_89 : decode cL_isAhead 89 = .ok (.iload_n 3, 1) := by decide +kernel
theorem dL_isAhead_90 : decode cL_isAhead 90 = .ok (.imul, 1) := by decide +kernel
theorem dL_isAhead_91 : decode cL_isAhead 91 = .ok (.iaload, 1) := by decide +kernel
theorem dL_isAhead_92 : decode cL_isAhead 92 = .ok (.invokestatic 15, 3) := by decide +kernel
theorem dL_isAhead_95 : decode cL_isAhead 95 = .ok (.aload_n 0, 1) := by decide +kernel
theorem dL_isAhead_96 : decode cL_isAhead 96 = .ok (.aload_n 2, 1) := by decide +kernel
theorem dL_isAhead_97 : decode cL_isAhead 97 = .ok (.bipush 6, 2) := by decide +kernel
theorem dL_isAhead_99 : decode cL_isAhead 99 = .ok (.iload 4, 2) := by decide +kernel
theorem dL_isAhead_101 : decode cL_isAhead 101 = .ok (.imul, 1) := by decide +kernel
theorem dL_isAhead_102 : decode cL_isAhead 102 = .ok (.iaload, 1) := by decide +kernel
theorem dL_isAhead_103 : decode cL_isAhead 103 = .ok (.invokestatic 15, 3) := by decide +kernel
theorem dL_isAhead_106 : decode cL_isAhead 106 = .ok (.isub, 1) := by decide +kernel
theorem dL_isAhead_107 : decode cL_isAhead 107 = .ok (.istore 7, 2) := by decide +kernel
theorem dL_isAhead_109 : decode cL_isAhead 109 = .ok (.iload 7, 2) := by decide +kernel
theorem dL_isAhead_111 : decode cL_isAhead 111 = .ok (.ifCond .lt 14, 3) := by decide +kernel
theorem dL_isAhead_114 : decode cL_isAhead 114 = .ok (.iload 7, 2) := by decide +kernel
theorem dL_isAhead_116 : decode cL_isAhead 116 = .ok (.ifCond .ne 13, 3) := by decide +kernel
theorem dL_isAhead_119 : decode cL_isAhead 119 = .ok (.iload_n 3, 1) := by decide +kernel
theorem dL_isAhead_120 : decode cL_isAhead 120 = .ok (.iload 4, 2) := by decide +kernel
theorem dL_isAhead_122 : decode cL_isAhead 122 = .ok (.if_icmp .ge 7, 3) := by decide +kernel
theorem dL_isAhead_125 : decode cL_isAhead 125 = .ok (.iconst 1, 1) := by decide +kernel
theorem dL_isAhead_126 : decode cL_isAhead 126 = .ok (.goto 4, 3) := by decide +kernel
theorem dL_isAhead_129 : decode cL_isAhead 129 = .ok (.iconst 0, 1) := by decide +kernel
theorem dL_isAhead_130 : decode cL_isAhead 130 = .ok (.ireturn, 1) := by decide +kernel
theorem dL_drive_0 : decode cL_drive 0 = .ok (.bipush (-5), 2) := by decide +kernel
theorem dL_drive_2 : decode cL_drive 2 = .ok (.istore_n 2, 1) := by decide +kernel
theorem dL_drive_3 : decode cL_drive 3 = .ok (.aload_n 0, 1) := by decide +kernel
theorem dL_drive_4 : decode cL_drive 4 = .ok (.bipush 10, 2) := by decide +kernel
theorem dL_drive_6 : decode cL_drive 6 = .ok (.iaload, 1) := by decide +kernel
theorem dL_drive_7 : decode cL_drive 7 = .ok (.iconst 1, 1) := by decide +kernel
theorem dL_drive_8 : decode cL_drive 8 = .ok (.isub, 1) := by decide +kernel
theorem dL_drive_9 : decode cL_drive 9 = .ok (.istore_n 3, 1) := by decide +kernel
theorem dL_drive_10 : decode cL_drive 10 = .ok (.iload_n 3, 1) := by decide +kernel
theorem dL_drive_11 : decode cL_drive 11 = .ok (.ifCond .lt 41, 3) := by decide +kernel
theorem dL_drive_14 : decode cL_drive 14 = .ok (.aload_n 1, 1) := by decide +kernel
theorem dL_drive_15 : decode cL_drive 15 = .ok (.iload_n 3, 1) := by decide +kernel
theorem dL_drive_16 : decode cL_drive 16 = .ok (.invokestatic 9, 3) := by decide +kernel
theorem dL_drive_19 : decode cL_drive 19 = .ok (.ifCond .ne 25, 3) := by decide +kernel
theorem dL_drive_22 : decode cL_drive 22 = .ok (.iload_n 2, 1) := by decide +kernel
theorem dL_drive_23 : decode cL_drive 23 = .ok (.ifCond .lt 17, 3) := by decide +kernel
theorem dL_drive_26 : decode cL_drive 26 = .ok (.aload_n 1, 1) := by decide +kernel
theorem dL_drive_27 : decode cL_drive 27 = .ok (.iconst 2, 1) := by decide +kernel
theorem dL_drive_28 : decode cL_drive 28 = .ok (.iload_n 3, 1) := by decide +kernel
theorem dL_drive_29 : decode cL_drive 29 = .ok (.imul, 1) := by decide +kernel
theorem dL_drive_30 : decode cL_drive 30 = .ok (.daload, 1) := by decide +kernel
theorem dL_drive_31 : decode cL_drive 31 = .ok (.aload_n 1, 1) := by decide +kernel
theorem dL_drive_32 : decode cL_drive 32 = .ok (.iconst 2, 1) := by decide +kernel
theorem dL_drive_33 : decode cL_drive 33 = .ok (.iload_n 2, 1) := by decide +kernel
theorem dL_drive_34 : decode cL_drive 34 = .ok (.imul, 1) := by decide +kernel
theorem dL_drive_35 : decode cL_drive 35 = .ok (.daload, 1) := by decide +kernel
theorem dL_drive_36 : decode cL_drive 36 = .ok (.dcmp .g, 1) := by decide +kernel
theorem dL_drive_37 : decode cL_drive 37 = .ok (.ifCond .gt 7, 3) := by decide +kernel
theorem dL_drive_40 : decode cL_drive 40 = .ok (.iload_n 3, 1) := by decide +kernel
theorem dL_drive_41 : decode cL_drive 41 = .ok (.goto 4, 3) := by decide +kernel
theorem dL_drive_44 : decode cL_drive 44 = .ok (.iload_n 2, 1) := by decide +kernel
theorem dL_drive_45 : decode cL_drive 45 = .ok (.istore_n 2, 1) := by decide +kernel
theorem dL_drive_46 : decode cL_drive 46 = .ok (.iinc 3 (-1), 3) := by decide +kernel
theorem dL_drive_49 : decode cL_drive 49 = .ok (.goto (-39), 3) := by decide +kernel
theorem dL_drive_52 : decode cL_drive 52 = .ok (.iload_n 2, 1) := by decide +kernel
theorem dL_drive_53 : decode cL_drive 53 = .ok (.ireturn, 1) := by decide +kernel
theorem dL_cleaner_0 : decode cL_cleaner 0 = .ok (.bipush (-5), 2) := by decide +kernel
theorem dL_cleaner_2 : decode cL_cleaner 2 = .ok (.istore_n 2, 1) := by decide +kernel
theorem dL_cleaner_3 : decode cL_cleaner 3 = .ok (.aload_n 0, 1) := by decide +kernel
theorem dL_cleaner_4 : decode cL_cleaner 4 = .ok (.bipush 9, 2) := by decide +kernel
theorem dL_cleaner_6 : decode cL_cleaner 6 = .ok (.iaload, 1) := by decide +kernel
theorem dL_cleaner_7 : decode cL_cleaner 7 = .ok (.iconst 1, 1) := by decide +kernel
theorem dL_cleaner_8 : decode cL_cleaner 8 = .ok (.isub, 1) := by decide +kernel
theorem dL_cleaner_9 : decode cL_cleaner 9 = .ok (.istore_n 3, 1) := by decide +kernel
theorem dL_cleaner_10 : decode cL_cleaner 10 = .ok (.iload_n 3, 1) := by decide +kernel
theorem dL_cleaner_11 : decode cL_cleaner 11 = .ok (.ifCond .lt 83, 3) := by decide +kernel
theorem dL_cleaner_14 : decode cL_cleaner 14 = .ok (.aload_n 1, 1) := by decide +kernel
theorem dL_cleaner_15 : decode cL_cleaner 15 = .ok (.bipush 6, 2) := by decide +kernel
theorem dL_cleaner_17 : decode cL_cleaner 17 = .ok (.iload_n 3, 1) := by decide +kernel
theorem dL_cleaner_18 : decode cL_cleaner 18 = .ok (.imul, 1) := by decide +kernel
theorem dL_cleaner_19 : decode cL_cleaner 19 = .ok (.iaload, 1) := by decide +kernel
theorem dL_cleaner_20 : decode cL_cleaner 20 = .ok (.iconst 1, 1) := by decide +kernel
theorem dL_cleaner_21 : decode cL_cleaner 21 = .ok (.if_icmp .ne 18, 3) := by decide +kernel
theorem dL_cleaner_24 : decode cL_cleaner 24 = .ok (.aload_n 1, 1) := by decide +kernel
theorem dL_cleaner_25 : decode cL_cleaner 25 = .ok (.bipush 6, 2) := by decide +kernel
theorem dL_cleaner_27 : decode cL_cleaner 27 = .ok (.iload_n 3, 1) := by decide +kernel
theorem dL_cleaner_28 : decode cL_cleaner 28 = .ok (.imul, 1) := by decide +kernel
theorem dL_cleaner_29 : decode cL_cleaner 29 = .ok (.iconst 3, 1) := by decide +kernel
theorem dL_cleaner_30 : decode cL_cleaner 30 = .ok (.iadd, 1) := by decide +kernel
theorem dL_cleaner_31 : decode cL_cleaner 31 = .ok (.iaload, 1) := by decide +kernel
theorem dL_cleaner_32 : decode cL_cleaner 32 = .ok (.ifCond .le 7, 3) := by decide +kernel
theorem dL_cleaner_35 : decode cL_cleaner 35 = .ok (.iconst 1, 1) := by decide +kernel
theorem dL_cleaner_36 : decode cL_cleaner 36 = .ok (.goto 4, 3) := by decide +kernel
theorem dL_cleaner_39 : decode cL_cleaner 39 = .ok (.iconst 0, 1) := by decide +kernel
theorem dL_cleaner_40 : decode cL_cleaner 40 = .ok (.istore 4, 2) := by decide +kernel
theorem dL_cleaner_42 : decode cL_cleaner 42 = .ok (.iload 4, 2) := by decide +kernel
theorem dL_cleaner_44 : decode cL_cleaner 44 = .ok (.ifCond .eq 42, 3) := by decide +kernel
theorem dL_cleaner_47 : decode cL_cleaner 47 = .ok (.iload_n 2, 1) := by decide +kernel
theorem dL_cleaner_48 : decode cL_cleaner 48 = .ok (.ifCond .lt 34, 3) := by decide +kernel
theorem dL_cleaner_51 : decode cL_cleaner 51 = .ok (.aload_n 1, 1) := by decide +kernel
theorem dL_cleaner_52 : decode cL_cleaner 52 = .ok (.bipush 6, 2) := by decide +kernel
theorem dL_cleaner_54 : decode cL_cleaner 54 = .ok (.iload_n 3, 1) := by decide +kernel
theorem dL_cleaner_55 : decode cL_cleaner 55 = .ok (.imul, 1) := by decide +kernel
theorem dL_cleaner_56 : decode cL_cleaner 56 = .ok (.iconst 1, 1) := by decide +kernel
theorem dL_cleaner_57 : decode cL_cleaner 57 = .ok (.iadd, 1) := by decide +kernel
theorem dL_cleaner_58 : decode cL_cleaner 58 = .ok (.iaload, 1) := by decide +kernel
theorem dL_cleaner_59 : decode cL_cleaner 59 = .ok (.aload_n 0, 1) := by decide +kernel
theorem dL_cleaner_60 : decode cL_cleaner 60 = .ok (.iconst 1, 1) := by decide +kernel
theorem dL_cleaner_61 : decode cL_cleaner 61 = .ok (.iaload, 1) := by decide +kernel
theorem dL_cleaner_62 : decode cL_cleaner 62 = .ok (.invokestatic 19, 3) := by decide +kernel
theorem dL_cleaner_65 : decode cL_cleaner 65 = .ok (.aload_n 1, 1) := by decide +kernel
theorem dL_cleaner_66 : decode cL_cleaner 66 = .ok (.bipush 6, 2) := by decide +kernel
theorem dL_cleaner_68 : decode cL_cleaner 68 = .ok (.iload_n 2, 1) := by decide +kernel
theorem dL_cleaner_69 : decode cL_cleaner 69 = .ok (.imul, 1) := by decide +kernel
theorem dL_cleaner_70 : decode cL_cleaner 70 = .ok (.iconst 1, 1) := by decide +kernel
theorem dL_cleaner_71 : decode cL_cleaner 71 = .ok (.iadd, 1) := by decide +kernel
theorem dL_cleaner_72 : decode cL_cleaner 72 = .ok (.iaload, 1) := by decide +kernel
theorem dL_cleaner_73 : decode cL_cleaner 73 = .ok (.aload_n 0, 1) := by decide +kernel
theorem dL_cleaner_74 : decode cL_cleaner 74 = .ok (.iconst 1, 1) := by decide +kernel
theorem dL_cleaner_75 : decode cL_cleaner 75 = .ok (.iaload, 1) := by decide +kernel
theorem dL_cleaner_76 : decode cL_cleaner 76 = .ok (.invokestatic 19, 3) := by decide +kernel
theorem dL_cleaner_79 : decode cL_cleaner 79 = .ok (.if_icmp .gt 7, 3) := by decide +kernel
theorem dL_cleaner_82 : decode cL_cleaner 82 = .ok (.iload_n 3, 1) := by decide +kernel
theorem dL_cleaner_83 : decode cL_cleaner 83 = .ok (.goto 4, 3) := by decide +kernel
theorem dL_cleaner_86 : decode cL_cleaner 86 = .ok (.iload_n 2, 1) := by decide +kernel
theorem dL_cleaner_87 : decode cL_cleaner 87 = .ok (.istore_n 2, 1) := by decide +kernel
theorem dL_cleaner_88 : decode cL_cleaner 88 = .ok (.iinc 3 (-1), 3) := by decide +kernel
theorem dL_cleaner_91 : decode cL_cleaner 91 = .ok (.goto (-81), 3) := by decide +kernel
theorem dL_cleaner_94 : decode cL_cleaner 94 = .ok (.iload_n 2, 1) := by decide +kernel
theorem dL_cleaner_95 : decode cL_cleaner 95 = .ok (.ireturn, 1) := by decide +kernel
theorem dL_canBegin_0 : decode cL_canBegin 0 = .ok (.aload 4, 2) := by decide +kernel
theorem dL_canBegin_2 : decode cL_canBegin 2 = .ok (.bipush 6, 2) := by decide +kernel
theorem dL_canBegin_4 : decode cL_canBegin 4 = .ok (.iload 5, 2) := by decide +kernel
theorem dL_canBegin_6 : decode cL_canBegin 6 = .ok (.imul, 1) := by decide +kernel
theorem dL_canBegin_7 : decode cL_canBegin 7 = .ok (.iconst 3, 1) := by decide +kernel
theorem dL_canBegin_8 : decode cL_canBegin 8 = .ok (.iadd, 1) := by decide +kernel
theorem dL_canBegin_9 : decode cL_canBegin 9 = .ok (.iaload, 1) := by decide +kernel
theorem dL_canBegin_10 : decode cL_canBegin 10 = .ok (.aload_n 0, 1) := by decide +kernel
theorem dL_canBegin_11 : decode cL_canBegin 11 = .ok (.iconst 0, 1) := by decide +kernel
theorem dL_canBegin_12 : decode cL_canBegin 12 = .ok (.iaload, 1) := by decide +kernel
theorem dL_canBegin_13 : decode cL_canBegin 13 = .ok (.if_icmp .le 5, 3) := by decide +kernel
theorem dL_canBegin_16 : decode cL_canBegin 16 = .ok (.iconst 0, 1) := by decide +kernel
theorem dL_canBegin_17 : decode cL_canBegin 17 = .ok (.ireturn, 1) := by decide +kernel
theorem dL_canBegin_18 : decode cL_canBegin 18 = .ok (.aload_n 3, 1) := by decide +kernel
theorem dL_canBegin_19 : decode cL_canBegin 19 = .ok (.bipush 6, 2) := by decide +kernel
theorem dL_canBegin_21 : decode cL_canBegin 21 = .ok (.iload 5, 2) := by decide +kernel
theorem dL_canBegin_23 : decode cL_canBegin 23 = .ok (.imul, 1) := by decide +kernel
theorem dL_canBegin_24 : decode cL_canBegin 24 = .ok (.iaload, 1) := by decide +kernel
theorem dL_canBegin_25 : decode cL_canBegin 25 = .ok (.iconst 2, 1) := by decide +kernel
theorem dL_canBegin_26 : decode cL_canBegin 26 = .ok (.if_icmp .ne 20, 3) := by decide +kernel
theorem dL_canBegin_29 : decode cL_canBegin 29 = .ok (.aload_n 0, 1) := by decide +kernel
theorem dL_canBegin_30 : decode cL_canBegin 30 = .ok (.aload_n 1, 1) := by decide +kernel
theorem dL_canBegin_31 : decode cL_canBegin 31 = .ok (.aload_n 3, 1) := by decide +kernel
theorem dL_canBegin_32 : decode cL_canBegin 32 = .ok (.bipush 6, 2) := by decide +kernel
theorem dL_canBegin_34 : decode cL_canBegin 34 = .ok (.iload 5, 2) := by decide +kernel
theorem dL_canBegin_36 : decode cL_canBegin 36 = .ok (.imul, 1) := by decide +kernel
theorem dL_canBegin_37 : decode cL_canBegin 37 = .ok (.iconst 2, 1) := by decide +kernel
theorem dL_canBegin_38 : decode cL_canBegin 38 = .ok (.iadd, 1) := by decide +kernel
theorem dL_canBegin_39 : decode cL_canBegin 39 = .ok (.iaload, 1) := by decide +kernel
theorem dL_canBegin_40 : decode cL_canBegin 40 = .ok (.invokestatic 23, 3) := by decide +kernel
theorem dL_canBegin_43 : decode cL_canBegin 43 = .ok (.goto 5, 3) := by decide +kernel
theorem dL_canBegin_46 : decode cL_canBegin 46 = .ok (.bipush (-5), 2) := by decide +kernel
theorem dL_canBegin_48 : decode cL_canBegin 48 = .ok (.istore 6, 2) := by decide +kernel
theorem dL_canBegin_50 : decode cL_canBegin 50 = .ok (.aload_n 3, 1) := by decide +kernel
theorem dL_canBegin_51 : decode cL_canBegin 51 = .ok (.bipush 6, 2) := by decide +kernel
theorem dL_canBegin_53 : decode cL_canBegin 53 = .ok (.iload 5, 2) := by decide +kernel
theorem dL_canBegin_55 : decode cL_canBegin 55 = .ok (.imul, 1) := by decide +kernel
theorem dL_canBegin_56 : decode cL_canBegin 56 = .ok (.iaload, 1) := by decide +kernel
theorem dL_canBegin_57 : decode cL_canBegin 57 = .ok (.ifCond .ne 19, 3) := by decide +kernel
theorem dL_canBegin_60 : decode cL_canBegin 60 = .ok (.aload_n 0, 1) := by decide +kernel
theorem dL_canBegin_61 : decode cL_canBegin 61 = .ok (.aload_n 2, 1) := by decide +kernel
theorem dL_canBegin_62 : decode cL_canBegin 62 = .ok (.invokestatic 27, 3) := by decide +kernel
theorem dL_canBegin_65 : decode cL_canBegin 65 = .ok (.ifCond .lt 7, 3) := by decide +kernel
theorem dL_canBegin_68 : decode cL_canBegin 68 = .ok (.iconst 1, 1) := by decide +kernel
theorem dL_canBegin_69 : decode cL_canBegin 69 = .ok (.goto 58, 3) := by decide +kernel
theorem dL_canBegin_72 : decode cL_canBegin 72 = .ok (.iconst 0, 1) := by decide +kernel
theorem dL_canBegin_73 : decode cL_canBegin 73 = .ok (.goto 54, 3) := by decide +kernel
theorem dL_canBegin_76 : decode cL_canBegin 76 = .ok (.aload_n 3, 1) := by decide +kernel
theorem dL_canBegin_77 : decode cL_canBegin 77 = .ok (.bipush 6, 2) := by decide +kernel
theorem dL_canBegin_79 : decode cL_canBegin 79 = .ok (.iload 5, 2) := by decide +kernel
theorem dL_canBegin_81 : decode cL_canBegin 81 = .ok (.imul, 1) := by decide +kernel
theorem dL_canBegin_82 : decode cL_canBegin 82 = .ok (.iaload, 1) := by decide +kernel
theorem dL_canBegin_83 : decode cL_canBegin 83 = .ok (.iconst 1, 1) := by decide +kernel
theorem dL_canBegin_84 : decode cL_canBegin 84 = .ok (.if_icmp .ne 19, 3) := by decide +kernel
theorem dL_canBegin_87 : decode cL_canBegin 87 = .ok (.aload_n 0, 1) := by decide +kernel
theorem dL_canBegin_88 : decode cL_canBegin 88 = .ok (.aload_n 1, 1) := by decide +kernel
theorem dL_canBegin_89 : decode cL_canBegin 89 = .ok (.invokestatic 31, 3) := by decide +kernel
theorem dL_canBegin_92 : decode cL_canBegin 92 = .ok (.ifCond .lt 7, 3) := by decide +kernel
theorem dL_canBegin_95 : decode cL_canBegin 95 = .ok (.iconst 1, 1) := by decide +kernel
theorem dL_canBegin_96 : decode cL_canBegin 96 = .ok (.goto 31, 3) := by decide +kernel
theorem dL_canBegin_99 : decode cL_canBegin 99 = .ok (.iconst 0, 1) := by decide +kernel
theorem dL_canBegin_100 : decode cL_canBegin 100 = .ok (.goto 27, 3) := by decide +kernel
theorem dL_canBegin_103 : decode cL_canBegin 103 = .ok (.iload 6, 2) := by decide +kernel
theorem dL_canBegin_105 : decode cL_canBegin 105 = .ok (.ifCond .lt 17, 3) := by decide +kernel
theorem dL_canBegin_108 : decode cL_canBegin 108 = .ok (.iload 6, 2) := by decide +kernel
theorem dL_canBegin_110 : decode cL_canBegin 110 = .ok (.aload_n 3, 1) := by decide +kernel
theorem dL_canBegin_111 : decode cL_canBegin 111 = .ok (.bipush 6, 2) := by decide +kernel
theorem dL_canBegin_113 : decode cL_canBegin 113 = .ok (.iload 5, 2) := by decide +kernel
theorem dL_canBegin_115 : decode cL_canBegin 115 = .ok (.imul, 1) := by decide +kernel
theorem dL_canBegin_116 : decode cL_canBegin 116 = .ok (.iconst 1, 1) := by decide +kernel
theorem dL_canBegin_117 : decode cL_canBegin 117 = .ok (.iadd, 1) := by decide +kernel
theorem dL_canBegin_118 : decode cL_canBegin 118 = .ok (.iaload, 1) := by decide +kernel
theorem dL_canBegin_119 : decode cL_canBegin 119 = .ok (.if_icmp .ne 7, 3) := by decide +kernel
theorem dL_canBegin_122 : decode cL_canBegin 122 = .ok (.iconst 1, 1) := by decide +kernel
theorem dL_canBegin_123 : decode cL_canBegin 123 = .ok (.goto 4, 3) := by decide +kernel
theorem dL_canBegin_126 : decode cL_canBegin 126 = .ok (.iconst 0, 1) := by decide +kernel
theorem dL_canBegin_127 : decode cL_canBegin 127 = .ok (.ireturn, 1) := by decide +kernel
theorem dL_first_0 : decode cL_first 0 = .ok (.bipush (-5), 2) := by decide +kernel
theorem dL_first_2 : decode cL_first 2 = .ok (.istore 5, 2) := by decide +kernel
theorem dL_first_4 : decode cL_first 4 = .ok (.iconst 0, 1) := by decide +kernel
theorem dL_first_5 : decode cL_first 5 = .ok (.istore 6, 2) := by decide +kernel
theorem dL_first_7 : decode cL_first 7 = .ok (.iload 6, 2) := by decide +kernel
theorem dL_first_9 : decode cL_first 9 = .ok (.aload_n 0, 1) := by decide +kernel
theorem dL_first_10 : decode cL_first 10 = .ok (.bipush 11, 2) := by decide +kernel
theorem dL_first_12 : decode cL_first 12 = .ok (.iaload, 1) := by decide +kernel
theorem dL_first_13 : decode cL_first 13 = .ok (.if_icmp .ge 62, 3) := by decide +kernel
theorem dL_first_16 : decode cL_first 16 = .ok (.aload_n 3, 1) := by decide +kernel
theorem dL_first_17 : decode cL_first 17 = .ok (.bipush 6, 2) := by decide +kernel
theorem dL_first_19 : decode cL_first 19 = .ok (.iload 6, 2) := by decide +kernel
theorem dL_first_21 : decode cL_first 21 = .ok (.imul, 1) := by decide +kernel
theorem dL_first_22 : decode cL_first 22 = .ok (.iconst 3, 1) := by decide +kernel
theorem dL_first_23 : decode cL_first 23 = .ok (.iadd, 1) := by decide +kernel
theorem dL_first_24 : decode cL_first 24 = .ok (.iaload, 1) := by decide +kernel
theorem dL_first_25 : decode cL_first 25 = .ok (.ifCond .ne 40, 3) := by decide +kernel
theorem dL_first_28 : decode cL_first 28 = .ok (.aload_n 0, 1) := by decide +kernel
theorem dL_first_29 : decode cL_first 29 = .ok (.aload_n 1, 1) := by decide +kernel
theorem dL_first_30 : decode cL_first 30 = .ok (.aload_n 2, 1) := by decide +kernel
theorem dL_first_31 : decode cL_first 31 = .ok (.aload_n 3, 1) := by decide +kernel
theorem dL_first_32 : decode cL_first 32 = .ok (.aload 4, 2) := by decide +kernel
theorem dL_first_34 : decode cL_first 34 = .ok (.iload 6, 2) := by decide +kernel
theorem dL_first_36 : decode cL_first 36 = .ok (.invokestatic 35, 3) := by decide +kernel
theorem dL_first_39 : decode cL_first 39 = .ok (.ifCond .eq 26, 3) := by decide +kernel
theorem dL_first_42 : decode cL_first 42 = .ok (.iload 5, 2) := by decide +kernel
theorem dL_first_44 : decode cL_first 44 = .ok (.ifCond .lt 16, 3) := by decide +kernel
theorem dL_first_47 : decode cL_first 47 = .ok (.aload_n 0, 1) := by decide +kernel
theorem dL_first_48 : decode cL_first 48 = .ok (.aload_n 2, 1) := by decide +kernel
theorem dL_first_49 : decode cL_first 49 = .ok (.aload_n 3, 1) := by decide +kernel
theorem dL_first_50 : decode cL_first 50 = .ok (.iload 6, 2) := by decide +kernel
theorem dL_first_52 : decode cL_first 52 = .ok (.iload 5, 2) := by decide +kernel
theorem dL_first_54 : decode cL_first 54 = .ok (.invokestatic 39, 3) := by decide +kernel
theorem dL_first_57 : decode cL_first 57 = .ok (.ifCond .eq 8, 3) := by decide +kernel
theorem dL_first_60 : decode cL_first 60 = .ok (.iload 6, 2) := by decide +kernel
theorem dL_first_62 : decode cL_first 62 = .ok (.goto 5, 3) := by decide +kernel
theorem dL_first_65 : decode cL_first 65 = .ok (.iload 5, 2) := by decide +kernel
theorem dL_first_67 : decode cL_first 67 = .ok (.istore 5, 2) := by decide +kernel
theorem dL_first_69 : decode cL_first 69 = .ok (.iinc 6 1, 3) := by decide +kernel
theorem dL_first_72 : decode cL_first 72 = .ok (.goto (-65), 3) := by decide +kernel
theorem dL_first_75 : decode cL_first 75 = .ok (.iload 5, 2) := by decide +kernel
theorem dL_first_77 : decode cL_first 77 = .ok (.ireturn, 1) := by decide +kernel
theorem dL_isThere_0 : decode cL_isThere 0 = .ok (.aload_n 0, 1) := by decide +kernel
theorem dL_isThere_1 : decode cL_isThere 1 = .ok (.iconst 1, 1) := by decide +kernel
theorem dL_isThere_2 : decode cL_isThere 2 = .ok (.iaload, 1) := by decide +kernel
theorem dL_isThere_3 : decode cL_isThere 3 = .ok (.iload 4, 2) := by decide +kernel
theorem dL_isThere_5 : decode cL_isThere 5 = .ok (.invokestatic 19, 3) := by decide +kernel
theorem dL_isThere_8 : decode cL_isThere 8 = .ok (.istore 5, 2) := by decide +kernel
theorem dL_isThere_10 : decode cL_isThere 10 = .ok (.aload_n 0, 1) := by decide +kernel
theorem dL_isThere_11 : decode cL_isThere 11 = .ok (.iconst 2, 1) := by decide +kernel
theorem dL_isThere_12 : decode cL_isThere 12 = .ok (.iaload, 1) := by decide +kernel
theorem dL_isThere_13 : decode cL_isThere 13 = .ok (.ifCond .ge 8, 3) := by decide +kernel
theorem dL_isThere_16 : decode cL_isThere 16 = .ok (.ldc 43, 2) := by decide +kernel
theorem dL_isThere_18 : decode cL_isThere 18 = .ok (.goto 21, 3) := by decide +kernel
theorem dL_isThere_21 : decode cL_isThere 21 = .ok (.aload_n 1, 1) := by decide +kernel
theorem dL_isThere_22 : decode cL_isThere 22 = .ok (.bipush 6, 2) := by decide +kernel
theorem dL_isThere_24 : decode cL_isThere 24 = .ok (.aload_n 0, 1) := by decide +kernel
theorem dL_isThere_25 : decode cL_isThere 25 = .ok (.iconst 2, 1) := by decide +kernel
theorem dL_isThere_26 : decode cL_isThere 26 = .ok (.iaload, 1) := by decide +kernel
theorem dL_isThere_27 : decode cL_isThere 27 = .ok (.imul, 1) := by decide +kernel
theorem dL_isThere_28 : decode cL_isThere 28 = .ok (.iaload, 1) := by decide +kernel
theorem dL_isThere_29 : decode cL_isThere 29 = .ok (.iconst 1, 1) := by decide +kernel
theorem dL_isThere_30 : decode cL_isThere 30 = .ok (.if_icmp .ne 8, 3) := by decide +kernel
theorem dL_isThere_33 : decode cL_isThere 33 = .ok (.ldc 44, 2) := by decide +kernel
theorem dL_isThere_35 : decode cL_isThere 35 = .ok (.goto 4, 3) := by decide +kernel
theorem dL_isThere_38 : decode cL_isThere 38 = .ok (.fconst 1, 1) := by decide +kernel
theorem dL_isThere_39 : decode cL_isThere 39 = .ok (.fstore 6, 2) := by decide +kernel
theorem dL_isThere_41 : decode cL_isThere 41 = .ok (.aload_n 2, 1) := by decide +kernel
theorem dL_isThere_42 : decode cL_isThere 42 = .ok (.bipush 8, 2) := by decide +kernel
theorem dL_isThere_44 : decode cL_isThere 44 = .ok (.daload, 1) := by decide +kernel
theorem dL_isThere_45 : decode cL_isThere 45 = .ok (.d2f, 1) := by decide +kernel
theorem dL_isThere_46 : decode cL_isThere 46 = .ok (.iload 5, 2) := by decide +kernel
theorem dL_isThere_48 : decode cL_isThere 48 = .ok (.i2f, 1) := by decide +kernel
theorem dL_isThere_49 : decode cL_isThere 49 = .ok (.fload 6, 2) := by decide +kernel
theorem dL_isThere_51 : decode cL_isThere 51 = .ok (.fmul, 1) := by decide +kernel
theorem dL_isThere_52 : decode cL_isThere 52 = .ok (.fadd, 1) := by decide +kernel
theorem dL_isThere_53 : decode cL_isThere 53 = .ok (.fstore 7, 2) := by decide +kernel
theorem dL_isThere_55 : decode cL_isThere 55 = .ok (.iload 5, 2) := by decide +kernel
theorem dL_isThere_57 : decode cL_isThere 57 = .ok (.ifCond .le 38, 3) := by decide +kernel
theorem dL_isThere_60 : decode cL_isThere 60 = .ok (.fload 7, 2) := by decide +kernel
theorem dL_isThere_62 : decode cL_isThere 62 = .ok (.f2d, 1) := by decide +kernel
theorem dL_isThere_63 : decode cL_isThere 63 = .ok (.aload_n 2, 1) := by decide +kernel
theorem dL_isThere_64 : decode cL_isThere 64 = .ok (.bipush 9, 2) := by decide +kernel
theorem dL_isThere_66 : decode cL_isThere 66 = .ok (.daload, 1) := by decide +kernel
theorem dL_isThere_67 : decode cL_isThere 67 = .ok (.dcmp .l, 1) := by decide +kernel
theorem dL_isThere_68 : decode cL_isThere 68 = .ok (.ifCond .le 27, 3) := by decide +kernel
theorem dL_isThere_71 : decode cL_isThere 71 = .ok (.aload_n 0, 1) := by decide +kernel
theorem dL_isThere_72 : decode cL_isThere 72 = .ok (.bipush 15, 2) := by decide +kernel
theorem dL_isThere_74 : decode cL_isThere 74 = .ok (.dup2, 1) := by decide +kernel
theorem dL_isThere_75 : decode cL_isThere 75 = .ok (.iaload, 1) := by decide +kernel
theorem dL_isThere_76 : decode cL_isThere 76 = .ok (.iconst 1, 1) := by decide +kernel
theorem dL_isThere_77 : decode cL_isThere 77 = .ok (.iadd, 1) := by decide +kernel
theorem dL_isThere_78 : decode cL_isThere 78 = .ok (.iastore, 1) := by decide +kernel
theorem dL_isThere_79 : decode cL_isThere 79 = .ok (.aload_n 3, 1) := by decide +kernel
theorem dL_isThere_80 : decode cL_isThere 80 = .ok (.bipush 6, 2) := by decide +kernel
theorem dL_isThere_82 : decode cL_isThere 82 = .ok (.aload_n 0, 1) := by decide +kernel
theorem dL_isThere_83 : decode cL_isThere 83 = .ok (.iconst 3, 1) := by decide +kernel
theorem dL_isThere_84 : decode cL_isThere 84 = .ok (.iaload, 1) := by decide +kernel
theorem dL_isThere_85 : decode cL_isThere 85 = .ok (.imul, 1) := by decide +kernel
theorem dL_isThere_86 : decode cL_isThere 86 = .ok (.iconst 2, 1) := by decide +kernel
theorem dL_isThere_87 : decode cL_isThere 87 = .ok (.iadd, 1) := by decide +kernel
theorem dL_isThere_88 : decode cL_isThere 88 = .ok (.dup2, 1) := by decide +kernel
theorem dL_isThere_89 : decode cL_isThere 89 = .ok (.iaload, 1) := by decide +kernel
theorem dL_isThere_90 : decode cL_isThere 90 = .ok (.iconst 1, 1) := by decide +kernel
theorem dL_isThere_91 : decode cL_isThere 91 = .ok (.iadd, 1) := by decide +kernel
theorem dL_isThere_92 : decode cL_isThere 92 = .ok (.iastore, 1) := by decide +kernel
theorem dL_isThere_93 : decode cL_isThere 93 = .ok (.iconst 0, 1) := by decide +kernel
theorem dL_isThere_94 : decode cL_isThere 94 = .ok (.ireturn, 1) := by decide +kernel
theorem dL_isThere_95 : decode cL_isThere 95 = .ok (.iload 5, 2) := by decide +kernel
theorem dL_isThere_97 : decode cL_isThere 97 = .ok (.ifCond .le 24, 3) := by decide +kernel
theorem dL_isThere_100 : decode cL_isThere 100 = .ok (.aload_n 2, 1) := by decide +kernel
theorem dL_isThere_101 : decode cL_isThere 101 = .ok (.bipush 8, 2) := by decide +kernel
theorem dL_isThere_103 : decode cL_isThere 103 = .ok (.fload 7, 2) := by decide +kernel
theorem dL_isThere_105 : decode cL_isThere 105 = .ok (.f2d, 1) := by decide +kernel
theorem dL_isThere_106 : decode cL_isThere 106 = .ok (.dastore, 1) := by decide +kernel
theorem dL_isThere_107 : decode cL_isThere 107 = .ok (.aload_n 0, 1) := by decide +kernel
theorem dL_isThere_108 : decode cL_isThere 108 = .ok (.iconst 1, 1) := by decide +kernel
theorem dL_isThere_109 : decode cL_isThere 109 = .ok (.iload 4, 2) := by decide +kernel
theorem dL_isThere_111 : decode cL_isThere 111 = .ok (.iastore, 1) := by decide +kernel
theorem dL_isThere_112 : decode cL_isThere 112 = .ok (.aload_n 0, 1) := by decide +kernel
theorem dL_isThere_113 : decode cL_isThere 113 = .ok (.bipush 16, 2) := by decide +kernel
theorem dL_isThere_115 : decode cL_isThere 115 = .ok (.dup2, 1) := by decide +kernel
theorem dL_isThere_116 : decode cL_isThere 116 = .ok (.iaload, 1) := by decide +kernel
theorem dL_isThere_117 : decode cL_isThere 117 = .ok (.iload 5, 2) := by decide +kernel
theorem dL_isThere_119 : decode cL_isThere 119 = .ok (.iadd, 1) := by decide +kernel
theorem dL_isThere_120 : decode cL_isThere 120 = .ok (.iastore, 1) := by decide +kernel
theorem dL_isThere_121 : decode cL_isThere 121 = .ok (.iconst 1, 1) := by decide +kernel
theorem dL_isThere_122 : decode cL_isThere 122 = .ok (.ireturn, 1) := by decide +kernel
theorem dL_isRead_0 : decode cL_isRead 0 = .ok (.aload_n 0, 1) := by decide +kernel
theorem dL_isRead_1 : decode cL_isRead 1 = .ok (.iconst 3, 1) := by decide +kernel
theorem dL_isRead_2 : decode cL_isRead 2 = .ok (.iaload, 1) := by decide +kernel
theorem dL_isRead_3 : decode cL_isRead 3 = .ok (.istore 8, 2) := by decide +kernel
theorem dL_isRead_5 : decode cL_isRead 5 = .ok (.aload_n 3, 1) := by decide +kernel
theorem dL_isRead_6 : decode cL_isRead 6 = .ok (.iload 7, 2) := by decide +kernel
theorem dL_isRead_8 : decode cL_isRead 8 = .ok (.invokestatic 9, 3) := by decide +kernel
theorem dL_isRead_11 : decode cL_isRead 11 = .ok (.ifCond .eq 16, 3) := by decide +kernel
theorem dL_isRead_14 : decode cL_isRead 14 = .ok (.aload 4, 2) := by decide +kernel
theorem dL_isRead_16 : decode cL_isRead 16 = .ok (.bipush 6, 2) := by decide +kernel
theorem dL_isRead_18 : decode cL_isRead 18 = .ok (.iload 8, 2) := by decide +kernel
theorem dL_isRead_20 : decode cL_isRead 20 = .ok (.imul, 1) := by decide +kernel
theorem dL_isRead_21 : decode cL_isRead 21 = .ok (.iconst 1, 1) := by decide +kernel
theorem dL_isRead_22 : decode cL_isRead 22 = .ok (.iadd, 1) := by decide +kernel
theorem dL_isRead_23 : decode cL_isRead 23 = .ok (.iconst 1, 1) := by decide +kernel
theorem dL_isRead_24 : decode cL_isRead 24 = .ok (.iastore, 1) := by decide +kernel
theorem dL_isRead_25 : decode cL_isRead 25 = .ok (.iconst 1, 1) := by decide +kernel
theorem dL_isRead_26 : decode cL_isRead 26 = .ok (.ireturn, 1) := by decide +kernel
theorem dL_isRead_27 : decode cL_isRead 27 = .ok (.aload_n 3, 1) := by decide +kernel
theorem dL_isRead_28 : decode cL_isRead 28 = .ok (.iconst 2, 1) := by decide +kernel
theorem dL_isRead_29 : decode cL_isRead 29 = .ok (.iload 7, 2) := by decide +kernel
theorem dL_isRead_31 : decode cL_isRead 31 = .ok (.imul, 1) := by decide +kernel
theorem dL_isRead_32 : decode cL_isRead 32 = .ok (.daload, 1) := by decide +kernel
theorem dL_isRead_33 : decode cL_isRead 33 = .ok (.d2f, 1) := by decide +kernel
theorem dL_isRead_34 : decode cL_isRead 34 = .ok (.fstore 9, 2) := by decide +kernel
theorem dL_isRead_36 : decode cL_isRead 36 = .ok (.fload 9, 2) := by decide +kernel
theorem dL_isRead_38 : decode cL_isRead 38 = .ok (.aload_n 1, 1) := by decide +kernel
theorem dL_isRead_39 : decode cL_isRead 39 = .ok (.bipush 6, 2) := by decide +kernel
theorem dL_isRead_41 : decode cL_isRead 41 = .ok (.iload 6, 2) := by decide +kernel
theorem dL_isRead_43 : decode cL_isRead 43 = .ok (.imul, 1) := by decide +kernel
theorem dL_isRead_44 : decode cL_isRead 44 = .ok (.iconst 4, 1) := by decide +kernel
theorem dL_isRead_45 : decode cL_isRead 45 = .ok (.iadd, 1) := by decide +kernel
theorem dL_isRead_46 : decode cL_isRead 46 = .ok (.iaload, 1) := by decide +kernel
theorem dL_isRead_47 : decode cL_isRead 47 = .ok (.i2f, 1) := by decide +kernel
theorem dL_isRead_48 : decode cL_isRead 48 = .ok (.ldc 45, 2) := by decide +kernel
theorem dL_isRead_50 : decode cL_isRead 50 = .ok (.fmul, 1) := by decide +kernel
theorem dL_isRead_51 : decode cL_isRead 51 = .ok (.fmul, 1) := by decide +kernel
theorem dL_isRead_52 : decode cL_isRead 52 = .ok (.ldc 46, 2) := by decide +kernel
theorem dL_isRead_54 : decode cL_isRead 54 = .ok (.fcmp .l, 1) := by decide +kernel
theorem dL_isRead_55 : decode cL_isRead 55 = .ok (.ifCond .le 7, 3) := by decide +kernel
theorem dL_isRead_58 : decode cL_isRead 58 = .ok (.iconst 1, 1) := by decide +kernel
theorem dL_isRead_59 : decode cL_isRead 59 = .ok (.goto 4, 3) := by decide +kernel
theorem dL_isRead_62 : decode cL_isRead 62 = .ok (.iconst 0, 1) := by decide +kernel
theorem dL_isRead_63 : decode cL_isRead 63 = .ok (.istore 10, 2) := by decide +kernel
theorem dL_isRead_65 : decode cL_isRead 65 = .ok (.aload_n 3, 1) := by decide +kernel
theorem dL_isRead_66 : decode cL_isRead 66 = .ok (.iconst 2, 1) := by decide +kernel
theorem dL_isRead_67 : decode cL_isRead 67 = .ok (.iload 7, 2) := by decide +kernel
theorem dL_isRead_69 : decode cL_isRead 69 = .ok (.imul, 1) := by decide +kernel
theorem dL_isRead_70 : decode cL_isRead 70 = .ok (.fload 9, 2) := by decide +kernel
theorem dL_isRead_72 : decode cL_isRead 72 = .ok (.fconst 1, 1) := by decide +kernel
theorem dL_isRead_73 : decode cL_isRead 73 = .ok (.aload_n 1, 1) := by decide +kernel
theorem dL_isRead_74 : decode cL_isRead 74 = .ok (.bipush 6, 2) := by decide +kernel
theorem dL_isRead_76 : decode cL_isRead 76 = .ok (.iload 6, 2) := by decide +kernel
theorem dL_isRead_78 : decode cL_isRead 78 = .ok (.imul, 1) := by decide +kernel
theorem dL_isRead_79 : decode cL_isRead 79 = .ok (.iconst 3, 1) := by decide +kernel
theorem dL_isRead_80 : decode cL_isRead 80 = .ok (.iadd, 1) := by decide +kernel
theorem dL_isRead_81 : decode cL_isRead 81 = .ok (.iaload, 1) := by decide +kernel
theorem dL_isRead_82 : decode cL_isRead 82 = .ok (.i2f, 1) := by decide +kernel
theorem dL_isRead_83 : decode cL_isRead 83 = .ok (.ldc 45, 2) := by decide +kernel
theorem dL_isRead_85 : decode cL_isRead 85 = .ok (.fmul, 1) := by decide +kernel
theorem dL_isRead_86 : decode cL_isRead 86 = .ok (.fadd, 1) := by decide +kernel
theorem dL_isRead_87 : decode cL_isRead 87 = .ok (.fadd, 1) := by decide +kernel
theorem dL_isRead_88 : decode cL_isRead 88 = .ok (.f2d, 1) := by decide +kernel
theorem dL_isRead_89 : decode cL_isRead 89 = .ok (.dastore, 1) := by decide +kernel
theorem dL_isRead_90 : decode cL_isRead 90 = .ok (.aload_n 1, 1) := by decide +kernel
theorem dL_isRead_91 : decode cL_isRead 91 = .ok (.bipush 6, 2) := by decide +kernel
theorem dL_isRead_93 : decode cL_isRead 93 = .ok (.iload 6, 2) := by decide +kernel
theorem dL_isRead_95 : decode cL_isRead 95 = .ok (.imul, 1) := by decide +kernel
theorem dL_isRead_96 : decode cL_isRead 96 = .ok (.iconst 3, 1) := by decide +kernel
theorem dL_isRead_97 : decode cL_isRead 97 = .ok (.iadd, 1) := by decide +kernel
theorem dL_isRead_98 : decode cL_isRead 98 = .ok (.dup2, 1) := by decide +kernel
theorem dL_isRead_99 : decode cL_isRead 99 = .ok (.iaload, 1) := by decide +kernel
theorem dL_isRead_100 : decode cL_isRead 100 = .ok (.iconst 1, 1) := by decide +kernel
theorem dL_isRead_101 : decode cL_isRead 101 = .ok (.iadd, 1) := by decide +kernel
theorem dL_isRead_102 : decode cL_isRead 102 = .ok (.iastore, 1) := by decide +kernel
theorem dL_isRead_103 : decode cL_isRead 103 = .ok (.aload_n 2, 1) := by decide +kernel
theorem dL_isRead_104 : decode cL_isRead 104 = .ok (.bipush 7, 2) := by decide +kernel
theorem dL_isRead_106 : decode cL_isRead 106 = .ok (.iload 7, 2) := by decide +kernel
theorem dL_isRead_108 : decode cL_isRead 108 = .ok (.imul, 1) := by decide +kernel
theorem dL_isRead_109 : decode cL_isRead 109 = .ok (.iconst 3, 1) := by decide +kernel
theorem dL_isRead_110 : decode cL_isRead 110 = .ok (.iadd, 1) := by decide +kernel
theorem dL_isRead_111 : decode cL_isRead 111 = .ok (.dup2, 1) := by decide +kernel
theorem dL_isRead_112 : decode cL_isRead 112 = .ok (.iaload, 1) := by decide +kernel
theorem dL_isRead_113 : decode cL_isRead 113 = .ok (.iconst 1, 1) := by decide +kernel
theorem dL_isRead_114 : decode cL_isRead 114 = .ok (.iadd, 1) := by decide +kernel
theorem dL_isRead_115 : decode cL_isRead 115 = .ok (.iastore, 1) := by decide +kernel
theorem dL_isRead_116 : decode cL_isRead 116 = .ok (.aload_n 0, 1) := by decide +kernel
theorem dL_isRead_117 : decode cL_isRead 117 = .ok (.bipush 12, 2) := by decide +kernel
theorem dL_isRead_119 : decode cL_isRead 119 = .ok (.dup2, 1) := by decide +kernel
theorem dL_isRead_120 : decode cL_isRead 120 = .ok (.iaload, 1) := by decide +kernel
theorem dL_isRead_121 : decode cL_isRead 121 = .ok (.iconst 1, 1) := by decide +kernel
theorem dL_isRead_122 : decode cL_isRead 122 = .ok (.iadd, 1) := by decide +kernel
theorem dL_isRead_123 : decode cL_isRead 123 = .ok (.iastore, 1) := by decide +kernel
theorem dL_isRead_124 : decode cL_isRead 124 = .ok (.iload 10, 2) := by decide +kernel
theorem dL_isRead_126 : decode cL_isRead 126 = .ok (.ifCond .eq 79, 3) := by decide +kernel
theorem dL_isRead_129 : decode cL_isRead 129 = .ok (.aload_n 1, 1) := by decide +kernel
theorem dL_isRead_130 : decode cL_isRead 130 = .ok (.bipush 6, 2) := by decide +kernel
theorem dL_isRead_132 : decode cL_isRead 132 = .ok (.iload 6, 2) := by decide +kernel
theorem dL_isRead_134 : decode cL_isRead 134 = .ok (.imul, 1) := by decide +kernel
theorem dL_isRead_135 : decode cL_isRead 135 = .ok (.iconst 5, 1) := by decide +kernel
theorem dL_isRead_136 : decode cL_isRead 136 = .ok (.iadd, 1) := by decide +kernel
theorem dL_isRead_137 : decode cL_isRead 137 = .ok (.dup2, 1) := by decide +kernel
theorem dL_isRead_138 : decode cL_isRead 138 = .ok (.iaload, 1) := by decide +kernel
theorem dL_isRead_139 : decode cL_isRead 139 = .ok (.iconst 1, 1) := by decide +kernel
theorem dL_isRead_140 : decode cL_isRead 140 = .ok (.iadd, 1) := by decide +kernel
theorem dL_isRead_141 : decode cL_isRead 141 = .ok (.iastore, 1) := by decide +kernel
theorem dL_isRead_142 : decode cL_isRead 142 = .ok (.aload_n 2, 1) := by decide +kernel
theorem dL_isRead_143 : decode cL_isRead 143 = .ok (.bipush 7, 2) := by decide +kernel
theorem dL_isRead_145 : decode cL_isRead 145 = .ok (.iload 7, 2) := by decide +kernel
theorem dL_isRead_147 : decode cL_isRead 147 = .ok (.imul, 1) := by decide +kernel
theorem dL_isRead_148 : decode cL_isRead 148 = .ok (.iconst 4, 1) := by decide +kernel
theorem dL_isRead_149 : decode cL_isRead 149 = .ok (.iadd, 1) := by decide +kernel
theorem dL_isRead_150 : decode cL_isRead 150 = .ok (.dup2, 1) := by decide +kernel
theorem dL_isRead_151 : decode cL_isRead 151 = .ok (.iaload, 1) := by decide +kernel
theorem dL_isRead_152 : decode cL_isRead 152 = .ok (.iconst 1, 1) := by decide +kernel
theorem dL_isRead_153 : decode cL_isRead 153 = .ok (.iadd, 1) := by decide +kernel
theorem dL_isRead_154 : decode cL_isRead 154 = .ok (.iastore, 1) := by decide +kernel
theorem dL_isRead_155 : decode cL_isRead 155 = .ok (.aload_n 0, 1) := by decide +kernel
theorem dL_isRead_156 : decode cL_isRead 156 = .ok (.bipush 13, 2) := by decide +kernel
theorem dL_isRead_158 : decode cL_isRead 158 = .ok (.dup2, 1) := by decide +kernel
theorem dL_isRead_159 : decode cL_isRead 159 = .ok (.iaload, 1) := by decide +kernel
theorem dL_isRead_160 : decode cL_isRead 160 = .ok (.iconst 1, 1) := by decide +kernel
theorem dL_isRead_161 : decode cL_isRead 161 = .ok (.iadd, 1) := by decide +kernel
theorem dL_isRead_162 : decode cL_isRead 162 = .ok (.iastore, 1) := by decide +kernel
theorem dL_isRead_163 : decode cL_isRead 163 = .ok (.aload 5, 2) := by decide +kernel
theorem dL_isRead_165 : decode cL_isRead 165 = .ok (.iload 8, 2) := by decide +kernel
theorem dL_isRead_167 : decode cL_isRead 167 = .ok (.dup2, 1) := by decide +kernel
theorem dL_isRead_168 : decode cL_isRead 168 = .ok (.iaload, 1) := by decide +kernel
theorem dL_isRead_169 : decode cL_isRead 169 = .ok (.iconst 1, 1) := by decide +kernel
theorem dL_isRead_170 : decode cL_isRead 170 = .ok (.iadd, 1) := by decide +kernel
theorem dL_isRead_171 : decode cL_isRead 171 = .ok (.iastore, 1) := by decide +kernel
theorem dL_isRead_172 : decode cL_isRead 172 = .ok (.aload 4, 2) := by decide +kernel
theorem dL_isRead_174 : decode cL_isRead 174 = .ok (.bipush 6, 2) := by decide +kernel
theorem dL_isRead_176 : decode cL_isRead 176 = .ok (.iload 8, 2) := by decide +kernel
theorem dL_isRead_178 : decode cL_isRead 178 = .ok (.imul, 1) := by decide +kernel
theorem dL_isRead_179 : decode cL_isRead 179 = .ok (.iconst 1, 1) := by decide +kernel
theorem dL_isRead_180 : decode cL_isRead 180 = .ok (.iadd, 1) := by decide +kernel
theorem dL_isRead_181 : decode cL_isRead 181 = .ok (.aload 5, 2) := by decide +kernel
theorem dL_isRead_183 : decode cL_isRead 183 = .ok (.iload 8, 2) := by decide +kernel
theorem dL_isRead_185 : decode cL_isRead 185 = .ok (.iaload, 1) := by decide +kernel
theorem dL_isRead_186 : decode cL_isRead 186 = .ok (.iconst 3, 1) := by decide +kernel
theorem dL_isRead_187 : decode cL_isRead 187 = .ok (.if_icmp .ne 7, 3) := by decide +kernel
theorem dL_isRead_190 : decode cL_isRead 190 = .ok (.iconst 2, 1) := by decide +kernel
theorem dL_isRead_191 : decode cL_isRead 191 = .ok (.goto 13, 3) := by decide +kernel
theorem dL_isRead_194 : decode cL_isRead 194 = .ok (.aload 4, 2) := by decide +kernel
theorem dL_isRead_196 : decode cL_isRead 196 = .ok (.bipush 6, 2) := by decide +kernel
theorem dL_isRead_198 : decode cL_isRead 198 = .ok (.iload 8, 2) := by decide +kernel
theorem dL_isRead_200 : decode cL_isRead 200 = .ok (.imul, 1) := by decide +kernel
theorem dL_isRead_201 : decode cL_isRead 201 = .ok (.iconst 1, 1) := by decide +kernel
theorem dL_isRead_202 : decode cL_isRead 202 = .ok (.iadd, 1) := by decide +kernel
theorem dL_isRead_203 : decode cL_isRead 203 = .ok (.iaload, 1) := by decide +kernel
theorem dL_isRead_204 : decode cL_isRead 204 = .ok (.iastore, 1) := by decide +kernel
theorem dL_isRead_205 : decode cL_isRead 205 = .ok (.iload 10, 2) := by decide +kernel
theorem dL_isRead_207 : decode cL_isRead 207 = .ok (.ifCond .eq 12, 3) := by decide +kernel
theorem dL_isRead_210 : decode cL_isRead 210 = .ok (.aload 5, 2) := by decide +kernel
theorem dL_isRead_212 : decode cL_isRead 212 = .ok (.iload 8, 2) := by decide +kernel
theorem dL_isRead_214 : decode cL_isRead 214 = .ok (.iaload, 1) := by decide +kernel
theorem dL_isRead_215 : decode cL_isRead 215 = .ok (.iconst 3, 1) := by decide +kernel
theorem dL_isRead_216 : decode cL_isRead 216 = .ok (.if_icmp .ne 7, 3) := by decide +kernel
theorem dL_isRead_219 : decode cL_isRead 219 = .ok (.iconst 1, 1) := by decide +kernel
theorem dL_isRead_220 : decode cL_isRead 220 = .ok (.goto 4, 3) := by decide +kernel
theorem dL_isRead_223 : decode cL_isRead 223 = .ok (.iconst 0, 1) := by decide +kernel
theorem dL_isRead_224 : decode cL_isRead 224 = .ok (.ireturn, 1) := by decide +kernel
theorem dL_puts_0 : decode cL_puts 0 = .ok (.aload_n 1, 1) := by decide +kernel
theorem dL_puts_1 : decode cL_puts 1 = .ok (.bipush 6, 2) := by decide +kernel
theorem dL_puts_3 : decode cL_puts 3 = .ok (.iload_n 3, 1) := by decide +kernel
theorem dL_puts_4 : decode cL_puts 4 = .ok (.imul, 1) := by decide +kernel
theorem dL_puts_5 : decode cL_puts 5 = .ok (.iconst 2, 1) := by decide +kernel
theorem dL_puts_6 : decode cL_puts 6 = .ok (.iadd, 1) := by decide +kernel
theorem dL_puts_7 : decode cL_puts 7 = .ok (.iload 4, 2) := by decide +kernel
theorem dL_puts_9 : decode cL_puts 9 = .ok (.iastore, 1) := by decide +kernel
theorem dL_puts_10 : decode cL_puts 10 = .ok (.aload_n 0, 1) := by decide +kernel
theorem dL_puts_11 : decode cL_puts 11 = .ok (.iconst 2, 1) := by decide +kernel
theorem dL_puts_12 : decode cL_puts 12 = .ok (.iload 4, 2) := by decide +kernel
theorem dL_puts_14 : decode cL_puts 14 = .ok (.iconst 1, 1) := by decide +kernel
theorem dL_puts_15 : decode cL_puts 15 = .ok (.if_icmp .ne 7, 3) := by decide +kernel
theorem dL_puts_18 : decode cL_puts 18 = .ok (.iload_n 3, 1) := by decide +kernel
theorem dL_puts_19 : decode cL_puts 19 = .ok (.goto 5, 3) := by decide +kernel
theorem dL_puts_22 : decode cL_puts 22 = .ok (.bipush (-5), 2) := by decide +kernel
theorem dL_puts_24 : decode cL_puts 24 = .ok (.iastore, 1) := by decide +kernel
theorem dL_puts_25 : decode cL_puts 25 = .ok (.iload 5, 2) := by decide +kernel
theorem dL_puts_27 : decode cL_puts 27 = .ok (.ifCond .lt 25, 3) := by decide +kernel
theorem dL_puts_30 : decode cL_puts 30 = .ok (.aload_n 2, 1) := by decide +kernel
theorem dL_puts_31 : decode cL_puts 31 = .ok (.bipush 7, 2) := by decide +kernel
theorem dL_puts_33 : decode cL_puts 33 = .ok (.iload 5, 2) := by decide +kernel
theorem dL_puts_35 : decode cL_puts 35 = .ok (.imul, 1) := by decide +kernel
theorem dL_puts_36 : decode cL_puts 36 = .ok (.bipush 6, 2) := by decide +kernel
theorem dL_puts_38 : decode cL_puts 38 = .ok (.iadd, 1) := by decide +kernel
theorem dL_puts_39 : decode cL_puts 39 = .ok (.iload 4, 2) := by decide +kernel
theorem dL_puts_41 : decode cL_puts 41 = .ok (.iconst 2, 1) := by decide +kernel
theorem dL_puts_42 : decode cL_puts 42 = .ok (.if_icmp .ne 7, 3) := by decide +kernel
theorem dL_puts_45 : decode cL_puts 45 = .ok (.iload_n 3, 1) := by decide +kernel
theorem dL_puts_46 : decode cL_puts 46 = .ok (.goto 5, 3) := by decide +kernel
theorem dL_puts_49 : decode cL_puts 49 = .ok (.bipush (-5), 2) := by decide +kernel
theorem dL_puts_51 : decode cL_puts 51 = .ok (.iastore, 1) := by decide +kernel
theorem dL_puts_52 : decode cL_puts 52 = .ok (.iconst 1, 1) := by decide +kernel
theorem dL_puts_53 : decode cL_puts 53 = .ok (.ireturn, 1) := by decide +kernel
theorem dL_isDone_0 : decode cL_isDone 0 = .ok (.aload_n 0, 1) := by decide +kernel
theorem dL_isDone_1 : decode cL_isDone 1 = .ok (.iconst 3, 1) := by decide +kernel
theorem dL_isDone_2 : decode cL_isDone 2 = .ok (.iaload, 1) := by decide +kernel
theorem dL_isDone_3 : decode cL_isDone 3 = .ok (.istore 7, 2) := by decide +kernel
theorem dL_isDone_5 : decode cL_isDone 5 = .ok (.aload 4, 2) := by decide +kernel
theorem dL_isDone_7 : decode cL_isDone 7 = .ok (.bipush 6, 2) := by decide +kernel
theorem dL_isDone_9 : decode cL_isDone 9 = .ok (.iload 7, 2) := by decide +kernel
theorem dL_isDone_11 : decode cL_isDone 11 = .ok (.imul, 1) := by decide +kernel
theorem dL_isDone_12 : decode cL_isDone 12 = .ok (.iaload, 1) := by decide +kernel
theorem dL_isDone_13 : decode cL_isDone 13 = .ok (.istore 8, 2) := by decide +kernel
theorem dL_isDone_15 : decode cL_isDone 15 = .ok (.iload 8, 2) := by decide +kernel
theorem dL_isDone_17 : decode cL_isDone 17 = .ok (.iconst 1, 1) := by decide +kernel
theorem dL_isDone_18 : decode cL_isDone 18 = .ok (.if_icmp .ne 14, 3) := by decide +kernel
theorem dL_isDone_21 : decode cL_isDone 21 = .ok (.aload 5, 2) := by decide +kernel
theorem dL_isDone_23 : decode cL_isDone 23 = .ok (.bipush 6, 2) := by decide +kernel
theorem dL_isDone_25 : decode cL_isDone 25 = .ok (.iload 7, 2) := by decide +kernel
theorem dL_isDone_27 : decode cL_isDone 27 = .ok (.imul, 1) := by decide +kernel
theorem dL_isDone_28 : decode cL_isDone 28 = .ok (.iaload, 1) := by decide +kernel
theorem dL_isDone_29 : decode cL_isDone 29 = .ok (.goto 13, 3) := by decide +kernel
theorem dL_isDone_32 : decode cL_isDone 32 = .ok (.aload 4, 2) := by decide +kernel
theorem dL_isDone_34 : decode cL_isDone 34 = .ok (.bipush 6, 2) := by decide +kernel
theorem dL_isDone_36 : decode cL_isDone 36 = .ok (.iload 7, 2) := by decide +kernel
theorem dL_isDone_38 : decode cL_isDone 38 = .ok (.imul, 1) := by decide +kernel
theorem dL_isDone_39 : decode cL_isDone 39 = .ok (.iconst 1, 1) := by decide +kernel
theorem dL_isDone_40 : decode cL_isDone 40 = .ok (.iadd, 1) := by decide +kernel
theorem dL_isDone_41 : decode cL_isDone 41 = .ok (.iaload, 1) := by decide +kernel
theorem dL_isDone_42 : decode cL_isDone 42 = .ok (.istore 9, 2) := by decide +kernel
theorem dL_isDone_44 : decode cL_isDone 44 = .ok (.aload 4, 2) := by decide +kernel
theorem dL_isDone_46 : decode cL_isDone 46 = .ok (.bipush 6, 2) := by decide +kernel
theorem dL_isDone_48 : decode cL_isDone 48 = .ok (.iload 7, 2) := by decide +kernel
theorem dL_isDone_50 : decode cL_isDone 50 = .ok (.imul, 1) := by decide +kernel
theorem dL_isDone_51 : decode cL_isDone 51 = .ok (.iconst 5, 1) := by decide +kernel
theorem dL_isDone_52 : decode cL_isDone 52 = .ok (.iadd, 1) := by decide +kernel
theorem dL_isDone_53 : decode cL_isDone 53 = .ok (.iaload, 1) := by decide +kernel
theorem dL_isDone_54 : decode cL_isDone 54 = .ok (.istore 10, 2) := by decide +kernel
theorem dL_isDone_56 : decode cL_isDone 56 = .ok (.aload 4, 2) := by decide +kernel
theorem dL_isDone_58 : decode cL_isDone 58 = .ok (.bipush 6, 2) := by decide +kernel
theorem dL_isDone_60 : decode cL_isDone 60 = .ok (.iload 7, 2) := by decide +kernel
theorem dL_isDone_62 : decode cL_isDone 62 = .ok (.imul, 1) := by decide +kernel
theorem dL_isDone_63 : decode cL_isDone 63 = .ok (.iconst 4, 1) := by decide +kernel
theorem dL_isDone_64 : decode cL_isDone 64 = .ok (.iadd, 1) := by decide +kernel
theorem dL_isDone_65 : decode cL_isDone 65 = .ok (.iaload, 1) := by decide +kernel
theorem dL_isDone_66 : decode cL_isDone 66 = .ok (.istore 11, 2) := by decide +kernel
theorem dL_isDone_68 : decode cL_isDone 68 = .ok (.iload 11, 2) := by decide +kernel
theorem dL_isDone_70 : decode cL_isDone 70 = .ok (.ifCond .eq 10, 3) := by decide +kernel
theorem dL_isDone_73 : decode cL_isDone 73 = .ok (.iload 11, 2) := by decide +kernel
theorem dL_isDone_75 : decode cL_isDone 75 = .ok (.bipush 6, 2) := by decide +kernel
theorem dL_isDone_77 : decode cL_isDone 77 = .ok (.if_icmp .ne 21, 3) := by decide +kernel
theorem dL_isDone_80 : decode cL_isDone 80 = .ok (.aload_n 0, 1) := by decide +kernel
theorem dL_isDone_81 : decode cL_isDone 81 = .ok (.aload_n 1, 1) := by decide +kernel
theorem dL_isDone_82 : decode cL_isDone 82 = .ok (.aload_n 3, 1) := by decide +kernel
theorem dL_isDone_83 : decode cL_isDone 83 = .ok (.aload 5, 2) := by decide +kernel
theorem dL_isDone_85 : decode cL_isDone 85 = .ok (.aload_n 1, 1) := by decide +kernel
theorem dL_isDone_86 : decode cL_isDone 86 = .ok (.bipush 6, 2) := by decide +kernel
theorem dL_isDone_88 : decode cL_isDone 88 = .ok (.iload 9, 2) := by decide +kernel
theorem dL_isDone_90 : decode cL_isDone 90 = .ok (.imul, 1) := by decide +kernel
theorem dL_isDone_91 : decode cL_isDone 91 = .ok (.iconst 1, 1) := by decide +kernel
theorem dL_isDone_92 : decode cL_isDone 92 = .ok (.iadd, 1) := by decide +kernel
theorem dL_isDone_93 : decode cL_isDone 93 = .ok (.iaload, 1) := by decide +kernel
theorem dL_isDone_94 : decode cL_isDone 94 = .ok (.invokestatic 47, 3) := by decide +kernel
theorem dL_isDone_97 : decode cL_isDone 97 = .ok (.ireturn, 1) := by decide +kernel
theorem dL_isDone_98 : decode cL_isDone 98 = .ok (.iload 11, 2) := by decide +kernel
theorem dL_isDone_100 : decode cL_isDone 100 = .ok (.iconst 2, 1) := by decide +kernel
theorem dL_isDone_101 : decode cL_isDone 101 = .ok (.if_icmp .ne 38, 3) := by decide +kernel
theorem dL_isDone_104 : decode cL_isDone 104 = .ok (.aload_n 0, 1) := by decide +kernel
theorem dL_isDone_105 : decode cL_isDone 105 = .ok (.aload_n 1, 1) := by decide +kernel
theorem dL_isDone_106 : decode cL_isDone 106 = .ok (.aload_n 3, 1) := by decide +kernel
theorem dL_isDone_107 : decode cL_isDone 107 = .ok (.aload 5, 2) := by decide +kernel
theorem dL_isDone_109 : decode cL_isDone 109 = .ok (.iload 8, 2) := by decide +kernel
theorem dL_isDone_111 : decode cL_isDone 111 = .ok (.iconst 2, 1) := by decide +kernel
theorem dL_isDone_112 : decode cL_isDone 112 = .ok (.if_icmp .ne 16, 3) := by decide +kernel
theorem dL_isDone_115 : decode cL_isDone 115 = .ok (.aload 4, 2) := by decide +kernel
theorem dL_isDone_117 : decode cL_isDone 117 = .ok (.bipush 6, 2) := by decide +kernel
theorem dL_isDone_119 : decode cL_isDone 119 = .ok (.iload 7, 2) := by decide +kernel
theorem dL_isDone_121 : decode cL_isDone 121 = .ok (.imul, 1) := by decide +kernel
theorem dL_isDone_122 : decode cL_isDone 122 = .ok (.iconst 2, 1) := by decide +kernel
theorem dL_isDone_123 : decode cL_isDone 123 = .ok (.iadd, 1) := by decide +kernel
theorem dL_isDone_124 : decode cL_isDone 124 = .ok (.iaload, 1) := by decide +kernel
theorem dL_isDone_125 : decode cL_isDone 125 = .ok (.goto 10, 3) := by decide +kernel
theorem dL_isDone_128 : decode cL_isDone 128 = .ok (.aload_n 2, 1) := by decide +kernel
theorem dL_isDone_129 : decode cL_isDone 129 = .ok (.bipush 7, 2) := by decide +kernel
theorem dL_isDone_131 : decode cL_isDone 131 = .ok (.iload 10, 2) := by decide +kernel
theorem dL_isDone_133 : decode cL_isDone 133 = .ok (.imul, 1) := by decide +kernel
theorem dL_isDone_134 : decode cL_isDone 134 = .ok (.iaload, 1) := by decide +kernel
theorem dL_isDone_135 : decode cL_isDone 135 = .ok (.invokestatic 47, 3) := by decide +kernel
theorem dL_isDone_138 : decode cL_isDone 138 = .ok (.ireturn, 1) := by decide +kernel
theorem dL_isDone_139 : decode cL_isDone 139 = .ok (.iload 11, 2) := by decide +kernel
theorem dL_isDone_141 : decode cL_isDone 141 = .ok (.iconst 1, 1) := by decide +kernel
theorem dL_isDone_142 : decode cL_isDone 142 = .ok (.if_icmp .eq 9, 3) := by decide +kernel
theorem dL_isDone_145 : decode cL_isDone 145 = .ok (.iload 11, 2) := by decide +kernel
theorem dL_isDone_147 : decode cL_isDone 147 = .ok (.iconst 5, 1) := by decide +kernel
theorem dL_isDone_148 : decode cL_isDone 148 = .ok (.if_icmp .ne 26, 3) := by decide +kernel
theorem dL_isDone_151 : decode cL_isDone 151 = .ok (.aload_n 0, 1) := by decide +kernel
theorem dL_isDone_152 : decode cL_isDone 152 = .ok (.aload_n 1, 1) := by decide +kernel
theorem dL_isDone_153 : decode cL_isDone 153 = .ok (.aload_n 2, 1) := by decide +kernel
theorem dL_isDone_154 : decode cL_isDone 154 = .ok (.iload 9, 2) := by decide +kernel
theorem dL_isDone_156 : decode cL_isDone 156 = .ok (.iconst 1, 1) := by decide +kernel
theorem dL_isDone_157 : decode cL_isDone 157 = .ok (.iload 11, 2) := by decide +kernel
theorem dL_isDone_159 : decode cL_isDone 159 = .ok (.iconst 5, 1) := by decide +kernel
theorem dL_isDone_160 : decode cL_isDone 160 = .ok (.if_icmp .ne 8, 3) := by decide +kernel
theorem dL_isDone_163 : decode cL_isDone 163 = .ok (.iload 10, 2) := by decide +kernel
theorem dL_isDone_165 : decode cL_isDone 165 = .ok (.goto 5, 3) := by decide +kernel
theorem dL_isDone_168 : decode cL_isDone 168 = .ok (.bipush (-5), 2) := by decide +kernel
theorem dL_isDone_170 : decode cL_isDone 170 = .ok (.invokestatic 51, 3) := by decide +kernel
theorem dL_isDone_173 : decode cL_isDone 173 = .ok (.ireturn, 1) := by decide +kernel
theorem dL_isDone_174 : decode cL_isDone 174 = .ok (.iload 11, 2) := by decide +kernel
theorem dL_isDone_176 : decode cL_isDone 176 = .ok (.bipush 7, 2) := by decide +kernel
theorem dL_isDone_178 : decode cL_isDone 178 = .ok (.if_icmp .ne 15, 3) := by decide +kernel
theorem dL_isDone_181 : decode cL_isDone 181 = .ok (.aload_n 0, 1) := by decide +kernel
theorem dL_isDone_182 : decode cL_isDone 182 = .ok (.aload_n 1, 1) := by decide +kernel
theorem dL_isDone_183 : decode cL_isDone 183 = .ok (.aload_n 2, 1) := by decide +kernel
theorem dL_isDone_184 : decode cL_isDone 184 = .ok (.iload 9, 2) := by decide +kernel
theorem dL_isDone_186 : decode cL_isDone 186 = .ok (.iconst 0, 1) := by decide +kernel
theorem dL_isDone_187 : decode cL_isDone 187 = .ok (.bipush (-5), 2) := by decide +kernel
theorem dL_isDone_189 : decode cL_isDone 189 = .ok (.invokestatic 51, 3) := by decide +kernel
theorem dL_isDone_192 : decode cL_isDone 192 = .ok (.ireturn, 1) := by decide +kernel
theorem dL_isDone_193 : decode cL_isDone 193 = .ok (.iload 11, 2) := by decide +kernel
theorem dL_isDone_195 : decode cL_isDone 195 = .ok (.iconst 3, 1) := by decide +kernel
theorem dL_isDone_196 : decode cL_isDone 196 = .ok (.if_icmp .ne 62, 3) := by decide +kernel
theorem dL_isDone_199 : decode cL_isDone 199 = .ok (.aload_n 1, 1) := by decide +kernel
theorem dL_isDone_200 : decode cL_isDone 200 = .ok (.bipush 6, 2) := by decide +kernel
theorem dL_isDone_202 : decode cL_isDone 202 = .ok (.iload 9, 2) := by decide +kernel
theorem dL_isDone_204 : decode cL_isDone 204 = .ok (.imul, 1) := by decide +kernel
theorem dL_isDone_205 : decode cL_isDone 205 = .ok (.iconst 1, 1) := by decide +kernel
theorem dL_isDone_206 : decode cL_isDone 206 = .ok (.iadd, 1) := by decide +kernel
theorem dL_isDone_207 : decode cL_isDone 207 = .ok (.iload 8, 2) := by decide +kernel
theorem dL_isDone_209 : decode cL_isDone 209 = .ok (.iconst 2, 1) := by decide +kernel
theorem dL_isDone_210 : decode cL_isDone 210 = .ok (.if_icmp .ne 16, 3) := by decide +kernel
theorem dL_isDone_213 : decode cL_isDone 213 = .ok (.aload 4, 2) := by decide +kernel
theorem dL_isDone_215 : decode cL_isDone 215 = .ok (.bipush 6, 2) := by decide +kernel
theorem dL_isDone_217 : decode cL_isDone 217 = .ok (.iload 7, 2) := by decide +kernel
theorem dL_isDone_219 : decode cL_isDone 219 = .ok (.imul, 1) := by decide +kernel
theorem dL_isDone_220 : decode cL_isDone 220 = .ok (.iconst 2, 1) := by decide +kernel
theorem dL_isDone_221 : decode cL_isDone 221 = .ok (.iadd, 1) := by decide +kernel
theorem dL_isDone_222 : decode cL_isDone 222 = .ok (.iaload, 1) := by decide +kernel
theorem dL_isDone_223 : decode cL_isDone 223 = .ok (.goto 12, 3) := by decide +kernel
theorem dL_isDone_226 : decode cL_isDone 226 = .ok (.aload_n 1, 1) := by decide +kernel
theorem dL_isDone_227 : decode cL_isDone 227 = .ok (.bipush 6, 2) := by decide +kernel
theorem dL_isDone_229 : decode cL_isDone 229 = .ok (.iload 9, 2) := by decide +kernel
theorem dL_isDone_231 : decode cL_isDone 231 = .ok (.imul, 1) := by decide +kernel
theorem dL_isDone_232 : decode cL_isDone 232 = .ok (.iconst 1, 1) := by decide +kernel
theorem dL_isDone_233 : decode cL_isDone 233 = .ok (.iadd, 1) := by decide +kernel
theorem dL_isDone_234 : decode cL_isDone 234 = .ok (.iaload, 1) := by decide +kernel
theorem dL_isDone_235 : decode cL_isDone 235 = .ok (.iastore, 1) := by decide +kernel
theorem dL_isDone_236 : decode cL_isDone 236 = .ok (.aload_n 0, 1) := by decide +kernel
theorem dL_isDone_237 : decode cL_isDone 237 = .ok (.aload_n 1, 1) := by decide +kernel
theorem dL_isDone_238 : decode cL_isDone 238 = .ok (.aload_n 2, 1) := by decide +kernel
theorem dL_isDone_239 : decode cL_isDone 239 = .ok (.iload 9, 2) := by decide +kernel
theorem dL_isDone_241 : decode cL_isDone 241 = .ok (.iload 8, 2) := by decide +kernel
theorem dL_isDone_243 : decode cL_isDone 243 = .ok (.iconst 2, 1) := by decide +kernel
theorem dL_isDone_244 : decode cL_isDone 244 = .ok (.if_icmp .ne 7, 3) := by decide +kernel
theorem dL_isDone_247 : decode cL_isDone 247 = .ok (.iconst 0, 1) := by decide +kernel
theorem dL_isDone_248 : decode cL_isDone 248 = .ok (.goto 4, 3) := by decide +kernel
theorem dL_isDone_251 : decode cL_isDone 251 = .ok (.iconst 2, 1) := by decide +kernel
theorem dL_isDone_252 : decode cL_isDone 252 = .ok (.iload 10, 2) := by decide +kernel
theorem dL_isDone_254 : decode cL_isDone 254 = .ok (.invokestatic 51, 3) := by decide +kernel
theorem dL_isDone_257 : decode cL_isDone 257 = .ok (.ireturn, 1) := by decide +kernel
theorem dL_isDone_258 : decode cL_isDone 258 = .ok (.iload 8, 2) := by decide +kernel
theorem dL_isDone_260 : decode cL_isDone 260 = .ok (.ifCond .ne 19, 3) := by decide +kernel
theorem dL_isDone_263 : decode cL_isDone 263 = .ok (.aload_n 0, 1) := by decide +kernel
theorem dL_isDone_264 : decode cL_isDone 264 = .ok (.aload_n 1, 1) := by decide +kernel
theorem dL_isDone_265 : decode cL_isDone 265 = .ok (.aload_n 2, 1) := by decide +kernel
theorem dL_isDone_266 : decode cL_isDone 266 = .ok (.aload_n 3, 1) := by decide +kernel
theorem dL_isDone_267 : decode cL_isDone 267 = .ok (.aload 5, 2) := by decide +kernel
theorem dL_isDone_269 : decode cL_isDone 269 = .ok (.aload 6, 2) := by decide +kernel
theorem dL_isDone_271 : decode cL_isDone 271 = .ok (.iload 9, 2) := by decide +kernel
theorem dL_isDone_273 : decode cL_isDone 273 = .ok (.iload 10, 2) := by decide +kernel
theorem dL_isDone_275 : decode cL_isDone 275 = .ok (.invokestatic 55, 3) := by decide +kernel
theorem dL_isDone_278 : decode cL_isDone 278 = .ok (.ireturn, 1) := by decide +kernel
theorem dL_isDone_279 : decode cL_isDone 279 = .ok (.aload_n 3, 1) := by decide +kernel
theorem dL_isDone_280 : decode cL_isDone 280 = .ok (.iconst 2, 1) := by decide +kernel
theorem dL_isDone_281 : decode cL_isDone 281 = .ok (.iload 10, 2) := by decide +kernel
theorem dL_isDone_283 : decode cL_isDone 283 = .ok (.imul, 1) := by decide +kernel
theorem dL_isDone_284 : decode cL_isDone 284 = .ok (.aload_n 3, 1) := by decide +kernel
theorem dL_isDone_285 : decode cL_isDone 285 = .ok (.iconst 2, 1) := by decide +kernel
theorem dL_isDone_286 : decode cL_isDone 286 = .ok (.iload 10, 2) := by decide +kernel
theorem dL_isDone_288 : decode cL_isDone 288 = .ok (.imul, 1) := by decide +kernel
theorem dL_isDone_289 : decode cL_isDone 289 = .ok (.daload, 1) := by decide +kernel
theorem dL_isDone_290 : decode cL_isDone 290 = .ok (.d2f, 1) := by decide +kernel
theorem dL_isDone_291 : decode cL_isDone 291 = .ok (.ldc 45, 2) := by decide +kernel
theorem dL_isDone_293 : decode cL_isDone 293 = .ok (.fmul, 1) := by decide +kernel
theorem dL_isDone_294 : decode cL_isDone 294 = .ok (.f2d, 1) := by decide +kernel
theorem dL_isDone_295 : decode cL_isDone 295 = .ok (.dastore, 1) := by decide +kernel
theorem dL_isDone_296 : decode cL_isDone 296 = .ok (.aload_n 2, 1) := by decide +kernel
theorem dL_isDone_297 : decode cL_isDone 297 = .ok (.bipush 7, 2) := by decide +kernel
theorem dL_isDone_299 : decode cL_isDone 299 = .ok (.iload 10, 2) := by decide +kernel
theorem dL_isDone_301 : decode cL_isDone 301 = .ok (.imul, 1) := by decide +kernel
theorem dL_isDone_302 : decode cL_isDone 302 = .ok (.iconst 5, 1) := by decide +kernel
theorem dL_isDone_303 : decode cL_isDone 303 = .ok (.iadd, 1) := by decide +kernel
theorem dL_isDone_304 : decode cL_isDone 304 = .ok (.dup2, 1) := by decide +kernel
theorem dL_isDone_305 : decode cL_isDone 305 = .ok (.iaload, 1) := by decide +kernel
theorem dL_isDone_306 : decode cL_isDone 306 = .ok (.iconst 1, 1) := by decide +kernel
theorem dL_isDone_307 : decode cL_isDone 307 = .ok (.iadd, 1) := by decide +kernel
theorem dL_isDone_308 : decode cL_isDone 308 = .ok (.iastore, 1) := by decide +kernel
theorem dL_isDone_309 : decode cL_isDone 309 = .ok (.aload_n 1, 1) := by decide +kernel
theorem dL_isDone_310 : decode cL_isDone 310 = .ok (.bipush 6, 2) := by decide +kernel
theorem dL_isDone_312 : decode cL_isDone 312 = .ok (.iload 9, 2) := by decide +kernel
theorem dL_isDone_314 : decode cL_isDone 314 = .ok (.imul, 1) := by decide +kernel
theorem dL_isDone_315 : decode cL_isDone 315 = .ok (.iconst 3, 1) := by decide +kernel
theorem dL_isDone_316 : decode cL_isDone 316 = .ok (.iadd, 1) := by decide +kernel
theorem dL_isDone_317 : decode cL_isDone 317 = .ok (.dup2, 1) := by decide +kernel
theorem dL_isDone_318 : decode cL_isDone 318 = .ok (.iaload, 1) := by decide +kernel
theorem dL_isDone_319 : decode cL_isDone 319 = .ok (.iconst 1, 1) := by decide +kernel
theorem dL_isDone_320 : decode cL_isDone 320 = .ok (.isub, 1) := by decide +kernel
theorem dL_isDone_321 : decode cL_isDone 321 = .ok (.iastore, 1) := by decide +kernel
theorem dL_isDone_322 : decode cL_isDone 322 = .ok (.aload_n 0, 1) := by decide +kernel
theorem dL_isDone_323 : decode cL_isDone 323 = .ok (.bipush 14, 2) := by decide +kernel
theorem dL_isDone_325 : decode cL_isDone 325 = .ok (.dup2, 1) := by decide +kernel
theorem dL_isDone_326 : decode cL_isDone 326 = .ok (.iaload, 1) := by decide +kernel
theorem dL_isDone_327 : decode cL_isDone 327 = .ok (.iconst 1, 1) := by decide +kernel
theorem dL_isDone_328 : decode cL_isDone 328 = .ok (.iadd, 1) := by decide +kernel
theorem dL_isDone_329 : decode cL_isDone 329 = .ok (.iastore, 1) := by decide +kernel
theorem dL_isDone_330 : decode cL_isDone 330 = .ok (.iconst 1, 1) := by decide +kernel
theorem dL_isDone_331 : decode cL_isDone 331 = .ok (.ireturn, 1) := by decide +kernel
theorem dL_ticks_0 : decode cL_ticks 0 = .ok (.iconst 0, 1) := by decide +kernel
theorem dL_ticks_1 : decode cL_ticks 1 = .ok (.istore 7, 2) := by decide +kernel
theorem dL_ticks_3 : decode cL_ticks 3 = .ok (.aload_n 0, 1) := by decide +kernel
theorem dL_ticks_4 : decode cL_ticks 4 = .ok (.iconst 3, 1) := by decide +kernel
theorem dL_ticks_5 : decode cL_ticks 5 = .ok (.iaload, 1) := by decide +kernel
theorem dL_ticks_6 : decode cL_ticks 6 = .ok (.ifCond .ge 16, 3) := by decide +kernel
theorem dL_ticks_9 : decode cL_ticks 9 = .ok (.aload_n 0, 1) := by decide +kernel
theorem dL_ticks_10 : decode cL_ticks 10 = .ok (.aload_n 1, 1) := by decide +kernel
theorem dL_ticks_11 : decode cL_ticks 11 = .ok (.aload_n 3, 1) := by decide +kernel
theorem dL_ticks_12 : decode cL_ticks 12 = .ok (.aload 4, 2) := by decide +kernel
theorem dL_ticks_14 : decode cL_ticks 14 = .ok (.aload 5, 2) := by decide +kernel
theorem dL_ticks_16 : decode cL_ticks 16 = .ok (.invokestatic 59, 3) := by decide +kernel
theorem dL_ticks_19 : decode cL_ticks 19 = .ok (.goto 5, 3) := by decide +kernel
theorem dL_ticks_22 : decode cL_ticks 22 = .ok (.bipush (-5), 2) := by decide +kernel
