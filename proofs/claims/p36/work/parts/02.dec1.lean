theorem dX6_copyFrom_74 : decode cX6_copyFrom 74 = .ok (.aload_n 1, 1) := by decide +kernel
theorem dX6_copyFrom_75 : decode cX6_copyFrom 75 = .ok (.getfield 50, 3) := by decide +kernel
theorem dX6_copyFrom_78 : decode cX6_copyFrom 78 = .ok (.putfield 50, 3) := by decide +kernel
theorem dX6_copyFrom_81 : decode cX6_copyFrom 81 = .ok (.aload_n 0, 1) := by decide +kernel
theorem dX6_copyFrom_82 : decode cX6_copyFrom 82 = .ok (.aload_n 1, 1) := by decide +kernel
theorem dX6_copyFrom_83 : decode cX6_copyFrom 83 = .ok (.getfield 53, 3) := by decide +kernel
theorem dX6_copyFrom_86 : decode cX6_copyFrom 86 = .ok (.putfield 53, 3) := by decide +kernel
theorem dX6_copyFrom_89 : decode cX6_copyFrom 89 = .ok (.aload_n 0, 1) := by decide +kernel
theorem dX6_copyFrom_90 : decode cX6_copyFrom 90 = .ok (.aload_n 1, 1) := by decide +kernel
theorem dX6_copyFrom_91 : decode cX6_copyFrom 91 = .ok (.getfield 56, 3) := by decide +kernel
theorem dX6_copyFrom_94 : decode cX6_copyFrom 94 = .ok (.putfield 56, 3) := by decide +kernel
theorem dX6_copyFrom_97 : decode cX6_copyFrom 97 = .ok (.aload_n 0, 1) := by decide +kernel
theorem dX6_copyFrom_98 : decode cX6_copyFrom 98 = .ok (.aload_n 1, 1) := by decide +kernel
theorem dX6_copyFrom_99 : decode cX6_copyFrom 99 = .ok (.getfield 59, 3) := by decide +kernel
theorem dX6_copyFrom_102 : decode cX6_copyFrom 102 = .ok (.putfield 59, 3) := by decide +kernel
theorem dX6_copyFrom_105 : decode cX6_copyFrom 105 = .ok (.return_, 1) := by decide +kernel
theorem dX6_isTakenOrAimedAt_0 : decode cX6_isTakenOrAimedAt 0 = .ok (.aload_n 0, 1) := by decide +kernel
theorem dX6_isTakenOrAimedAt_1 : decode cX6_isTakenOrAimedAt 1 = .ok (.getfield 21, 3) := by decide +kernel
theorem dX6_isTakenOrAimedAt_4 : decode cX6_isTakenOrAimedAt 4 = .ok (.aload_n 0, 1) := by decide +kernel
theorem dX6_isTakenOrAimedAt_5 : decode cX6_isTakenOrAimedAt 5 = .ok (.getfield 50, 3) := by decide +kernel
theorem dX6_isTakenOrAimedAt_8 : decode cX6_isTakenOrAimedAt 8 = .ok (.invokevirtual 72, 3) := by decide +kernel
theorem dX6_isTakenOrAimedAt_11 : decode cX6_isTakenOrAimedAt 11 = .ok (.astore_n 2, 1) := by decide +kernel
theorem dX6_isTakenOrAimedAt_12 : decode cX6_isTakenOrAimedAt 12 = .ok (.aload_n 2, 1) := by decide +kernel
theorem dX6_isTakenOrAimedAt_13 : decode cX6_isTakenOrAimedAt 13 = .ok (.ifnull 23, 3) := by decide +kernel
theorem dX6_isTakenOrAimedAt_16 : decode cX6_isTakenOrAimedAt 16 = .ok (.aload_n 2, 1) := by decide +kernel
theorem dX6_isTakenOrAimedAt_17 : decode cX6_isTakenOrAimedAt 17 = .ok (.getfield 76, 3) := by decide +kernel
theorem dX6_isTakenOrAimedAt_20 : decode cX6_isTakenOrAimedAt 20 = .ok (.iconst 2, 1) := by decide +kernel
theorem dX6_isTakenOrAimedAt_21 : decode cX6_isTakenOrAimedAt 21 = .ok (.if_icmp .ne 15, 3) := by decide +kernel
theorem dX6_isTakenOrAimedAt_24 : decode cX6_isTakenOrAimedAt 24 = .ok (.aload_n 2, 1) := by decide +kernel
theorem dX6_isTakenOrAimedAt_25 : decode cX6_isTakenOrAimedAt 25 = .ok (.getfield 81, 3) := by decide +kernel
theorem dX6_isTakenOrAimedAt_28 : decode cX6_isTakenOrAimedAt 28 = .ok (.iload_n 1, 1) := by decide +kernel
theorem dX6_isTakenOrAimedAt_29 : decode cX6_isTakenOrAimedAt 29 = .ok (.if_icmp .ne 7, 3) := by decide +kernel
theorem dX6_isTakenOrAimedAt_32 : decode cX6_isTakenOrAimedAt 32 = .ok (.iconst 1, 1) := by decide +kernel
theorem dX6_isTakenOrAimedAt_33 : decode cX6_isTakenOrAimedAt 33 = .ok (.goto 4, 3) := by decide +kernel
theorem dX6_isTakenOrAimedAt_36 : decode cX6_isTakenOrAimedAt 36 = .ok (.iconst 0, 1) := by decide +kernel
theorem dX6_isTakenOrAimedAt_37 : decode cX6_isTakenOrAimedAt 37 = .ok (.istore_n 3, 1) := by decide +kernel
theorem dX6_isTakenOrAimedAt_38 : decode cX6_isTakenOrAimedAt 38 = .ok (.iload_n 3, 1) := by decide +kernel
theorem dX6_isTakenOrAimedAt_39 : decode cX6_isTakenOrAimedAt 39 = .ok (.ifCond .ne 16, 3) := by decide +kernel
theorem dX6_isTakenOrAimedAt_42 : decode cX6_isTakenOrAimedAt 42 = .ok (.aload_n 0, 1) := by decide +kernel
theorem dX6_isTakenOrAimedAt_43 : decode cX6_isTakenOrAimedAt 43 = .ok (.getfield 12, 3) := by decide +kernel
theorem dX6_isTakenOrAimedAt_46 : decode cX6_isTakenOrAimedAt 46 = .ok (.iload_n 1, 1) := by decide +kernel
theorem dX6_isTakenOrAimedAt_47 : decode cX6_isTakenOrAimedAt 47 = .ok (.invokevirtual 84, 3) := by decide +kernel
theorem dX6_isTakenOrAimedAt_50 : decode cX6_isTakenOrAimedAt 50 = .ok (.bipush (-5), 2) := by decide +kernel
theorem dX6_isTakenOrAimedAt_52 : decode cX6_isTakenOrAimedAt 52 = .ok (.if_icmp .eq 7, 3) := by decide +kernel
theorem dX6_isTakenOrAimedAt_55 : decode cX6_isTakenOrAimedAt 55 = .ok (.iconst 1, 1) := by decide +kernel
theorem dX6_isTakenOrAimedAt_56 : decode cX6_isTakenOrAimedAt 56 = .ok (.goto 4, 3) := by decide +kernel
theorem dX6_isTakenOrAimedAt_59 : decode cX6_isTakenOrAimedAt 59 = .ok (.iconst 0, 1) := by decide +kernel
theorem dX6_isTakenOrAimedAt_60 : decode cX6_isTakenOrAimedAt 60 = .ok (.ireturn, 1) := by decide +kernel
theorem dX6_faultOfJob_0 : decode cX6_faultOfJob 0 = .ok (.iload_n 1, 1) := by decide +kernel
theorem dX6_faultOfJob_1 : decode cX6_faultOfJob 1 = .ok (.iconst 1, 1) := by decide +kernel
theorem dX6_faultOfJob_2 : decode cX6_faultOfJob 2 = .ok (.if_icmp .ne 21, 3) := by decide +kernel
theorem dX6_faultOfJob_5 : decode cX6_faultOfJob 5 = .ok (.aload_n 0, 1) := by decide +kernel
theorem dX6_faultOfJob_6 : decode cX6_faultOfJob 6 = .ok (.getfield 12, 3) := by decide +kernel
theorem dX6_faultOfJob_9 : decode cX6_faultOfJob 9 = .ok (.iload_n 2, 1) := by decide +kernel
theorem dX6_faultOfJob_10 : decode cX6_faultOfJob 10 = .ok (.invokevirtual 88, 3) := by decide +kernel
theorem dX6_faultOfJob_13 : decode cX6_faultOfJob 13 = .ok (.ifnonnull 7, 3) := by decide +kernel
theorem dX6_faultOfJob_16 : decode cX6_faultOfJob 16 = .ok (.iconst (-1), 1) := by decide +kernel
theorem dX6_faultOfJob_17 : decode cX6_faultOfJob 17 = .ok (.goto 5, 3) := by decide +kernel
theorem dX6_faultOfJob_20 : decode cX6_faultOfJob 20 = .ok (.bipush (-5), 2) := by decide +kernel
theorem dX6_faultOfJob_22 : decode cX6_faultOfJob 22 = .ok (.ireturn, 1) := by decide +kernel
theorem dX6_faultOfJob_23 : decode cX6_faultOfJob 23 = .ok (.aload_n 0, 1) := by decide +kernel
theorem dX6_faultOfJob_24 : decode cX6_faultOfJob 24 = .ok (.getfield 12, 3) := by decide +kernel
theorem dX6_faultOfJob_27 : decode cX6_faultOfJob 27 = .ok (.iload_n 2, 1) := by decide +kernel
theorem dX6_faultOfJob_28 : decode cX6_faultOfJob 28 = .ok (.invokevirtual 92, 3) := by decide +kernel
theorem dX6_faultOfJob_31 : decode cX6_faultOfJob 31 = .ok (.astore 4, 2) := by decide +kernel
theorem dX6_faultOfJob_33 : decode cX6_faultOfJob 33 = .ok (.aload 4, 2) := by decide +kernel
theorem dX6_faultOfJob_35 : decode cX6_faultOfJob 35 = .ok (.ifnull 15, 3) := by decide +kernel
theorem dX6_faultOfJob_38 : decode cX6_faultOfJob 38 = .ok (.iload_n 1, 1) := by decide +kernel
theorem dX6_faultOfJob_39 : decode cX6_faultOfJob 39 = .ok (.iconst 2, 1) := by decide +kernel
theorem dX6_faultOfJob_40 : decode cX6_faultOfJob 40 = .ok (.if_icmp .ne 12, 3) := by decide +kernel
theorem dX6_faultOfJob_43 : decode cX6_faultOfJob 43 = .ok (.iload_n 3, 1) := by decide +kernel
theorem dX6_faultOfJob_44 : decode cX6_faultOfJob 44 = .ok (.invokestatic 96, 3) := by decide +kernel
theorem dX6_faultOfJob_47 : decode cX6_faultOfJob 47 = .ok (.ifCond .ne 5, 3) := by decide +kernel
theorem dX6_faultOfJob_50 : decode cX6_faultOfJob 50 = .ok (.iconst (-1), 1) := by decide +kernel
theorem dX6_faultOfJob_51 : decode cX6_faultOfJob 51 = .ok (.ireturn, 1) := by decide +kernel
theorem dX6_faultOfJob_52 : decode cX6_faultOfJob 52 = .ok (.iload_n 1, 1) := by decide +kernel
theorem dX6_faultOfJob_53 : decode cX6_faultOfJob 53 = .ok (.ifCond .ne 16, 3) := by decide +kernel
theorem dX6_faultOfJob_56 : decode cX6_faultOfJob 56 = .ok (.aload 4, 2) := by decide +kernel
theorem dX6_faultOfJob_58 : decode cX6_faultOfJob 58 = .ok (.getfield 100, 3) := by decide +kernel
theorem dX6_faultOfJob_61 : decode cX6_faultOfJob 61 = .ok (.ifCond .eq 8, 3) := by decide +kernel
theorem dX6_faultOfJob_64 : decode cX6_faultOfJob 64 = .ok (.bipush (-4), 2) := by decide +kernel
theorem dX6_faultOfJob_66 : decode cX6_faultOfJob 66 = .ok (.goto 5, 3) := by decide +kernel
theorem dX6_faultOfJob_69 : decode cX6_faultOfJob 69 = .ok (.bipush (-5), 2) := by decide +kernel
theorem dX6_faultOfJob_71 : decode cX6_faultOfJob 71 = .ok (.ireturn, 1) := by decide +kernel
theorem dX6_jobToBegin_0 : decode cX6_jobToBegin 0 = .ok (.bipush (-5), 2) := by decide +kernel
theorem dX6_jobToBegin_2 : decode cX6_jobToBegin 2 = .ok (.istore_n 1, 1) := by decide +kernel
theorem dX6_jobToBegin_3 : decode cX6_jobToBegin 3 = .ok (.iconst 4, 1) := by decide +kernel
theorem dX6_jobToBegin_4 : decode cX6_jobToBegin 4 = .ok (.istore_n 2, 1) := by decide +kernel
theorem dX6_jobToBegin_5 : decode cX6_jobToBegin 5 = .ok (.iconst 0, 1) := by decide +kernel
theorem dX6_jobToBegin_6 : decode cX6_jobToBegin 6 = .ok (.istore_n 3, 1) := by decide +kernel
theorem dX6_jobToBegin_7 : decode cX6_jobToBegin 7 = .ok (.iload_n 3, 1) := by decide +kernel
theorem dX6_jobToBegin_8 : decode cX6_jobToBegin 8 = .ok (.aload_n 0, 1) := by decide +kernel
theorem dX6_jobToBegin_9 : decode cX6_jobToBegin 9 = .ok (.getfield 21, 3) := by decide +kernel
theorem dX6_jobToBegin_12 : decode cX6_jobToBegin 12 = .ok (.getfield 106, 3) := by decide +kernel
theorem dX6_jobToBegin_15 : decode cX6_jobToBegin 15 = .ok (.if_icmp .ge 68, 3) := by decide +kernel
theorem dX6_jobToBegin_18 : decode cX6_jobToBegin 18 = .ok (.aload_n 0, 1) := by decide +kernel
theorem dX6_jobToBegin_19 : decode cX6_jobToBegin 19 = .ok (.getfield 21, 3) := by decide +kernel
theorem dX6_jobToBegin_22 : decode cX6_jobToBegin 22 = .ok (.getfield 109, 3) := by decide +kernel
theorem dX6_jobToBegin_25 : decode cX6_jobToBegin 25 = .ok (.iload_n 3, 1) := by decide +kernel
theorem dX6_jobToBegin_26 : decode cX6_jobToBegin 26 = .ok (.aaload, 1) := by decide +kernel
theorem dX6_jobToBegin_27 : decode cX6_jobToBegin 27 = .ok (.astore 4, 2) := by decide +kernel
theorem dX6_jobToBegin_29 : decode cX6_jobToBegin 29 = .ok (.aload 4, 2) := by decide +kernel
theorem dX6_jobToBegin_31 : decode cX6_jobToBegin 31 = .ok (.getfield 113, 3) := by decide +kernel
theorem dX6_jobToBegin_34 : decode cX6_jobToBegin 34 = .ok (.ifCond .ne 43, 3) := by decide +kernel
theorem dX6_jobToBegin_37 : decode cX6_jobToBegin 37 = .ok (.aload 4, 2) := by decide +kernel
theorem dX6_jobToBegin_39 : decode cX6_jobToBegin 39 = .ok (.getfield 120, 3) := by decide +kernel
theorem dX6_jobToBegin_42 : decode cX6_jobToBegin 42 = .ok (.aload_n 0, 1) := by decide +kernel
theorem dX6_jobToBegin_43 : decode cX6_jobToBegin 43 = .ok (.getfield 40, 3) := by decide +kernel
theorem dX6_jobToBegin_46 : decode cX6_jobToBegin 46 = .ok (.if_icmp .gt 31, 3) := by decide +kernel
theorem dX6_jobToBegin_49 : decode cX6_jobToBegin 49 = .ok (.aload_n 0, 1) := by decide +kernel
theorem dX6_jobToBegin_50 : decode cX6_jobToBegin 50 = .ok (.aload 4, 2) := by decide +kernel
theorem dX6_jobToBegin_52 : decode cX6_jobToBegin 52 = .ok (.invokevirtual 116, 3) := by decide +kernel
theorem dX6_jobToBegin_55 : decode cX6_jobToBegin 55 = .ok (.istore 5, 2) := by decide +kernel
theorem dX6_jobToBegin_57 : decode cX6_jobToBegin 57 = .ok (.iload 5, 2) := by decide +kernel
theorem dX6_jobToBegin_59 : decode cX6_jobToBegin 59 = .ok (.iload_n 2, 1) := by decide +kernel
theorem dX6_jobToBegin_60 : decode cX6_jobToBegin 60 = .ok (.if_icmp .ge 17, 3) := by decide +kernel
theorem dX6_jobToBegin_63 : decode cX6_jobToBegin 63 = .ok (.aload_n 0, 1) := by decide +kernel
theorem dX6_jobToBegin_64 : decode cX6_jobToBegin 64 = .ok (.aload 4, 2) := by decide +kernel
theorem dX6_jobToBegin_66 : decode cX6_jobToBegin 66 = .ok (.invokevirtual 123, 3) := by decide +kernel
theorem dX6_jobToBegin_69 : decode cX6_jobToBegin 69 = .ok (.ifCond .eq 8, 3) := by decide +kernel
theorem dX6_jobToBegin_72 : decode cX6_jobToBegin 72 = .ok (.iload_n 3, 1) := by decide +kernel
theorem dX6_jobToBegin_73 : decode cX6_jobToBegin 73 = .ok (.istore_n 1, 1) := by decide +kernel
theorem dX6_jobToBegin_74 : decode cX6_jobToBegin 74 = .ok (.iload 5, 2) := by decide +kernel
theorem dX6_jobToBegin_76 : decode cX6_jobToBegin 76 = .ok (.istore_n 2, 1) := by decide +kernel
theorem dX6_jobToBegin_77 : decode cX6_jobToBegin 77 = .ok (.iinc 3 1, 3) := by decide +kernel
theorem dX6_jobToBegin_80 : decode cX6_jobToBegin 80 = .ok (.goto (-73), 3) := by decide +kernel
theorem dX6_jobToBegin_83 : decode cX6_jobToBegin 83 = .ok (.iload_n 1, 1) := by decide +kernel
theorem dX6_jobToBegin_84 : decode cX6_jobToBegin 84 = .ok (.ireturn, 1) := by decide +kernel
theorem dX6_groupOf_0 : decode cX6_groupOf 0 = .ok (.aload_n 1, 1) := by decide +kernel
theorem dX6_groupOf_1 : decode cX6_groupOf 1 = .ok (.getfield 76, 3) := by decide +kernel
theorem dX6_groupOf_4 : decode cX6_groupOf 4 = .ok (.iconst 1, 1) := by decide +kernel
theorem dX6_groupOf_5 : decode cX6_groupOf 5 = .ok (.if_icmp .ne 17, 3) := by decide +kernel
theorem dX6_groupOf_8 : decode cX6_groupOf 8 = .ok (.aload_n 0, 1) := by decide +kernel
theorem dX6_groupOf_9 : decode cX6_groupOf 9 = .ok (.getfield 12, 3) := by decide +kernel
theorem dX6_groupOf_12 : decode cX6_groupOf 12 = .ok (.aload_n 1, 1) := by decide +kernel
theorem dX6_groupOf_13 : decode cX6_groupOf 13 = .ok (.getfield 127, 3) := by decide +kernel
theorem dX6_groupOf_16 : decode cX6_groupOf 16 = .ok (.invokevirtual 88, 3) := by decide +kernel
theorem dX6_groupOf_19 : decode cX6_groupOf 19 = .ok (.goto 4, 3) := by decide +kernel
theorem dX6_groupOf_22 : decode cX6_groupOf 22 = .ok (.aconst_null, 1) := by decide +kernel
theorem dX6_groupOf_23 : decode cX6_groupOf 23 = .ok (.astore_n 2, 1) := by decide +kernel
theorem dX6_groupOf_24 : decode cX6_groupOf 24 = .ok (.aload_n 2, 1) := by decide +kernel
theorem dX6_groupOf_25 : decode cX6_groupOf 25 = .ok (.ifnull 14, 3) := by decide +kernel
theorem dX6_groupOf_28 : decode cX6_groupOf 28 = .ok (.aload_n 2, 1) := by decide +kernel
theorem dX6_groupOf_29 : decode cX6_groupOf 29 = .ok (.invokevirtual 130, 3) := by decide +kernel
theorem dX6_groupOf_32 : decode cX6_groupOf 32 = .ok (.ifCond .eq 7, 3) := by decide +kernel
theorem dX6_groupOf_35 : decode cX6_groupOf 35 = .ok (.iconst 0, 1) := by decide +kernel
theorem dX6_groupOf_36 : decode cX6_groupOf 36 = .ok (.goto 16, 3) := by decide +kernel
theorem dX6_groupOf_39 : decode cX6_groupOf 39 = .ok (.iconst 1, 1) := by decide +kernel
theorem dX6_groupOf_40 : decode cX6_groupOf 40 = .ok (.aload_n 0, 1) := by decide +kernel
theorem dX6_groupOf_41 : decode cX6_groupOf 41 = .ok (.getfield 21, 3) := by decide +kernel
theorem dX6_groupOf_44 : decode cX6_groupOf 44 = .ok (.aload_n 1, 1) := by decide +kernel
theorem dX6_groupOf_45 : decode cX6_groupOf 45 = .ok (.getfield 76, 3) := by decide +kernel
theorem dX6_groupOf_48 : decode cX6_groupOf 48 = .ok (.invokevirtual 136, 3) := by decide +kernel
theorem dX6_groupOf_51 : decode cX6_groupOf 51 = .ok (.iadd, 1) := by decide +kernel
theorem dX6_groupOf_52 : decode cX6_groupOf 52 = .ok (.ireturn, 1) := by decide +kernel
theorem dX6_canBegin_0 : decode cX6_canBegin 0 = .ok (.aload_n 1, 1) := by decide +kernel
theorem dX6_canBegin_1 : decode cX6_canBegin 1 = .ok (.getfield 76, 3) := by decide +kernel
theorem dX6_canBegin_4 : decode cX6_canBegin 4 = .ok (.lookupswitch 68 #[(0, 28), (1, 46)], 28) := by decide +kernel
theorem dX6_canBegin_32 : decode cX6_canBegin 32 = .ok (.aload_n 0, 1) := by decide +kernel
theorem dX6_canBegin_33 : decode cX6_canBegin 33 = .ok (.getfield 12, 3) := by decide +kernel
theorem dX6_canBegin_36 : decode cX6_canBegin 36 = .ok (.invokevirtual 139, 3) := by decide +kernel
theorem dX6_canBegin_39 : decode cX6_canBegin 39 = .ok (.bipush (-5), 2) := by decide +kernel
theorem dX6_canBegin_41 : decode cX6_canBegin 41 = .ok (.if_icmp .eq 7, 3) := by decide +kernel
theorem dX6_canBegin_44 : decode cX6_canBegin 44 = .ok (.iconst 1, 1) := by decide +kernel
theorem dX6_canBegin_45 : decode cX6_canBegin 45 = .ok (.goto 4, 3) := by decide +kernel
theorem dX6_canBegin_48 : decode cX6_canBegin 48 = .ok (.iconst 0, 1) := by decide +kernel
theorem dX6_canBegin_49 : decode cX6_canBegin 49 = .ok (.ireturn, 1) := by decide +kernel
theorem dX6_canBegin_50 : decode cX6_canBegin 50 = .ok (.aload_n 0, 1) := by decide +kernel
theorem dX6_canBegin_51 : decode cX6_canBegin 51 = .ok (.getfield 12, 3) := by decide +kernel
theorem dX6_canBegin_54 : decode cX6_canBegin 54 = .ok (.aload_n 0, 1) := by decide +kernel
theorem dX6_canBegin_55 : decode cX6_canBegin 55 = .ok (.getfield 44, 3) := by decide +kernel
theorem dX6_canBegin_58 : decode cX6_canBegin 58 = .ok (.invokevirtual 143, 3) := by decide +kernel
theorem dX6_canBegin_61 : decode cX6_canBegin 61 = .ok (.bipush (-5), 2) := by decide +kernel
theorem dX6_canBegin_63 : decode cX6_canBegin 63 = .ok (.if_icmp .eq 7, 3) := by decide +kernel
theorem dX6_canBegin_66 : decode cX6_canBegin 66 = .ok (.iconst 1, 1) := by decide +kernel
theorem dX6_canBegin_67 : decode cX6_canBegin 67 = .ok (.goto 4, 3) := by decide +kernel
theorem dX6_canBegin_70 : decode cX6_canBegin 70 = .ok (.iconst 0, 1) := by decide +kernel
theorem dX6_canBegin_71 : decode cX6_canBegin 71 = .ok (.ireturn, 1) := by decide +kernel
theorem dX6_canBegin_72 : decode cX6_canBegin 72 = .ok (.aload_n 0, 1) := by decide +kernel
theorem dX6_canBegin_73 : decode cX6_canBegin 73 = .ok (.getfield 12, 3) := by decide +kernel
theorem dX6_canBegin_76 : decode cX6_canBegin 76 = .ok (.aload_n 1, 1) := by decide +kernel
theorem dX6_canBegin_77 : decode cX6_canBegin 77 = .ok (.getfield 81, 3) := by decide +kernel
theorem dX6_canBegin_80 : decode cX6_canBegin 80 = .ok (.invokevirtual 84, 3) := by decide +kernel
theorem dX6_canBegin_83 : decode cX6_canBegin 83 = .ok (.istore_n 2, 1) := by decide +kernel
theorem dX6_canBegin_84 : decode cX6_canBegin 84 = .ok (.iload_n 2, 1) := by decide +kernel
theorem dX6_canBegin_85 : decode cX6_canBegin 85 = .ok (.bipush (-5), 2) := by decide +kernel
theorem dX6_canBegin_87 : decode cX6_canBegin 87 = .ok (.if_icmp .eq 11, 3) := by decide +kernel
theorem dX6_canBegin_90 : decode cX6_canBegin 90 = .ok (.iload_n 2, 1) := by decide +kernel
theorem dX6_canBegin_91 : decode cX6_canBegin 91 = .ok (.aload_n 1, 1) := by decide +kernel
theorem dX6_canBegin_92 : decode cX6_canBegin 92 = .ok (.getfield 127, 3) := by decide +kernel
theorem dX6_canBegin_95 : decode cX6_canBegin 95 = .ok (.if_icmp .ne 7, 3) := by decide +kernel
theorem dX6_canBegin_98 : decode cX6_canBegin 98 = .ok (.iconst 1, 1) := by decide +kernel
theorem dX6_canBegin_99 : decode cX6_canBegin 99 = .ok (.goto 4, 3) := by decide +kernel
theorem dX6_canBegin_102 : decode cX6_canBegin 102 = .ok (.iconst 0, 1) := by decide +kernel
theorem dX6_canBegin_103 : decode cX6_canBegin 103 = .ok (.ireturn, 1) := by decide +kernel
theorem dX6_isAllowed_0 : decode cX6_isAllowed 0 = .ok (.fload_n 2, 1) := by decide +kernel
theorem dX6_isAllowed_1 : decode cX6_isAllowed 1 = .ok (.fconst 0, 1) := by decide +kernel
theorem dX6_isAllowed_2 : decode cX6_isAllowed 2 = .ok (.fcmp .l, 1) := by decide +kernel
theorem dX6_isAllowed_3 : decode cX6_isAllowed 3 = .ok (.ifCond .eq 14, 3) := by decide +kernel
theorem dX6_isAllowed_6 : decode cX6_isAllowed 6 = .ok (.fload_n 1, 1) := by decide +kernel
theorem dX6_isAllowed_7 : decode cX6_isAllowed 7 = .ok (.fload_n 2, 1) := by decide +kernel
theorem dX6_isAllowed_8 : decode cX6_isAllowed 8 = .ok (.fadd, 1) := by decide +kernel
theorem dX6_isAllowed_9 : decode cX6_isAllowed 9 = .ok (.aload_n 0, 1) := by decide +kernel
theorem dX6_isAllowed_10 : decode cX6_isAllowed 10 = .ok (.getfield 37, 3) := by decide +kernel
theorem dX6_isAllowed_13 : decode cX6_isAllowed 13 = .ok (.fcmp .g, 1) := by decide +kernel
theorem dX6_isAllowed_14 : decode cX6_isAllowed 14 = .ok (.ifCond .gt 7, 3) := by decide +kernel
theorem dX6_isAllowed_17 : decode cX6_isAllowed 17 = .ok (.iconst 1, 1) := by decide +kernel
theorem dX6_isAllowed_18 : decode cX6_isAllowed 18 = .ok (.goto 4, 3) := by decide +kernel
theorem dX6_isAllowed_21 : decode cX6_isAllowed 21 = .ok (.iconst 0, 1) := by decide +kernel
theorem dX6_isAllowed_22 : decode cX6_isAllowed 22 = .ok (.ireturn, 1) := by decide +kernel
theorem dX6_costTo_0 : decode cX6_costTo 0 = .ok (.aload_n 0, 1) := by decide +kernel
theorem dX6_costTo_1 : decode cX6_costTo 1 = .ok (.getfield 12, 3) := by decide +kernel
theorem dX6_costTo_4 : decode cX6_costTo 4 = .ok (.aload_n 0, 1) := by decide +kernel
theorem dX6_costTo_5 : decode cX6_costTo 5 = .ok (.getfield 47, 3) := by decide +kernel
theorem dX6_costTo_8 : decode cX6_costTo 8 = .ok (.invokevirtual 92, 3) := by decide +kernel
theorem dX6_costTo_11 : decode cX6_costTo 11 = .ok (.astore_n 2, 1) := by decide +kernel
theorem dX6_costTo_12 : decode cX6_costTo 12 = .ok (.aload_n 2, 1) := by decide +kernel
theorem dX6_costTo_13 : decode cX6_costTo 13 = .ok (.ifnonnull 8, 3) := by decide +kernel
theorem dX6_costTo_16 : decode cX6_costTo 16 = .ok (.ldc 155, 2) := by decide +kernel
theorem dX6_costTo_18 : decode cX6_costTo 18 = .ok (.goto 16, 3) := by decide +kernel
theorem dX6_costTo_21 : decode cX6_costTo 21 = .ok (.aload_n 2, 1) := by decide +kernel
theorem dX6_costTo_22 : decode cX6_costTo 22 = .ok (.getfield 100, 3) := by decide +kernel
theorem dX6_costTo_25 : decode cX6_costTo 25 = .ok (.ifCond .eq 8, 3) := by decide +kernel
theorem dX6_costTo_28 : decode cX6_costTo 28 = .ok (.ldc 156, 2) := by decide +kernel
theorem dX6_costTo_30 : decode cX6_costTo 30 = .ok (.goto 4, 3) := by decide +kernel
theorem dX6_costTo_33 : decode cX6_costTo 33 = .ok (.fconst 1, 1) := by decide +kernel
theorem dX6_costTo_34 : decode cX6_costTo 34 = .ok (.fstore_n 3, 1) := by decide +kernel
theorem dX6_costTo_35 : decode cX6_costTo 35 = .ok (.iload_n 1, 1) := by decide +kernel
theorem dX6_costTo_36 : decode cX6_costTo 36 = .ok (.aload_n 0, 1) := by decide +kernel
theorem dX6_costTo_37 : decode cX6_costTo 37 = .ok (.getfield 44, 3) := by decide +kernel
theorem dX6_costTo_40 : decode cX6_costTo 40 = .ok (.isub, 1) := by decide +kernel
theorem dX6_costTo_41 : decode cX6_costTo 41 = .ok (.invokestatic 157, 3) := by decide +kernel
theorem dX6_costTo_44 : decode cX6_costTo 44 = .ok (.i2f, 1) := by decide +kernel
theorem dX6_costTo_45 : decode cX6_costTo 45 = .ok (.fload_n 3, 1) := by decide +kernel
theorem dX6_costTo_46 : decode cX6_costTo 46 = .ok (.fmul, 1) := by decide +kernel
theorem dX6_costTo_47 : decode cX6_costTo 47 = .ok (.freturn, 1) := by decide +kernel
theorem dX6_passOneTick_0 : decode cX6_passOneTick 0 = .ok (.aload_n 0, 1) := by decide +kernel
theorem dX6_passOneTick_1 : decode cX6_passOneTick 1 = .ok (.getfield 50, 3) := by decide +kernel
theorem dX6_passOneTick_4 : decode cX6_passOneTick 4 = .ok (.bipush (-5), 2) := by decide +kernel
theorem dX6_passOneTick_6 : decode cX6_passOneTick 6 = .ok (.if_icmp .ne 7, 3) := by decide +kernel
theorem dX6_passOneTick_9 : decode cX6_passOneTick 9 = .ok (.aload_n 0, 1) := by decide +kernel
theorem dX6_passOneTick_10 : decode cX6_passOneTick 10 = .ok (.invokevirtual 162, 3) := by decide +kernel
theorem dX6_passOneTick_13 : decode cX6_passOneTick 13 = .ok (.iconst 0, 1) := by decide +kernel
theorem dX6_passOneTick_14 : decode cX6_passOneTick 14 = .ok (.istore_n 1, 1) := by decide +kernel
theorem dX6_passOneTick_15 : decode cX6_passOneTick 15 = .ok (.aload_n 0, 1) := by decide +kernel
theorem dX6_passOneTick_16 : decode cX6_passOneTick 16 = .ok (.getfield 21, 3) := by decide +kernel
theorem dX6_passOneTick_19 : decode cX6_passOneTick 19 = .ok (.aload_n 0, 1) := by decide +kernel
theorem dX6_passOneTick_20 : decode cX6_passOneTick 20 = .ok (.getfield 50, 3) := by decide +kernel
theorem dX6_passOneTick_23 : decode cX6_passOneTick 23 = .ok (.invokevirtual 72, 3) := by decide +kernel
theorem dX6_passOneTick_26 : decode cX6_passOneTick 26 = .ok (.astore_n 2, 1) := by decide +kernel
theorem dX6_passOneTick_27 : decode cX6_passOneTick 27 = .ok (.aload_n 2, 1) := by decide +kernel
theorem dX6_passOneTick_28 : decode cX6_passOneTick 28 = .ok (.ifnonnull 16, 3) := by decide +kernel
theorem dX6_passOneTick_31 : decode cX6_passOneTick 31 = .ok (.aload_n 0, 1) := by decide +kernel
theorem dX6_passOneTick_32 : decode cX6_passOneTick 32 = .ok (.dup, 1) := by decide +kernel
theorem dX6_passOneTick_33 : decode cX6_passOneTick 33 = .ok (.getfield 59, 3) := by decide +kernel
theorem dX6_passOneTick_36 : decode cX6_passOneTick 36 = .ok (.iconst 1, 1) := by decide +kernel
theorem dX6_passOneTick_37 : decode cX6_passOneTick 37 = .ok (.iadd, 1) := by decide +kernel
theorem dX6_passOneTick_38 : decode cX6_passOneTick 38 = .ok (.putfield 59, 3) := by decide +kernel
theorem dX6_passOneTick_41 : decode cX6_passOneTick 41 = .ok (.goto 17, 3) := by decide +kernel
theorem dX6_passOneTick_44 : decode cX6_passOneTick 44 = .ok (.aload_n 0, 1) := by decide +kernel
theorem dX6_passOneTick_45 : decode cX6_passOneTick 45 = .ok (.aload_n 2, 1) := by decide +kernel
theorem dX6_passOneTick_46 : decode cX6_passOneTick 46 = .ok (.invokevirtual 165, 3) := by decide +kernel
theorem dX6_passOneTick_49 : decode cX6_passOneTick 49 = .ok (.ifCond .eq 9, 3) := by decide +kernel
theorem dX6_passOneTick_52 : decode cX6_passOneTick 52 = .ok (.aload_n 0, 1) := by decide +kernel
theorem dX6_passOneTick_53 : decode cX6_passOneTick 53 = .ok (.aload_n 2, 1) := by decide +kernel
theorem dX6_passOneTick_54 : decode cX6_passOneTick 54 = .ok (.invokevirtual 168, 3) := by decide +kernel
theorem dX6_passOneTick_57 : decode cX6_passOneTick 57 = .ok (.istore_n 1, 1) := by decide +kernel
theorem dX6_passOneTick_58 : decode cX6_passOneTick 58 = .ok (.aload_n 0, 1) := by decide +kernel
theorem dX6_passOneTick_59 : decode cX6_passOneTick 59 = .ok (.aload_n 0, 1) := by decide +kernel
theorem dX6_passOneTick_60 : decode cX6_passOneTick 60 = .ok (.getfield 32, 3) := by decide +kernel
theorem dX6_passOneTick_63 : decode cX6_passOneTick 63 = .ok (.ldc 154, 2) := by decide +kernel
theorem dX6_passOneTick_65 : decode cX6_passOneTick 65 = .ok (.fmul, 1) := by decide +kernel
theorem dX6_passOneTick_66 : decode cX6_passOneTick 66 = .ok (.putfield 32, 3) := by decide +kernel
theorem dX6_passOneTick_69 : decode cX6_passOneTick 69 = .ok (.aload_n 0, 1) := by decide +kernel
theorem dX6_passOneTick_70 : decode cX6_passOneTick 70 = .ok (.dup, 1) := by decide +kernel
theorem dX6_passOneTick_71 : decode cX6_passOneTick 71 = .ok (.getfield 40, 3) := by decide +kernel
theorem dX6_passOneTick_74 : decode cX6_passOneTick 74 = .ok (.iconst 1, 1) := by decide +kernel
theorem dX6_passOneTick_75 : decode cX6_passOneTick 75 = .ok (.iadd, 1) := by decide +kernel
theorem dX6_passOneTick_76 : decode cX6_passOneTick 76 = .ok (.putfield 40, 3) := by decide +kernel
theorem dX6_passOneTick_79 : decode cX6_passOneTick 79 = .ok (.iload_n 1, 1) := by decide +kernel
theorem dX6_passOneTick_80 : decode cX6_passOneTick 80 = .ok (.ireturn, 1) := by decide +kernel
theorem dX6_beginJob_0 : decode cX6_beginJob 0 = .ok (.aload_n 0, 1) := by decide +kernel
theorem dX6_beginJob_1 : decode cX6_beginJob 1 = .ok (.invokevirtual 171, 3) := by decide +kernel
theorem dX6_beginJob_4 : decode cX6_beginJob 4 = .ok (.istore_n 1, 1) := by decide +kernel
theorem dX6_beginJob_5 : decode cX6_beginJob 5 = .ok (.aload_n 0, 1) := by decide +kernel
theorem dX6_beginJob_6 : decode cX6_beginJob 6 = .ok (.getfield 21, 3) := by decide +kernel
theorem dX6_beginJob_9 : decode cX6_beginJob 9 = .ok (.iload_n 1, 1) := by decide +kernel
theorem dX6_beginJob_10 : decode cX6_beginJob 10 = .ok (.invokevirtual 72, 3) := by decide +kernel
theorem dX6_beginJob_13 : decode cX6_beginJob 13 = .ok (.astore_n 2, 1) := by decide +kernel
theorem dX6_beginJob_14 : decode cX6_beginJob 14 = .ok (.aload_n 2, 1) := by decide +kernel
theorem dX6_beginJob_15 : decode cX6_beginJob 15 = .ok (.ifnonnull 4, 3) := by decide +kernel
theorem dX6_beginJob_18 : decode cX6_beginJob 18 = .ok (.return_, 1) := by decide +kernel
theorem dX6_beginJob_19 : decode cX6_beginJob 19 = .ok (.aload_n 2, 1) := by decide +kernel
theorem dX6_beginJob_20 : decode cX6_beginJob 20 = .ok (.iconst 1, 1) := by decide +kernel
theorem dX6_beginJob_21 : decode cX6_beginJob 21 = .ok (.putfield 113, 3) := by decide +kernel
theorem dX6_beginJob_24 : decode cX6_beginJob 24 = .ok (.aload_n 2, 1) := by decide +kernel
theorem dX6_beginJob_25 : decode cX6_beginJob 25 = .ok (.aload_n 0, 1) := by decide +kernel
theorem dX6_beginJob_26 : decode cX6_beginJob 26 = .ok (.getfield 40, 3) := by decide +kernel
theorem dX6_beginJob_29 : decode cX6_beginJob 29 = .ok (.putfield 174, 3) := by decide +kernel
theorem dX6_beginJob_32 : decode cX6_beginJob 32 = .ok (.aload_n 2, 1) := by decide +kernel
theorem dX6_beginJob_33 : decode cX6_beginJob 33 = .ok (.getfield 76, 3) := by decide +kernel
theorem dX6_beginJob_36 : decode cX6_beginJob 36 = .ok (.ifCond .ne 17, 3) := by decide +kernel
theorem dX6_beginJob_39 : decode cX6_beginJob 39 = .ok (.aload_n 2, 1) := by decide +kernel
theorem dX6_beginJob_40 : decode cX6_beginJob 40 = .ok (.aload_n 0, 1) := by decide +kernel
theorem dX6_beginJob_41 : decode cX6_beginJob 41 = .ok (.getfield 12, 3) := by decide +kernel
theorem dX6_beginJob_44 : decode cX6_beginJob 44 = .ok (.invokevirtual 139, 3) := by decide +kernel
theorem dX6_beginJob_47 : decode cX6_beginJob 47 = .ok (.putfield 177, 3) := by decide +kernel
theorem dX6_beginJob_50 : decode cX6_beginJob 50 = .ok (.goto 34, 3) := by decide +kernel
theorem dX6_beginJob_53 : decode cX6_beginJob 53 = .ok (.aload_n 2, 1) := by decide +kernel
theorem dX6_beginJob_54 : decode cX6_beginJob 54 = .ok (.getfield 76, 3) := by decide +kernel
theorem dX6_beginJob_57 : decode cX6_beginJob 57 = .ok (.iconst 1, 1) := by decide +kernel
theorem dX6_beginJob_58 : decode cX6_beginJob 58 = .ok (.if_icmp .ne 26, 3) := by decide +kernel
theorem dX6_beginJob_61 : decode cX6_beginJob 61 = .ok (.aload_n 2, 1) := by decide +kernel
theorem dX6_beginJob_62 : decode cX6_beginJob 62 = .ok (.aload_n 2, 1) := by decide +kernel
theorem dX6_beginJob_63 : decode cX6_beginJob 63 = .ok (.getfield 127, 3) := by decide +kernel
theorem dX6_beginJob_66 : decode cX6_beginJob 66 = .ok (.putfield 177, 3) := by decide +kernel
theorem dX6_beginJob_69 : decode cX6_beginJob 69 = .ok (.aload_n 2, 1) := by decide +kernel
theorem dX6_beginJob_70 : decode cX6_beginJob 70 = .ok (.aload_n 0, 1) := by decide +kernel
theorem dX6_beginJob_71 : decode cX6_beginJob 71 = .ok (.getfield 12, 3) := by decide +kernel
theorem dX6_beginJob_74 : decode cX6_beginJob 74 = .ok (.aload_n 0, 1) := by decide +kernel
theorem dX6_beginJob_75 : decode cX6_beginJob 75 = .ok (.getfield 44, 3) := by decide +kernel
theorem dX6_beginJob_78 : decode cX6_beginJob 78 = .ok (.invokevirtual 143, 3) := by decide +kernel
theorem dX6_beginJob_81 : decode cX6_beginJob 81 = .ok (.putfield 180, 3) := by decide +kernel
theorem dX6_beginJob_84 : decode cX6_beginJob 84 = .ok (.aload_n 0, 1) := by decide +kernel
theorem dX6_beginJob_85 : decode cX6_beginJob 85 = .ok (.iload_n 1, 1) := by decide +kernel
theorem dX6_beginJob_86 : decode cX6_beginJob 86 = .ok (.putfield 50, 3) := by decide +kernel
theorem dX6_beginJob_89 : decode cX6_beginJob 89 = .ok (.aload_n 0, 1) := by decide +kernel
theorem dX6_beginJob_90 : decode cX6_beginJob 90 = .ok (.getfield 28, 3) := by decide +kernel
theorem dX6_beginJob_93 : decode cX6_beginJob 93 = .ok (.iconst 0, 1) := by decide +kernel
theorem dX6_beginJob_94 : decode cX6_beginJob 94 = .ok (.iload_n 1, 1) := by decide +kernel
theorem dX6_beginJob_95 : decode cX6_beginJob 95 = .ok (.bipush (-5), 2) := by decide +kernel
theorem dX6_beginJob_97 : decode cX6_beginJob 97 = .ok (.aload_n 0, 1) := by decide +kernel
theorem dX6_beginJob_98 : decode cX6_beginJob 98 = .ok (.getfield 40, 3) := by decide +kernel
theorem dX6_beginJob_101 : decode cX6_beginJob 101 = .ok (.invokevirtual 183, 3) := by decide +kernel
theorem dX6_beginJob_104 : decode cX6_beginJob 104 = .ok (.return_, 1) := by decide +kernel
theorem dX6_doStep_0 : decode cX6_doStep 0 = .ok (.aload_n 1, 1) := by decide +kernel
theorem dX6_doStep_1 : decode cX6_doStep 1 = .ok (.invokevirtual 187, 3) := by decide +kernel
theorem dX6_doStep_4 : decode cX6_doStep 4 = .ok (.istore_n 2, 1) := by decide +kernel
theorem dX6_doStep_5 : decode cX6_doStep 5 = .ok (.aload_n 0, 1) := by decide +kernel
theorem dX6_doStep_6 : decode cX6_doStep 6 = .ok (.getfield 12, 3) := by decide +kernel
theorem dX6_doStep_9 : decode cX6_doStep 9 = .ok (.iload_n 2, 1) := by decide +kernel
theorem dX6_doStep_10 : decode cX6_doStep 10 = .ok (.invokevirtual 92, 3) := by decide +kernel
theorem dX6_doStep_13 : decode cX6_doStep 13 = .ok (.astore_n 3, 1) := by decide +kernel
theorem dX6_doStep_14 : decode cX6_doStep 14 = .ok (.aload_n 3, 1) := by decide +kernel
theorem dX6_doStep_15 : decode cX6_doStep 15 = .ok (.ifnonnull 5, 3) := by decide +kernel
theorem dX6_doStep_18 : decode cX6_doStep 18 = .ok (.iconst 0, 1) := by decide +kernel
theorem dX6_doStep_19 : decode cX6_doStep 19 = .ok (.ireturn, 1) := by decide +kernel
theorem dX6_doStep_20 : decode cX6_doStep 20 = .ok (.aload_n 1, 1) := by decide +kernel
theorem dX6_doStep_21 : decode cX6_doStep 21 = .ok (.getfield 76, 3) := by decide +kernel
theorem dX6_doStep_24 : decode cX6_doStep 24 = .ok (.iconst 2, 1) := by decide +kernel
theorem dX6_doStep_25 : decode cX6_doStep 25 = .ok (.if_icmp .ne 11, 3) := by decide +kernel
theorem dX6_doStep_28 : decode cX6_doStep 28 = .ok (.aload_n 0, 1) := by decide +kernel
theorem dX6_doStep_29 : decode cX6_doStep 29 = .ok (.aload_n 1, 1) := by decide +kernel
theorem dX6_doStep_30 : decode cX6_doStep 30 = .ok (.aload_n 3, 1) := by decide +kernel
theorem dX6_doStep_31 : decode cX6_doStep 31 = .ok (.iload_n 2, 1) := by decide +kernel
theorem dX6_doStep_32 : decode cX6_doStep 32 = .ok (.invokevirtual 190, 3) := by decide +kernel
theorem dX6_doStep_35 : decode cX6_doStep 35 = .ok (.ireturn, 1) := by decide +kernel
theorem dX6_doStep_36 : decode cX6_doStep 36 = .ok (.aload_n 0, 1) := by decide +kernel
theorem dX6_doStep_37 : decode cX6_doStep 37 = .ok (.getfield 12, 3) := by decide +kernel
theorem dX6_doStep_40 : decode cX6_doStep 40 = .ok (.aload_n 1, 1) := by decide +kernel
theorem dX6_doStep_41 : decode cX6_doStep 41 = .ok (.getfield 177, 3) := by decide +kernel
theorem dX6_doStep_44 : decode cX6_doStep 44 = .ok (.invokevirtual 88, 3) := by decide +kernel
theorem dX6_doStep_47 : decode cX6_doStep 47 = .ok (.astore 4, 2) := by decide +kernel
theorem dX6_doStep_49 : decode cX6_doStep 49 = .ok (.aload 4, 2) := by decide +kernel
theorem dX6_doStep_51 : decode cX6_doStep 51 = .ok (.ifnull 18, 3) := by decide +kernel
theorem dX6_doStep_54 : decode cX6_doStep 54 = .ok (.aload_n 0, 1) := by decide +kernel
theorem dX6_doStep_55 : decode cX6_doStep 55 = .ok (.aload_n 1, 1) := by decide +kernel
theorem dX6_doStep_56 : decode cX6_doStep 56 = .ok (.aload_n 3, 1) := by decide +kernel
theorem dX6_doStep_57 : decode cX6_doStep 57 = .ok (.aload 4, 2) := by decide +kernel
theorem dX6_doStep_59 : decode cX6_doStep 59 = .ok (.invokevirtual 194, 3) := by decide +kernel
theorem dX6_doStep_62 : decode cX6_doStep 62 = .ok (.ifCond .eq 7, 3) := by decide +kernel
theorem dX6_doStep_65 : decode cX6_doStep 65 = .ok (.iconst 1, 1) := by decide +kernel
theorem dX6_doStep_66 : decode cX6_doStep 66 = .ok (.goto 4, 3) := by decide +kernel
theorem dX6_doStep_69 : decode cX6_doStep 69 = .ok (.iconst 0, 1) := by decide +kernel
theorem dX6_doStep_70 : decode cX6_doStep 70 = .ok (.ireturn, 1) := by decide +kernel
theorem dX6_doMoveStep_0 : decode cX6_doMoveStep 0 = .ok (.aload_n 1, 1) := by decide +kernel
theorem dX6_doMoveStep_1 : decode cX6_doMoveStep 1 = .ok (.getfield 198, 3) := by decide +kernel
theorem dX6_doMoveStep_4 : decode cX6_doMoveStep 4 = .ok (.tableswitch 55 0 2 #[28, 38, 45], 28) := by decide +kernel
theorem dX6_doMoveStep_32 : decode cX6_doMoveStep 32 = .ok (.aload_n 0, 1) := by decide +kernel
theorem dX6_doMoveStep_33 : decode cX6_doMoveStep 33 = .ok (.aload_n 1, 1) := by decide +kernel
theorem dX6_doMoveStep_34 : decode cX6_doMoveStep 34 = .ok (.aload_n 2, 1) := by decide +kernel
theorem dX6_doMoveStep_35 : decode cX6_doMoveStep 35 = .ok (.getfield 201, 3) := by decide +kernel
theorem dX6_doMoveStep_38 : decode cX6_doMoveStep 38 = .ok (.invokevirtual 204, 3) := by decide +kernel
theorem dX6_doMoveStep_41 : decode cX6_doMoveStep 41 = .ok (.ireturn, 1) := by decide +kernel
theorem dX6_doMoveStep_42 : decode cX6_doMoveStep 42 = .ok (.aload_n 0, 1) := by decide +kernel
theorem dX6_doMoveStep_43 : decode cX6_doMoveStep 43 = .ok (.aload_n 2, 1) := by decide +kernel
theorem dX6_doMoveStep_44 : decode cX6_doMoveStep 44 = .ok (.iload_n 3, 1) := by decide +kernel
theorem dX6_doMoveStep_45 : decode cX6_doMoveStep 45 = .ok (.invokevirtual 208, 3) := by decide +kernel
theorem dX6_doMoveStep_48 : decode cX6_doMoveStep 48 = .ok (.ireturn, 1) := by decide +kernel
theorem dX6_doMoveStep_49 : decode cX6_doMoveStep 49 = .ok (.aload_n 0, 1) := by decide +kernel
theorem dX6_doMoveStep_50 : decode cX6_doMoveStep 50 = .ok (.aload_n 1, 1) := by decide +kernel
theorem dX6_doMoveStep_51 : decode cX6_doMoveStep 51 = .ok (.aload_n 1, 1) := by decide +kernel
theorem dX6_doMoveStep_52 : decode cX6_doMoveStep 52 = .ok (.getfield 81, 3) := by decide +kernel
theorem dX6_doMoveStep_55 : decode cX6_doMoveStep 55 = .ok (.invokevirtual 204, 3) := by decide +kernel
theorem dX6_doMoveStep_58 : decode cX6_doMoveStep 58 = .ok (.ireturn, 1) := by decide +kernel
theorem dX6_doMoveStep_59 : decode cX6_doMoveStep 59 = .ok (.aload_n 2, 1) := by decide +kernel
theorem dX6_doMoveStep_60 : decode cX6_doMoveStep 60 = .ok (.aload_n 1, 1) := by decide +kernel
theorem dX6_doMoveStep_61 : decode cX6_doMoveStep 61 = .ok (.getfield 81, 3) := by decide +kernel
theorem dX6_doMoveStep_64 : decode cX6_doMoveStep 64 = .ok (.putfield 201, 3) := by decide +kernel
theorem dX6_doMoveStep_67 : decode cX6_doMoveStep 67 = .ok (.aload_n 0, 1) := by decide +kernel
theorem dX6_doMoveStep_68 : decode cX6_doMoveStep 68 = .ok (.aload_n 2, 1) := by decide +kernel
theorem dX6_doMoveStep_69 : decode cX6_doMoveStep 69 = .ok (.invokevirtual 212, 3) := by decide +kernel
theorem dX6_doMoveStep_72 : decode cX6_doMoveStep 72 = .ok (.ireturn, 1) := by decide +kernel
theorem dX6_doDriveStep_0 : decode cX6_doDriveStep 0 = .ok (.aload_n 1, 1) := by decide +kernel
theorem dX6_doDriveStep_1 : decode cX6_doDriveStep 1 = .ok (.getfield 198, 3) := by decide +kernel
theorem dX6_doDriveStep_4 : decode cX6_doDriveStep 4 = .ok (.tableswitch 125 0 6 #[44, 54, 64, 74, 82, 107, 115], 44) := by decide +kernel
theorem dX6_doDriveStep_48 : decode cX6_doDriveStep 48 = .ok (.aload_n 0, 1) := by decide +kernel
theorem dX6_doDriveStep_49 : decode cX6_doDriveStep 49 = .ok (.aload_n 1, 1) := by decide +kernel
theorem dX6_doDriveStep_50 : decode cX6_doDriveStep 50 = .ok (.aload_n 2, 1) := by decide +kernel
theorem dX6_doDriveStep_51 : decode cX6_doDriveStep 51 = .ok (.getfield 201, 3) := by decide +kernel
theorem dX6_doDriveStep_54 : decode cX6_doDriveStep 54 = .ok (.invokevirtual 204, 3) := by decide +kernel
theorem dX6_doDriveStep_57 : decode cX6_doDriveStep 57 = .ok (.ireturn, 1) := by decide +kernel
theorem dX6_doDriveStep_58 : decode cX6_doDriveStep 58 = .ok (.aload_n 0, 1) := by decide +kernel
theorem dX6_doDriveStep_59 : decode cX6_doDriveStep 59 = .ok (.aload_n 2, 1) := by decide +kernel
theorem dX6_doDriveStep_60 : decode cX6_doDriveStep 60 = .ok (.aload_n 1, 1) := by decide +kernel
theorem dX6_doDriveStep_61 : decode cX6_doDriveStep 61 = .ok (.invokevirtual 187, 3) := by decide +kernel
theorem dX6_doDriveStep_64 : decode cX6_doDriveStep 64 = .ok (.invokevirtual 208, 3) := by decide +kernel
theorem dX6_doDriveStep_67 : decode cX6_doDriveStep 67 = .ok (.ireturn, 1) := by decide +kernel
theorem dX6_doDriveStep_68 : decode cX6_doDriveStep 68 = .ok (.aload_n 0, 1) := by decide +kernel
theorem dX6_doDriveStep_69 : decode cX6_doDriveStep 69 = .ok (.aload_n 1, 1) := by decide +kernel
theorem dX6_doDriveStep_70 : decode cX6_doDriveStep 70 = .ok (.aload_n 3, 1) := by decide +kernel
theorem dX6_doDriveStep_71 : decode cX6_doDriveStep 71 = .ok (.getfield 216, 3) := by decide +kernel
theorem dX6_doDriveStep_74 : decode cX6_doDriveStep 74 = .ok (.invokevirtual 204, 3) := by decide +kernel
theorem dX6_doDriveStep_77 : decode cX6_doDriveStep 77 = .ok (.ireturn, 1) := by decide +kernel
theorem dX6_doDriveStep_78 : decode cX6_doDriveStep 78 = .ok (.aload_n 0, 1) := by decide +kernel
theorem dX6_doDriveStep_79 : decode cX6_doDriveStep 79 = .ok (.aload_n 1, 1) := by decide +kernel
theorem dX6_doDriveStep_80 : decode cX6_doDriveStep 80 = .ok (.aload_n 2, 1) := by decide +kernel
theorem dX6_doDriveStep_81 : decode cX6_doDriveStep 81 = .ok (.aload_n 3, 1) := by decide +kernel
theorem dX6_doDriveStep_82 : decode cX6_doDriveStep 82 = .ok (.invokevirtual 217, 3) := by decide +kernel
theorem dX6_doDriveStep_85 : decode cX6_doDriveStep 85 = .ok (.ireturn, 1) := by decide +kernel
theorem dX6_doDriveStep_86 : decode cX6_doDriveStep 86 = .ok (.aload_n 1, 1) := by decide +kernel
theorem dX6_doDriveStep_87 : decode cX6_doDriveStep 87 = .ok (.getfield 76, 3) := by decide +kernel
theorem dX6_doDriveStep_90 : decode cX6_doDriveStep 90 = .ok (.ifCond .ne 13, 3) := by decide +kernel
theorem dX6_doDriveStep_93 : decode cX6_doDriveStep 93 = .ok (.aload_n 0, 1) := by decide +kernel
theorem dX6_doDriveStep_94 : decode cX6_doDriveStep 94 = .ok (.aload_n 1, 1) := by decide +kernel
theorem dX6_doDriveStep_95 : decode cX6_doDriveStep 95 = .ok (.aload_n 2, 1) := by decide +kernel
theorem dX6_doDriveStep_96 : decode cX6_doDriveStep 96 = .ok (.aload_n 3, 1) := by decide +kernel
theorem dX6_doDriveStep_97 : decode cX6_doDriveStep 97 = .ok (.invokevirtual 220, 3) := by decide +kernel
theorem dX6_doDriveStep_100 : decode cX6_doDriveStep 100 = .ok (.goto 10, 3) := by decide +kernel
theorem dX6_doDriveStep_103 : decode cX6_doDriveStep 103 = .ok (.aload_n 0, 1) := by decide +kernel
theorem dX6_doDriveStep_104 : decode cX6_doDriveStep 104 = .ok (.aload_n 1, 1) := by decide +kernel
theorem dX6_doDriveStep_105 : decode cX6_doDriveStep 105 = .ok (.aload_n 2, 1) := by decide +kernel
theorem dX6_doDriveStep_106 : decode cX6_doDriveStep 106 = .ok (.aload_n 3, 1) := by decide +kernel
theorem dX6_doDriveStep_107 : decode cX6_doDriveStep 107 = .ok (.invokevirtual 223, 3) := by decide +kernel
theorem dX6_doDriveStep_110 : decode cX6_doDriveStep 110 = .ok (.ireturn, 1) := by decide +kernel
theorem dX6_doDriveStep_111 : decode cX6_doDriveStep 111 = .ok (.aload_n 0, 1) := by decide +kernel
theorem dX6_doDriveStep_112 : decode cX6_doDriveStep 112 = .ok (.aload_n 1, 1) := by decide +kernel
theorem dX6_doDriveStep_113 : decode cX6_doDriveStep 113 = .ok (.aload_n 2, 1) := by decide +kernel
theorem dX6_doDriveStep_114 : decode cX6_doDriveStep 114 = .ok (.aload_n 3, 1) := by decide +kernel
theorem dX6_doDriveStep_115 : decode cX6_doDriveStep 115 = .ok (.invokevirtual 226, 3) := by decide +kernel
theorem dX6_doDriveStep_118 : decode cX6_doDriveStep 118 = .ok (.ireturn, 1) := by decide +kernel
theorem dX6_doDriveStep_119 : decode cX6_doDriveStep 119 = .ok (.aload_n 0, 1) := by decide +kernel
theorem dX6_doDriveStep_120 : decode cX6_doDriveStep 120 = .ok (.aload_n 1, 1) := by decide +kernel
theorem dX6_doDriveStep_121 : decode cX6_doDriveStep 121 = .ok (.aload_n 2, 1) := by decide +kernel
theorem dX6_doDriveStep_122 : decode cX6_doDriveStep 122 = .ok (.getfield 201, 3) := by decide +kernel
theorem dX6_doDriveStep_125 : decode cX6_doDriveStep 125 = .ok (.invokevirtual 204, 3) := by decide +kernel
theorem dX6_doDriveStep_128 : decode cX6_doDriveStep 128 = .ok (.ireturn, 1) := by decide +kernel
theorem dX6_doDriveStep_129 : decode cX6_doDriveStep 129 = .ok (.aload_n 0, 1) := by decide +kernel
theorem dX6_doDriveStep_130 : decode cX6_doDriveStep 130 = .ok (.aload_n 2, 1) := by decide +kernel
theorem dX6_doDriveStep_131 : decode cX6_doDriveStep 131 = .ok (.invokevirtual 212, 3) := by decide +kernel
theorem dX6_doDriveStep_134 : decode cX6_doDriveStep 134 = .ok (.ireturn, 1) := by decide +kernel
theorem dX6_goTo_0 : decode cX6_goTo 0 = .ok (.aload_n 0, 1) := by decide +kernel
theorem dX6_goTo_1 : decode cX6_goTo 1 = .ok (.iload_n 2, 1) := by decide +kernel
theorem dX6_goTo_2 : decode cX6_goTo 2 = .ok (.invokevirtual 146, 3) := by decide +kernel
theorem dX6_goTo_5 : decode cX6_goTo 5 = .ok (.fstore_n 3, 1) := by decide +kernel
theorem dX6_goTo_6 : decode cX6_goTo 6 = .ok (.aload_n 0, 1) := by decide +kernel
theorem dX6_goTo_7 : decode cX6_goTo 7 = .ok (.aload_n 0, 1) := by decide +kernel
theorem dX6_goTo_8 : decode cX6_goTo 8 = .ok (.getfield 32, 3) := by decide +kernel
theorem dX6_goTo_11 : decode cX6_goTo 11 = .ok (.fload_n 3, 1) := by decide +kernel
theorem dX6_goTo_12 : decode cX6_goTo 12 = .ok (.invokevirtual 150, 3) := by decide +kernel
theorem dX6_goTo_15 : decode cX6_goTo 15 = .ok (.ifCond .ne 43, 3) := by decide +kernel
theorem dX6_goTo_18 : decode cX6_goTo 18 = .ok (.aload_n 1, 1) := by decide +kernel
theorem dX6_goTo_19 : decode cX6_goTo 19 = .ok (.dup, 1) := by decide +kernel
theorem dX6_goTo_20 : decode cX6_goTo 20 = .ok (.getfield 229, 3) := by decide +kernel
theorem dX6_goTo_23 : decode cX6_goTo 23 = .ok (.iconst 1, 1) := by decide +kernel
theorem dX6_goTo_24 : decode cX6_goTo 24 = .ok (.iadd, 1) := by decide +kernel
theorem dX6_goTo_25 : decode cX6_goTo 25 = .ok (.putfield 229, 3) := by decide +kernel
theorem dX6_goTo_28 : decode cX6_goTo 28 = .ok (.aload_n 0, 1) := by decide +kernel
theorem dX6_goTo_29 : decode cX6_goTo 29 = .ok (.dup, 1) := by decide +kernel
theorem dX6_goTo_30 : decode cX6_goTo 30 = .ok (.getfield 53, 3) := by decide +kernel
theorem dX6_goTo_33 : decode cX6_goTo 33 = .ok (.iconst 1, 1) := by decide +kernel
theorem dX6_goTo_34 : decode cX6_goTo 34 = .ok (.iadd, 1) := by decide +kernel
theorem dX6_goTo_35 : decode cX6_goTo 35 = .ok (.putfield 53, 3) := by decide +kernel
theorem dX6_goTo_38 : decode cX6_goTo 38 = .ok (.aload_n 0, 1) := by decide +kernel
theorem dX6_goTo_39 : decode cX6_goTo 39 = .ok (.getfield 28, 3) := by decide +kernel
theorem dX6_goTo_42 : decode cX6_goTo 42 = .ok (.iconst 4, 1) := by decide +kernel
theorem dX6_goTo_43 : decode cX6_goTo 43 = .ok (.aload_n 0, 1) := by decide +kernel
theorem dX6_goTo_44 : decode cX6_goTo 44 = .ok (.getfield 50, 3) := by decide +kernel
theorem dX6_goTo_47 : decode cX6_goTo 47 = .ok (.bipush (-5), 2) := by decide +kernel
theorem dX6_goTo_49 : decode cX6_goTo 49 = .ok (.aload_n 0, 1) := by decide +kernel
theorem dX6_goTo_50 : decode cX6_goTo 50 = .ok (.getfield 40, 3) := by decide +kernel
theorem dX6_goTo_53 : decode cX6_goTo 53 = .ok (.invokevirtual 183, 3) := by decide +kernel
theorem dX6_goTo_56 : decode cX6_goTo 56 = .ok (.iconst 0, 1) := by decide +kernel
theorem dX6_goTo_57 : decode cX6_goTo 57 = .ok (.ireturn, 1) := by decide +kernel
theorem dX6_goTo_58 : decode cX6_goTo 58 = .ok (.aload_n 0, 1) := by decide +kernel
theorem dX6_goTo_59 : decode cX6_goTo 59 = .ok (.aload_n 0, 1) := by decide +kernel
theorem dX6_goTo_60 : decode cX6_goTo 60 = .ok (.getfield 32, 3) := by decide +kernel
theorem dX6_goTo_63 : decode cX6_goTo 63 = .ok (.fload_n 3, 1) := by decide +kernel
theorem dX6_goTo_64 : decode cX6_goTo 64 = .ok (.fadd, 1) := by decide +kernel
theorem dX6_goTo_65 : decode cX6_goTo 65 = .ok (.putfield 32, 3) := by decide +kernel
theorem dX6_goTo_68 : decode cX6_goTo 68 = .ok (.aload_n 0, 1) := by decide +kernel
theorem dX6_goTo_69 : decode cX6_goTo 69 = .ok (.dup, 1) := by decide +kernel
theorem dX6_goTo_70 : decode cX6_goTo 70 = .ok (.getfield 56, 3) := by decide +kernel
theorem dX6_goTo_73 : decode cX6_goTo 73 = .ok (.iload_n 2, 1) := by decide +kernel
theorem dX6_goTo_74 : decode cX6_goTo 74 = .ok (.aload_n 0, 1) := by decide +kernel
theorem dX6_goTo_75 : decode cX6_goTo 75 = .ok (.getfield 44, 3) := by decide +kernel
theorem dX6_goTo_78 : decode cX6_goTo 78 = .ok (.isub, 1) := by decide +kernel
theorem dX6_goTo_79 : decode cX6_goTo 79 = .ok (.invokestatic 157, 3) := by decide +kernel
theorem dX6_goTo_82 : decode cX6_goTo 82 = .ok (.iadd, 1) := by decide +kernel
theorem dX6_goTo_83 : decode cX6_goTo 83 = .ok (.putfield 56, 3) := by decide +kernel
theorem dX6_goTo_86 : decode cX6_goTo 86 = .ok (.aload_n 0, 1) := by decide +kernel
theorem dX6_goTo_87 : decode cX6_goTo 87 = .ok (.iload_n 2, 1) := by decide +kernel
theorem dX6_goTo_88 : decode cX6_goTo 88 = .ok (.putfield 44, 3) := by decide +kernel
theorem dX6_goTo_91 : decode cX6_goTo 91 = .ok (.iconst 1, 1) := by decide +kernel
theorem dX6_goTo_92 : decode cX6_goTo 92 = .ok (.ireturn, 1) := by decide +kernel
theorem dX6_takeInHand_0 : decode cX6_takeInHand 0 = .ok (.aload_n 1, 1) := by decide +kernel
theorem dX6_takeInHand_1 : decode cX6_takeInHand 1 = .ok (.iconst 1, 1) := by decide +kernel
theorem dX6_takeInHand_2 : decode cX6_takeInHand 2 = .ok (.putfield 230, 3) := by decide +kernel
theorem dX6_takeInHand_5 : decode cX6_takeInHand 5 = .ok (.aload_n 1, 1) := by decide +kernel
theorem dX6_takeInHand_6 : decode cX6_takeInHand 6 = .ok (.bipush (-5), 2) := by decide +kernel
theorem dX6_takeInHand_8 : decode cX6_takeInHand 8 = .ok (.putfield 233, 3) := by decide +kernel
theorem dX6_takeInHand_11 : decode cX6_takeInHand 11 = .ok (.aload_n 0, 1) := by decide +kernel
theorem dX6_takeInHand_12 : decode cX6_takeInHand 12 = .ok (.iload_n 2, 1) := by decide +kernel
theorem dX6_takeInHand_13 : decode cX6_takeInHand 13 = .ok (.putfield 47, 3) := by decide +kernel
theorem dX6_takeInHand_16 : decode cX6_takeInHand 16 = .ok (.iconst 1, 1) := by decide +kernel
theorem dX6_takeInHand_17 : decode cX6_takeInHand 17 = .ok (.ireturn, 1) := by decide +kernel
theorem dX6_putHome_0 : decode cX6_putHome 0 = .ok (.aload_n 1, 1) := by decide +kernel
theorem dX6_putHome_1 : decode cX6_putHome 1 = .ok (.iconst 0, 1) := by decide +kernel
theorem dX6_putHome_2 : decode cX6_putHome 2 = .ok (.putfield 230, 3) := by decide +kernel
theorem dX6_putHome_5 : decode cX6_putHome 5 = .ok (.aload_n 0, 1) := by decide +kernel
theorem dX6_putHome_6 : decode cX6_putHome 6 = .ok (.bipush (-5), 2) := by decide +kernel
theorem dX6_putHome_8 : decode cX6_putHome 8 = .ok (.putfield 47, 3) := by decide +kernel
theorem dX6_putHome_11 : decode cX6_putHome 11 = .ok (.iconst 1, 1) := by decide +kernel
theorem dX6_putHome_12 : decode cX6_putHome 12 = .ok (.ireturn, 1) := by decide +kernel
theorem dX6_loadDrive_0 : decode cX6_loadDrive 0 = .ok (.aload_n 2, 1) := by decide +kernel
theorem dX6_loadDrive_1 : decode cX6_loadDrive 1 = .ok (.iconst 2, 1) := by decide +kernel
theorem dX6_loadDrive_2 : decode cX6_loadDrive 2 = .ok (.putfield 230, 3) := by decide +kernel
theorem dX6_loadDrive_5 : decode cX6_loadDrive 5 = .ok (.aload_n 2, 1) := by decide +kernel
theorem dX6_loadDrive_6 : decode cX6_loadDrive 6 = .ok (.aload_n 1, 1) := by decide +kernel
theorem dX6_loadDrive_7 : decode cX6_loadDrive 7 = .ok (.getfield 177, 3) := by decide +kernel
theorem dX6_loadDrive_10 : decode cX6_loadDrive 10 = .ok (.putfield 233, 3) := by decide +kernel
theorem dX6_loadDrive_13 : decode cX6_loadDrive 13 = .ok (.aload_n 3, 1) := by decide +kernel
theorem dX6_loadDrive_14 : decode cX6_loadDrive 14 = .ok (.aload_n 0, 1) := by decide +kernel
theorem dX6_loadDrive_15 : decode cX6_loadDrive 15 = .ok (.getfield 47, 3) := by decide +kernel
theorem dX6_loadDrive_18 : decode cX6_loadDrive 18 = .ok (.putfield 234, 3) := by decide +kernel
theorem dX6_loadDrive_21 : decode cX6_loadDrive 21 = .ok (.aload_n 0, 1) := by decide +kernel
theorem dX6_loadDrive_22 : decode cX6_loadDrive 22 = .ok (.bipush (-5), 2) := by decide +kernel
theorem dX6_loadDrive_24 : decode cX6_loadDrive 24 = .ok (.putfield 47, 3) := by decide +kernel
theorem dX6_loadDrive_27 : decode cX6_loadDrive 27 = .ok (.iconst 1, 1) := by decide +kernel
theorem dX6_loadDrive_28 : decode cX6_loadDrive 28 = .ok (.ireturn, 1) := by decide +kernel
theorem dX6_unloadDrive_0 : decode cX6_unloadDrive 0 = .ok (.aload_n 3, 1) := by decide +kernel
theorem dX6_unloadDrive_1 : decode cX6_unloadDrive 1 = .ok (.bipush (-5), 2) := by decide +kernel
theorem dX6_unloadDrive_3 : decode cX6_unloadDrive 3 = .ok (.putfield 234, 3) := by decide +kernel
theorem dX6_unloadDrive_6 : decode cX6_unloadDrive 6 = .ok (.aload_n 0, 1) := by decide +kernel
theorem dX6_unloadDrive_7 : decode cX6_unloadDrive 7 = .ok (.aload_n 2, 1) := by decide +kernel
theorem dX6_unloadDrive_8 : decode cX6_unloadDrive 8 = .ok (.aload_n 1, 1) := by decide +kernel
theorem dX6_unloadDrive_9 : decode cX6_unloadDrive 9 = .ok (.invokevirtual 187, 3) := by decide +kernel
theorem dX6_unloadDrive_12 : decode cX6_unloadDrive 12 = .ok (.invokevirtual 208, 3) := by decide +kernel
theorem dX6_unloadDrive_15 : decode cX6_unloadDrive 15 = .ok (.ireturn, 1) := by decide +kernel
theorem dX6_readInDrive_0 : decode cX6_readInDrive 0 = .ok (.aload_n 3, 1) := by decide +kernel
theorem dX6_readInDrive_1 : decode cX6_readInDrive 1 = .ok (.invokevirtual 130, 3) := by decide +kernel
theorem dX6_readInDrive_4 : decode cX6_readInDrive 4 = .ok (.ifCond .eq 10, 3) := by decide +kernel
theorem dX6_readInDrive_7 : decode cX6_readInDrive 7 = .ok (.aload_n 1, 1) := by decide +kernel
theorem dX6_readInDrive_8 : decode cX6_readInDrive 8 = .ok (.iconst 1, 1) := by decide +kernel
theorem dX6_readInDrive_9 : decode cX6_readInDrive 9 = .ok (.putfield 237, 3) := by decide +kernel
theorem dX6_readInDrive_12 : decode cX6_readInDrive 12 = .ok (.iconst 1, 1) := by decide +kernel
theorem dX6_readInDrive_13 : decode cX6_readInDrive 13 = .ok (.ireturn, 1) := by decide +kernel
theorem dX6_readInDrive_14 : decode cX6_readInDrive 14 = .ok (.aload_n 3, 1) := by decide +kernel
theorem dX6_readInDrive_15 : decode cX6_readInDrive 15 = .ok (.aload_n 2, 1) := by decide +kernel
theorem dX6_readInDrive_16 : decode cX6_readInDrive 16 = .ok (.invokevirtual 240, 3) := by decide +kernel
theorem dX6_readInDrive_19 : decode cX6_readInDrive 19 = .ok (.ifCond .eq 25, 3) := by decide +kernel
theorem dX6_readInDrive_22 : decode cX6_readInDrive 22 = .ok (.aload_n 0, 1) := by decide +kernel
theorem dX6_readInDrive_23 : decode cX6_readInDrive 23 = .ok (.getfield 28, 3) := by decide +kernel
theorem dX6_readInDrive_26 : decode cX6_readInDrive 26 = .ok (.iconst 1, 1) := by decide +kernel
theorem dX6_readInDrive_27 : decode cX6_readInDrive 27 = .ok (.aload_n 0, 1) := by decide +kernel
theorem dX6_readInDrive_28 : decode cX6_readInDrive 28 = .ok (.getfield 50, 3) := by decide +kernel
theorem dX6_readInDrive_31 : decode cX6_readInDrive 31 = .ok (.aload_n 1, 1) := by decide +kernel
theorem dX6_readInDrive_32 : decode cX6_readInDrive 32 = .ok (.getfield 177, 3) := by decide +kernel
theorem dX6_readInDrive_35 : decode cX6_readInDrive 35 = .ok (.aload_n 0, 1) := by decide +kernel
theorem dX6_readInDrive_36 : decode cX6_readInDrive 36 = .ok (.getfield 40, 3) := by decide +kernel
theorem dX6_readInDrive_39 : decode cX6_readInDrive 39 = .ok (.invokevirtual 183, 3) := by decide +kernel
theorem dX6_readInDrive_42 : decode cX6_readInDrive 42 = .ok (.iconst 1, 1) := by decide +kernel
theorem dX6_readInDrive_43 : decode cX6_readInDrive 43 = .ok (.ireturn, 1) := by decide +kernel
theorem dX6_readInDrive_44 : decode cX6_readInDrive 44 = .ok (.aload_n 0, 1) := by decide +kernel
theorem dX6_readInDrive_45 : decode cX6_readInDrive 45 = .ok (.getfield 28, 3) := by decide +kernel
theorem dX6_readInDrive_48 : decode cX6_readInDrive 48 = .ok (.iconst 2, 1) := by decide +kernel
theorem dX6_readInDrive_49 : decode cX6_readInDrive 49 = .ok (.aload_n 0, 1) := by decide +kernel
theorem dX6_readInDrive_50 : decode cX6_readInDrive 50 = .ok (.getfield 50, 3) := by decide +kernel
theorem dX6_readInDrive_53 : decode cX6_readInDrive 53 = .ok (.aload_n 1, 1) := by decide +kernel
theorem dX6_readInDrive_54 : decode cX6_readInDrive 54 = .ok (.getfield 177, 3) := by decide +kernel
theorem dX6_readInDrive_57 : decode cX6_readInDrive 57 = .ok (.aload_n 0, 1) := by decide +kernel
theorem dX6_readInDrive_58 : decode cX6_readInDrive 58 = .ok (.getfield 40, 3) := by decide +kernel
theorem dX6_readInDrive_61 : decode cX6_readInDrive 61 = .ok (.invokevirtual 183, 3) := by decide +kernel
theorem dX6_readInDrive_64 : decode cX6_readInDrive 64 = .ok (.aload_n 1, 1) := by decide +kernel
theorem dX6_readInDrive_65 : decode cX6_readInDrive 65 = .ok (.dup, 1) := by decide +kernel
theorem dX6_readInDrive_66 : decode cX6_readInDrive 66 = .ok (.getfield 243, 3) := by decide +kernel
theorem dX6_readInDrive_69 : decode cX6_readInDrive 69 = .ok (.iconst 1, 1) := by decide +kernel
theorem dX6_readInDrive_70 : decode cX6_readInDrive 70 = .ok (.iadd, 1) := by decide +kernel
theorem dX6_readInDrive_71 : decode cX6_readInDrive 71 = .ok (.putfield 243, 3) := by decide +kernel
theorem dX6_readInDrive_74 : decode cX6_readInDrive 74 = .ok (.aload_n 1, 1) := by decide +kernel
theorem dX6_readInDrive_75 : decode cX6_readInDrive 75 = .ok (.getfield 243, 3) := by decide +kernel
theorem dX6_readInDrive_78 : decode cX6_readInDrive 78 = .ok (.iconst 3, 1) := by decide +kernel
theorem dX6_readInDrive_79 : decode cX6_readInDrive 79 = .ok (.if_icmp .ge 5, 3) := by decide +kernel
theorem dX6_readInDrive_82 : decode cX6_readInDrive 82 = .ok (.iconst 0, 1) := by decide +kernel
theorem dX6_readInDrive_83 : decode cX6_readInDrive 83 = .ok (.ireturn, 1) := by decide +kernel
theorem dX6_readInDrive_84 : decode cX6_readInDrive 84 = .ok (.aload_n 1, 1) := by decide +kernel
theorem dX6_readInDrive_85 : decode cX6_readInDrive 85 = .ok (.iconst 2, 1) := by decide +kernel
theorem dX6_readInDrive_86 : decode cX6_readInDrive 86 = .ok (.putfield 237, 3) := by decide +kernel
theorem dX6_readInDrive_89 : decode cX6_readInDrive 89 = .ok (.iconst 1, 1) := by decide +kernel
theorem dX6_readInDrive_90 : decode cX6_readInDrive 90 = .ok (.ireturn, 1) := by decide +kernel
theorem dX6_cleanDrive_0 : decode cX6_cleanDrive 0 = .ok (.aload_n 3, 1) := by decide +kernel
theorem dX6_cleanDrive_1 : decode cX6_cleanDrive 1 = .ok (.aload_n 2, 1) := by decide +kernel
theorem dX6_cleanDrive_2 : decode cX6_cleanDrive 2 = .ok (.invokevirtual 246, 3) := by decide +kernel
theorem dX6_cleanDrive_5 : decode cX6_cleanDrive 5 = .ok (.aload_n 0, 1) := by decide +kernel
theorem dX6_cleanDrive_6 : decode cX6_cleanDrive 6 = .ok (.getfield 28, 3) := by decide +kernel
theorem dX6_cleanDrive_9 : decode cX6_cleanDrive 9 = .ok (.iconst 3, 1) := by decide +kernel
theorem dX6_cleanDrive_10 : decode cX6_cleanDrive 10 = .ok (.aload_n 0, 1) := by decide +kernel
theorem dX6_cleanDrive_11 : decode cX6_cleanDrive 11 = .ok (.getfield 50, 3) := by decide +kernel
theorem dX6_cleanDrive_14 : decode cX6_cleanDrive 14 = .ok (.aload_n 1, 1) := by decide +kernel
theorem dX6_cleanDrive_15 : decode cX6_cleanDrive 15 = .ok (.getfield 177, 3) := by decide +kernel
theorem dX6_cleanDrive_18 : decode cX6_cleanDrive 18 = .ok (.aload_n 0, 1) := by decide +kernel
theorem dX6_cleanDrive_19 : decode cX6_cleanDrive 19 = .ok (.getfield 40, 3) := by decide +kernel
theorem dX6_cleanDrive_22 : decode cX6_cleanDrive 22 = .ok (.invokevirtual 183, 3) := by decide +kernel
theorem dX6_cleanDrive_25 : decode cX6_cleanDrive 25 = .ok (.iconst 1, 1) := by decide +kernel
theorem dX6_cleanDrive_26 : decode cX6_cleanDrive 26 = .ok (.ireturn, 1) := by decide +kernel
theorem dX6_goOn_0 : decode cX6_goOn 0 = .ok (.aload_n 1, 1) := by decide +kernel
theorem dX6_goOn_1 : decode cX6_goOn 1 = .ok (.dup, 1) := by decide +kernel
theorem dX6_goOn_2 : decode cX6_goOn 2 = .ok (.getfield 198, 3) := by decide +kernel
theorem dX6_goOn_5 : decode cX6_goOn 5 = .ok (.iconst 1, 1) := by decide +kernel
theorem dX6_goOn_6 : decode cX6_goOn 6 = .ok (.iadd, 1) := by decide +kernel
theorem dX6_goOn_7 : decode cX6_goOn 7 = .ok (.putfield 198, 3) := by decide +kernel
theorem dX6_goOn_10 : decode cX6_goOn 10 = .ok (.aload_n 1, 1) := by decide +kernel
theorem dX6_goOn_11 : decode cX6_goOn 11 = .ok (.getfield 198, 3) := by decide +kernel
theorem dX6_goOn_14 : decode cX6_goOn 14 = .ok (.aload_n 1, 1) := by decide +kernel
theorem dX6_goOn_15 : decode cX6_goOn 15 = .ok (.invokevirtual 250, 3) := by decide +kernel
theorem dX6_goOn_18 : decode cX6_goOn 18 = .ok (.if_icmp .ge 5, 3) := by decide +kernel
theorem dX6_goOn_21 : decode cX6_goOn 21 = .ok (.iconst 0, 1) := by decide +kernel
theorem dX6_goOn_22 : decode cX6_goOn 22 = .ok (.ireturn, 1) := by decide +kernel
theorem dX6_goOn_23 : decode cX6_goOn 23 = .ok (.aload_n 1, 1) := by decide +kernel
theorem dX6_goOn_24 : decode cX6_goOn 24 = .ok (.getfield 237, 3) := by decide +kernel
theorem dX6_goOn_27 : decode cX6_goOn 27 = .ok (.bipush (-5), 2) := by decide +kernel
theorem dX6_goOn_29 : decode cX6_goOn 29 = .ok (.if_icmp .eq 7, 3) := by decide +kernel
theorem dX6_goOn_32 : decode cX6_goOn 32 = .ok (.iconst 1, 1) := by decide +kernel
theorem dX6_goOn_33 : decode cX6_goOn 33 = .ok (.goto 4, 3) := by decide +kernel
theorem dX6_goOn_36 : decode cX6_goOn 36 = .ok (.iconst 0, 1) := by decide +kernel
theorem dX6_goOn_37 : decode cX6_goOn 37 = .ok (.istore_n 2, 1) := by decide +kernel
theorem dX6_goOn_38 : decode cX6_goOn 38 = .ok (.aload_n 1, 1) := by decide +kernel
theorem dX6_goOn_39 : decode cX6_goOn 39 = .ok (.iload_n 2, 1) := by decide +kernel
theorem dX6_goOn_40 : decode cX6_goOn 40 = .ok (.ifCond .eq 7, 3) := by decide +kernel
theorem dX6_goOn_43 : decode cX6_goOn 43 = .ok (.iconst 3, 1) := by decide +kernel
theorem dX6_goOn_44 : decode cX6_goOn 44 = .ok (.goto 4, 3) := by decide +kernel
theorem dX6_goOn_47 : decode cX6_goOn 47 = .ok (.iconst 2, 1) := by decide +kernel
theorem dX6_goOn_48 : decode cX6_goOn 48 = .ok (.putfield 113, 3) := by decide +kernel
theorem dX6_goOn_51 : decode cX6_goOn 51 = .ok (.aload_n 1, 1) := by decide +kernel
theorem dX6_goOn_52 : decode cX6_goOn 52 = .ok (.aload_n 0, 1) := by decide +kernel
theorem dX6_goOn_53 : decode cX6_goOn 53 = .ok (.getfield 40, 3) := by decide +kernel
theorem dX6_goOn_56 : decode cX6_goOn 56 = .ok (.putfield 253, 3) := by decide +kernel
theorem dX6_goOn_59 : decode cX6_goOn 59 = .ok (.aload_n 0, 1) := by decide +kernel
theorem dX6_goOn_60 : decode cX6_goOn 60 = .ok (.getfield 28, 3) := by decide +kernel
theorem dX6_goOn_63 : decode cX6_goOn 63 = .ok (.iload_n 2, 1) := by decide +kernel
theorem dX6_goOn_64 : decode cX6_goOn 64 = .ok (.ifCond .eq 8, 3) := by decide +kernel
theorem dX6_goOn_67 : decode cX6_goOn 67 = .ok (.bipush 6, 2) := by decide +kernel
theorem dX6_goOn_69 : decode cX6_goOn 69 = .ok (.goto 4, 3) := by decide +kernel
theorem dX6_goOn_72 : decode cX6_goOn 72 = .ok (.iconst 5, 1) := by decide +kernel
theorem dX6_goOn_73 : decode cX6_goOn 73 = .ok (.aload_n 0, 1) := by decide +kernel
theorem dX6_goOn_74 : decode cX6_goOn 74 = .ok (.getfield 50, 3) := by decide +kernel
theorem dX6_goOn_77 : decode cX6_goOn 77 = .ok (.bipush (-5), 2) := by decide +kernel
theorem dX6_goOn_79 : decode cX6_goOn 79 = .ok (.aload_n 0, 1) := by decide +kernel
theorem dX6_goOn_80 : decode cX6_goOn 80 = .ok (.getfield 40, 3) := by decide +kernel
theorem dX6_goOn_83 : decode cX6_goOn 83 = .ok (.invokevirtual 183, 3) := by decide +kernel
theorem dX6_goOn_86 : decode cX6_goOn 86 = .ok (.aload_n 0, 1) := by decide +kernel
theorem dX6_goOn_87 : decode cX6_goOn 87 = .ok (.bipush (-5), 2) := by decide +kernel
theorem dX6_goOn_89 : decode cX6_goOn 89 = .ok (.putfield 50, 3) := by decide +kernel
theorem dX6_goOn_92 : decode cX6_goOn 92 = .ok (.iload_n 2, 1) := by decide +kernel
theorem dX6_goOn_93 : decode cX6_goOn 93 = .ok (.ifCond .eq 7, 3) := by decide +kernel
theorem dX6_goOn_96 : decode cX6_goOn 96 = .ok (.iconst 0, 1) := by decide +kernel
theorem dX6_goOn_97 : decode cX6_goOn 97 = .ok (.goto 4, 3) := by decide +kernel
theorem dX6_goOn_100 : decode cX6_goOn 100 = .ok (.iconst 1, 1) := by decide +kernel
theorem dX6_goOn_101 : decode cX6_goOn 101 = .ok (.ireturn, 1) := by decide +kernel
theorem dX7_init_0 : decode cX7_init 0 = .ok (.aload_n 0, 1) := by decide +kernel
theorem dX7_init_1 : decode cX7_init 1 = .ok (.invokespecial 3, 3) := by decide +kernel
theorem dX7_init_4 : decode cX7_init 4 = .ok (.aload_n 0, 1) := by decide +kernel
theorem dX7_init_5 : decode cX7_init 5 = .ok (.bipush 18, 2) := by decide +kernel
theorem dX7_init_7 : decode cX7_init 7 = .ok (.anewarray 9, 3) := by decide +kernel
theorem dX7_init_10 : decode cX7_init 10 = .ok (.putfield 11, 3) := by decide +kernel
theorem dX7_init_13 : decode cX7_init 13 = .ok (.iconst 0, 1) := by decide +kernel
theorem dX7_init_14 : decode cX7_init 14 = .ok (.istore_n 1, 1) := by decide +kernel
theorem dX7_init_15 : decode cX7_init 15 = .ok (.iload_n 1, 1) := by decide +kernel
theorem dX7_init_16 : decode cX7_init 16 = .ok (.aload_n 0, 1) := by decide +kernel
theorem dX7_init_17 : decode cX7_init 17 = .ok (.getfield 11, 3) := by decide +kernel
theorem dX7_init_20 : decode cX7_init 20 = .ok (.arraylength, 1) := by decide +kernel
theorem dX7_init_21 : decode cX7_init 21 = .ok (.if_icmp .ge 22, 3) := by decide +kernel
theorem dX7_init_24 : decode cX7_init 24 = .ok (.aload_n 0, 1) := by decide +kernel
theorem dX7_init_25 : decode cX7_init 25 = .ok (.getfield 11, 3) := by decide +kernel
theorem dX7_init_28 : decode cX7_init 28 = .ok (.iload_n 1, 1) := by decide +kernel
theorem dX7_init_29 : decode cX7_init 29 = .ok (.new 9, 3) := by decide +kernel
theorem dX7_init_32 : decode cX7_init 32 = .ok (.dup, 1) := by decide +kernel
theorem dX7_init_33 : decode cX7_init 33 = .ok (.invokespecial 17, 3) := by decide +kernel
theorem dX7_init_36 : decode cX7_init 36 = .ok (.aastore, 1) := by decide +kernel
theorem dX7_init_37 : decode cX7_init 37 = .ok (.iinc 1 1, 3) := by decide +kernel
theorem dX7_init_40 : decode cX7_init 40 = .ok (.goto (-25), 3) := by decide +kernel
theorem dX7_init_43 : decode cX7_init 43 = .ok (.aload_n 0, 1) := by decide +kernel
theorem dX7_init_44 : decode cX7_init 44 = .ok (.iconst 0, 1) := by decide +kernel
theorem dX7_init_45 : decode cX7_init 45 = .ok (.putfield 18, 3) := by decide +kernel
theorem dX7_init_48 : decode cX7_init 48 = .ok (.aload_n 0, 1) := by decide +kernel
theorem dX7_init_49 : decode cX7_init 49 = .ok (.iconst 4, 1) := by decide +kernel
theorem dX7_init_50 : decode cX7_init 50 = .ok (.anewarray 22, 3) := by decide +kernel
theorem dX7_init_53 : decode cX7_init 53 = .ok (.putfield 24, 3) := by decide +kernel
theorem dX7_init_56 : decode cX7_init 56 = .ok (.iconst 0, 1) := by decide +kernel
theorem dX7_init_57 : decode cX7_init 57 = .ok (.istore_n 1, 1) := by decide +kernel
theorem dX7_init_58 : decode cX7_init 58 = .ok (.iload_n 1, 1) := by decide +kernel
theorem dX7_init_59 : decode cX7_init 59 = .ok (.aload_n 0, 1) := by decide +kernel
theorem dX7_init_60 : decode cX7_init 60 = .ok (.getfield 24, 3) := by decide +kernel
theorem dX7_init_63 : decode cX7_init 63 = .ok (.arraylength, 1) := by decide +kernel
theorem dX7_init_64 : decode cX7_init 64 = .ok (.if_icmp .ge 22, 3) := by decide +kernel
theorem dX7_init_67 : decode cX7_init 67 = .ok (.aload_n 0, 1) := by decide +kernel
theorem dX7_init_68 : decode cX7_init 68 = .ok (.getfield 24, 3) := by decide +kernel
theorem dX7_init_71 : decode cX7_init 71 = .ok (.iload_n 1, 1) := by decide +kernel
theorem dX7_init_72 : decode cX7_init 72 = .ok (.new 22, 3) := by decide +kernel
theorem dX7_init_75 : decode cX7_init 75 = .ok (.dup, 1) := by decide +kernel
theorem dX7_init_76 : decode cX7_init 76 = .ok (.invokespecial 28, 3) := by decide +kernel
theorem dX7_init_79 : decode cX7_init 79 = .ok (.aastore, 1) := by decide +kernel
theorem dX7_init_80 : decode cX7_init 80 = .ok (.iinc 1 1, 3) := by decide +kernel
theorem dX7_init_83 : decode cX7_init 83 = .ok (.goto (-25), 3) := by decide +kernel
theorem dX7_init_86 : decode cX7_init 86 = .ok (.aload_n 0, 1) := by decide +kernel
theorem dX7_init_87 : decode cX7_init 87 = .ok (.iconst 0, 1) := by decide +kernel
theorem dX7_init_88 : decode cX7_init 88 = .ok (.putfield 29, 3) := by decide +kernel
theorem dX7_init_91 : decode cX7_init 91 = .ok (.return_, 1) := by decide +kernel
theorem dX7_copyFrom_0 : decode cX7_copyFrom 0 = .ok (.aload_n 0, 1) := by decide +kernel
theorem dX7_copyFrom_1 : decode cX7_copyFrom 1 = .ok (.aload_n 1, 1) := by decide +kernel
theorem dX7_copyFrom_2 : decode cX7_copyFrom 2 = .ok (.getfield 18, 3) := by decide +kernel
theorem dX7_copyFrom_5 : decode cX7_copyFrom 5 = .ok (.putfield 18, 3) := by decide +kernel
theorem dX7_copyFrom_8 : decode cX7_copyFrom 8 = .ok (.iconst 0, 1) := by decide +kernel
theorem dX7_copyFrom_9 : decode cX7_copyFrom 9 = .ok (.istore_n 2, 1) := by decide +kernel
theorem dX7_copyFrom_10 : decode cX7_copyFrom 10 = .ok (.iload_n 2, 1) := by decide +kernel
theorem dX7_copyFrom_11 : decode cX7_copyFrom 11 = .ok (.aload_n 0, 1) := by decide +kernel
theorem dX7_copyFrom_12 : decode cX7_copyFrom 12 = .ok (.getfield 18, 3) := by decide +kernel
theorem dX7_copyFrom_15 : decode cX7_copyFrom 15 = .ok (.if_icmp .ge 24, 3) := by decide +kernel
theorem dX7_copyFrom_18 : decode cX7_copyFrom 18 = .ok (.aload_n 0, 1) := by decide +kernel
theorem dX7_copyFrom_19 : decode cX7_copyFrom 19 = .ok (.getfield 11, 3) := by decide +kernel
theorem dX7_copyFrom_22 : decode cX7_copyFrom 22 = .ok (.iload_n 2, 1) := by decide +kernel
theorem dX7_copyFrom_23 : decode cX7_copyFrom 23 = .ok (.aaload, 1) := by decide +kernel
theorem dX7_copyFrom_24 : decode cX7_copyFrom 24 = .ok (.aload_n 1, 1) := by decide +kernel
theorem dX7_copyFrom_25 : decode cX7_copyFrom 25 = .ok (.getfield 11, 3) := by decide +kernel
theorem dX7_copyFrom_28 : decode cX7_copyFrom 28 = .ok (.iload_n 2, 1) := by decide +kernel
theorem dX7_copyFrom_29 : decode cX7_copyFrom 29 = .ok (.aaload, 1) := by decide +kernel
theorem dX7_copyFrom_30 : decode cX7_copyFrom 30 = .ok (.invokevirtual 32, 3) := by decide +kernel
theorem dX7_copyFrom_33 : decode cX7_copyFrom 33 = .ok (.iinc 2 1, 3) := by decide +kernel
theorem dX7_copyFrom_36 : decode cX7_copyFrom 36 = .ok (.goto (-26), 3) := by decide +kernel
theorem dX7_copyFrom_39 : decode cX7_copyFrom 39 = .ok (.aload_n 0, 1) := by decide +kernel
theorem dX7_copyFrom_40 : decode cX7_copyFrom 40 = .ok (.aload_n 1, 1) := by decide +kernel
theorem dX7_copyFrom_41 : decode cX7_copyFrom 41 = .ok (.getfield 29, 3) := by decide +kernel
theorem dX7_copyFrom_44 : decode cX7_copyFrom 44 = .ok (.putfield 29, 3) := by decide +kernel
theorem dX7_copyFrom_47 : decode cX7_copyFrom 47 = .ok (.iconst 0, 1) := by decide +kernel
theorem dX7_copyFrom_48 : decode cX7_copyFrom 48 = .ok (.istore_n 2, 1) := by decide +kernel
theorem dX7_copyFrom_49 : decode cX7_copyFrom 49 = .ok (.iload_n 2, 1) := by decide +kernel
theorem dX7_copyFrom_50 : decode cX7_copyFrom 50 = .ok (.aload_n 0, 1) := by decide +kernel
theorem dX7_copyFrom_51 : decode cX7_copyFrom 51 = .ok (.getfield 29, 3) := by decide +kernel
theorem dX7_copyFrom_54 : decode cX7_copyFrom 54 = .ok (.if_icmp .ge 24, 3) := by decide +kernel
theorem dX7_copyFrom_57 : decode cX7_copyFrom 57 = .ok (.aload_n 0, 1) := by decide +kernel
theorem dX7_copyFrom_58 : decode cX7_copyFrom 58 = .ok (.getfield 24, 3) := by decide +kernel
theorem dX7_copyFrom_61 : decode cX7_copyFrom 61 = .ok (.iload_n 2, 1) := by decide +kernel
theorem dX7_copyFrom_62 : decode cX7_copyFrom 62 = .ok (.aaload, 1) := by decide +kernel
theorem dX7_copyFrom_63 : decode cX7_copyFrom 63 = .ok (.aload_n 1, 1) := by decide +kernel
theorem dX7_copyFrom_64 : decode cX7_copyFrom 64 = .ok (.getfield 24, 3) := by decide +kernel
theorem dX7_copyFrom_67 : decode cX7_copyFrom 67 = .ok (.iload_n 2, 1) := by decide +kernel
theorem dX7_copyFrom_68 : decode cX7_copyFrom 68 = .ok (.aaload, 1) := by decide +kernel
theorem dX7_copyFrom_69 : decode cX7_copyFrom 69 = .ok (.invokevirtual 36, 3) := by decide +kernel
theorem dX7_copyFrom_72 : decode cX7_copyFrom 72 = .ok (.iinc 2 1, 3) := by decide +kernel
theorem dX7_copyFrom_75 : decode cX7_copyFrom 75 = .ok (.goto (-26), 3) := by decide +kernel
theorem dX7_copyFrom_78 : decode cX7_copyFrom 78 = .ok (.return_, 1) := by decide +kernel
theorem dX7_hasSlot_0 : decode cX7_hasSlot 0 = .ok (.iload_n 0, 1) := by decide +kernel
theorem dX7_hasSlot_1 : decode cX7_hasSlot 1 = .ok (.ifCond .lt 13, 3) := by decide +kernel
theorem dX7_hasSlot_4 : decode cX7_hasSlot 4 = .ok (.iload_n 0, 1) := by decide +kernel
theorem dX7_hasSlot_5 : decode cX7_hasSlot 5 = .ok (.bipush 24, 2) := by decide +kernel
theorem dX7_hasSlot_7 : decode cX7_hasSlot 7 = .ok (.if_icmp .ge 7, 3) := by decide +kernel
theorem dX7_hasSlot_10 : decode cX7_hasSlot 10 = .ok (.iconst 1, 1) := by decide +kernel
theorem dX7_hasSlot_11 : decode cX7_hasSlot 11 = .ok (.goto 4, 3) := by decide +kernel
theorem dX7_hasSlot_14 : decode cX7_hasSlot 14 = .ok (.iconst 0, 1) := by decide +kernel
theorem dX7_hasSlot_15 : decode cX7_hasSlot 15 = .ok (.ireturn, 1) := by decide +kernel
theorem dX7_itemAt_0 : decode cX7_itemAt 0 = .ok (.iload_n 1, 1) := by decide +kernel
theorem dX7_itemAt_1 : decode cX7_itemAt 1 = .ok (.ifCond .lt 20, 3) := by decide +kernel
theorem dX7_itemAt_4 : decode cX7_itemAt 4 = .ok (.iload_n 1, 1) := by decide +kernel
theorem dX7_itemAt_5 : decode cX7_itemAt 5 = .ok (.aload_n 0, 1) := by decide +kernel
theorem dX7_itemAt_6 : decode cX7_itemAt 6 = .ok (.getfield 18, 3) := by decide +kernel
theorem dX7_itemAt_9 : decode cX7_itemAt 9 = .ok (.if_icmp .ge 12, 3) := by decide +kernel
theorem dX7_itemAt_12 : decode cX7_itemAt 12 = .ok (.aload_n 0, 1) := by decide +kernel
theorem dX7_itemAt_13 : decode cX7_itemAt 13 = .ok (.getfield 11, 3) := by decide +kernel
theorem dX7_itemAt_16 : decode cX7_itemAt 16 = .ok (.iload_n 1, 1) := by decide +kernel
theorem dX7_itemAt_17 : decode cX7_itemAt 17 = .ok (.aaload, 1) := by decide +kernel
theorem dX7_itemAt_18 : decode cX7_itemAt 18 = .ok (.goto 4, 3) := by decide +kernel
theorem dX7_itemAt_21 : decode cX7_itemAt 21 = .ok (.aconst_null, 1) := by decide +kernel
theorem dX7_itemAt_22 : decode cX7_itemAt 22 = .ok (.areturn, 1) := by decide +kernel
theorem dX7_driveAt_0 : decode cX7_driveAt 0 = .ok (.iload_n 1, 1) := by decide +kernel
theorem dX7_driveAt_1 : decode cX7_driveAt 1 = .ok (.ifCond .lt 20, 3) := by decide +kernel
theorem dX7_driveAt_4 : decode cX7_driveAt 4 = .ok (.iload_n 1, 1) := by decide +kernel
theorem dX7_driveAt_5 : decode cX7_driveAt 5 = .ok (.aload_n 0, 1) := by decide +kernel
theorem dX7_driveAt_6 : decode cX7_driveAt 6 = .ok (.getfield 29, 3) := by decide +kernel
theorem dX7_driveAt_9 : decode cX7_driveAt 9 = .ok (.if_icmp .ge 12, 3) := by decide +kernel
theorem dX7_driveAt_12 : decode cX7_driveAt 12 = .ok (.aload_n 0, 1) := by decide +kernel
theorem dX7_driveAt_13 : decode cX7_driveAt 13 = .ok (.getfield 24, 3) := by decide +kernel
theorem dX7_driveAt_16 : decode cX7_driveAt 16 = .ok (.iload_n 1, 1) := by decide +kernel
theorem dX7_driveAt_17 : decode cX7_driveAt 17 = .ok (.aaload, 1) := by decide +kernel
theorem dX7_driveAt_18 : decode cX7_driveAt 18 = .ok (.goto 4, 3) := by decide +kernel
theorem dX7_driveAt_21 : decode cX7_driveAt 21 = .ok (.aconst_null, 1) := by decide +kernel
theorem dX7_driveAt_22 : decode cX7_driveAt 22 = .ok (.areturn, 1) := by decide +kernel
theorem dX7_freeItem_0 : decode cX7_freeItem 0 = .ok (.aload_n 0, 1) := by decide +kernel
theorem dX7_freeItem_1 : decode cX7_freeItem 1 = .ok (.getfield 18, 3) := by decide +kernel
theorem dX7_freeItem_4 : decode cX7_freeItem 4 = .ok (.aload_n 0, 1) := by decide +kernel
theorem dX7_freeItem_5 : decode cX7_freeItem 5 = .ok (.getfield 11, 3) := by decide +kernel
theorem dX7_freeItem_8 : decode cX7_freeItem 8 = .ok (.arraylength, 1) := by decide +kernel
theorem dX7_freeItem_9 : decode cX7_freeItem 9 = .ok (.if_icmp .ge 15, 3) := by decide +kernel
theorem dX7_freeItem_12 : decode cX7_freeItem 12 = .ok (.aload_n 0, 1) := by decide +kernel
theorem dX7_freeItem_13 : decode cX7_freeItem 13 = .ok (.getfield 11, 3) := by decide +kernel
theorem dX7_freeItem_16 : decode cX7_freeItem 16 = .ok (.aload_n 0, 1) := by decide +kernel
theorem dX7_freeItem_17 : decode cX7_freeItem 17 = .ok (.getfield 18, 3) := by decide +kernel
theorem dX7_freeItem_20 : decode cX7_freeItem 20 = .ok (.aaload, 1) := by decide +kernel
theorem dX7_freeItem_21 : decode cX7_freeItem 21 = .ok (.goto 4, 3) := by decide +kernel
theorem dX7_freeItem_24 : decode cX7_freeItem 24 = .ok (.aconst_null, 1) := by decide +kernel
theorem dX7_freeItem_25 : decode cX7_freeItem 25 = .ok (.areturn, 1) := by decide +kernel
theorem dX7_freeDrive_0 : decode cX7_freeDrive 0 = .ok (.aload_n 0, 1) := by decide +kernel
theorem dX7_freeDrive_1 : decode cX7_freeDrive 1 = .ok (.getfield 29, 3) := by decide +kernel
theorem dX7_freeDrive_4 : decode cX7_freeDrive 4 = .ok (.aload_n 0, 1) := by decide +kernel
theorem dX7_freeDrive_5 : decode cX7_freeDrive 5 = .ok (.getfield 24, 3) := by decide +kernel
theorem dX7_freeDrive_8 : decode cX7_freeDrive 8 = .ok (.arraylength, 1) := by decide +kernel
theorem dX7_freeDrive_9 : decode cX7_freeDrive 9 = .ok (.if_icmp .ge 15, 3) := by decide +kernel
theorem dX7_freeDrive_12 : decode cX7_freeDrive 12 = .ok (.aload_n 0, 1) := by decide +kernel
theorem dX7_freeDrive_13 : decode cX7_freeDrive 13 = .ok (.getfield 24, 3) := by decide +kernel
theorem dX7_freeDrive_16 : decode cX7_freeDrive 16 = .ok (.aload_n 0, 1) := by decide +kernel
theorem dX7_freeDrive_17 : decode cX7_freeDrive 17 = .ok (.getfield 29, 3) := by decide +kernel
theorem dX7_freeDrive_20 : decode cX7_freeDrive 20 = .ok (.aaload, 1) := by decide +kernel
theorem dX7_freeDrive_21 : decode cX7_freeDrive 21 = .ok (.goto 4, 3) := by decide +kernel
theorem dX7_freeDrive_24 : decode cX7_freeDrive 24 = .ok (.aconst_null, 1) := by decide +kernel
theorem dX7_freeDrive_25 : decode cX7_freeDrive 25 = .ok (.areturn, 1) := by decide +kernel
theorem dX7_itemWithHome_0 : decode cX7_itemWithHome 0 = .ok (.iconst 0, 1) := by decide +kernel
theorem dX7_itemWithHome_1 : decode cX7_itemWithHome 1 = .ok (.istore_n 2, 1) := by decide +kernel
theorem dX7_itemWithHome_2 : decode cX7_itemWithHome 2 = .ok (.iload_n 2, 1) := by decide +kernel
theorem dX7_itemWithHome_3 : decode cX7_itemWithHome 3 = .ok (.aload_n 0, 1) := by decide +kernel
theorem dX7_itemWithHome_4 : decode cX7_itemWithHome 4 = .ok (.getfield 18, 3) := by decide +kernel
theorem dX7_itemWithHome_7 : decode cX7_itemWithHome 7 = .ok (.if_icmp .ge 24, 3) := by decide +kernel
theorem dX7_itemWithHome_10 : decode cX7_itemWithHome 10 = .ok (.aload_n 0, 1) := by decide +kernel
theorem dX7_itemWithHome_11 : decode cX7_itemWithHome 11 = .ok (.getfield 11, 3) := by decide +kernel
theorem dX7_itemWithHome_14 : decode cX7_itemWithHome 14 = .ok (.iload_n 2, 1) := by decide +kernel
theorem dX7_itemWithHome_15 : decode cX7_itemWithHome 15 = .ok (.aaload, 1) := by decide +kernel
theorem dX7_itemWithHome_16 : decode cX7_itemWithHome 16 = .ok (.getfield 39, 3) := by decide +kernel
theorem dX7_itemWithHome_19 : decode cX7_itemWithHome 19 = .ok (.iload_n 1, 1) := by decide +kernel
theorem dX7_itemWithHome_20 : decode cX7_itemWithHome 20 = .ok (.if_icmp .ne 5, 3) := by decide +kernel
theorem dX7_itemWithHome_23 : decode cX7_itemWithHome 23 = .ok (.iload_n 2, 1) := by decide +kernel
theorem dX7_itemWithHome_24 : decode cX7_itemWithHome 24 = .ok (.ireturn, 1) := by decide +kernel
theorem dX7_itemWithHome_25 : decode cX7_itemWithHome 25 = .ok (.iinc 2 1, 3) := by decide +kernel
theorem dX7_itemWithHome_28 : decode cX7_itemWithHome 28 = .ok (.goto (-26), 3) := by decide +kernel
theorem dX7_itemWithHome_31 : decode cX7_itemWithHome 31 = .ok (.bipush (-5), 2) := by decide +kernel
theorem dX7_itemWithHome_33 : decode cX7_itemWithHome 33 = .ok (.ireturn, 1) := by decide +kernel
theorem dX7_driveBeside_0 : decode cX7_driveBeside 0 = .ok (.iconst 0, 1) := by decide +kernel
theorem dX7_driveBeside_1 : decode cX7_driveBeside 1 = .ok (.istore_n 2, 1) := by decide +kernel
theorem dX7_driveBeside_2 : decode cX7_driveBeside 2 = .ok (.iload_n 2, 1) := by decide +kernel
theorem dX7_driveBeside_3 : decode cX7_driveBeside 3 = .ok (.aload_n 0, 1) := by decide +kernel
theorem dX7_driveBeside_4 : decode cX7_driveBeside 4 = .ok (.getfield 29, 3) := by decide +kernel
theorem dX7_driveBeside_7 : decode cX7_driveBeside 7 = .ok (.if_icmp .ge 24, 3) := by decide +kernel
theorem dX7_driveBeside_10 : decode cX7_driveBeside 10 = .ok (.aload_n 0, 1) := by decide +kernel
theorem dX7_driveBeside_11 : decode cX7_driveBeside 11 = .ok (.getfield 24, 3) := by decide +kernel
theorem dX7_driveBeside_14 : decode cX7_driveBeside 14 = .ok (.iload_n 2, 1) := by decide +kernel
theorem dX7_driveBeside_15 : decode cX7_driveBeside 15 = .ok (.aaload, 1) := by decide +kernel
theorem dX7_driveBeside_16 : decode cX7_driveBeside 16 = .ok (.getfield 42, 3) := by decide +kernel
theorem dX7_driveBeside_19 : decode cX7_driveBeside 19 = .ok (.iload_n 1, 1) := by decide +kernel
theorem dX7_driveBeside_20 : decode cX7_driveBeside 20 = .ok (.if_icmp .ne 5, 3) := by decide +kernel
theorem dX7_driveBeside_23 : decode cX7_driveBeside 23 = .ok (.iload_n 2, 1) := by decide +kernel
theorem dX7_driveBeside_24 : decode cX7_driveBeside 24 = .ok (.ireturn, 1) := by decide +kernel
theorem dX7_driveBeside_25 : decode cX7_driveBeside 25 = .ok (.iinc 2 1, 3) := by decide +kernel
theorem dX7_driveBeside_28 : decode cX7_driveBeside 28 = .ok (.goto (-26), 3) := by decide +kernel
theorem dX7_driveBeside_31 : decode cX7_driveBeside 31 = .ok (.bipush (-5), 2) := by decide +kernel
theorem dX7_driveBeside_33 : decode cX7_driveBeside 33 = .ok (.ireturn, 1) := by decide +kernel
theorem dX7_driveToRead_0 : decode cX7_driveToRead 0 = .ok (.bipush (-5), 2) := by decide +kernel
theorem dX7_driveToRead_2 : decode cX7_driveToRead 2 = .ok (.istore_n 1, 1) := by decide +kernel
theorem dX7_driveToRead_3 : decode cX7_driveToRead 3 = .ok (.fconst 0, 1) := by decide +kernel
theorem dX7_driveToRead_4 : decode cX7_driveToRead 4 = .ok (.fstore_n 2, 1) := by decide +kernel
theorem dX7_driveToRead_5 : decode cX7_driveToRead 5 = .ok (.iconst 0, 1) := by decide +kernel
theorem dX7_driveToRead_6 : decode cX7_driveToRead 6 = .ok (.istore_n 3, 1) := by decide +kernel
theorem dX7_driveToRead_7 : decode cX7_driveToRead 7 = .ok (.iload_n 3, 1) := by decide +kernel
theorem dX7_driveToRead_8 : decode cX7_driveToRead 8 = .ok (.aload_n 0, 1) := by decide +kernel
theorem dX7_driveToRead_9 : decode cX7_driveToRead 9 = .ok (.getfield 29, 3) := by decide +kernel
theorem dX7_driveToRead_12 : decode cX7_driveToRead 12 = .ok (.if_icmp .ge 49, 3) := by decide +kernel
theorem dX7_driveToRead_15 : decode cX7_driveToRead 15 = .ok (.aload_n 0, 1) := by decide +kernel
theorem dX7_driveToRead_16 : decode cX7_driveToRead 16 = .ok (.getfield 24, 3) := by decide +kernel
theorem dX7_driveToRead_19 : decode cX7_driveToRead 19 = .ok (.iload_n 3, 1) := by decide +kernel
theorem dX7_driveToRead_20 : decode cX7_driveToRead 20 = .ok (.aaload, 1) := by decide +kernel
theorem dX7_driveToRead_21 : decode cX7_driveToRead 21 = .ok (.astore 4, 2) := by decide +kernel
theorem dX7_driveToRead_23 : decode cX7_driveToRead 23 = .ok (.aload 4, 2) := by decide +kernel
theorem dX7_driveToRead_25 : decode cX7_driveToRead 25 = .ok (.invokevirtual 45, 3) := by decide +kernel
theorem dX7_driveToRead_28 : decode cX7_driveToRead 28 = .ok (.ifCond .ne 27, 3) := by decide +kernel
theorem dX7_driveToRead_31 : decode cX7_driveToRead 31 = .ok (.iload_n 1, 1) := by decide +kernel
theorem dX7_driveToRead_32 : decode cX7_driveToRead 32 = .ok (.bipush (-5), 2) := by decide +kernel
theorem dX7_driveToRead_34 : decode cX7_driveToRead 34 = .ok (.if_icmp .eq 13, 3) := by decide +kernel
theorem dX7_driveToRead_37 : decode cX7_driveToRead 37 = .ok (.aload 4, 2) := by decide +kernel
theorem dX7_driveToRead_39 : decode cX7_driveToRead 39 = .ok (.getfield 49, 3) := by decide +kernel
theorem dX7_driveToRead_42 : decode cX7_driveToRead 42 = .ok (.fload_n 2, 1) := by decide +kernel
theorem dX7_driveToRead_43 : decode cX7_driveToRead 43 = .ok (.fcmp .g, 1) := by decide +kernel
theorem dX7_driveToRead_44 : decode cX7_driveToRead 44 = .ok (.ifCond .ge 11, 3) := by decide +kernel
theorem dX7_driveToRead_47 : decode cX7_driveToRead 47 = .ok (.iload_n 3, 1) := by decide +kernel
theorem dX7_driveToRead_48 : decode cX7_driveToRead 48 = .ok (.istore_n 1, 1) := by decide +kernel
