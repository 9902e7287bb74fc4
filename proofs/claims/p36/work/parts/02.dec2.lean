theorem dX7_driveToRead_49 : decode cX7_driveToRead 49 = .ok (.aload 4, 2) := by decide +kernel
theorem dX7_driveToRead_51 : decode cX7_driveToRead 51 = .ok (.getfield 49, 3) := by decide +kernel
theorem dX7_driveToRead_54 : decode cX7_driveToRead 54 = .ok (.fstore_n 2, 1) := by decide +kernel
theorem dX7_driveToRead_55 : decode cX7_driveToRead 55 = .ok (.iinc 3 1, 3) := by decide +kernel
theorem dX7_driveToRead_58 : decode cX7_driveToRead 58 = .ok (.goto (-51), 3) := by decide +kernel
theorem dX7_driveToRead_61 : decode cX7_driveToRead 61 = .ok (.iload_n 1, 1) := by decide +kernel
theorem dX7_driveToRead_62 : decode cX7_driveToRead 62 = .ok (.ireturn, 1) := by decide +kernel
theorem dX7_cleanerNearest_0 : decode cX7_cleanerNearest 0 = .ok (.bipush (-5), 2) := by decide +kernel
theorem dX7_cleanerNearest_2 : decode cX7_cleanerNearest 2 = .ok (.istore_n 2, 1) := by decide +kernel
theorem dX7_cleanerNearest_3 : decode cX7_cleanerNearest 3 = .ok (.bipush 24, 2) := by decide +kernel
theorem dX7_cleanerNearest_5 : decode cX7_cleanerNearest 5 = .ok (.istore_n 3, 1) := by decide +kernel
theorem dX7_cleanerNearest_6 : decode cX7_cleanerNearest 6 = .ok (.iconst 0, 1) := by decide +kernel
theorem dX7_cleanerNearest_7 : decode cX7_cleanerNearest 7 = .ok (.istore 4, 2) := by decide +kernel
theorem dX7_cleanerNearest_9 : decode cX7_cleanerNearest 9 = .ok (.iload 4, 2) := by decide +kernel
theorem dX7_cleanerNearest_11 : decode cX7_cleanerNearest 11 = .ok (.aload_n 0, 1) := by decide +kernel
theorem dX7_cleanerNearest_12 : decode cX7_cleanerNearest 12 = .ok (.getfield 18, 3) := by decide +kernel
theorem dX7_cleanerNearest_15 : decode cX7_cleanerNearest 15 = .ok (.if_icmp .ge 58, 3) := by decide +kernel
theorem dX7_cleanerNearest_18 : decode cX7_cleanerNearest 18 = .ok (.aload_n 0, 1) := by decide +kernel
theorem dX7_cleanerNearest_19 : decode cX7_cleanerNearest 19 = .ok (.getfield 11, 3) := by decide +kernel
theorem dX7_cleanerNearest_22 : decode cX7_cleanerNearest 22 = .ok (.iload 4, 2) := by decide +kernel
theorem dX7_cleanerNearest_24 : decode cX7_cleanerNearest 24 = .ok (.aaload, 1) := by decide +kernel
theorem dX7_cleanerNearest_25 : decode cX7_cleanerNearest 25 = .ok (.astore 5, 2) := by decide +kernel
theorem dX7_cleanerNearest_27 : decode cX7_cleanerNearest 27 = .ok (.aload 5, 2) := by decide +kernel
theorem dX7_cleanerNearest_29 : decode cX7_cleanerNearest 29 = .ok (.getfield 39, 3) := by decide +kernel
theorem dX7_cleanerNearest_32 : decode cX7_cleanerNearest 32 = .ok (.iload_n 1, 1) := by decide +kernel
theorem dX7_cleanerNearest_33 : decode cX7_cleanerNearest 33 = .ok (.isub, 1) := by decide +kernel
theorem dX7_cleanerNearest_34 : decode cX7_cleanerNearest 34 = .ok (.invokestatic 53, 3) := by decide +kernel
theorem dX7_cleanerNearest_37 : decode cX7_cleanerNearest 37 = .ok (.istore 6, 2) := by decide +kernel
theorem dX7_cleanerNearest_39 : decode cX7_cleanerNearest 39 = .ok (.aload 5, 2) := by decide +kernel
theorem dX7_cleanerNearest_41 : decode cX7_cleanerNearest 41 = .ok (.getfield 59, 3) := by decide +kernel
theorem dX7_cleanerNearest_44 : decode cX7_cleanerNearest 44 = .ok (.ifCond .eq 23, 3) := by decide +kernel
theorem dX7_cleanerNearest_47 : decode cX7_cleanerNearest 47 = .ok (.aload 5, 2) := by decide +kernel
theorem dX7_cleanerNearest_49 : decode cX7_cleanerNearest 49 = .ok (.getfield 63, 3) := by decide +kernel
theorem dX7_cleanerNearest_52 : decode cX7_cleanerNearest 52 = .ok (.ifCond .le 15, 3) := by decide +kernel
theorem dX7_cleanerNearest_55 : decode cX7_cleanerNearest 55 = .ok (.iload 6, 2) := by decide +kernel
theorem dX7_cleanerNearest_57 : decode cX7_cleanerNearest 57 = .ok (.iload_n 3, 1) := by decide +kernel
theorem dX7_cleanerNearest_58 : decode cX7_cleanerNearest 58 = .ok (.if_icmp .ge 9, 3) := by decide +kernel
theorem dX7_cleanerNearest_61 : decode cX7_cleanerNearest 61 = .ok (.iload 4, 2) := by decide +kernel
theorem dX7_cleanerNearest_63 : decode cX7_cleanerNearest 63 = .ok (.istore_n 2, 1) := by decide +kernel
theorem dX7_cleanerNearest_64 : decode cX7_cleanerNearest 64 = .ok (.iload 6, 2) := by decide +kernel
theorem dX7_cleanerNearest_66 : decode cX7_cleanerNearest 66 = .ok (.istore_n 3, 1) := by decide +kernel
theorem dX7_cleanerNearest_67 : decode cX7_cleanerNearest 67 = .ok (.iinc 4 1, 3) := by decide +kernel
theorem dX7_cleanerNearest_70 : decode cX7_cleanerNearest 70 = .ok (.goto (-61), 3) := by decide +kernel
theorem dX7_cleanerNearest_73 : decode cX7_cleanerNearest 73 = .ok (.iload_n 2, 1) := by decide +kernel
theorem dX7_cleanerNearest_74 : decode cX7_cleanerNearest 74 = .ok (.ireturn, 1) := by decide +kernel
theorem dX7_dustOfAll_0 : decode cX7_dustOfAll 0 = .ok (.fconst 0, 1) := by decide +kernel
theorem dX7_dustOfAll_1 : decode cX7_dustOfAll 1 = .ok (.fstore_n 1, 1) := by decide +kernel
theorem dX7_dustOfAll_2 : decode cX7_dustOfAll 2 = .ok (.iconst 0, 1) := by decide +kernel
theorem dX7_dustOfAll_3 : decode cX7_dustOfAll 3 = .ok (.istore_n 2, 1) := by decide +kernel
theorem dX7_dustOfAll_4 : decode cX7_dustOfAll 4 = .ok (.iload_n 2, 1) := by decide +kernel
theorem dX7_dustOfAll_5 : decode cX7_dustOfAll 5 = .ok (.aload_n 0, 1) := by decide +kernel
theorem dX7_dustOfAll_6 : decode cX7_dustOfAll 6 = .ok (.getfield 29, 3) := by decide +kernel
theorem dX7_dustOfAll_9 : decode cX7_dustOfAll 9 = .ok (.if_icmp .ge 21, 3) := by decide +kernel
theorem dX7_dustOfAll_12 : decode cX7_dustOfAll 12 = .ok (.fload_n 1, 1) := by decide +kernel
theorem dX7_dustOfAll_13 : decode cX7_dustOfAll 13 = .ok (.aload_n 0, 1) := by decide +kernel
theorem dX7_dustOfAll_14 : decode cX7_dustOfAll 14 = .ok (.getfield 24, 3) := by decide +kernel
theorem dX7_dustOfAll_17 : decode cX7_dustOfAll 17 = .ok (.iload_n 2, 1) := by decide +kernel
theorem dX7_dustOfAll_18 : decode cX7_dustOfAll 18 = .ok (.aaload, 1) := by decide +kernel
theorem dX7_dustOfAll_19 : decode cX7_dustOfAll 19 = .ok (.getfield 49, 3) := by decide +kernel
theorem dX7_dustOfAll_22 : decode cX7_dustOfAll 22 = .ok (.fadd, 1) := by decide +kernel
theorem dX7_dustOfAll_23 : decode cX7_dustOfAll 23 = .ok (.fstore_n 1, 1) := by decide +kernel
theorem dX7_dustOfAll_24 : decode cX7_dustOfAll 24 = .ok (.iinc 2 1, 3) := by decide +kernel
theorem dX7_dustOfAll_27 : decode cX7_dustOfAll 27 = .ok (.goto (-23), 3) := by decide +kernel
theorem dX7_dustOfAll_30 : decode cX7_dustOfAll 30 = .ok (.fload_n 1, 1) := by decide +kernel
theorem dX7_dustOfAll_31 : decode cX7_dustOfAll 31 = .ok (.freturn, 1) := by decide +kernel
theorem dX7_sumOverDrives_0 : decode cX7_sumOverDrives 0 = .ok (.iconst 0, 1) := by decide +kernel
theorem dX7_sumOverDrives_1 : decode cX7_sumOverDrives 1 = .ok (.istore_n 2, 1) := by decide +kernel
theorem dX7_sumOverDrives_2 : decode cX7_sumOverDrives 2 = .ok (.iconst 0, 1) := by decide +kernel
theorem dX7_sumOverDrives_3 : decode cX7_sumOverDrives 3 = .ok (.istore_n 3, 1) := by decide +kernel
theorem dX7_sumOverDrives_4 : decode cX7_sumOverDrives 4 = .ok (.iload_n 3, 1) := by decide +kernel
theorem dX7_sumOverDrives_5 : decode cX7_sumOverDrives 5 = .ok (.aload_n 0, 1) := by decide +kernel
theorem dX7_sumOverDrives_6 : decode cX7_sumOverDrives 6 = .ok (.getfield 29, 3) := by decide +kernel
theorem dX7_sumOverDrives_9 : decode cX7_sumOverDrives 9 = .ok (.if_icmp .ge 22, 3) := by decide +kernel
theorem dX7_sumOverDrives_12 : decode cX7_sumOverDrives 12 = .ok (.iload_n 2, 1) := by decide +kernel
theorem dX7_sumOverDrives_13 : decode cX7_sumOverDrives 13 = .ok (.aload_n 0, 1) := by decide +kernel
theorem dX7_sumOverDrives_14 : decode cX7_sumOverDrives 14 = .ok (.getfield 24, 3) := by decide +kernel
theorem dX7_sumOverDrives_17 : decode cX7_sumOverDrives 17 = .ok (.iload_n 3, 1) := by decide +kernel
theorem dX7_sumOverDrives_18 : decode cX7_sumOverDrives 18 = .ok (.aaload, 1) := by decide +kernel
theorem dX7_sumOverDrives_19 : decode cX7_sumOverDrives 19 = .ok (.iload_n 1, 1) := by decide +kernel
theorem dX7_sumOverDrives_20 : decode cX7_sumOverDrives 20 = .ok (.invokevirtual 66, 3) := by decide +kernel
theorem dX7_sumOverDrives_23 : decode cX7_sumOverDrives 23 = .ok (.iadd, 1) := by decide +kernel
theorem dX7_sumOverDrives_24 : decode cX7_sumOverDrives 24 = .ok (.istore_n 2, 1) := by decide +kernel
theorem dX7_sumOverDrives_25 : decode cX7_sumOverDrives 25 = .ok (.iinc 3 1, 3) := by decide +kernel
theorem dX7_sumOverDrives_28 : decode cX7_sumOverDrives 28 = .ok (.goto (-24), 3) := by decide +kernel
theorem dX7_sumOverDrives_31 : decode cX7_sumOverDrives 31 = .ok (.iload_n 2, 1) := by decide +kernel
theorem dX7_sumOverDrives_32 : decode cX7_sumOverDrives 32 = .ok (.ireturn, 1) := by decide +kernel
theorem dX7_usesOfAll_0 : decode cX7_usesOfAll 0 = .ok (.iconst 0, 1) := by decide +kernel
theorem dX7_usesOfAll_1 : decode cX7_usesOfAll 1 = .ok (.istore_n 1, 1) := by decide +kernel
theorem dX7_usesOfAll_2 : decode cX7_usesOfAll 2 = .ok (.iconst 0, 1) := by decide +kernel
theorem dX7_usesOfAll_3 : decode cX7_usesOfAll 3 = .ok (.istore_n 2, 1) := by decide +kernel
theorem dX7_usesOfAll_4 : decode cX7_usesOfAll 4 = .ok (.iload_n 2, 1) := by decide +kernel
theorem dX7_usesOfAll_5 : decode cX7_usesOfAll 5 = .ok (.aload_n 0, 1) := by decide +kernel
theorem dX7_usesOfAll_6 : decode cX7_usesOfAll 6 = .ok (.getfield 18, 3) := by decide +kernel
theorem dX7_usesOfAll_9 : decode cX7_usesOfAll 9 = .ok (.if_icmp .ge 37, 3) := by decide +kernel
theorem dX7_usesOfAll_12 : decode cX7_usesOfAll 12 = .ok (.iload_n 1, 1) := by decide +kernel
theorem dX7_usesOfAll_13 : decode cX7_usesOfAll 13 = .ok (.aload_n 0, 1) := by decide +kernel
theorem dX7_usesOfAll_14 : decode cX7_usesOfAll 14 = .ok (.getfield 11, 3) := by decide +kernel
theorem dX7_usesOfAll_17 : decode cX7_usesOfAll 17 = .ok (.iload_n 2, 1) := by decide +kernel
theorem dX7_usesOfAll_18 : decode cX7_usesOfAll 18 = .ok (.aaload, 1) := by decide +kernel
theorem dX7_usesOfAll_19 : decode cX7_usesOfAll 19 = .ok (.getfield 59, 3) := by decide +kernel
theorem dX7_usesOfAll_22 : decode cX7_usesOfAll 22 = .ok (.ifCond .eq 15, 3) := by decide +kernel
theorem dX7_usesOfAll_25 : decode cX7_usesOfAll 25 = .ok (.aload_n 0, 1) := by decide +kernel
theorem dX7_usesOfAll_26 : decode cX7_usesOfAll 26 = .ok (.getfield 11, 3) := by decide +kernel
theorem dX7_usesOfAll_29 : decode cX7_usesOfAll 29 = .ok (.iload_n 2, 1) := by decide +kernel
theorem dX7_usesOfAll_30 : decode cX7_usesOfAll 30 = .ok (.aaload, 1) := by decide +kernel
theorem dX7_usesOfAll_31 : decode cX7_usesOfAll 31 = .ok (.getfield 63, 3) := by decide +kernel
theorem dX7_usesOfAll_34 : decode cX7_usesOfAll 34 = .ok (.goto 4, 3) := by decide +kernel
theorem dX7_usesOfAll_37 : decode cX7_usesOfAll 37 = .ok (.iconst 0, 1) := by decide +kernel
theorem dX7_usesOfAll_38 : decode cX7_usesOfAll 38 = .ok (.iadd, 1) := by decide +kernel
theorem dX7_usesOfAll_39 : decode cX7_usesOfAll 39 = .ok (.istore_n 1, 1) := by decide +kernel
theorem dX7_usesOfAll_40 : decode cX7_usesOfAll 40 = .ok (.iinc 2 1, 3) := by decide +kernel
theorem dX7_usesOfAll_43 : decode cX7_usesOfAll 43 = .ok (.goto (-39), 3) := by decide +kernel
theorem dX7_usesOfAll_46 : decode cX7_usesOfAll 46 = .ok (.iload_n 1, 1) := by decide +kernel
theorem dX7_usesOfAll_47 : decode cX7_usesOfAll 47 = .ok (.ireturn, 1) := by decide +kernel
theorem dX8_init_0 : decode cX8_init 0 = .ok (.aload_n 0, 1) := by decide +kernel
theorem dX8_init_1 : decode cX8_init 1 = .ok (.invokespecial 3, 3) := by decide +kernel
theorem dX8_init_4 : decode cX8_init 4 = .ok (.aload_n 0, 1) := by decide +kernel
theorem dX8_init_5 : decode cX8_init 5 = .ok (.bipush 60, 2) := by decide +kernel
theorem dX8_init_7 : decode cX8_init 7 = .ok (.newarray .char, 2) := by decide +kernel
theorem dX8_init_9 : decode cX8_init 9 = .ok (.putfield 9, 3) := by decide +kernel
theorem dX8_init_12 : decode cX8_init 12 = .ok (.aload_n 0, 1) := by decide +kernel
theorem dX8_init_13 : decode cX8_init 13 = .ok (.iconst 0, 1) := by decide +kernel
theorem dX8_init_14 : decode cX8_init 14 = .ok (.putfield 15, 3) := by decide +kernel
theorem dX8_init_17 : decode cX8_init 17 = .ok (.aload_n 0, 1) := by decide +kernel
theorem dX8_init_18 : decode cX8_init 18 = .ok (.iconst 0, 1) := by decide +kernel
theorem dX8_init_19 : decode cX8_init 19 = .ok (.putfield 19, 3) := by decide +kernel
theorem dX8_init_22 : decode cX8_init 22 = .ok (.aload_n 0, 1) := by decide +kernel
theorem dX8_init_23 : decode cX8_init 23 = .ok (.bipush 60, 2) := by decide +kernel
theorem dX8_init_25 : decode cX8_init 25 = .ok (.newarray .int, 2) := by decide +kernel
theorem dX8_init_27 : decode cX8_init 27 = .ok (.putfield 22, 3) := by decide +kernel
theorem dX8_init_30 : decode cX8_init 30 = .ok (.aload_n 0, 1) := by decide +kernel
theorem dX8_init_31 : decode cX8_init 31 = .ok (.bipush 60, 2) := by decide +kernel
theorem dX8_init_33 : decode cX8_init 33 = .ok (.newarray .int, 2) := by decide +kernel
theorem dX8_init_35 : decode cX8_init 35 = .ok (.putfield 26, 3) := by decide +kernel
theorem dX8_init_38 : decode cX8_init 38 = .ok (.aload_n 0, 1) := by decide +kernel
theorem dX8_init_39 : decode cX8_init 39 = .ok (.bipush 60, 2) := by decide +kernel
theorem dX8_init_41 : decode cX8_init 41 = .ok (.newarray .int, 2) := by decide +kernel
theorem dX8_init_43 : decode cX8_init 43 = .ok (.putfield 29, 3) := by decide +kernel
theorem dX8_init_46 : decode cX8_init 46 = .ok (.aload_n 0, 1) := by decide +kernel
theorem dX8_init_47 : decode cX8_init 47 = .ok (.iconst 0, 1) := by decide +kernel
theorem dX8_init_48 : decode cX8_init 48 = .ok (.putfield 32, 3) := by decide +kernel
theorem dX8_init_51 : decode cX8_init 51 = .ok (.return_, 1) := by decide +kernel
theorem dX9_init_0 : decode cX9_init 0 = .ok (.aload_n 0, 1) := by decide +kernel
theorem dX9_init_1 : decode cX9_init 1 = .ok (.invokespecial 1, 3) := by decide +kernel
theorem dX9_init_4 : decode cX9_init 4 = .ok (.aload_n 0, 1) := by decide +kernel
theorem dX9_init_5 : decode cX9_init 5 = .ok (.new 7, 3) := by decide +kernel
theorem dX9_init_8 : decode cX9_init 8 = .ok (.dup, 1) := by decide +kernel
theorem dX9_init_9 : decode cX9_init 9 = .ok (.invokespecial 9, 3) := by decide +kernel
theorem dX9_init_12 : decode cX9_init 12 = .ok (.putfield 10, 3) := by decide +kernel
theorem dX9_init_15 : decode cX9_init 15 = .ok (.aload_n 0, 1) := by decide +kernel
theorem dX9_init_16 : decode cX9_init 16 = .ok (.new 16, 3) := by decide +kernel
theorem dX9_init_19 : decode cX9_init 19 = .ok (.dup, 1) := by decide +kernel
theorem dX9_init_20 : decode cX9_init 20 = .ok (.invokespecial 18, 3) := by decide +kernel
theorem dX9_init_23 : decode cX9_init 23 = .ok (.putfield 19, 3) := by decide +kernel
theorem dX9_init_26 : decode cX9_init 26 = .ok (.aload_n 0, 1) := by decide +kernel
theorem dX9_init_27 : decode cX9_init 27 = .ok (.new 7, 3) := by decide +kernel
theorem dX9_init_30 : decode cX9_init 30 = .ok (.dup, 1) := by decide +kernel
theorem dX9_init_31 : decode cX9_init 31 = .ok (.invokespecial 9, 3) := by decide +kernel
theorem dX9_init_34 : decode cX9_init 34 = .ok (.putfield 23, 3) := by decide +kernel
theorem dX9_init_37 : decode cX9_init 37 = .ok (.aload_n 0, 1) := by decide +kernel
theorem dX9_init_38 : decode cX9_init 38 = .ok (.iconst 0, 1) := by decide +kernel
theorem dX9_init_39 : decode cX9_init 39 = .ok (.putfield 26, 3) := by decide +kernel
theorem dX9_init_42 : decode cX9_init 42 = .ok (.aload_n 0, 1) := by decide +kernel
theorem dX9_init_43 : decode cX9_init 43 = .ok (.new 7, 3) := by decide +kernel
theorem dX9_init_46 : decode cX9_init 46 = .ok (.dup, 1) := by decide +kernel
theorem dX9_init_47 : decode cX9_init 47 = .ok (.invokespecial 9, 3) := by decide +kernel
theorem dX9_init_50 : decode cX9_init 50 = .ok (.putfield 30, 3) := by decide +kernel
theorem dX9_init_53 : decode cX9_init 53 = .ok (.aload_n 0, 1) := by decide +kernel
theorem dX9_init_54 : decode cX9_init 54 = .ok (.new 33, 3) := by decide +kernel
theorem dX9_init_57 : decode cX9_init 57 = .ok (.dup, 1) := by decide +kernel
theorem dX9_init_58 : decode cX9_init 58 = .ok (.invokespecial 35, 3) := by decide +kernel
theorem dX9_init_61 : decode cX9_init 61 = .ok (.putfield 36, 3) := by decide +kernel
theorem dX9_init_64 : decode cX9_init 64 = .ok (.return_, 1) := by decide +kernel
theorem dX9_addDrive_0 : decode cX9_addDrive 0 = .ok (.iload_n 1, 1) := by decide +kernel
theorem dX9_addDrive_1 : decode cX9_addDrive 1 = .ok (.invokestatic 40, 3) := by decide +kernel
theorem dX9_addDrive_4 : decode cX9_addDrive 4 = .ok (.ifCond .ne 5, 3) := by decide +kernel
theorem dX9_addDrive_7 : decode cX9_addDrive 7 = .ok (.iconst (-1), 1) := by decide +kernel
theorem dX9_addDrive_8 : decode cX9_addDrive 8 = .ok (.ireturn, 1) := by decide +kernel
theorem dX9_addDrive_9 : decode cX9_addDrive 9 = .ok (.aload_n 0, 1) := by decide +kernel
theorem dX9_addDrive_10 : decode cX9_addDrive 10 = .ok (.getfield 10, 3) := by decide +kernel
theorem dX9_addDrive_13 : decode cX9_addDrive 13 = .ok (.getfield 46, 3) := by decide +kernel
theorem dX9_addDrive_16 : decode cX9_addDrive 16 = .ok (.iload_n 1, 1) := by decide +kernel
theorem dX9_addDrive_17 : decode cX9_addDrive 17 = .ok (.invokevirtual 50, 3) := by decide +kernel
theorem dX9_addDrive_20 : decode cX9_addDrive 20 = .ok (.bipush (-5), 2) := by decide +kernel
theorem dX9_addDrive_22 : decode cX9_addDrive 22 = .ok (.if_icmp .eq 6, 3) := by decide +kernel
theorem dX9_addDrive_25 : decode cX9_addDrive 25 = .ok (.bipush (-4), 2) := by decide +kernel
theorem dX9_addDrive_27 : decode cX9_addDrive 27 = .ok (.ireturn, 1) := by decide +kernel
theorem dX9_addDrive_28 : decode cX9_addDrive 28 = .ok (.aload_n 0, 1) := by decide +kernel
theorem dX9_addDrive_29 : decode cX9_addDrive 29 = .ok (.getfield 10, 3) := by decide +kernel
theorem dX9_addDrive_32 : decode cX9_addDrive 32 = .ok (.getfield 46, 3) := by decide +kernel
theorem dX9_addDrive_35 : decode cX9_addDrive 35 = .ok (.invokevirtual 54, 3) := by decide +kernel
theorem dX9_addDrive_38 : decode cX9_addDrive 38 = .ok (.astore_n 2, 1) := by decide +kernel
theorem dX9_addDrive_39 : decode cX9_addDrive 39 = .ok (.aload_n 2, 1) := by decide +kernel
theorem dX9_addDrive_40 : decode cX9_addDrive 40 = .ok (.ifnonnull 6, 3) := by decide +kernel
theorem dX9_addDrive_43 : decode cX9_addDrive 43 = .ok (.bipush (-3), 2) := by decide +kernel
theorem dX9_addDrive_45 : decode cX9_addDrive 45 = .ok (.ireturn, 1) := by decide +kernel
theorem dX9_addDrive_46 : decode cX9_addDrive 46 = .ok (.aload_n 0, 1) := by decide +kernel
theorem dX9_addDrive_47 : decode cX9_addDrive 47 = .ok (.getfield 19, 3) := by decide +kernel
theorem dX9_addDrive_50 : decode cX9_addDrive 50 = .ok (.aload_n 0, 1) := by decide +kernel
theorem dX9_addDrive_51 : decode cX9_addDrive 51 = .ok (.getfield 10, 3) := by decide +kernel
theorem dX9_addDrive_54 : decode cX9_addDrive 54 = .ok (.invokevirtual 58, 3) := by decide +kernel
theorem dX9_addDrive_57 : decode cX9_addDrive 57 = .ok (.aload_n 2, 1) := by decide +kernel
theorem dX9_addDrive_58 : decode cX9_addDrive 58 = .ok (.iload_n 1, 1) := by decide +kernel
theorem dX9_addDrive_59 : decode cX9_addDrive 59 = .ok (.invokevirtual 62, 3) := by decide +kernel
theorem dX9_addDrive_62 : decode cX9_addDrive 62 = .ok (.aload_n 0, 1) := by decide +kernel
theorem dX9_addDrive_63 : decode cX9_addDrive 63 = .ok (.getfield 10, 3) := by decide +kernel
theorem dX9_addDrive_66 : decode cX9_addDrive 66 = .ok (.getfield 46, 3) := by decide +kernel
theorem dX9_addDrive_69 : decode cX9_addDrive 69 = .ok (.dup, 1) := by decide +kernel
theorem dX9_addDrive_70 : decode cX9_addDrive 70 = .ok (.getfield 68, 3) := by decide +kernel
theorem dX9_addDrive_73 : decode cX9_addDrive 73 = .ok (.dup_x1, 1) := by decide +kernel
theorem dX9_addDrive_74 : decode cX9_addDrive 74 = .ok (.iconst 1, 1) := by decide +kernel
theorem dX9_addDrive_75 : decode cX9_addDrive 75 = .ok (.iadd, 1) := by decide +kernel
theorem dX9_addDrive_76 : decode cX9_addDrive 76 = .ok (.putfield 68, 3) := by decide +kernel
theorem dX9_addDrive_79 : decode cX9_addDrive 79 = .ok (.ireturn, 1) := by decide +kernel
theorem dX9_addTape_0 : decode cX9_addTape 0 = .ok (.iload_n 1, 1) := by decide +kernel
theorem dX9_addTape_1 : decode cX9_addTape 1 = .ok (.invokestatic 40, 3) := by decide +kernel
theorem dX9_addTape_4 : decode cX9_addTape 4 = .ok (.ifCond .ne 5, 3) := by decide +kernel
theorem dX9_addTape_7 : decode cX9_addTape 7 = .ok (.iconst (-1), 1) := by decide +kernel
theorem dX9_addTape_8 : decode cX9_addTape 8 = .ok (.ireturn, 1) := by decide +kernel
theorem dX9_addTape_9 : decode cX9_addTape 9 = .ok (.iload_n 2, 1) := by decide +kernel
theorem dX9_addTape_10 : decode cX9_addTape 10 = .ok (.iconst 0, 1) := by decide +kernel
theorem dX9_addTape_11 : decode cX9_addTape 11 = .ok (.ldc 72, 2) := by decide +kernel
theorem dX9_addTape_13 : decode cX9_addTape 13 = .ok (.invokestatic 73, 3) := by decide +kernel
theorem dX9_addTape_16 : decode cX9_addTape 16 = .ok (.ifCond .ne 6, 3) := by decide +kernel
theorem dX9_addTape_19 : decode cX9_addTape 19 = .ok (.bipush (-2), 2) := by decide +kernel
theorem dX9_addTape_21 : decode cX9_addTape 21 = .ok (.ireturn, 1) := by decide +kernel
theorem dX9_addTape_22 : decode cX9_addTape 22 = .ok (.aload_n 0, 1) := by decide +kernel
theorem dX9_addTape_23 : decode cX9_addTape 23 = .ok (.getfield 10, 3) := by decide +kernel
theorem dX9_addTape_26 : decode cX9_addTape 26 = .ok (.iload_n 1, 1) := by decide +kernel
theorem dX9_addTape_27 : decode cX9_addTape 27 = .ok (.invokevirtual 77, 3) := by decide +kernel
theorem dX9_addTape_30 : decode cX9_addTape 30 = .ok (.ifCond .eq 6, 3) := by decide +kernel
theorem dX9_addTape_33 : decode cX9_addTape 33 = .ok (.bipush (-4), 2) := by decide +kernel
theorem dX9_addTape_35 : decode cX9_addTape 35 = .ok (.ireturn, 1) := by decide +kernel
theorem dX9_addTape_36 : decode cX9_addTape 36 = .ok (.aload_n 0, 1) := by decide +kernel
theorem dX9_addTape_37 : decode cX9_addTape 37 = .ok (.getfield 10, 3) := by decide +kernel
theorem dX9_addTape_40 : decode cX9_addTape 40 = .ok (.getfield 46, 3) := by decide +kernel
theorem dX9_addTape_43 : decode cX9_addTape 43 = .ok (.invokevirtual 80, 3) := by decide +kernel
theorem dX9_addTape_46 : decode cX9_addTape 46 = .ok (.astore_n 3, 1) := by decide +kernel
theorem dX9_addTape_47 : decode cX9_addTape 47 = .ok (.aload_n 3, 1) := by decide +kernel
theorem dX9_addTape_48 : decode cX9_addTape 48 = .ok (.ifnonnull 6, 3) := by decide +kernel
theorem dX9_addTape_51 : decode cX9_addTape 51 = .ok (.bipush (-3), 2) := by decide +kernel
theorem dX9_addTape_53 : decode cX9_addTape 53 = .ok (.ireturn, 1) := by decide +kernel
theorem dX9_addTape_54 : decode cX9_addTape 54 = .ok (.aload_n 0, 1) := by decide +kernel
theorem dX9_addTape_55 : decode cX9_addTape 55 = .ok (.getfield 19, 3) := by decide +kernel
theorem dX9_addTape_58 : decode cX9_addTape 58 = .ok (.aload_n 0, 1) := by decide +kernel
theorem dX9_addTape_59 : decode cX9_addTape 59 = .ok (.getfield 10, 3) := by decide +kernel
theorem dX9_addTape_62 : decode cX9_addTape 62 = .ok (.invokevirtual 58, 3) := by decide +kernel
theorem dX9_addTape_65 : decode cX9_addTape 65 = .ok (.aload_n 3, 1) := by decide +kernel
theorem dX9_addTape_66 : decode cX9_addTape 66 = .ok (.iload_n 1, 1) := by decide +kernel
theorem dX9_addTape_67 : decode cX9_addTape 67 = .ok (.iload_n 2, 1) := by decide +kernel
theorem dX9_addTape_68 : decode cX9_addTape 68 = .ok (.iload_n 2, 1) := by decide +kernel
theorem dX9_addTape_69 : decode cX9_addTape 69 = .ok (.invokestatic 84, 3) := by decide +kernel
theorem dX9_addTape_72 : decode cX9_addTape 72 = .ok (.invokevirtual 88, 3) := by decide +kernel
theorem dX9_addTape_75 : decode cX9_addTape 75 = .ok (.aload_n 0, 1) := by decide +kernel
theorem dX9_addTape_76 : decode cX9_addTape 76 = .ok (.getfield 10, 3) := by decide +kernel
theorem dX9_addTape_79 : decode cX9_addTape 79 = .ok (.getfield 46, 3) := by decide +kernel
theorem dX9_addTape_82 : decode cX9_addTape 82 = .ok (.dup, 1) := by decide +kernel
theorem dX9_addTape_83 : decode cX9_addTape 83 = .ok (.getfield 94, 3) := by decide +kernel
theorem dX9_addTape_86 : decode cX9_addTape 86 = .ok (.dup_x1, 1) := by decide +kernel
theorem dX9_addTape_87 : decode cX9_addTape 87 = .ok (.iconst 1, 1) := by decide +kernel
theorem dX9_addTape_88 : decode cX9_addTape 88 = .ok (.iadd, 1) := by decide +kernel
theorem dX9_addTape_89 : decode cX9_addTape 89 = .ok (.putfield 94, 3) := by decide +kernel
theorem dX9_addTape_92 : decode cX9_addTape 92 = .ok (.ireturn, 1) := by decide +kernel
theorem dX9_addCleaner_0 : decode cX9_addCleaner 0 = .ok (.iload_n 1, 1) := by decide +kernel
theorem dX9_addCleaner_1 : decode cX9_addCleaner 1 = .ok (.invokestatic 40, 3) := by decide +kernel
theorem dX9_addCleaner_4 : decode cX9_addCleaner 4 = .ok (.ifCond .ne 5, 3) := by decide +kernel
theorem dX9_addCleaner_7 : decode cX9_addCleaner 7 = .ok (.iconst (-1), 1) := by decide +kernel
theorem dX9_addCleaner_8 : decode cX9_addCleaner 8 = .ok (.ireturn, 1) := by decide +kernel
theorem dX9_addCleaner_9 : decode cX9_addCleaner 9 = .ok (.iload_n 2, 1) := by decide +kernel
theorem dX9_addCleaner_10 : decode cX9_addCleaner 10 = .ok (.iconst 1, 1) := by decide +kernel
theorem dX9_addCleaner_11 : decode cX9_addCleaner 11 = .ok (.bipush 50, 2) := by decide +kernel
theorem dX9_addCleaner_13 : decode cX9_addCleaner 13 = .ok (.invokestatic 73, 3) := by decide +kernel
theorem dX9_addCleaner_16 : decode cX9_addCleaner 16 = .ok (.ifCond .ne 6, 3) := by decide +kernel
theorem dX9_addCleaner_19 : decode cX9_addCleaner 19 = .ok (.bipush (-2), 2) := by decide +kernel
theorem dX9_addCleaner_21 : decode cX9_addCleaner 21 = .ok (.ireturn, 1) := by decide +kernel
theorem dX9_addCleaner_22 : decode cX9_addCleaner 22 = .ok (.aload_n 0, 1) := by decide +kernel
theorem dX9_addCleaner_23 : decode cX9_addCleaner 23 = .ok (.getfield 10, 3) := by decide +kernel
theorem dX9_addCleaner_26 : decode cX9_addCleaner 26 = .ok (.iload_n 1, 1) := by decide +kernel
theorem dX9_addCleaner_27 : decode cX9_addCleaner 27 = .ok (.invokevirtual 77, 3) := by decide +kernel
theorem dX9_addCleaner_30 : decode cX9_addCleaner 30 = .ok (.ifCond .eq 6, 3) := by decide +kernel
theorem dX9_addCleaner_33 : decode cX9_addCleaner 33 = .ok (.bipush (-4), 2) := by decide +kernel
theorem dX9_addCleaner_35 : decode cX9_addCleaner 35 = .ok (.ireturn, 1) := by decide +kernel
theorem dX9_addCleaner_36 : decode cX9_addCleaner 36 = .ok (.aload_n 0, 1) := by decide +kernel
theorem dX9_addCleaner_37 : decode cX9_addCleaner 37 = .ok (.getfield 10, 3) := by decide +kernel
theorem dX9_addCleaner_40 : decode cX9_addCleaner 40 = .ok (.getfield 46, 3) := by decide +kernel
theorem dX9_addCleaner_43 : decode cX9_addCleaner 43 = .ok (.invokevirtual 80, 3) := by decide +kernel
theorem dX9_addCleaner_46 : decode cX9_addCleaner 46 = .ok (.astore_n 3, 1) := by decide +kernel
theorem dX9_addCleaner_47 : decode cX9_addCleaner 47 = .ok (.aload_n 3, 1) := by decide +kernel
theorem dX9_addCleaner_48 : decode cX9_addCleaner 48 = .ok (.ifnonnull 6, 3) := by decide +kernel
theorem dX9_addCleaner_51 : decode cX9_addCleaner 51 = .ok (.bipush (-3), 2) := by decide +kernel
theorem dX9_addCleaner_53 : decode cX9_addCleaner 53 = .ok (.ireturn, 1) := by decide +kernel
theorem dX9_addCleaner_54 : decode cX9_addCleaner 54 = .ok (.aload_n 0, 1) := by decide +kernel
theorem dX9_addCleaner_55 : decode cX9_addCleaner 55 = .ok (.getfield 19, 3) := by decide +kernel
theorem dX9_addCleaner_58 : decode cX9_addCleaner 58 = .ok (.aload_n 0, 1) := by decide +kernel
theorem dX9_addCleaner_59 : decode cX9_addCleaner 59 = .ok (.getfield 10, 3) := by decide +kernel
theorem dX9_addCleaner_62 : decode cX9_addCleaner 62 = .ok (.invokevirtual 58, 3) := by decide +kernel
theorem dX9_addCleaner_65 : decode cX9_addCleaner 65 = .ok (.aload_n 3, 1) := by decide +kernel
theorem dX9_addCleaner_66 : decode cX9_addCleaner 66 = .ok (.iload_n 1, 1) := by decide +kernel
theorem dX9_addCleaner_67 : decode cX9_addCleaner 67 = .ok (.iload_n 2, 1) := by decide +kernel
theorem dX9_addCleaner_68 : decode cX9_addCleaner 68 = .ok (.invokevirtual 97, 3) := by decide +kernel
theorem dX9_addCleaner_71 : decode cX9_addCleaner 71 = .ok (.aload_n 0, 1) := by decide +kernel
theorem dX9_addCleaner_72 : decode cX9_addCleaner 72 = .ok (.getfield 10, 3) := by decide +kernel
theorem dX9_addCleaner_75 : decode cX9_addCleaner 75 = .ok (.getfield 46, 3) := by decide +kernel
theorem dX9_addCleaner_78 : decode cX9_addCleaner 78 = .ok (.dup, 1) := by decide +kernel
theorem dX9_addCleaner_79 : decode cX9_addCleaner 79 = .ok (.getfield 94, 3) := by decide +kernel
theorem dX9_addCleaner_82 : decode cX9_addCleaner 82 = .ok (.dup_x1, 1) := by decide +kernel
theorem dX9_addCleaner_83 : decode cX9_addCleaner 83 = .ok (.iconst 1, 1) := by decide +kernel
theorem dX9_addCleaner_84 : decode cX9_addCleaner 84 = .ok (.iadd, 1) := by decide +kernel
theorem dX9_addCleaner_85 : decode cX9_addCleaner 85 = .ok (.putfield 94, 3) := by decide +kernel
theorem dX9_addCleaner_88 : decode cX9_addCleaner 88 = .ok (.ireturn, 1) := by decide +kernel
theorem dX9_refill_0 : decode cX9_refill 0 = .ok (.aload_n 0, 1) := by decide +kernel
theorem dX9_refill_1 : decode cX9_refill 1 = .ok (.getfield 10, 3) := by decide +kernel
theorem dX9_refill_4 : decode cX9_refill 4 = .ok (.getfield 46, 3) := by decide +kernel
theorem dX9_refill_7 : decode cX9_refill 7 = .ok (.iload_n 1, 1) := by decide +kernel
theorem dX9_refill_8 : decode cX9_refill 8 = .ok (.invokevirtual 101, 3) := by decide +kernel
theorem dX9_refill_11 : decode cX9_refill 11 = .ok (.astore_n 3, 1) := by decide +kernel
theorem dX9_refill_12 : decode cX9_refill 12 = .ok (.aload_n 3, 1) := by decide +kernel
theorem dX9_refill_13 : decode cX9_refill 13 = .ok (.ifnonnull 5, 3) := by decide +kernel
theorem dX9_refill_16 : decode cX9_refill 16 = .ok (.iconst (-1), 1) := by decide +kernel
theorem dX9_refill_17 : decode cX9_refill 17 = .ok (.ireturn, 1) := by decide +kernel
theorem dX9_refill_18 : decode cX9_refill 18 = .ok (.iload_n 2, 1) := by decide +kernel
theorem dX9_refill_19 : decode cX9_refill 19 = .ok (.iconst 1, 1) := by decide +kernel
theorem dX9_refill_20 : decode cX9_refill 20 = .ok (.bipush 50, 2) := by decide +kernel
theorem dX9_refill_22 : decode cX9_refill 22 = .ok (.invokestatic 73, 3) := by decide +kernel
theorem dX9_refill_25 : decode cX9_refill 25 = .ok (.ifCond .ne 6, 3) := by decide +kernel
theorem dX9_refill_28 : decode cX9_refill 28 = .ok (.bipush (-2), 2) := by decide +kernel
theorem dX9_refill_30 : decode cX9_refill 30 = .ok (.ireturn, 1) := by decide +kernel
theorem dX9_refill_31 : decode cX9_refill 31 = .ok (.aload_n 3, 1) := by decide +kernel
theorem dX9_refill_32 : decode cX9_refill 32 = .ok (.getfield 105, 3) := by decide +kernel
theorem dX9_refill_35 : decode cX9_refill 35 = .ok (.ifCond .ne 6, 3) := by decide +kernel
theorem dX9_refill_38 : decode cX9_refill 38 = .ok (.bipush (-4), 2) := by decide +kernel
theorem dX9_refill_40 : decode cX9_refill 40 = .ok (.ireturn, 1) := by decide +kernel
theorem dX9_refill_41 : decode cX9_refill 41 = .ok (.aload_n 3, 1) := by decide +kernel
theorem dX9_refill_42 : decode cX9_refill 42 = .ok (.getfield 108, 3) := by decide +kernel
theorem dX9_refill_45 : decode cX9_refill 45 = .ok (.istore 4, 2) := by decide +kernel
theorem dX9_refill_47 : decode cX9_refill 47 = .ok (.iload 4, 2) := by decide +kernel
theorem dX9_refill_49 : decode cX9_refill 49 = .ok (.iload_n 2, 1) := by decide +kernel
theorem dX9_refill_50 : decode cX9_refill 50 = .ok (.if_icmp .ne 6, 3) := by decide +kernel
theorem dX9_refill_53 : decode cX9_refill 53 = .ok (.bipush (-5), 2) := by decide +kernel
theorem dX9_refill_55 : decode cX9_refill 55 = .ok (.ireturn, 1) := by decide +kernel
theorem dX9_refill_56 : decode cX9_refill 56 = .ok (.aload_n 0, 1) := by decide +kernel
theorem dX9_refill_57 : decode cX9_refill 57 = .ok (.getfield 19, 3) := by decide +kernel
theorem dX9_refill_60 : decode cX9_refill 60 = .ok (.aload_n 0, 1) := by decide +kernel
theorem dX9_refill_61 : decode cX9_refill 61 = .ok (.getfield 10, 3) := by decide +kernel
theorem dX9_refill_64 : decode cX9_refill 64 = .ok (.invokevirtual 58, 3) := by decide +kernel
theorem dX9_refill_67 : decode cX9_refill 67 = .ok (.aload_n 3, 1) := by decide +kernel
theorem dX9_refill_68 : decode cX9_refill 68 = .ok (.iload_n 2, 1) := by decide +kernel
theorem dX9_refill_69 : decode cX9_refill 69 = .ok (.putfield 108, 3) := by decide +kernel
theorem dX9_refill_72 : decode cX9_refill 72 = .ok (.iload 4, 2) := by decide +kernel
theorem dX9_refill_74 : decode cX9_refill 74 = .ok (.ireturn, 1) := by decide +kernel
theorem dX9_setLimit_0 : decode cX9_setLimit 0 = .ok (.iload_n 1, 1) := by decide +kernel
theorem dX9_setLimit_1 : decode cX9_setLimit 1 = .ok (.ldc 72, 2) := by decide +kernel
theorem dX9_setLimit_3 : decode cX9_setLimit 3 = .ok (.ldc 111, 2) := by decide +kernel
theorem dX9_setLimit_5 : decode cX9_setLimit 5 = .ok (.invokestatic 73, 3) := by decide +kernel
theorem dX9_setLimit_8 : decode cX9_setLimit 8 = .ok (.ifCond .ne 6, 3) := by decide +kernel
theorem dX9_setLimit_11 : decode cX9_setLimit 11 = .ok (.bipush (-2), 2) := by decide +kernel
theorem dX9_setLimit_13 : decode cX9_setLimit 13 = .ok (.ireturn, 1) := by decide +kernel
theorem dX9_setLimit_14 : decode cX9_setLimit 14 = .ok (.iload_n 1, 1) := by decide +kernel
theorem dX9_setLimit_15 : decode cX9_setLimit 15 = .ok (.invokestatic 84, 3) := by decide +kernel
theorem dX9_setLimit_18 : decode cX9_setLimit 18 = .ok (.fstore_n 2, 1) := by decide +kernel
theorem dX9_setLimit_19 : decode cX9_setLimit 19 = .ok (.fload_n 2, 1) := by decide +kernel
theorem dX9_setLimit_20 : decode cX9_setLimit 20 = .ok (.aload_n 0, 1) := by decide +kernel
theorem dX9_setLimit_21 : decode cX9_setLimit 21 = .ok (.getfield 10, 3) := by decide +kernel
theorem dX9_setLimit_24 : decode cX9_setLimit 24 = .ok (.getfield 112, 3) := by decide +kernel
theorem dX9_setLimit_27 : decode cX9_setLimit 27 = .ok (.fcmp .l, 1) := by decide +kernel
theorem dX9_setLimit_28 : decode cX9_setLimit 28 = .ok (.ifCond .ne 6, 3) := by decide +kernel
theorem dX9_setLimit_31 : decode cX9_setLimit 31 = .ok (.bipush (-5), 2) := by decide +kernel
theorem dX9_setLimit_33 : decode cX9_setLimit 33 = .ok (.ireturn, 1) := by decide +kernel
theorem dX9_setLimit_34 : decode cX9_setLimit 34 = .ok (.aload_n 0, 1) := by decide +kernel
theorem dX9_setLimit_35 : decode cX9_setLimit 35 = .ok (.getfield 19, 3) := by decide +kernel
theorem dX9_setLimit_38 : decode cX9_setLimit 38 = .ok (.aload_n 0, 1) := by decide +kernel
theorem dX9_setLimit_39 : decode cX9_setLimit 39 = .ok (.getfield 10, 3) := by decide +kernel
theorem dX9_setLimit_42 : decode cX9_setLimit 42 = .ok (.invokevirtual 58, 3) := by decide +kernel
theorem dX9_setLimit_45 : decode cX9_setLimit 45 = .ok (.aload_n 0, 1) := by decide +kernel
theorem dX9_setLimit_46 : decode cX9_setLimit 46 = .ok (.getfield 10, 3) := by decide +kernel
theorem dX9_setLimit_49 : decode cX9_setLimit 49 = .ok (.fload_n 2, 1) := by decide +kernel
theorem dX9_setLimit_50 : decode cX9_setLimit 50 = .ok (.putfield 112, 3) := by decide +kernel
theorem dX9_setLimit_53 : decode cX9_setLimit 53 = .ok (.iconst 1, 1) := by decide +kernel
theorem dX9_setLimit_54 : decode cX9_setLimit 54 = .ok (.ireturn, 1) := by decide +kernel
theorem dX9_setCeiling_0 : decode cX9_setCeiling 0 = .ok (.aload_n 0, 1) := by decide +kernel
theorem dX9_setCeiling_1 : decode cX9_setCeiling 1 = .ok (.getfield 10, 3) := by decide +kernel
theorem dX9_setCeiling_4 : decode cX9_setCeiling 4 = .ok (.getfield 46, 3) := by decide +kernel
theorem dX9_setCeiling_7 : decode cX9_setCeiling 7 = .ok (.iload_n 1, 1) := by decide +kernel
theorem dX9_setCeiling_8 : decode cX9_setCeiling 8 = .ok (.invokevirtual 116, 3) := by decide +kernel
theorem dX9_setCeiling_11 : decode cX9_setCeiling 11 = .ok (.astore_n 3, 1) := by decide +kernel
theorem dX9_setCeiling_12 : decode cX9_setCeiling 12 = .ok (.aload_n 3, 1) := by decide +kernel
theorem dX9_setCeiling_13 : decode cX9_setCeiling 13 = .ok (.ifnonnull 5, 3) := by decide +kernel
theorem dX9_setCeiling_16 : decode cX9_setCeiling 16 = .ok (.iconst (-1), 1) := by decide +kernel
theorem dX9_setCeiling_17 : decode cX9_setCeiling 17 = .ok (.ireturn, 1) := by decide +kernel
theorem dX9_setCeiling_18 : decode cX9_setCeiling 18 = .ok (.iload_n 2, 1) := by decide +kernel
theorem dX9_setCeiling_19 : decode cX9_setCeiling 19 = .ok (.ldc 72, 2) := by decide +kernel
theorem dX9_setCeiling_21 : decode cX9_setCeiling 21 = .ok (.ldc 120, 2) := by decide +kernel
theorem dX9_setCeiling_23 : decode cX9_setCeiling 23 = .ok (.invokestatic 73, 3) := by decide +kernel
theorem dX9_setCeiling_26 : decode cX9_setCeiling 26 = .ok (.ifCond .ne 6, 3) := by decide +kernel
theorem dX9_setCeiling_29 : decode cX9_setCeiling 29 = .ok (.bipush (-2), 2) := by decide +kernel
theorem dX9_setCeiling_31 : decode cX9_setCeiling 31 = .ok (.ireturn, 1) := by decide +kernel
theorem dX9_setCeiling_32 : decode cX9_setCeiling 32 = .ok (.iload_n 2, 1) := by decide +kernel
theorem dX9_setCeiling_33 : decode cX9_setCeiling 33 = .ok (.invokestatic 84, 3) := by decide +kernel
theorem dX9_setCeiling_36 : decode cX9_setCeiling 36 = .ok (.fstore 4, 2) := by decide +kernel
theorem dX9_setCeiling_38 : decode cX9_setCeiling 38 = .ok (.fload 4, 2) := by decide +kernel
theorem dX9_setCeiling_40 : decode cX9_setCeiling 40 = .ok (.aload_n 3, 1) := by decide +kernel
theorem dX9_setCeiling_41 : decode cX9_setCeiling 41 = .ok (.getfield 121, 3) := by decide +kernel
theorem dX9_setCeiling_44 : decode cX9_setCeiling 44 = .ok (.fcmp .l, 1) := by decide +kernel
theorem dX9_setCeiling_45 : decode cX9_setCeiling 45 = .ok (.ifCond .ne 6, 3) := by decide +kernel
theorem dX9_setCeiling_48 : decode cX9_setCeiling 48 = .ok (.bipush (-5), 2) := by decide +kernel
theorem dX9_setCeiling_50 : decode cX9_setCeiling 50 = .ok (.ireturn, 1) := by decide +kernel
theorem dX9_setCeiling_51 : decode cX9_setCeiling 51 = .ok (.aload_n 0, 1) := by decide +kernel
theorem dX9_setCeiling_52 : decode cX9_setCeiling 52 = .ok (.getfield 19, 3) := by decide +kernel
theorem dX9_setCeiling_55 : decode cX9_setCeiling 55 = .ok (.aload_n 0, 1) := by decide +kernel
theorem dX9_setCeiling_56 : decode cX9_setCeiling 56 = .ok (.getfield 10, 3) := by decide +kernel
theorem dX9_setCeiling_59 : decode cX9_setCeiling 59 = .ok (.invokevirtual 58, 3) := by decide +kernel
theorem dX9_setCeiling_62 : decode cX9_setCeiling 62 = .ok (.aload_n 3, 1) := by decide +kernel
theorem dX9_setCeiling_63 : decode cX9_setCeiling 63 = .ok (.fload 4, 2) := by decide +kernel
theorem dX9_setCeiling_65 : decode cX9_setCeiling 65 = .ok (.putfield 121, 3) := by decide +kernel
theorem dX9_setCeiling_68 : decode cX9_setCeiling 68 = .ok (.iconst 1, 1) := by decide +kernel
theorem dX9_setCeiling_69 : decode cX9_setCeiling 69 = .ok (.ireturn, 1) := by decide +kernel
theorem dX9_setOrder_0 : decode cX9_setOrder 0 = .ok (.iload_n 1, 1) := by decide +kernel
theorem dX9_setOrder_1 : decode cX9_setOrder 1 = .ok (.iconst 0, 1) := by decide +kernel
theorem dX9_setOrder_2 : decode cX9_setOrder 2 = .ok (.iconst 2, 1) := by decide +kernel
theorem dX9_setOrder_3 : decode cX9_setOrder 3 = .ok (.invokestatic 73, 3) := by decide +kernel
theorem dX9_setOrder_6 : decode cX9_setOrder 6 = .ok (.ifCond .eq 17, 3) := by decide +kernel
theorem dX9_setOrder_9 : decode cX9_setOrder 9 = .ok (.iload_n 2, 1) := by decide +kernel
theorem dX9_setOrder_10 : decode cX9_setOrder 10 = .ok (.iconst 0, 1) := by decide +kernel
theorem dX9_setOrder_11 : decode cX9_setOrder 11 = .ok (.iconst 2, 1) := by decide +kernel
theorem dX9_setOrder_12 : decode cX9_setOrder 12 = .ok (.invokestatic 73, 3) := by decide +kernel
theorem dX9_setOrder_15 : decode cX9_setOrder 15 = .ok (.ifCond .eq 8, 3) := by decide +kernel
theorem dX9_setOrder_18 : decode cX9_setOrder 18 = .ok (.iload_n 1, 1) := by decide +kernel
theorem dX9_setOrder_19 : decode cX9_setOrder 19 = .ok (.iload_n 2, 1) := by decide +kernel
theorem dX9_setOrder_20 : decode cX9_setOrder 20 = .ok (.if_icmp .ne 6, 3) := by decide +kernel
theorem dX9_setOrder_23 : decode cX9_setOrder 23 = .ok (.bipush (-2), 2) := by decide +kernel
theorem dX9_setOrder_25 : decode cX9_setOrder 25 = .ok (.ireturn, 1) := by decide +kernel
theorem dX9_setOrder_26 : decode cX9_setOrder 26 = .ok (.aload_n 0, 1) := by decide +kernel
theorem dX9_setOrder_27 : decode cX9_setOrder 27 = .ok (.getfield 10, 3) := by decide +kernel
theorem dX9_setOrder_30 : decode cX9_setOrder 30 = .ok (.getfield 124, 3) := by decide +kernel
theorem dX9_setOrder_33 : decode cX9_setOrder 33 = .ok (.iload_n 1, 1) := by decide +kernel
theorem dX9_setOrder_34 : decode cX9_setOrder 34 = .ok (.invokevirtual 128, 3) := by decide +kernel
theorem dX9_setOrder_37 : decode cX9_setOrder 37 = .ok (.ifCond .ne 21, 3) := by decide +kernel
theorem dX9_setOrder_40 : decode cX9_setOrder 40 = .ok (.aload_n 0, 1) := by decide +kernel
theorem dX9_setOrder_41 : decode cX9_setOrder 41 = .ok (.getfield 10, 3) := by decide +kernel
theorem dX9_setOrder_44 : decode cX9_setOrder 44 = .ok (.getfield 124, 3) := by decide +kernel
theorem dX9_setOrder_47 : decode cX9_setOrder 47 = .ok (.iload_n 2, 1) := by decide +kernel
theorem dX9_setOrder_48 : decode cX9_setOrder 48 = .ok (.invokevirtual 128, 3) := by decide +kernel
theorem dX9_setOrder_51 : decode cX9_setOrder 51 = .ok (.iconst 1, 1) := by decide +kernel
theorem dX9_setOrder_52 : decode cX9_setOrder 52 = .ok (.if_icmp .ne 6, 3) := by decide +kernel
theorem dX9_setOrder_55 : decode cX9_setOrder 55 = .ok (.bipush (-5), 2) := by decide +kernel
theorem dX9_setOrder_57 : decode cX9_setOrder 57 = .ok (.ireturn, 1) := by decide +kernel
theorem dX9_setOrder_58 : decode cX9_setOrder 58 = .ok (.aload_n 0, 1) := by decide +kernel
theorem dX9_setOrder_59 : decode cX9_setOrder 59 = .ok (.getfield 19, 3) := by decide +kernel
theorem dX9_setOrder_62 : decode cX9_setOrder 62 = .ok (.aload_n 0, 1) := by decide +kernel
theorem dX9_setOrder_63 : decode cX9_setOrder 63 = .ok (.getfield 10, 3) := by decide +kernel
theorem dX9_setOrder_66 : decode cX9_setOrder 66 = .ok (.invokevirtual 58, 3) := by decide +kernel
theorem dX9_setOrder_69 : decode cX9_setOrder 69 = .ok (.aload_n 0, 1) := by decide +kernel
theorem dX9_setOrder_70 : decode cX9_setOrder 70 = .ok (.getfield 10, 3) := by decide +kernel
theorem dX9_setOrder_73 : decode cX9_setOrder 73 = .ok (.getfield 124, 3) := by decide +kernel
theorem dX9_setOrder_76 : decode cX9_setOrder 76 = .ok (.iload_n 1, 1) := by decide +kernel
theorem dX9_setOrder_77 : decode cX9_setOrder 77 = .ok (.iload_n 2, 1) := by decide +kernel
theorem dX9_setOrder_78 : decode cX9_setOrder 78 = .ok (.invokevirtual 133, 3) := by decide +kernel
theorem dX9_setOrder_81 : decode cX9_setOrder 81 = .ok (.ireturn, 1) := by decide +kernel
theorem dX9_read_0 : decode cX9_read 0 = .ok (.aload_n 0, 1) := by decide +kernel
theorem dX9_read_1 : decode cX9_read 1 = .ok (.iconst 0, 1) := by decide +kernel
theorem dX9_read_2 : decode cX9_read 2 = .ok (.iload_n 1, 1) := by decide +kernel
theorem dX9_read_3 : decode cX9_read 3 = .ok (.bipush (-5), 2) := by decide +kernel
theorem dX9_read_5 : decode cX9_read 5 = .ok (.invokevirtual 137, 3) := by decide +kernel
theorem dX9_read_8 : decode cX9_read 8 = .ok (.ireturn, 1) := by decide +kernel
theorem dX9_clean_0 : decode cX9_clean 0 = .ok (.aload_n 0, 1) := by decide +kernel
theorem dX9_clean_1 : decode cX9_clean 1 = .ok (.iconst 1, 1) := by decide +kernel
theorem dX9_clean_2 : decode cX9_clean 2 = .ok (.iload_n 1, 1) := by decide +kernel
theorem dX9_clean_3 : decode cX9_clean 3 = .ok (.bipush (-5), 2) := by decide +kernel
theorem dX9_clean_5 : decode cX9_clean 5 = .ok (.invokevirtual 137, 3) := by decide +kernel
theorem dX9_clean_8 : decode cX9_clean 8 = .ok (.ireturn, 1) := by decide +kernel
theorem dX9_move_0 : decode cX9_move 0 = .ok (.aload_n 0, 1) := by decide +kernel
theorem dX9_move_1 : decode cX9_move 1 = .ok (.iconst 2, 1) := by decide +kernel
theorem dX9_move_2 : decode cX9_move 2 = .ok (.iload_n 1, 1) := by decide +kernel
theorem dX9_move_3 : decode cX9_move 3 = .ok (.iload_n 2, 1) := by decide +kernel
theorem dX9_move_4 : decode cX9_move 4 = .ok (.invokevirtual 137, 3) := by decide +kernel
theorem dX9_move_7 : decode cX9_move 7 = .ok (.ireturn, 1) := by decide +kernel
theorem dX9_putOff_0 : decode cX9_putOff 0 = .ok (.aload_n 0, 1) := by decide +kernel
theorem dX9_putOff_1 : decode cX9_putOff 1 = .ok (.getfield 10, 3) := by decide +kernel
theorem dX9_putOff_4 : decode cX9_putOff 4 = .ok (.getfield 124, 3) := by decide +kernel
theorem dX9_putOff_7 : decode cX9_putOff 7 = .ok (.iload_n 1, 1) := by decide +kernel
theorem dX9_putOff_8 : decode cX9_putOff 8 = .ok (.invokevirtual 141, 3) := by decide +kernel
theorem dX9_putOff_11 : decode cX9_putOff 11 = .ok (.astore_n 3, 1) := by decide +kernel
theorem dX9_putOff_12 : decode cX9_putOff 12 = .ok (.aload_n 3, 1) := by decide +kernel
theorem dX9_putOff_13 : decode cX9_putOff 13 = .ok (.ifnonnull 5, 3) := by decide +kernel
theorem dX9_putOff_16 : decode cX9_putOff 16 = .ok (.iconst (-1), 1) := by decide +kernel
theorem dX9_putOff_17 : decode cX9_putOff 17 = .ok (.ireturn, 1) := by decide +kernel
theorem dX9_putOff_18 : decode cX9_putOff 18 = .ok (.iload_n 2, 1) := by decide +kernel
theorem dX9_putOff_19 : decode cX9_putOff 19 = .ok (.iconst 0, 1) := by decide +kernel
theorem dX9_putOff_20 : decode cX9_putOff 20 = .ok (.sipush 9999, 3) := by decide +kernel
theorem dX9_putOff_23 : decode cX9_putOff 23 = .ok (.invokestatic 73, 3) := by decide +kernel
theorem dX9_putOff_26 : decode cX9_putOff 26 = .ok (.ifCond .ne 6, 3) := by decide +kernel
theorem dX9_putOff_29 : decode cX9_putOff 29 = .ok (.bipush (-2), 2) := by decide +kernel
theorem dX9_putOff_31 : decode cX9_putOff 31 = .ok (.ireturn, 1) := by decide +kernel
theorem dX9_putOff_32 : decode cX9_putOff 32 = .ok (.aload_n 3, 1) := by decide +kernel
theorem dX9_putOff_33 : decode cX9_putOff 33 = .ok (.getfield 145, 3) := by decide +kernel
theorem dX9_putOff_36 : decode cX9_putOff 36 = .ok (.ifCond .eq 6, 3) := by decide +kernel
theorem dX9_putOff_39 : decode cX9_putOff 39 = .ok (.bipush (-4), 2) := by decide +kernel
theorem dX9_putOff_41 : decode cX9_putOff 41 = .ok (.ireturn, 1) := by decide +kernel
theorem dX9_putOff_42 : decode cX9_putOff 42 = .ok (.aload_n 3, 1) := by decide +kernel
theorem dX9_putOff_43 : decode cX9_putOff 43 = .ok (.getfield 150, 3) := by decide +kernel
theorem dX9_putOff_46 : decode cX9_putOff 46 = .ok (.istore 4, 2) := by decide +kernel
theorem dX9_putOff_48 : decode cX9_putOff 48 = .ok (.iload 4, 2) := by decide +kernel
theorem dX9_putOff_50 : decode cX9_putOff 50 = .ok (.iload_n 2, 1) := by decide +kernel
theorem dX9_putOff_51 : decode cX9_putOff 51 = .ok (.if_icmp .ne 6, 3) := by decide +kernel
theorem dX9_putOff_54 : decode cX9_putOff 54 = .ok (.bipush (-5), 2) := by decide +kernel
theorem dX9_putOff_56 : decode cX9_putOff 56 = .ok (.ireturn, 1) := by decide +kernel
theorem dX9_putOff_57 : decode cX9_putOff 57 = .ok (.aload_n 0, 1) := by decide +kernel
theorem dX9_putOff_58 : decode cX9_putOff 58 = .ok (.getfield 19, 3) := by decide +kernel
theorem dX9_putOff_61 : decode cX9_putOff 61 = .ok (.aload_n 0, 1) := by decide +kernel
theorem dX9_putOff_62 : decode cX9_putOff 62 = .ok (.getfield 10, 3) := by decide +kernel
theorem dX9_putOff_65 : decode cX9_putOff 65 = .ok (.invokevirtual 58, 3) := by decide +kernel
theorem dX9_putOff_68 : decode cX9_putOff 68 = .ok (.aload_n 3, 1) := by decide +kernel
theorem dX9_putOff_69 : decode cX9_putOff 69 = .ok (.iload_n 2, 1) := by decide +kernel
theorem dX9_putOff_70 : decode cX9_putOff 70 = .ok (.putfield 150, 3) := by decide +kernel
theorem dX9_putOff_73 : decode cX9_putOff 73 = .ok (.iload 4, 2) := by decide +kernel
theorem dX9_putOff_75 : decode cX9_putOff 75 = .ok (.ireturn, 1) := by decide +kernel
theorem dX9_withdraw_0 : decode cX9_withdraw 0 = .ok (.aload_n 0, 1) := by decide +kernel
theorem dX9_withdraw_1 : decode cX9_withdraw 1 = .ok (.getfield 10, 3) := by decide +kernel
theorem dX9_withdraw_4 : decode cX9_withdraw 4 = .ok (.getfield 124, 3) := by decide +kernel
theorem dX9_withdraw_7 : decode cX9_withdraw 7 = .ok (.iload_n 1, 1) := by decide +kernel
theorem dX9_withdraw_8 : decode cX9_withdraw 8 = .ok (.invokevirtual 141, 3) := by decide +kernel
theorem dX9_withdraw_11 : decode cX9_withdraw 11 = .ok (.astore_n 2, 1) := by decide +kernel
theorem dX9_withdraw_12 : decode cX9_withdraw 12 = .ok (.aload_n 2, 1) := by decide +kernel
theorem dX9_withdraw_13 : decode cX9_withdraw 13 = .ok (.ifnonnull 5, 3) := by decide +kernel
theorem dX9_withdraw_16 : decode cX9_withdraw 16 = .ok (.iconst (-1), 1) := by decide +kernel
theorem dX9_withdraw_17 : decode cX9_withdraw 17 = .ok (.ireturn, 1) := by decide +kernel
theorem dX9_withdraw_18 : decode cX9_withdraw 18 = .ok (.aload_n 2, 1) := by decide +kernel
theorem dX9_withdraw_19 : decode cX9_withdraw 19 = .ok (.getfield 145, 3) := by decide +kernel
theorem dX9_withdraw_22 : decode cX9_withdraw 22 = .ok (.ifCond .eq 6, 3) := by decide +kernel
theorem dX9_withdraw_25 : decode cX9_withdraw 25 = .ok (.bipush (-4), 2) := by decide +kernel
theorem dX9_withdraw_27 : decode cX9_withdraw 27 = .ok (.ireturn, 1) := by decide +kernel
theorem dX9_withdraw_28 : decode cX9_withdraw 28 = .ok (.aload_n 0, 1) := by decide +kernel
theorem dX9_withdraw_29 : decode cX9_withdraw 29 = .ok (.getfield 19, 3) := by decide +kernel
theorem dX9_withdraw_32 : decode cX9_withdraw 32 = .ok (.aload_n 0, 1) := by decide +kernel
theorem dX9_withdraw_33 : decode cX9_withdraw 33 = .ok (.getfield 10, 3) := by decide +kernel
theorem dX9_withdraw_36 : decode cX9_withdraw 36 = .ok (.invokevirtual 58, 3) := by decide +kernel
theorem dX9_withdraw_39 : decode cX9_withdraw 39 = .ok (.aload_n 2, 1) := by decide +kernel
theorem dX9_withdraw_40 : decode cX9_withdraw 40 = .ok (.iconst 4, 1) := by decide +kernel
theorem dX9_withdraw_41 : decode cX9_withdraw 41 = .ok (.putfield 145, 3) := by decide +kernel
theorem dX9_withdraw_44 : decode cX9_withdraw 44 = .ok (.aload_n 2, 1) := by decide +kernel
theorem dX9_withdraw_45 : decode cX9_withdraw 45 = .ok (.aload_n 0, 1) := by decide +kernel
theorem dX9_withdraw_46 : decode cX9_withdraw 46 = .ok (.getfield 10, 3) := by decide +kernel
theorem dX9_withdraw_49 : decode cX9_withdraw 49 = .ok (.getfield 153, 3) := by decide +kernel
theorem dX9_withdraw_52 : decode cX9_withdraw 52 = .ok (.putfield 156, 3) := by decide +kernel
theorem dX9_withdraw_55 : decode cX9_withdraw 55 = .ok (.aload_n 0, 1) := by decide +kernel
theorem dX9_withdraw_56 : decode cX9_withdraw 56 = .ok (.getfield 10, 3) := by decide +kernel
theorem dX9_withdraw_59 : decode cX9_withdraw 59 = .ok (.getfield 124, 3) := by decide +kernel
theorem dX9_withdraw_62 : decode cX9_withdraw 62 = .ok (.iconst 0, 1) := by decide +kernel
theorem dX9_withdraw_63 : decode cX9_withdraw 63 = .ok (.invokevirtual 159, 3) := by decide +kernel
theorem dX9_withdraw_66 : decode cX9_withdraw 66 = .ok (.ireturn, 1) := by decide +kernel
theorem dX9_tick_0 : decode cX9_tick 0 = .ok (.iload_n 1, 1) := by decide +kernel
theorem dX9_tick_1 : decode cX9_tick 1 = .ok (.iconst 1, 1) := by decide +kernel
theorem dX9_tick_2 : decode cX9_tick 2 = .ok (.bipush 100, 2) := by decide +kernel
theorem dX9_tick_4 : decode cX9_tick 4 = .ok (.invokestatic 73, 3) := by decide +kernel
theorem dX9_tick_7 : decode cX9_tick 7 = .ok (.ifCond .ne 6, 3) := by decide +kernel
theorem dX9_tick_10 : decode cX9_tick 10 = .ok (.bipush (-2), 2) := by decide +kernel
theorem dX9_tick_12 : decode cX9_tick 12 = .ok (.ireturn, 1) := by decide +kernel
theorem dX9_tick_13 : decode cX9_tick 13 = .ok (.aload_n 0, 1) := by decide +kernel
theorem dX9_tick_14 : decode cX9_tick 14 = .ok (.getfield 10, 3) := by decide +kernel
theorem dX9_tick_17 : decode cX9_tick 17 = .ok (.getfield 153, 3) := by decide +kernel
theorem dX9_tick_20 : decode cX9_tick 20 = .ok (.iload_n 1, 1) := by decide +kernel
theorem dX9_tick_21 : decode cX9_tick 21 = .ok (.iadd, 1) := by decide +kernel
theorem dX9_tick_22 : decode cX9_tick 22 = .ok (.sipush 10000, 3) := by decide +kernel
theorem dX9_tick_25 : decode cX9_tick 25 = .ok (.if_icmp .le 6, 3) := by decide +kernel
theorem dX9_tick_28 : decode cX9_tick 28 = .ok (.bipush (-4), 2) := by decide +kernel
theorem dX9_tick_30 : decode cX9_tick 30 = .ok (.ireturn, 1) := by decide +kernel
theorem dX9_tick_31 : decode cX9_tick 31 = .ok (.aload_n 0, 1) := by decide +kernel
theorem dX9_tick_32 : decode cX9_tick 32 = .ok (.getfield 19, 3) := by decide +kernel
theorem dX9_tick_35 : decode cX9_tick 35 = .ok (.aload_n 0, 1) := by decide +kernel
theorem dX9_tick_36 : decode cX9_tick 36 = .ok (.getfield 10, 3) := by decide +kernel
theorem dX9_tick_39 : decode cX9_tick 39 = .ok (.invokevirtual 58, 3) := by decide +kernel
theorem dX9_tick_42 : decode cX9_tick 42 = .ok (.iconst 0, 1) := by decide +kernel
theorem dX9_tick_43 : decode cX9_tick 43 = .ok (.istore_n 2, 1) := by decide +kernel
theorem dX9_tick_44 : decode cX9_tick 44 = .ok (.iconst 0, 1) := by decide +kernel
theorem dX9_tick_45 : decode cX9_tick 45 = .ok (.istore_n 3, 1) := by decide +kernel
theorem dX9_tick_46 : decode cX9_tick 46 = .ok (.iload_n 3, 1) := by decide +kernel
theorem dX9_tick_47 : decode cX9_tick 47 = .ok (.iload_n 1, 1) := by decide +kernel
theorem dX9_tick_48 : decode cX9_tick 48 = .ok (.if_icmp .ge 19, 3) := by decide +kernel
theorem dX9_tick_51 : decode cX9_tick 51 = .ok (.iload_n 2, 1) := by decide +kernel
theorem dX9_tick_52 : decode cX9_tick 52 = .ok (.aload_n 0, 1) := by decide +kernel
theorem dX9_tick_53 : decode cX9_tick 53 = .ok (.getfield 10, 3) := by decide +kernel
theorem dX9_tick_56 : decode cX9_tick 56 = .ok (.invokevirtual 162, 3) := by decide +kernel
theorem dX9_tick_59 : decode cX9_tick 59 = .ok (.iadd, 1) := by decide +kernel
theorem dX9_tick_60 : decode cX9_tick 60 = .ok (.istore_n 2, 1) := by decide +kernel
theorem dX9_tick_61 : decode cX9_tick 61 = .ok (.iinc 3 1, 3) := by decide +kernel
theorem dX9_tick_64 : decode cX9_tick 64 = .ok (.goto (-18), 3) := by decide +kernel
theorem dX9_tick_67 : decode cX9_tick 67 = .ok (.iload_n 2, 1) := by decide +kernel
theorem dX9_tick_68 : decode cX9_tick 68 = .ok (.ireturn, 1) := by decide +kernel
theorem dX9_item_0 : decode cX9_item 0 = .ok (.aload_n 0, 1) := by decide +kernel
theorem dX9_item_1 : decode cX9_item 1 = .ok (.getfield 10, 3) := by decide +kernel
theorem dX9_item_4 : decode cX9_item 4 = .ok (.getfield 46, 3) := by decide +kernel
theorem dX9_item_7 : decode cX9_item 7 = .ok (.iload_n 1, 1) := by decide +kernel
theorem dX9_item_8 : decode cX9_item 8 = .ok (.invokevirtual 101, 3) := by decide +kernel
theorem dX9_item_11 : decode cX9_item 11 = .ok (.astore_n 3, 1) := by decide +kernel
theorem dX9_item_12 : decode cX9_item 12 = .ok (.aload_n 3, 1) := by decide +kernel
theorem dX9_item_13 : decode cX9_item 13 = .ok (.ifnonnull 5, 3) := by decide +kernel
theorem dX9_item_16 : decode cX9_item 16 = .ok (.iconst (-1), 1) := by decide +kernel
theorem dX9_item_17 : decode cX9_item 17 = .ok (.ireturn, 1) := by decide +kernel
theorem dX9_item_18 : decode cX9_item 18 = .ok (.iload_n 2, 1) := by decide +kernel
theorem dX9_item_19 : decode cX9_item 19 = .ok (.iconst 0, 1) := by decide +kernel
theorem dX9_item_20 : decode cX9_item 20 = .ok (.bipush 7, 2) := by decide +kernel
theorem dX9_item_22 : decode cX9_item 22 = .ok (.invokestatic 73, 3) := by decide +kernel
theorem dX9_item_25 : decode cX9_item 25 = .ok (.ifCond .ne 6, 3) := by decide +kernel
theorem dX9_item_28 : decode cX9_item 28 = .ok (.bipush (-2), 2) := by decide +kernel
theorem dX9_item_30 : decode cX9_item 30 = .ok (.ireturn, 1) := by decide +kernel
theorem dX9_item_31 : decode cX9_item 31 = .ok (.iload_n 2, 1) := by decide +kernel
theorem dX9_item_32 : decode cX9_item 32 = .ok (.bipush 7, 2) := by decide +kernel
theorem dX9_item_34 : decode cX9_item 34 = .ok (.if_icmp .ne 17, 3) := by decide +kernel
theorem dX9_item_37 : decode cX9_item 37 = .ok (.aload_n 0, 1) := by decide +kernel
theorem dX9_item_38 : decode cX9_item 38 = .ok (.getfield 10, 3) := by decide +kernel
theorem dX9_item_41 : decode cX9_item 41 = .ok (.getfield 124, 3) := by decide +kernel
theorem dX9_item_44 : decode cX9_item 44 = .ok (.iload_n 1, 1) := by decide +kernel
theorem dX9_item_45 : decode cX9_item 45 = .ok (.invokevirtual 210, 3) := by decide +kernel
theorem dX9_item_48 : decode cX9_item 48 = .ok (.goto 8, 3) := by decide +kernel
theorem dX9_item_51 : decode cX9_item 51 = .ok (.aload_n 3, 1) := by decide +kernel
theorem dX9_item_52 : decode cX9_item 52 = .ok (.iload_n 2, 1) := by decide +kernel
theorem dX9_item_53 : decode cX9_item 53 = .ok (.invokevirtual 213, 3) := by decide +kernel
theorem dX9_item_56 : decode cX9_item 56 = .ok (.ireturn, 1) := by decide +kernel
theorem dX9_homeOf_0 : decode cX9_homeOf 0 = .ok (.iload_n 1, 1) := by decide +kernel
theorem dX9_homeOf_1 : decode cX9_homeOf 1 = .ok (.invokestatic 40, 3) := by decide +kernel
theorem dX9_homeOf_4 : decode cX9_homeOf 4 = .ok (.ifCond .eq 17, 3) := by decide +kernel
theorem dX9_homeOf_7 : decode cX9_homeOf 7 = .ok (.aload_n 0, 1) := by decide +kernel
theorem dX9_homeOf_8 : decode cX9_homeOf 8 = .ok (.getfield 10, 3) := by decide +kernel
theorem dX9_homeOf_11 : decode cX9_homeOf 11 = .ok (.getfield 46, 3) := by decide +kernel
theorem dX9_homeOf_14 : decode cX9_homeOf 14 = .ok (.iload_n 1, 1) := by decide +kernel
theorem dX9_homeOf_15 : decode cX9_homeOf 15 = .ok (.invokevirtual 216, 3) := by decide +kernel
theorem dX9_homeOf_18 : decode cX9_homeOf 18 = .ok (.goto 4, 3) := by decide +kernel
theorem dX9_homeOf_21 : decode cX9_homeOf 21 = .ok (.iconst (-1), 1) := by decide +kernel
theorem dX9_homeOf_22 : decode cX9_homeOf 22 = .ok (.ireturn, 1) := by decide +kernel
theorem dX9_drive_0 : decode cX9_drive 0 = .ok (.aload_n 0, 1) := by decide +kernel
theorem dX9_drive_1 : decode cX9_drive 1 = .ok (.getfield 10, 3) := by decide +kernel
theorem dX9_drive_4 : decode cX9_drive 4 = .ok (.getfield 46, 3) := by decide +kernel
theorem dX9_drive_7 : decode cX9_drive 7 = .ok (.iload_n 1, 1) := by decide +kernel
theorem dX9_drive_8 : decode cX9_drive 8 = .ok (.invokevirtual 116, 3) := by decide +kernel
theorem dX9_drive_11 : decode cX9_drive 11 = .ok (.astore_n 3, 1) := by decide +kernel
theorem dX9_drive_12 : decode cX9_drive 12 = .ok (.aload_n 3, 1) := by decide +kernel
theorem dX9_drive_13 : decode cX9_drive 13 = .ok (.ifnonnull 5, 3) := by decide +kernel
theorem dX9_drive_16 : decode cX9_drive 16 = .ok (.iconst (-1), 1) := by decide +kernel
theorem dX9_drive_17 : decode cX9_drive 17 = .ok (.ireturn, 1) := by decide +kernel
theorem dX9_drive_18 : decode cX9_drive 18 = .ok (.iload_n 2, 1) := by decide +kernel
theorem dX9_drive_19 : decode cX9_drive 19 = .ok (.iconst 0, 1) := by decide +kernel
theorem dX9_drive_20 : decode cX9_drive 20 = .ok (.iconst 5, 1) := by decide +kernel
theorem dX9_drive_21 : decode cX9_drive 21 = .ok (.invokestatic 73, 3) := by decide +kernel
theorem dX9_drive_24 : decode cX9_drive 24 = .ok (.ifCond .eq 11, 3) := by decide +kernel
theorem dX9_drive_27 : decode cX9_drive 27 = .ok (.aload_n 3, 1) := by decide +kernel
theorem dX9_drive_28 : decode cX9_drive 28 = .ok (.iload_n 2, 1) := by decide +kernel
theorem dX9_drive_29 : decode cX9_drive 29 = .ok (.invokevirtual 219, 3) := by decide +kernel
theorem dX9_drive_32 : decode cX9_drive 32 = .ok (.goto 5, 3) := by decide +kernel
theorem dX9_drive_35 : decode cX9_drive 35 = .ok (.bipush (-2), 2) := by decide +kernel
theorem dX9_drive_37 : decode cX9_drive 37 = .ok (.ireturn, 1) := by decide +kernel
theorem dX9_dust_0 : decode cX9_dust 0 = .ok (.aload_n 0, 1) := by decide +kernel
theorem dX9_dust_1 : decode cX9_dust 1 = .ok (.getfield 10, 3) := by decide +kernel
theorem dX9_dust_4 : decode cX9_dust 4 = .ok (.getfield 46, 3) := by decide +kernel
theorem dX9_dust_7 : decode cX9_dust 7 = .ok (.iload_n 1, 1) := by decide +kernel
theorem dX9_dust_8 : decode cX9_dust 8 = .ok (.invokevirtual 116, 3) := by decide +kernel
theorem dX9_dust_11 : decode cX9_dust 11 = .ok (.astore_n 2, 1) := by decide +kernel
theorem dX9_dust_12 : decode cX9_dust 12 = .ok (.aload_n 2, 1) := by decide +kernel
theorem dX9_dust_13 : decode cX9_dust 13 = .ok (.ifnonnull 9, 3) := by decide +kernel
theorem dX9_dust_16 : decode cX9_dust 16 = .ok (.invokestatic 220, 3) := by decide +kernel
theorem dX9_dust_19 : decode cX9_dust 19 = .ok (.goto 7, 3) := by decide +kernel
theorem dX9_dust_22 : decode cX9_dust 22 = .ok (.aload_n 2, 1) := by decide +kernel
theorem dX9_dust_23 : decode cX9_dust 23 = .ok (.getfield 224, 3) := by decide +kernel
theorem dX9_dust_26 : decode cX9_dust 26 = .ok (.freturn, 1) := by decide +kernel
theorem dX9_ceiling_0 : decode cX9_ceiling 0 = .ok (.aload_n 0, 1) := by decide +kernel
theorem dX9_ceiling_1 : decode cX9_ceiling 1 = .ok (.getfield 10, 3) := by decide +kernel
theorem dX9_ceiling_4 : decode cX9_ceiling 4 = .ok (.getfield 46, 3) := by decide +kernel
theorem dX9_ceiling_7 : decode cX9_ceiling 7 = .ok (.iload_n 1, 1) := by decide +kernel
theorem dX9_ceiling_8 : decode cX9_ceiling 8 = .ok (.invokevirtual 116, 3) := by decide +kernel
theorem dX9_ceiling_11 : decode cX9_ceiling 11 = .ok (.astore_n 2, 1) := by decide +kernel
theorem dX9_ceiling_12 : decode cX9_ceiling 12 = .ok (.aload_n 2, 1) := by decide +kernel
theorem dX9_ceiling_13 : decode cX9_ceiling 13 = .ok (.ifnonnull 9, 3) := by decide +kernel
theorem dX9_ceiling_16 : decode cX9_ceiling 16 = .ok (.invokestatic 220, 3) := by decide +kernel
theorem dX9_ceiling_19 : decode cX9_ceiling 19 = .ok (.goto 7, 3) := by decide +kernel
theorem dX9_ceiling_22 : decode cX9_ceiling 22 = .ok (.aload_n 2, 1) := by decide +kernel
theorem dX9_ceiling_23 : decode cX9_ceiling 23 = .ok (.getfield 121, 3) := by decide +kernel
theorem dX9_ceiling_26 : decode cX9_ceiling 26 = .ok (.freturn, 1) := by decide +kernel
theorem dX9_meter_0 : decode cX9_meter 0 = .ok (.iload_n 1, 1) := by decide +kernel
theorem dX9_meter_1 : decode cX9_meter 1 = .ok (.tableswitch 54 0 2 #[27, 35, 43], 27) := by decide +kernel
theorem dX9_meter_28 : decode cX9_meter 28 = .ok (.aload_n 0, 1) := by decide +kernel
theorem dX9_meter_29 : decode cX9_meter 29 = .ok (.getfield 10, 3) := by decide +kernel
theorem dX9_meter_32 : decode cX9_meter 32 = .ok (.getfield 227, 3) := by decide +kernel
theorem dX9_meter_35 : decode cX9_meter 35 = .ok (.freturn, 1) := by decide +kernel
theorem dX9_meter_36 : decode cX9_meter 36 = .ok (.aload_n 0, 1) := by decide +kernel
theorem dX9_meter_37 : decode cX9_meter 37 = .ok (.getfield 10, 3) := by decide +kernel
theorem dX9_meter_40 : decode cX9_meter 40 = .ok (.getfield 112, 3) := by decide +kernel
theorem dX9_meter_43 : decode cX9_meter 43 = .ok (.freturn, 1) := by decide +kernel
theorem dX9_meter_44 : decode cX9_meter 44 = .ok (.aload_n 0, 1) := by decide +kernel
theorem dX9_meter_45 : decode cX9_meter 45 = .ok (.getfield 10, 3) := by decide +kernel
theorem dX9_meter_48 : decode cX9_meter 48 = .ok (.getfield 46, 3) := by decide +kernel
theorem dX9_meter_51 : decode cX9_meter 51 = .ok (.invokevirtual 230, 3) := by decide +kernel
theorem dX9_meter_54 : decode cX9_meter 54 = .ok (.freturn, 1) := by decide +kernel
theorem dX9_meter_55 : decode cX9_meter 55 = .ok (.invokestatic 220, 3) := by decide +kernel
theorem dX9_meter_58 : decode cX9_meter 58 = .ok (.freturn, 1) := by decide +kernel
theorem dX9_job_0 : decode cX9_job 0 = .ok (.aload_n 0, 1) := by decide +kernel
theorem dX9_job_1 : decode cX9_job 1 = .ok (.getfield 10, 3) := by decide +kernel
theorem dX9_job_4 : decode cX9_job 4 = .ok (.getfield 124, 3) := by decide +kernel
theorem dX9_job_7 : decode cX9_job 7 = .ok (.iload_n 1, 1) := by decide +kernel
theorem dX9_job_8 : decode cX9_job 8 = .ok (.invokevirtual 141, 3) := by decide +kernel
theorem dX9_job_11 : decode cX9_job 11 = .ok (.astore_n 3, 1) := by decide +kernel
theorem dX9_job_12 : decode cX9_job 12 = .ok (.aload_n 3, 1) := by decide +kernel
theorem dX9_job_13 : decode cX9_job 13 = .ok (.ifnonnull 5, 3) := by decide +kernel
theorem dX9_job_16 : decode cX9_job 16 = .ok (.iconst (-1), 1) := by decide +kernel
theorem dX9_job_17 : decode cX9_job 17 = .ok (.ireturn, 1) := by decide +kernel
theorem dX9_job_18 : decode cX9_job 18 = .ok (.iload_n 2, 1) := by decide +kernel
theorem dX9_job_19 : decode cX9_job 19 = .ok (.iconst 0, 1) := by decide +kernel
theorem dX9_job_20 : decode cX9_job 20 = .ok (.bipush 11, 2) := by decide +kernel
theorem dX9_job_22 : decode cX9_job 22 = .ok (.invokestatic 73, 3) := by decide +kernel
theorem dX9_job_25 : decode cX9_job 25 = .ok (.ifCond .eq 11, 3) := by decide +kernel
theorem dX9_job_28 : decode cX9_job 28 = .ok (.aload_n 3, 1) := by decide +kernel
theorem dX9_job_29 : decode cX9_job 29 = .ok (.iload_n 2, 1) := by decide +kernel
theorem dX9_job_30 : decode cX9_job 30 = .ok (.invokevirtual 233, 3) := by decide +kernel
theorem dX9_job_33 : decode cX9_job 33 = .ok (.goto 5, 3) := by decide +kernel
theorem dX9_job_36 : decode cX9_job 36 = .ok (.bipush (-2), 2) := by decide +kernel
theorem dX9_job_38 : decode cX9_job 38 = .ok (.ireturn, 1) := by decide +kernel
theorem dX9_next_0 : decode cX9_next 0 = .ok (.aload_n 0, 1) := by decide +kernel
theorem dX9_next_1 : decode cX9_next 1 = .ok (.getfield 10, 3) := by decide +kernel
theorem dX9_next_4 : decode cX9_next 4 = .ok (.invokevirtual 237, 3) := by decide +kernel
theorem dX9_next_7 : decode cX9_next 7 = .ok (.ireturn, 1) := by decide +kernel
theorem dX9_count_0 : decode cX9_count 0 = .ok (.iload_n 1, 1) := by decide +kernel
theorem dX9_count_1 : decode cX9_count 1 = .ok (.tableswitch 229 0 19 #[95, 103, 111, 119, 127, 127, 127, 127, 127, 141, 152, 163, 163, 163, 178, 186, 194, 202, 213, 221], 95) := by decide +kernel
theorem dX9_count_96 : decode cX9_count 96 = .ok (.aload_n 0, 1) := by decide +kernel
theorem dX9_count_97 : decode cX9_count 97 = .ok (.getfield 10, 3) := by decide +kernel
theorem dX9_count_100 : decode cX9_count 100 = .ok (.getfield 153, 3) := by decide +kernel
theorem dX9_count_103 : decode cX9_count 103 = .ok (.ireturn, 1) := by decide +kernel
theorem dX9_count_104 : decode cX9_count 104 = .ok (.aload_n 0, 1) := by decide +kernel
theorem dX9_count_105 : decode cX9_count 105 = .ok (.getfield 10, 3) := by decide +kernel
theorem dX9_count_108 : decode cX9_count 108 = .ok (.getfield 257, 3) := by decide +kernel
theorem dX9_count_111 : decode cX9_count 111 = .ok (.ireturn, 1) := by decide +kernel
theorem dX9_count_112 : decode cX9_count 112 = .ok (.aload_n 0, 1) := by decide +kernel
theorem dX9_count_113 : decode cX9_count 113 = .ok (.getfield 10, 3) := by decide +kernel
theorem dX9_count_116 : decode cX9_count 116 = .ok (.getfield 260, 3) := by decide +kernel
theorem dX9_count_119 : decode cX9_count 119 = .ok (.ireturn, 1) := by decide +kernel
theorem dX9_count_120 : decode cX9_count 120 = .ok (.aload_n 0, 1) := by decide +kernel
theorem dX9_count_121 : decode cX9_count 121 = .ok (.getfield 10, 3) := by decide +kernel
theorem dX9_count_124 : decode cX9_count 124 = .ok (.getfield 263, 3) := by decide +kernel
theorem dX9_count_127 : decode cX9_count 127 = .ok (.ireturn, 1) := by decide +kernel
theorem dX9_count_128 : decode cX9_count 128 = .ok (.aload_n 0, 1) := by decide +kernel
theorem dX9_count_129 : decode cX9_count 129 = .ok (.getfield 10, 3) := by decide +kernel
theorem dX9_count_132 : decode cX9_count 132 = .ok (.getfield 124, 3) := by decide +kernel
theorem dX9_count_135 : decode cX9_count 135 = .ok (.iload_n 1, 1) := by decide +kernel
theorem dX9_count_136 : decode cX9_count 136 = .ok (.iconst 4, 1) := by decide +kernel
theorem dX9_count_137 : decode cX9_count 137 = .ok (.isub, 1) := by decide +kernel
theorem dX9_count_138 : decode cX9_count 138 = .ok (.invokevirtual 159, 3) := by decide +kernel
theorem dX9_count_141 : decode cX9_count 141 = .ok (.ireturn, 1) := by decide +kernel
theorem dX9_count_142 : decode cX9_count 142 = .ok (.aload_n 0, 1) := by decide +kernel
theorem dX9_count_143 : decode cX9_count 143 = .ok (.getfield 10, 3) := by decide +kernel
theorem dX9_count_146 : decode cX9_count 146 = .ok (.getfield 46, 3) := by decide +kernel
theorem dX9_count_149 : decode cX9_count 149 = .ok (.getfield 94, 3) := by decide +kernel
theorem dX9_count_152 : decode cX9_count 152 = .ok (.ireturn, 1) := by decide +kernel
theorem dX9_count_153 : decode cX9_count 153 = .ok (.aload_n 0, 1) := by decide +kernel
theorem dX9_count_154 : decode cX9_count 154 = .ok (.getfield 10, 3) := by decide +kernel
theorem dX9_count_157 : decode cX9_count 157 = .ok (.getfield 46, 3) := by decide +kernel
theorem dX9_count_160 : decode cX9_count 160 = .ok (.getfield 68, 3) := by decide +kernel
theorem dX9_count_163 : decode cX9_count 163 = .ok (.ireturn, 1) := by decide +kernel
theorem dX9_count_164 : decode cX9_count 164 = .ok (.aload_n 0, 1) := by decide +kernel
theorem dX9_count_165 : decode cX9_count 165 = .ok (.getfield 10, 3) := by decide +kernel
theorem dX9_count_168 : decode cX9_count 168 = .ok (.getfield 46, 3) := by decide +kernel
theorem dX9_count_171 : decode cX9_count 171 = .ok (.iload_n 1, 1) := by decide +kernel
theorem dX9_count_172 : decode cX9_count 172 = .ok (.bipush 10, 2) := by decide +kernel
theorem dX9_count_174 : decode cX9_count 174 = .ok (.isub, 1) := by decide +kernel
theorem dX9_count_175 : decode cX9_count 175 = .ok (.invokevirtual 266, 3) := by decide +kernel
theorem dX9_count_178 : decode cX9_count 178 = .ok (.ireturn, 1) := by decide +kernel
theorem dX9_count_179 : decode cX9_count 179 = .ok (.aload_n 0, 1) := by decide +kernel
theorem dX9_count_180 : decode cX9_count 180 = .ok (.getfield 10, 3) := by decide +kernel
theorem dX9_count_183 : decode cX9_count 183 = .ok (.getfield 269, 3) := by decide +kernel
theorem dX9_count_186 : decode cX9_count 186 = .ok (.ireturn, 1) := by decide +kernel
theorem dX9_count_187 : decode cX9_count 187 = .ok (.aload_n 0, 1) := by decide +kernel
theorem dX9_count_188 : decode cX9_count 188 = .ok (.getfield 10, 3) := by decide +kernel
theorem dX9_count_191 : decode cX9_count 191 = .ok (.getfield 270, 3) := by decide +kernel
theorem dX9_count_194 : decode cX9_count 194 = .ok (.ireturn, 1) := by decide +kernel
theorem dX9_count_195 : decode cX9_count 195 = .ok (.aload_n 0, 1) := by decide +kernel
theorem dX9_count_196 : decode cX9_count 196 = .ok (.getfield 10, 3) := by decide +kernel
theorem dX9_count_199 : decode cX9_count 199 = .ok (.getfield 273, 3) := by decide +kernel
theorem dX9_count_202 : decode cX9_count 202 = .ok (.ireturn, 1) := by decide +kernel
theorem dX9_count_203 : decode cX9_count 203 = .ok (.aload_n 0, 1) := by decide +kernel
theorem dX9_count_204 : decode cX9_count 204 = .ok (.getfield 10, 3) := by decide +kernel
theorem dX9_count_207 : decode cX9_count 207 = .ok (.getfield 46, 3) := by decide +kernel
theorem dX9_count_210 : decode cX9_count 210 = .ok (.invokevirtual 276, 3) := by decide +kernel
theorem dX9_count_213 : decode cX9_count 213 = .ok (.ireturn, 1) := by decide +kernel
theorem dX9_count_214 : decode cX9_count 214 = .ok (.aload_n 0, 1) := by decide +kernel
theorem dX9_count_215 : decode cX9_count 215 = .ok (.getfield 19, 3) := by decide +kernel
theorem dX9_count_218 : decode cX9_count 218 = .ok (.getfield 204, 3) := by decide +kernel
theorem dX9_count_221 : decode cX9_count 221 = .ok (.ireturn, 1) := by decide +kernel
theorem dX9_count_222 : decode cX9_count 222 = .ok (.aload_n 0, 1) := by decide +kernel
theorem dX9_count_223 : decode cX9_count 223 = .ok (.getfield 36, 3) := by decide +kernel
theorem dX9_count_226 : decode cX9_count 226 = .ok (.getfield 170, 3) := by decide +kernel
theorem dX9_count_229 : decode cX9_count 229 = .ok (.ireturn, 1) := by decide +kernel
theorem dX9_count_230 : decode cX9_count 230 = .ok (.bipush (-2), 2) := by decide +kernel
theorem dX9_count_232 : decode cX9_count 232 = .ok (.ireturn, 1) := by decide +kernel
theorem dX9_giveJob_0 : decode cX9_giveJob 0 = .ok (.aload_n 0, 1) := by decide +kernel
theorem dX9_giveJob_1 : decode cX9_giveJob 1 = .ok (.getfield 10, 3) := by decide +kernel
theorem dX9_giveJob_4 : decode cX9_giveJob 4 = .ok (.iload_n 1, 1) := by decide +kernel
theorem dX9_giveJob_5 : decode cX9_giveJob 5 = .ok (.iload_n 2, 1) := by decide +kernel
theorem dX9_giveJob_6 : decode cX9_giveJob 6 = .ok (.iload_n 3, 1) := by decide +kernel
theorem dX9_giveJob_7 : decode cX9_giveJob 7 = .ok (.invokevirtual 193, 3) := by decide +kernel
theorem dX9_giveJob_10 : decode cX9_giveJob 10 = .ok (.istore 4, 2) := by decide +kernel
theorem dX9_giveJob_12 : decode cX9_giveJob 12 = .ok (.iload 4, 2) := by decide +kernel
theorem dX9_giveJob_14 : decode cX9_giveJob 14 = .ok (.bipush (-5), 2) := by decide +kernel
theorem dX9_giveJob_16 : decode cX9_giveJob 16 = .ok (.if_icmp .eq 6, 3) := by decide +kernel
theorem dX9_giveJob_19 : decode cX9_giveJob 19 = .ok (.iload 4, 2) := by decide +kernel
theorem dX9_giveJob_21 : decode cX9_giveJob 21 = .ok (.ireturn, 1) := by decide +kernel
theorem dX9_giveJob_22 : decode cX9_giveJob 22 = .ok (.aload_n 0, 1) := by decide +kernel
theorem dX9_giveJob_23 : decode cX9_giveJob 23 = .ok (.getfield 10, 3) := by decide +kernel
theorem dX9_giveJob_26 : decode cX9_giveJob 26 = .ok (.getfield 124, 3) := by decide +kernel
theorem dX9_giveJob_29 : decode cX9_giveJob 29 = .ok (.getfield 196, 3) := by decide +kernel
theorem dX9_giveJob_32 : decode cX9_giveJob 32 = .ok (.bipush 30, 2) := by decide +kernel
theorem dX9_giveJob_34 : decode cX9_giveJob 34 = .ok (.if_icmp .lt 6, 3) := by decide +kernel
theorem dX9_giveJob_37 : decode cX9_giveJob 37 = .ok (.bipush (-3), 2) := by decide +kernel
theorem dX9_giveJob_39 : decode cX9_giveJob 39 = .ok (.ireturn, 1) := by decide +kernel
theorem dX9_giveJob_40 : decode cX9_giveJob 40 = .ok (.aload_n 0, 1) := by decide +kernel
theorem dX9_giveJob_41 : decode cX9_giveJob 41 = .ok (.getfield 19, 3) := by decide +kernel
theorem dX9_giveJob_44 : decode cX9_giveJob 44 = .ok (.aload_n 0, 1) := by decide +kernel
theorem dX9_giveJob_45 : decode cX9_giveJob 45 = .ok (.getfield 10, 3) := by decide +kernel
theorem dX9_giveJob_48 : decode cX9_giveJob 48 = .ok (.invokevirtual 58, 3) := by decide +kernel
theorem dX9_giveJob_51 : decode cX9_giveJob 51 = .ok (.aload_n 0, 1) := by decide +kernel
theorem dX9_giveJob_52 : decode cX9_giveJob 52 = .ok (.getfield 10, 3) := by decide +kernel
theorem dX9_giveJob_55 : decode cX9_giveJob 55 = .ok (.getfield 124, 3) := by decide +kernel
theorem dX9_giveJob_58 : decode cX9_giveJob 58 = .ok (.iload_n 1, 1) := by decide +kernel
theorem dX9_giveJob_59 : decode cX9_giveJob 59 = .ok (.iload_n 2, 1) := by decide +kernel
theorem dX9_giveJob_60 : decode cX9_giveJob 60 = .ok (.iload_n 3, 1) := by decide +kernel
theorem dX9_giveJob_61 : decode cX9_giveJob 61 = .ok (.invokevirtual 197, 3) := by decide +kernel
theorem dX9_giveJob_64 : decode cX9_giveJob 64 = .ok (.ireturn, 1) := by decide +kernel
theorem dX9_isFrom_0 : decode cX9_isFrom 0 = .ok (.iload_n 0, 1) := by decide +kernel
theorem dX9_isFrom_1 : decode cX9_isFrom 1 = .ok (.iload_n 1, 1) := by decide +kernel
theorem dX9_isFrom_2 : decode cX9_isFrom 2 = .ok (.if_icmp .lt 12, 3) := by decide +kernel
theorem dX9_isFrom_5 : decode cX9_isFrom 5 = .ok (.iload_n 0, 1) := by decide +kernel
theorem dX9_isFrom_6 : decode cX9_isFrom 6 = .ok (.iload_n 2, 1) := by decide +kernel
theorem dX9_isFrom_7 : decode cX9_isFrom 7 = .ok (.if_icmp .gt 7, 3) := by decide +kernel
theorem dX9_isFrom_10 : decode cX9_isFrom 10 = .ok (.iconst 1, 1) := by decide +kernel
theorem dX9_isFrom_11 : decode cX9_isFrom 11 = .ok (.goto 4, 3) := by decide +kernel
theorem dX9_isFrom_14 : decode cX9_isFrom 14 = .ok (.iconst 0, 1) := by decide +kernel
theorem dX9_isFrom_15 : decode cX9_isFrom 15 = .ok (.ireturn, 1) := by decide +kernel
theorem dX9_floatOf_0 : decode cX9_floatOf 0 = .ok (.iload_n 0, 1) := by decide +kernel
theorem dX9_floatOf_1 : decode cX9_floatOf 1 = .ok (.bipush 23, 2) := by decide +kernel
theorem dX9_floatOf_3 : decode cX9_floatOf 3 = .ok (.iushr, 1) := by decide +kernel
theorem dX9_floatOf_4 : decode cX9_floatOf 4 = .ok (.istore_n 1, 1) := by decide +kernel
theorem dX9_floatOf_5 : decode cX9_floatOf 5 = .ok (.iload_n 0, 1) := by decide +kernel
theorem dX9_floatOf_6 : decode cX9_floatOf 6 = .ok (.ldc_w 279, 3) := by decide +kernel
theorem dX9_floatOf_9 : decode cX9_floatOf 9 = .ok (.iand, 1) := by decide +kernel
theorem dX9_floatOf_10 : decode cX9_floatOf 10 = .ok (.istore_n 2, 1) := by decide +kernel
theorem dX9_floatOf_11 : decode cX9_floatOf 11 = .ok (.iload_n 1, 1) := by decide +kernel
theorem dX9_floatOf_12 : decode cX9_floatOf 12 = .ok (.ifCond .ne 7, 3) := by decide +kernel
theorem dX9_floatOf_15 : decode cX9_floatOf 15 = .ok (.iload_n 2, 1) := by decide +kernel
theorem dX9_floatOf_16 : decode cX9_floatOf 16 = .ok (.goto 8, 3) := by decide +kernel
theorem dX9_floatOf_19 : decode cX9_floatOf 19 = .ok (.iload_n 2, 1) := by decide +kernel
theorem dX9_floatOf_20 : decode cX9_floatOf 20 = .ok (.ldc_w 280, 3) := by decide +kernel
theorem dX9_floatOf_23 : decode cX9_floatOf 23 = .ok (.ior, 1) := by decide +kernel
theorem dX9_floatOf_24 : decode cX9_floatOf 24 = .ok (.i2f, 1) := by decide +kernel
theorem dX9_floatOf_25 : decode cX9_floatOf 25 = .ok (.fstore_n 3, 1) := by decide +kernel
theorem dX9_floatOf_26 : decode cX9_floatOf 26 = .ok (.iload_n 1, 1) := by decide +kernel
theorem dX9_floatOf_27 : decode cX9_floatOf 27 = .ok (.ifCond .ne 9, 3) := by decide +kernel
theorem dX9_floatOf_30 : decode cX9_floatOf 30 = .ok (.sipush 149, 3) := by decide +kernel
theorem dX9_floatOf_33 : decode cX9_floatOf 33 = .ok (.goto 8, 3) := by decide +kernel
theorem dX9_floatOf_36 : decode cX9_floatOf 36 = .ok (.sipush 150, 3) := by decide +kernel
theorem dX9_floatOf_39 : decode cX9_floatOf 39 = .ok (.iload_n 1, 1) := by decide +kernel
theorem dX9_floatOf_40 : decode cX9_floatOf 40 = .ok (.isub, 1) := by decide +kernel
theorem dX9_floatOf_41 : decode cX9_floatOf 41 = .ok (.istore 4, 2) := by decide +kernel
theorem dX9_floatOf_43 : decode cX9_floatOf 43 = .ok (.iconst 0, 1) := by decide +kernel
theorem dX9_floatOf_44 : decode cX9_floatOf 44 = .ok (.istore 5, 2) := by decide +kernel
theorem dX9_floatOf_46 : decode cX9_floatOf 46 = .ok (.iload 5, 2) := by decide +kernel
theorem dX9_floatOf_48 : decode cX9_floatOf 48 = .ok (.iload 4, 2) := by decide +kernel
theorem dX9_floatOf_50 : decode cX9_floatOf 50 = .ok (.if_icmp .ge 15, 3) := by decide +kernel
theorem dX9_floatOf_53 : decode cX9_floatOf 53 = .ok (.fload_n 3, 1) := by decide +kernel
theorem dX9_floatOf_54 : decode cX9_floatOf 54 = .ok (.ldc_w 281, 3) := by decide +kernel
theorem dX9_floatOf_57 : decode cX9_floatOf 57 = .ok (.fmul, 1) := by decide +kernel
theorem dX9_floatOf_58 : decode cX9_floatOf 58 = .ok (.fstore_n 3, 1) := by decide +kernel
theorem dX9_floatOf_59 : decode cX9_floatOf 59 = .ok (.iinc 5 1, 3) := by decide +kernel
theorem dX9_floatOf_62 : decode cX9_floatOf 62 = .ok (.goto (-16), 3) := by decide +kernel
theorem dX9_floatOf_65 : decode cX9_floatOf 65 = .ok (.fload_n 3, 1) := by decide +kernel
theorem dX9_floatOf_66 : decode cX9_floatOf 66 = .ok (.freturn, 1) := by decide +kernel
theorem dX9_noNumber_0 : decode cX9_noNumber 0 = .ok (.ldc_w 282, 3) := by decide +kernel
theorem dX9_noNumber_3 : decode cX9_noNumber 3 = .ok (.freturn, 1) := by decide +kernel
theorem dL_cell_0 : decode cL_cell 0 = .ok (.iload_n 1, 1) := by decide +kernel
theorem dL_cell_1 : decode cL_cell 1 = .ok (.aload_n 0, 1) := by decide +kernel
theorem dL_cell_2 : decode cL_cell 2 = .ok (.arraylength, 1) := by decide +kernel
theorem dL_cell_3 : decode cL_cell 3 = .ok (.if_icmp .ge 9, 3) := by decide +kernel
theorem dL_cell_6 : decode cL_cell 6 = .ok (.aload_n 0, 1) := by decide +kernel
theorem dL_cell_7 : decode cL_cell 7 = .ok (.iload_n 1, 1) := by decide +kernel
theorem dL_cell_8 : decode cL_cell 8 = .ok (.iaload, 1) := by decide +kernel
theorem dL_cell_9 : decode cL_cell 9 = .ok (.goto 9, 3) := by decide +kernel
theorem dL_cell_12 : decode cL_cell 12 = .ok (.ldc 7, 2) := by decide +kernel
theorem dL_cell_14 : decode cL_cell 14 = .ok (.iload_n 1, 1) := by decide +kernel
theorem dL_cell_15 : decode cL_cell 15 = .ok (.iconst 1, 1) := by decide +kernel
theorem dL_cell_16 : decode cL_cell 16 = .ok (.iadd, 1) := by decide +kernel
theorem dL_cell_17 : decode cL_cell 17 = .ok (.imul, 1) := by decide +kernel
theorem dL_cell_18 : decode cL_cell 18 = .ok (.ireturn, 1) := by decide +kernel
theorem dL_low_0 : decode cL_low 0 = .ok (.iload_n 0, 1) := by decide +kernel
theorem dL_low_1 : decode cL_low 1 = .ok (.ldc 8, 2) := by decide +kernel
theorem dL_low_3 : decode cL_low 3 = .ok (.iand, 1) := by decide +kernel
theorem dL_low_4 : decode cL_low 4 = .ok (.iload_n 1, 1) := by decide +kernel
theorem dL_low_5 : decode cL_low 5 = .ok (.irem, 1) := by decide +kernel
theorem dL_low_6 : decode cL_low 6 = .ok (.ireturn, 1) := by decide +kernel
theorem dL_bits_0 : decode cL_bits 0 = .ok (.iconst 0, 1) := by decide +kernel
theorem dL_bits_1 : decode cL_bits 1 = .ok (.istore_n 1, 1) := by decide +kernel
theorem dL_bits_2 : decode cL_bits 2 = .ok (.iload_n 0, 1) := by decide +kernel
theorem dL_bits_3 : decode cL_bits 3 = .ok (.iload_n 1, 1) := by decide +kernel
theorem dL_bits_4 : decode cL_bits 4 = .ok (.ishr, 1) := by decide +kernel
theorem dL_bits_5 : decode cL_bits 5 = .ok (.iconst 1, 1) := by decide +kernel
theorem dL_bits_6 : decode cL_bits 6 = .ok (.if_icmp .le 9, 3) := by decide +kernel
theorem dL_bits_9 : decode cL_bits 9 = .ok (.iinc 1 1, 3) := by decide +kernel
