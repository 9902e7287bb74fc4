theorem dX0_init_0 : decode cX0_init 0 = .ok (.aload_n 0, 1) := by decide +kernel
theorem dX0_init_1 : decode cX0_init 1 = .ok (.invokespecial 3, 3) := by decide +kernel
theorem dX0_init_4 : decode cX0_init 4 = .ok (.return_, 1) := by decide +kernel
theorem dX0_begin_0 : decode cX0_begin 0 = .ok (.aload_n 0, 1) := by decide +kernel
theorem dX0_begin_1 : decode cX0_begin 1 = .ok (.iload_n 1, 1) := by decide +kernel
theorem dX0_begin_2 : decode cX0_begin 2 = .ok (.putfield 9, 3) := by decide +kernel
theorem dX0_begin_5 : decode cX0_begin 5 = .ok (.aload_n 0, 1) := by decide +kernel
theorem dX0_begin_6 : decode cX0_begin 6 = .ok (.fconst 0, 1) := by decide +kernel
theorem dX0_begin_7 : decode cX0_begin 7 = .ok (.putfield 15, 3) := by decide +kernel
theorem dX0_begin_10 : decode cX0_begin 10 = .ok (.aload_n 0, 1) := by decide +kernel
theorem dX0_begin_11 : decode cX0_begin 11 = .ok (.ldc 19, 2) := by decide +kernel
theorem dX0_begin_13 : decode cX0_begin 13 = .ok (.putfield 20, 3) := by decide +kernel
theorem dX0_begin_16 : decode cX0_begin 16 = .ok (.aload_n 0, 1) := by decide +kernel
theorem dX0_begin_17 : decode cX0_begin 17 = .ok (.iconst 0, 1) := by decide +kernel
theorem dX0_begin_18 : decode cX0_begin 18 = .ok (.putfield 23, 3) := by decide +kernel
theorem dX0_begin_21 : decode cX0_begin 21 = .ok (.aload_n 0, 1) := by decide +kernel
theorem dX0_begin_22 : decode cX0_begin 22 = .ok (.iconst 0, 1) := by decide +kernel
theorem dX0_begin_23 : decode cX0_begin 23 = .ok (.putfield 26, 3) := by decide +kernel
theorem dX0_begin_26 : decode cX0_begin 26 = .ok (.aload_n 0, 1) := by decide +kernel
theorem dX0_begin_27 : decode cX0_begin 27 = .ok (.iconst 0, 1) := by decide +kernel
theorem dX0_begin_28 : decode cX0_begin 28 = .ok (.putfield 29, 3) := by decide +kernel
theorem dX0_begin_31 : decode cX0_begin 31 = .ok (.aload_n 0, 1) := by decide +kernel
theorem dX0_begin_32 : decode cX0_begin 32 = .ok (.bipush (-5), 2) := by decide +kernel
theorem dX0_begin_34 : decode cX0_begin 34 = .ok (.putfield 32, 3) := by decide +kernel
theorem dX0_begin_37 : decode cX0_begin 37 = .ok (.return_, 1) := by decide +kernel
theorem dX0_copyFrom_0 : decode cX0_copyFrom 0 = .ok (.aload_n 0, 1) := by decide +kernel
theorem dX0_copyFrom_1 : decode cX0_copyFrom 1 = .ok (.aload_n 1, 1) := by decide +kernel
theorem dX0_copyFrom_2 : decode cX0_copyFrom 2 = .ok (.getfield 9, 3) := by decide +kernel
theorem dX0_copyFrom_5 : decode cX0_copyFrom 5 = .ok (.putfield 9, 3) := by decide +kernel
theorem dX0_copyFrom_8 : decode cX0_copyFrom 8 = .ok (.aload_n 0, 1) := by decide +kernel
theorem dX0_copyFrom_9 : decode cX0_copyFrom 9 = .ok (.aload_n 1, 1) := by decide +kernel
theorem dX0_copyFrom_10 : decode cX0_copyFrom 10 = .ok (.getfield 15, 3) := by decide +kernel
theorem dX0_copyFrom_13 : decode cX0_copyFrom 13 = .ok (.putfield 15, 3) := by decide +kernel
theorem dX0_copyFrom_16 : decode cX0_copyFrom 16 = .ok (.aload_n 0, 1) := by decide +kernel
theorem dX0_copyFrom_17 : decode cX0_copyFrom 17 = .ok (.aload_n 1, 1) := by decide +kernel
theorem dX0_copyFrom_18 : decode cX0_copyFrom 18 = .ok (.getfield 20, 3) := by decide +kernel
theorem dX0_copyFrom_21 : decode cX0_copyFrom 21 = .ok (.putfield 20, 3) := by decide +kernel
theorem dX0_copyFrom_24 : decode cX0_copyFrom 24 = .ok (.aload_n 0, 1) := by decide +kernel
theorem dX0_copyFrom_25 : decode cX0_copyFrom 25 = .ok (.aload_n 1, 1) := by decide +kernel
theorem dX0_copyFrom_26 : decode cX0_copyFrom 26 = .ok (.getfield 23, 3) := by decide +kernel
theorem dX0_copyFrom_29 : decode cX0_copyFrom 29 = .ok (.putfield 23, 3) := by decide +kernel
theorem dX0_copyFrom_32 : decode cX0_copyFrom 32 = .ok (.aload_n 0, 1) := by decide +kernel
theorem dX0_copyFrom_33 : decode cX0_copyFrom 33 = .ok (.aload_n 1, 1) := by decide +kernel
theorem dX0_copyFrom_34 : decode cX0_copyFrom 34 = .ok (.getfield 26, 3) := by decide +kernel
theorem dX0_copyFrom_37 : decode cX0_copyFrom 37 = .ok (.putfield 26, 3) := by decide +kernel
theorem dX0_copyFrom_40 : decode cX0_copyFrom 40 = .ok (.aload_n 0, 1) := by decide +kernel
theorem dX0_copyFrom_41 : decode cX0_copyFrom 41 = .ok (.aload_n 1, 1) := by decide +kernel
theorem dX0_copyFrom_42 : decode cX0_copyFrom 42 = .ok (.getfield 29, 3) := by decide +kernel
theorem dX0_copyFrom_45 : decode cX0_copyFrom 45 = .ok (.putfield 29, 3) := by decide +kernel
theorem dX0_copyFrom_48 : decode cX0_copyFrom 48 = .ok (.aload_n 0, 1) := by decide +kernel
theorem dX0_copyFrom_49 : decode cX0_copyFrom 49 = .ok (.aload_n 1, 1) := by decide +kernel
theorem dX0_copyFrom_50 : decode cX0_copyFrom 50 = .ok (.getfield 32, 3) := by decide +kernel
theorem dX0_copyFrom_53 : decode cX0_copyFrom 53 = .ok (.putfield 32, 3) := by decide +kernel
theorem dX0_copyFrom_56 : decode cX0_copyFrom 56 = .ok (.return_, 1) := by decide +kernel
theorem dX0_isTooDusty_0 : decode cX0_isTooDusty 0 = .ok (.aload_n 0, 1) := by decide +kernel
theorem dX0_isTooDusty_1 : decode cX0_isTooDusty 1 = .ok (.getfield 15, 3) := by decide +kernel
theorem dX0_isTooDusty_4 : decode cX0_isTooDusty 4 = .ok (.aload_n 0, 1) := by decide +kernel
theorem dX0_isTooDusty_5 : decode cX0_isTooDusty 5 = .ok (.getfield 20, 3) := by decide +kernel
theorem dX0_isTooDusty_8 : decode cX0_isTooDusty 8 = .ok (.fcmp .l, 1) := by decide +kernel
theorem dX0_isTooDusty_9 : decode cX0_isTooDusty 9 = .ok (.ifCond .le 7, 3) := by decide +kernel
theorem dX0_isTooDusty_12 : decode cX0_isTooDusty 12 = .ok (.iconst 1, 1) := by decide +kernel
theorem dX0_isTooDusty_13 : decode cX0_isTooDusty 13 = .ok (.goto 4, 3) := by decide +kernel
theorem dX0_isTooDusty_16 : decode cX0_isTooDusty 16 = .ok (.iconst 0, 1) := by decide +kernel
theorem dX0_isTooDusty_17 : decode cX0_isTooDusty 17 = .ok (.ireturn, 1) := by decide +kernel
theorem dX0_readTape_0 : decode cX0_readTape 0 = .ok (.aload_n 0, 1) := by decide +kernel
theorem dX0_readTape_1 : decode cX0_readTape 1 = .ok (.getfield 15, 3) := by decide +kernel
theorem dX0_readTape_4 : decode cX0_readTape 4 = .ok (.aload_n 1, 1) := by decide +kernel
theorem dX0_readTape_5 : decode cX0_readTape 5 = .ok (.getfield 35, 3) := by decide +kernel
theorem dX0_readTape_8 : decode cX0_readTape 8 = .ok (.fmul, 1) := by decide +kernel
theorem dX0_readTape_9 : decode cX0_readTape 9 = .ok (.ldc 40, 2) := by decide +kernel
theorem dX0_readTape_11 : decode cX0_readTape 11 = .ok (.fcmp .l, 1) := by decide +kernel
theorem dX0_readTape_12 : decode cX0_readTape 12 = .ok (.ifCond .gt 7, 3) := by decide +kernel
theorem dX0_readTape_15 : decode cX0_readTape 15 = .ok (.iconst 1, 1) := by decide +kernel
theorem dX0_readTape_16 : decode cX0_readTape 16 = .ok (.goto 4, 3) := by decide +kernel
theorem dX0_readTape_19 : decode cX0_readTape 19 = .ok (.iconst 0, 1) := by decide +kernel
theorem dX0_readTape_20 : decode cX0_readTape 20 = .ok (.istore_n 2, 1) := by decide +kernel
theorem dX0_readTape_21 : decode cX0_readTape 21 = .ok (.aload_n 0, 1) := by decide +kernel
theorem dX0_readTape_22 : decode cX0_readTape 22 = .ok (.aload_n 0, 1) := by decide +kernel
theorem dX0_readTape_23 : decode cX0_readTape 23 = .ok (.getfield 15, 3) := by decide +kernel
theorem dX0_readTape_26 : decode cX0_readTape 26 = .ok (.fconst 1, 1) := by decide +kernel
theorem dX0_readTape_27 : decode cX0_readTape 27 = .ok (.aload_n 1, 1) := by decide +kernel
theorem dX0_readTape_28 : decode cX0_readTape 28 = .ok (.getfield 41, 3) := by decide +kernel
theorem dX0_readTape_31 : decode cX0_readTape 31 = .ok (.i2f, 1) := by decide +kernel
theorem dX0_readTape_32 : decode cX0_readTape 32 = .ok (.ldc 44, 2) := by decide +kernel
theorem dX0_readTape_34 : decode cX0_readTape 34 = .ok (.fmul, 1) := by decide +kernel
theorem dX0_readTape_35 : decode cX0_readTape 35 = .ok (.fadd, 1) := by decide +kernel
theorem dX0_readTape_36 : decode cX0_readTape 36 = .ok (.fadd, 1) := by decide +kernel
theorem dX0_readTape_37 : decode cX0_readTape 37 = .ok (.putfield 15, 3) := by decide +kernel
theorem dX0_readTape_40 : decode cX0_readTape 40 = .ok (.aload_n 1, 1) := by decide +kernel
theorem dX0_readTape_41 : decode cX0_readTape 41 = .ok (.dup, 1) := by decide +kernel
theorem dX0_readTape_42 : decode cX0_readTape 42 = .ok (.getfield 41, 3) := by decide +kernel
theorem dX0_readTape_45 : decode cX0_readTape 45 = .ok (.iconst 1, 1) := by decide +kernel
theorem dX0_readTape_46 : decode cX0_readTape 46 = .ok (.iadd, 1) := by decide +kernel
theorem dX0_readTape_47 : decode cX0_readTape 47 = .ok (.putfield 41, 3) := by decide +kernel
theorem dX0_readTape_50 : decode cX0_readTape 50 = .ok (.aload_n 0, 1) := by decide +kernel
theorem dX0_readTape_51 : decode cX0_readTape 51 = .ok (.dup, 1) := by decide +kernel
theorem dX0_readTape_52 : decode cX0_readTape 52 = .ok (.getfield 23, 3) := by decide +kernel
theorem dX0_readTape_55 : decode cX0_readTape 55 = .ok (.iconst 1, 1) := by decide +kernel
theorem dX0_readTape_56 : decode cX0_readTape 56 = .ok (.iadd, 1) := by decide +kernel
theorem dX0_readTape_57 : decode cX0_readTape 57 = .ok (.putfield 23, 3) := by decide +kernel
theorem dX0_readTape_60 : decode cX0_readTape 60 = .ok (.iload_n 2, 1) := by decide +kernel
theorem dX0_readTape_61 : decode cX0_readTape 61 = .ok (.ifCond .ne 23, 3) := by decide +kernel
theorem dX0_readTape_64 : decode cX0_readTape 64 = .ok (.aload_n 0, 1) := by decide +kernel
theorem dX0_readTape_65 : decode cX0_readTape 65 = .ok (.dup, 1) := by decide +kernel
theorem dX0_readTape_66 : decode cX0_readTape 66 = .ok (.getfield 26, 3) := by decide +kernel
theorem dX0_readTape_69 : decode cX0_readTape 69 = .ok (.iconst 1, 1) := by decide +kernel
theorem dX0_readTape_70 : decode cX0_readTape 70 = .ok (.iadd, 1) := by decide +kernel
theorem dX0_readTape_71 : decode cX0_readTape 71 = .ok (.putfield 26, 3) := by decide +kernel
theorem dX0_readTape_74 : decode cX0_readTape 74 = .ok (.aload_n 1, 1) := by decide +kernel
theorem dX0_readTape_75 : decode cX0_readTape 75 = .ok (.dup, 1) := by decide +kernel
theorem dX0_readTape_76 : decode cX0_readTape 76 = .ok (.getfield 45, 3) := by decide +kernel
theorem dX0_readTape_79 : decode cX0_readTape 79 = .ok (.iconst 1, 1) := by decide +kernel
theorem dX0_readTape_80 : decode cX0_readTape 80 = .ok (.iadd, 1) := by decide +kernel
theorem dX0_readTape_81 : decode cX0_readTape 81 = .ok (.putfield 45, 3) := by decide +kernel
theorem dX0_readTape_84 : decode cX0_readTape 84 = .ok (.iload_n 2, 1) := by decide +kernel
theorem dX0_readTape_85 : decode cX0_readTape 85 = .ok (.ireturn, 1) := by decide +kernel
theorem dX0_cleanWith_0 : decode cX0_cleanWith 0 = .ok (.aload_n 0, 1) := by decide +kernel
theorem dX0_cleanWith_1 : decode cX0_cleanWith 1 = .ok (.aload_n 0, 1) := by decide +kernel
theorem dX0_cleanWith_2 : decode cX0_cleanWith 2 = .ok (.getfield 15, 3) := by decide +kernel
theorem dX0_cleanWith_5 : decode cX0_cleanWith 5 = .ok (.ldc 44, 2) := by decide +kernel
theorem dX0_cleanWith_7 : decode cX0_cleanWith 7 = .ok (.fmul, 1) := by decide +kernel
theorem dX0_cleanWith_8 : decode cX0_cleanWith 8 = .ok (.putfield 15, 3) := by decide +kernel
theorem dX0_cleanWith_11 : decode cX0_cleanWith 11 = .ok (.aload_n 1, 1) := by decide +kernel
theorem dX0_cleanWith_12 : decode cX0_cleanWith 12 = .ok (.dup, 1) := by decide +kernel
theorem dX0_cleanWith_13 : decode cX0_cleanWith 13 = .ok (.getfield 41, 3) := by decide +kernel
theorem dX0_cleanWith_16 : decode cX0_cleanWith 16 = .ok (.iconst 1, 1) := by decide +kernel
theorem dX0_cleanWith_17 : decode cX0_cleanWith 17 = .ok (.isub, 1) := by decide +kernel
theorem dX0_cleanWith_18 : decode cX0_cleanWith 18 = .ok (.putfield 41, 3) := by decide +kernel
theorem dX0_cleanWith_21 : decode cX0_cleanWith 21 = .ok (.aload_n 0, 1) := by decide +kernel
theorem dX0_cleanWith_22 : decode cX0_cleanWith 22 = .ok (.dup, 1) := by decide +kernel
theorem dX0_cleanWith_23 : decode cX0_cleanWith 23 = .ok (.getfield 29, 3) := by decide +kernel
theorem dX0_cleanWith_26 : decode cX0_cleanWith 26 = .ok (.iconst 1, 1) := by decide +kernel
theorem dX0_cleanWith_27 : decode cX0_cleanWith 27 = .ok (.iadd, 1) := by decide +kernel
theorem dX0_cleanWith_28 : decode cX0_cleanWith 28 = .ok (.putfield 29, 3) := by decide +kernel
theorem dX0_cleanWith_31 : decode cX0_cleanWith 31 = .ok (.return_, 1) := by decide +kernel
theorem dX0_tell_0 : decode cX0_tell 0 = .ok (.iload_n 1, 1) := by decide +kernel
theorem dX0_tell_1 : decode cX0_tell 1 = .ok (.tableswitch 60 0 4 #[35, 40, 45, 50, 55], 35) := by decide +kernel
theorem dX0_tell_36 : decode cX0_tell 36 = .ok (.aload_n 0, 1) := by decide +kernel
theorem dX0_tell_37 : decode cX0_tell 37 = .ok (.getfield 9, 3) := by decide +kernel
theorem dX0_tell_40 : decode cX0_tell 40 = .ok (.ireturn, 1) := by decide +kernel
theorem dX0_tell_41 : decode cX0_tell 41 = .ok (.aload_n 0, 1) := by decide +kernel
theorem dX0_tell_42 : decode cX0_tell 42 = .ok (.getfield 23, 3) := by decide +kernel
theorem dX0_tell_45 : decode cX0_tell 45 = .ok (.ireturn, 1) := by decide +kernel
theorem dX0_tell_46 : decode cX0_tell 46 = .ok (.aload_n 0, 1) := by decide +kernel
theorem dX0_tell_47 : decode cX0_tell 47 = .ok (.getfield 26, 3) := by decide +kernel
theorem dX0_tell_50 : decode cX0_tell 50 = .ok (.ireturn, 1) := by decide +kernel
theorem dX0_tell_51 : decode cX0_tell 51 = .ok (.aload_n 0, 1) := by decide +kernel
theorem dX0_tell_52 : decode cX0_tell 52 = .ok (.getfield 29, 3) := by decide +kernel
theorem dX0_tell_55 : decode cX0_tell 55 = .ok (.ireturn, 1) := by decide +kernel
theorem dX0_tell_56 : decode cX0_tell 56 = .ok (.aload_n 0, 1) := by decide +kernel
theorem dX0_tell_57 : decode cX0_tell 57 = .ok (.getfield 32, 3) := by decide +kernel
theorem dX0_tell_60 : decode cX0_tell 60 = .ok (.ireturn, 1) := by decide +kernel
theorem dX0_tell_61 : decode cX0_tell 61 = .ok (.aload_n 0, 1) := by decide +kernel
theorem dX0_tell_62 : decode cX0_tell 62 = .ok (.invokevirtual 46, 3) := by decide +kernel
theorem dX0_tell_65 : decode cX0_tell 65 = .ok (.ifCond .eq 7, 3) := by decide +kernel
theorem dX0_tell_68 : decode cX0_tell 68 = .ok (.iconst 1, 1) := by decide +kernel
theorem dX0_tell_69 : decode cX0_tell 69 = .ok (.goto 4, 3) := by decide +kernel
theorem dX0_tell_72 : decode cX0_tell 72 = .ok (.iconst 0, 1) := by decide +kernel
theorem dX0_tell_73 : decode cX0_tell 73 = .ok (.ireturn, 1) := by decide +kernel
theorem dX1_init_0 : decode cX1_init 0 = .ok (.aload_n 0, 1) := by decide +kernel
theorem dX1_init_1 : decode cX1_init 1 = .ok (.invokespecial 3, 3) := by decide +kernel
theorem dX1_init_4 : decode cX1_init 4 = .ok (.aload_n 0, 1) := by decide +kernel
theorem dX1_init_5 : decode cX1_init 5 = .ok (.iconst 4, 1) := by decide +kernel
theorem dX1_init_6 : decode cX1_init 6 = .ok (.anewarray 9, 3) := by decide +kernel
theorem dX1_init_9 : decode cX1_init 9 = .ok (.putfield 11, 3) := by decide +kernel
theorem dX1_init_12 : decode cX1_init 12 = .ok (.iconst 0, 1) := by decide +kernel
theorem dX1_init_13 : decode cX1_init 13 = .ok (.istore_n 1, 1) := by decide +kernel
theorem dX1_init_14 : decode cX1_init 14 = .ok (.iload_n 1, 1) := by decide +kernel
theorem dX1_init_15 : decode cX1_init 15 = .ok (.aload_n 0, 1) := by decide +kernel
theorem dX1_init_16 : decode cX1_init 16 = .ok (.getfield 11, 3) := by decide +kernel
theorem dX1_init_19 : decode cX1_init 19 = .ok (.arraylength, 1) := by decide +kernel
theorem dX1_init_20 : decode cX1_init 20 = .ok (.if_icmp .ge 22, 3) := by decide +kernel
theorem dX1_init_23 : decode cX1_init 23 = .ok (.aload_n 0, 1) := by decide +kernel
theorem dX1_init_24 : decode cX1_init 24 = .ok (.getfield 11, 3) := by decide +kernel
theorem dX1_init_27 : decode cX1_init 27 = .ok (.iload_n 1, 1) := by decide +kernel
theorem dX1_init_28 : decode cX1_init 28 = .ok (.new 9, 3) := by decide +kernel
theorem dX1_init_31 : decode cX1_init 31 = .ok (.dup, 1) := by decide +kernel
theorem dX1_init_32 : decode cX1_init 32 = .ok (.invokespecial 17, 3) := by decide +kernel
theorem dX1_init_35 : decode cX1_init 35 = .ok (.aastore, 1) := by decide +kernel
theorem dX1_init_36 : decode cX1_init 36 = .ok (.iinc 1 1, 3) := by decide +kernel
theorem dX1_init_39 : decode cX1_init 39 = .ok (.goto (-25), 3) := by decide +kernel
theorem dX1_init_42 : decode cX1_init 42 = .ok (.aload_n 0, 1) := by decide +kernel
theorem dX1_init_43 : decode cX1_init 43 = .ok (.iconst 0, 1) := by decide +kernel
theorem dX1_init_44 : decode cX1_init 44 = .ok (.putfield 18, 3) := by decide +kernel
theorem dX1_init_47 : decode cX1_init 47 = .ok (.return_, 1) := by decide +kernel
theorem dX1_record_0 : decode cX1_record 0 = .ok (.aload_n 0, 1) := by decide +kernel
theorem dX1_record_1 : decode cX1_record 1 = .ok (.getfield 18, 3) := by decide +kernel
theorem dX1_record_4 : decode cX1_record 4 = .ok (.aload_n 0, 1) := by decide +kernel
theorem dX1_record_5 : decode cX1_record 5 = .ok (.getfield 11, 3) := by decide +kernel
theorem dX1_record_8 : decode cX1_record 8 = .ok (.arraylength, 1) := by decide +kernel
theorem dX1_record_9 : decode cX1_record 9 = .ok (.if_icmp .lt 7, 3) := by decide +kernel
theorem dX1_record_12 : decode cX1_record 12 = .ok (.aload_n 0, 1) := by decide +kernel
theorem dX1_record_13 : decode cX1_record 13 = .ok (.invokevirtual 22, 3) := by decide +kernel
theorem dX1_record_16 : decode cX1_record 16 = .ok (.aload_n 0, 1) := by decide +kernel
theorem dX1_record_17 : decode cX1_record 17 = .ok (.getfield 11, 3) := by decide +kernel
theorem dX1_record_20 : decode cX1_record 20 = .ok (.aload_n 0, 1) := by decide +kernel
theorem dX1_record_21 : decode cX1_record 21 = .ok (.getfield 18, 3) := by decide +kernel
theorem dX1_record_24 : decode cX1_record 24 = .ok (.aaload, 1) := by decide +kernel
theorem dX1_record_25 : decode cX1_record 25 = .ok (.aload_n 1, 1) := by decide +kernel
theorem dX1_record_26 : decode cX1_record 26 = .ok (.invokevirtual 25, 3) := by decide +kernel
theorem dX1_record_29 : decode cX1_record 29 = .ok (.aload_n 0, 1) := by decide +kernel
theorem dX1_record_30 : decode cX1_record 30 = .ok (.dup, 1) := by decide +kernel
theorem dX1_record_31 : decode cX1_record 31 = .ok (.getfield 18, 3) := by decide +kernel
theorem dX1_record_34 : decode cX1_record 34 = .ok (.iconst 1, 1) := by decide +kernel
theorem dX1_record_35 : decode cX1_record 35 = .ok (.iadd, 1) := by decide +kernel
theorem dX1_record_36 : decode cX1_record 36 = .ok (.putfield 18, 3) := by decide +kernel
theorem dX1_record_39 : decode cX1_record 39 = .ok (.return_, 1) := by decide +kernel
theorem dX1_dropOldest_0 : decode cX1_dropOldest 0 = .ok (.aload_n 0, 1) := by decide +kernel
theorem dX1_dropOldest_1 : decode cX1_dropOldest 1 = .ok (.getfield 11, 3) := by decide +kernel
theorem dX1_dropOldest_4 : decode cX1_dropOldest 4 = .ok (.iconst 0, 1) := by decide +kernel
theorem dX1_dropOldest_5 : decode cX1_dropOldest 5 = .ok (.aaload, 1) := by decide +kernel
theorem dX1_dropOldest_6 : decode cX1_dropOldest 6 = .ok (.astore_n 1, 1) := by decide +kernel
theorem dX1_dropOldest_7 : decode cX1_dropOldest 7 = .ok (.iconst 1, 1) := by decide +kernel
theorem dX1_dropOldest_8 : decode cX1_dropOldest 8 = .ok (.istore_n 2, 1) := by decide +kernel
theorem dX1_dropOldest_9 : decode cX1_dropOldest 9 = .ok (.iload_n 2, 1) := by decide +kernel
theorem dX1_dropOldest_10 : decode cX1_dropOldest 10 = .ok (.aload_n 0, 1) := by decide +kernel
theorem dX1_dropOldest_11 : decode cX1_dropOldest 11 = .ok (.getfield 11, 3) := by decide +kernel
theorem dX1_dropOldest_14 : decode cX1_dropOldest 14 = .ok (.arraylength, 1) := by decide +kernel
theorem dX1_dropOldest_15 : decode cX1_dropOldest 15 = .ok (.if_icmp .ge 23, 3) := by decide +kernel
theorem dX1_dropOldest_18 : decode cX1_dropOldest 18 = .ok (.aload_n 0, 1) := by decide +kernel
theorem dX1_dropOldest_19 : decode cX1_dropOldest 19 = .ok (.getfield 11, 3) := by decide +kernel
theorem dX1_dropOldest_22 : decode cX1_dropOldest 22 = .ok (.iload_n 2, 1) := by decide +kernel
theorem dX1_dropOldest_23 : decode cX1_dropOldest 23 = .ok (.iconst 1, 1) := by decide +kernel
theorem dX1_dropOldest_24 : decode cX1_dropOldest 24 = .ok (.isub, 1) := by decide +kernel
theorem dX1_dropOldest_25 : decode cX1_dropOldest 25 = .ok (.aload_n 0, 1) := by decide +kernel
theorem dX1_dropOldest_26 : decode cX1_dropOldest 26 = .ok (.getfield 11, 3) := by decide +kernel
theorem dX1_dropOldest_29 : decode cX1_dropOldest 29 = .ok (.iload_n 2, 1) := by decide +kernel
theorem dX1_dropOldest_30 : decode cX1_dropOldest 30 = .ok (.aaload, 1) := by decide +kernel
theorem dX1_dropOldest_31 : decode cX1_dropOldest 31 = .ok (.aastore, 1) := by decide +kernel
theorem dX1_dropOldest_32 : decode cX1_dropOldest 32 = .ok (.iinc 2 1, 3) := by decide +kernel
theorem dX1_dropOldest_35 : decode cX1_dropOldest 35 = .ok (.goto (-26), 3) := by decide +kernel
theorem dX1_dropOldest_38 : decode cX1_dropOldest 38 = .ok (.aload_n 0, 1) := by decide +kernel
theorem dX1_dropOldest_39 : decode cX1_dropOldest 39 = .ok (.getfield 11, 3) := by decide +kernel
theorem dX1_dropOldest_42 : decode cX1_dropOldest 42 = .ok (.aload_n 0, 1) := by decide +kernel
theorem dX1_dropOldest_43 : decode cX1_dropOldest 43 = .ok (.getfield 11, 3) := by decide +kernel
theorem dX1_dropOldest_46 : decode cX1_dropOldest 46 = .ok (.arraylength, 1) := by decide +kernel
theorem dX1_dropOldest_47 : decode cX1_dropOldest 47 = .ok (.iconst 1, 1) := by decide +kernel
theorem dX1_dropOldest_48 : decode cX1_dropOldest 48 = .ok (.isub, 1) := by decide +kernel
theorem dX1_dropOldest_49 : decode cX1_dropOldest 49 = .ok (.aload_n 1, 1) := by decide +kernel
theorem dX1_dropOldest_50 : decode cX1_dropOldest 50 = .ok (.aastore, 1) := by decide +kernel
theorem dX1_dropOldest_51 : decode cX1_dropOldest 51 = .ok (.aload_n 0, 1) := by decide +kernel
theorem dX1_dropOldest_52 : decode cX1_dropOldest 52 = .ok (.aload_n 0, 1) := by decide +kernel
theorem dX1_dropOldest_53 : decode cX1_dropOldest 53 = .ok (.getfield 11, 3) := by decide +kernel
theorem dX1_dropOldest_56 : decode cX1_dropOldest 56 = .ok (.arraylength, 1) := by decide +kernel
theorem dX1_dropOldest_57 : decode cX1_dropOldest 57 = .ok (.iconst 1, 1) := by decide +kernel
theorem dX1_dropOldest_58 : decode cX1_dropOldest 58 = .ok (.isub, 1) := by decide +kernel
theorem dX1_dropOldest_59 : decode cX1_dropOldest 59 = .ok (.putfield 18, 3) := by decide +kernel
theorem dX1_dropOldest_62 : decode cX1_dropOldest 62 = .ok (.return_, 1) := by decide +kernel
theorem dX2_init_0 : decode cX2_init 0 = .ok (.aload_n 0, 1) := by decide +kernel
theorem dX2_init_1 : decode cX2_init 1 = .ok (.invokespecial 3, 3) := by decide +kernel
theorem dX2_init_4 : decode cX2_init 4 = .ok (.return_, 1) := by decide +kernel
theorem dX2_beginTape_0 : decode cX2_beginTape 0 = .ok (.aload_n 0, 1) := by decide +kernel
theorem dX2_beginTape_1 : decode cX2_beginTape 1 = .ok (.iload_n 1, 1) := by decide +kernel
theorem dX2_beginTape_2 : decode cX2_beginTape 2 = .ok (.invokevirtual 9, 3) := by decide +kernel
theorem dX2_beginTape_5 : decode cX2_beginTape 5 = .ok (.aload_n 0, 1) := by decide +kernel
theorem dX2_beginTape_6 : decode cX2_beginTape 6 = .ok (.iconst 0, 1) := by decide +kernel
theorem dX2_beginTape_7 : decode cX2_beginTape 7 = .ok (.putfield 15, 3) := by decide +kernel
theorem dX2_beginTape_10 : decode cX2_beginTape 10 = .ok (.aload_n 0, 1) := by decide +kernel
theorem dX2_beginTape_11 : decode cX2_beginTape 11 = .ok (.iconst 0, 1) := by decide +kernel
theorem dX2_beginTape_12 : decode cX2_beginTape 12 = .ok (.putfield 19, 3) := by decide +kernel
theorem dX2_beginTape_15 : decode cX2_beginTape 15 = .ok (.aload_n 0, 1) := by decide +kernel
theorem dX2_beginTape_16 : decode cX2_beginTape 16 = .ok (.iload_n 2, 1) := by decide +kernel
theorem dX2_beginTape_17 : decode cX2_beginTape 17 = .ok (.putfield 23, 3) := by decide +kernel
theorem dX2_beginTape_20 : decode cX2_beginTape 20 = .ok (.aload_n 0, 1) := by decide +kernel
theorem dX2_beginTape_21 : decode cX2_beginTape 21 = .ok (.fload_n 3, 1) := by decide +kernel
theorem dX2_beginTape_22 : decode cX2_beginTape 22 = .ok (.putfield 26, 3) := by decide +kernel
theorem dX2_beginTape_25 : decode cX2_beginTape 25 = .ok (.return_, 1) := by decide +kernel
theorem dX2_beginCleaner_0 : decode cX2_beginCleaner 0 = .ok (.aload_n 0, 1) := by decide +kernel
theorem dX2_beginCleaner_1 : decode cX2_beginCleaner 1 = .ok (.iload_n 1, 1) := by decide +kernel
theorem dX2_beginCleaner_2 : decode cX2_beginCleaner 2 = .ok (.invokevirtual 9, 3) := by decide +kernel
theorem dX2_beginCleaner_5 : decode cX2_beginCleaner 5 = .ok (.aload_n 0, 1) := by decide +kernel
theorem dX2_beginCleaner_6 : decode cX2_beginCleaner 6 = .ok (.iconst 1, 1) := by decide +kernel
theorem dX2_beginCleaner_7 : decode cX2_beginCleaner 7 = .ok (.putfield 15, 3) := by decide +kernel
theorem dX2_beginCleaner_10 : decode cX2_beginCleaner 10 = .ok (.aload_n 0, 1) := by decide +kernel
theorem dX2_beginCleaner_11 : decode cX2_beginCleaner 11 = .ok (.iload_n 2, 1) := by decide +kernel
theorem dX2_beginCleaner_12 : decode cX2_beginCleaner 12 = .ok (.putfield 19, 3) := by decide +kernel
theorem dX2_beginCleaner_15 : decode cX2_beginCleaner 15 = .ok (.aload_n 0, 1) := by decide +kernel
theorem dX2_beginCleaner_16 : decode cX2_beginCleaner 16 = .ok (.iconst 0, 1) := by decide +kernel
theorem dX2_beginCleaner_17 : decode cX2_beginCleaner 17 = .ok (.putfield 23, 3) := by decide +kernel
theorem dX2_beginCleaner_20 : decode cX2_beginCleaner 20 = .ok (.aload_n 0, 1) := by decide +kernel
theorem dX2_beginCleaner_21 : decode cX2_beginCleaner 21 = .ok (.fconst 0, 1) := by decide +kernel
theorem dX2_beginCleaner_22 : decode cX2_beginCleaner 22 = .ok (.putfield 26, 3) := by decide +kernel
theorem dX2_beginCleaner_25 : decode cX2_beginCleaner 25 = .ok (.return_, 1) := by decide +kernel
theorem dX2_begin_0 : decode cX2_begin 0 = .ok (.aload_n 0, 1) := by decide +kernel
theorem dX2_begin_1 : decode cX2_begin 1 = .ok (.iload_n 1, 1) := by decide +kernel
theorem dX2_begin_2 : decode cX2_begin 2 = .ok (.putfield 30, 3) := by decide +kernel
theorem dX2_begin_5 : decode cX2_begin 5 = .ok (.aload_n 0, 1) := by decide +kernel
theorem dX2_begin_6 : decode cX2_begin 6 = .ok (.iconst 0, 1) := by decide +kernel
theorem dX2_begin_7 : decode cX2_begin 7 = .ok (.putfield 33, 3) := by decide +kernel
theorem dX2_begin_10 : decode cX2_begin 10 = .ok (.aload_n 0, 1) := by decide +kernel
theorem dX2_begin_11 : decode cX2_begin 11 = .ok (.bipush (-5), 2) := by decide +kernel
theorem dX2_begin_13 : decode cX2_begin 13 = .ok (.putfield 36, 3) := by decide +kernel
theorem dX2_begin_16 : decode cX2_begin 16 = .ok (.aload_n 0, 1) := by decide +kernel
theorem dX2_begin_17 : decode cX2_begin 17 = .ok (.iconst 0, 1) := by decide +kernel
theorem dX2_begin_18 : decode cX2_begin 18 = .ok (.putfield 39, 3) := by decide +kernel
theorem dX2_begin_21 : decode cX2_begin 21 = .ok (.return_, 1) := by decide +kernel
theorem dX2_copyFrom_0 : decode cX2_copyFrom 0 = .ok (.aload_n 0, 1) := by decide +kernel
theorem dX2_copyFrom_1 : decode cX2_copyFrom 1 = .ok (.aload_n 1, 1) := by decide +kernel
theorem dX2_copyFrom_2 : decode cX2_copyFrom 2 = .ok (.getfield 15, 3) := by decide +kernel
theorem dX2_copyFrom_5 : decode cX2_copyFrom 5 = .ok (.putfield 15, 3) := by decide +kernel
theorem dX2_copyFrom_8 : decode cX2_copyFrom 8 = .ok (.aload_n 0, 1) := by decide +kernel
theorem dX2_copyFrom_9 : decode cX2_copyFrom 9 = .ok (.aload_n 1, 1) := by decide +kernel
theorem dX2_copyFrom_10 : decode cX2_copyFrom 10 = .ok (.getfield 30, 3) := by decide +kernel
theorem dX2_copyFrom_13 : decode cX2_copyFrom 13 = .ok (.putfield 30, 3) := by decide +kernel
theorem dX2_copyFrom_16 : decode cX2_copyFrom 16 = .ok (.aload_n 0, 1) := by decide +kernel
theorem dX2_copyFrom_17 : decode cX2_copyFrom 17 = .ok (.aload_n 1, 1) := by decide +kernel
theorem dX2_copyFrom_18 : decode cX2_copyFrom 18 = .ok (.getfield 33, 3) := by decide +kernel
theorem dX2_copyFrom_21 : decode cX2_copyFrom 21 = .ok (.putfield 33, 3) := by decide +kernel
theorem dX2_copyFrom_24 : decode cX2_copyFrom 24 = .ok (.aload_n 0, 1) := by decide +kernel
theorem dX2_copyFrom_25 : decode cX2_copyFrom 25 = .ok (.aload_n 1, 1) := by decide +kernel
theorem dX2_copyFrom_26 : decode cX2_copyFrom 26 = .ok (.getfield 36, 3) := by decide +kernel
theorem dX2_copyFrom_29 : decode cX2_copyFrom 29 = .ok (.putfield 36, 3) := by decide +kernel
theorem dX2_copyFrom_32 : decode cX2_copyFrom 32 = .ok (.aload_n 0, 1) := by decide +kernel
theorem dX2_copyFrom_33 : decode cX2_copyFrom 33 = .ok (.aload_n 1, 1) := by decide +kernel
theorem dX2_copyFrom_34 : decode cX2_copyFrom 34 = .ok (.getfield 19, 3) := by decide +kernel
theorem dX2_copyFrom_37 : decode cX2_copyFrom 37 = .ok (.putfield 19, 3) := by decide +kernel
theorem dX2_copyFrom_40 : decode cX2_copyFrom 40 = .ok (.aload_n 0, 1) := by decide +kernel
theorem dX2_copyFrom_41 : decode cX2_copyFrom 41 = .ok (.aload_n 1, 1) := by decide +kernel
theorem dX2_copyFrom_42 : decode cX2_copyFrom 42 = .ok (.getfield 23, 3) := by decide +kernel
theorem dX2_copyFrom_45 : decode cX2_copyFrom 45 = .ok (.putfield 23, 3) := by decide +kernel
theorem dX2_copyFrom_48 : decode cX2_copyFrom 48 = .ok (.aload_n 0, 1) := by decide +kernel
theorem dX2_copyFrom_49 : decode cX2_copyFrom 49 = .ok (.aload_n 1, 1) := by decide +kernel
theorem dX2_copyFrom_50 : decode cX2_copyFrom 50 = .ok (.getfield 26, 3) := by decide +kernel
theorem dX2_copyFrom_53 : decode cX2_copyFrom 53 = .ok (.putfield 26, 3) := by decide +kernel
theorem dX2_copyFrom_56 : decode cX2_copyFrom 56 = .ok (.aload_n 0, 1) := by decide +kernel
theorem dX2_copyFrom_57 : decode cX2_copyFrom 57 = .ok (.aload_n 1, 1) := by decide +kernel
theorem dX2_copyFrom_58 : decode cX2_copyFrom 58 = .ok (.getfield 39, 3) := by decide +kernel
theorem dX2_copyFrom_61 : decode cX2_copyFrom 61 = .ok (.putfield 39, 3) := by decide +kernel
theorem dX2_copyFrom_64 : decode cX2_copyFrom 64 = .ok (.return_, 1) := by decide +kernel
theorem dX2_tell_0 : decode cX2_tell 0 = .ok (.iload_n 1, 1) := by decide +kernel
theorem dX2_tell_1 : decode cX2_tell 1 = .ok (.tableswitch 77 0 5 #[39, 52, 57, 62, 67, 72], 39) := by decide +kernel
theorem dX2_tell_40 : decode cX2_tell 40 = .ok (.aload_n 0, 1) := by decide +kernel
theorem dX2_tell_41 : decode cX2_tell 41 = .ok (.getfield 15, 3) := by decide +kernel
theorem dX2_tell_44 : decode cX2_tell 44 = .ok (.ifCond .eq 7, 3) := by decide +kernel
theorem dX2_tell_47 : decode cX2_tell 47 = .ok (.iconst 1, 1) := by decide +kernel
theorem dX2_tell_48 : decode cX2_tell 48 = .ok (.goto 4, 3) := by decide +kernel
theorem dX2_tell_51 : decode cX2_tell 51 = .ok (.iconst 0, 1) := by decide +kernel
theorem dX2_tell_52 : decode cX2_tell 52 = .ok (.ireturn, 1) := by decide +kernel
theorem dX2_tell_53 : decode cX2_tell 53 = .ok (.aload_n 0, 1) := by decide +kernel
theorem dX2_tell_54 : decode cX2_tell 54 = .ok (.getfield 30, 3) := by decide +kernel
theorem dX2_tell_57 : decode cX2_tell 57 = .ok (.ireturn, 1) := by decide +kernel
theorem dX2_tell_58 : decode cX2_tell 58 = .ok (.aload_n 0, 1) := by decide +kernel
theorem dX2_tell_59 : decode cX2_tell 59 = .ok (.getfield 33, 3) := by decide +kernel
theorem dX2_tell_62 : decode cX2_tell 62 = .ok (.ireturn, 1) := by decide +kernel
theorem dX2_tell_63 : decode cX2_tell 63 = .ok (.aload_n 0, 1) := by decide +kernel
theorem dX2_tell_64 : decode cX2_tell 64 = .ok (.getfield 36, 3) := by decide +kernel
theorem dX2_tell_67 : decode cX2_tell 67 = .ok (.ireturn, 1) := by decide +kernel
theorem dX2_tell_68 : decode cX2_tell 68 = .ok (.aload_n 0, 1) := by decide +kernel
theorem dX2_tell_69 : decode cX2_tell 69 = .ok (.getfield 19, 3) := by decide +kernel
theorem dX2_tell_72 : decode cX2_tell 72 = .ok (.ireturn, 1) := by decide +kernel
theorem dX2_tell_73 : decode cX2_tell 73 = .ok (.aload_n 0, 1) := by decide +kernel
theorem dX2_tell_74 : decode cX2_tell 74 = .ok (.getfield 23, 3) := by decide +kernel
theorem dX2_tell_77 : decode cX2_tell 77 = .ok (.ireturn, 1) := by decide +kernel
theorem dX2_tell_78 : decode cX2_tell 78 = .ok (.aload_n 0, 1) := by decide +kernel
theorem dX2_tell_79 : decode cX2_tell 79 = .ok (.getfield 39, 3) := by decide +kernel
theorem dX2_tell_82 : decode cX2_tell 82 = .ok (.ireturn, 1) := by decide +kernel
theorem dX3_init_0 : decode cX3_init 0 = .ok (.aload_n 0, 1) := by decide +kernel
theorem dX3_init_1 : decode cX3_init 1 = .ok (.invokespecial 3, 3) := by decide +kernel
theorem dX3_init_4 : decode cX3_init 4 = .ok (.return_, 1) := by decide +kernel
theorem dX3_enter_0 : decode cX3_enter 0 = .ok (.aload_n 0, 1) := by decide +kernel
theorem dX3_enter_1 : decode cX3_enter 1 = .ok (.iload_n 1, 1) := by decide +kernel
theorem dX3_enter_2 : decode cX3_enter 2 = .ok (.putfield 9, 3) := by decide +kernel
theorem dX3_enter_5 : decode cX3_enter 5 = .ok (.aload_n 0, 1) := by decide +kernel
theorem dX3_enter_6 : decode cX3_enter 6 = .ok (.iload_n 2, 1) := by decide +kernel
theorem dX3_enter_7 : decode cX3_enter 7 = .ok (.putfield 15, 3) := by decide +kernel
theorem dX3_enter_10 : decode cX3_enter 10 = .ok (.aload_n 0, 1) := by decide +kernel
theorem dX3_enter_11 : decode cX3_enter 11 = .ok (.iload_n 3, 1) := by decide +kernel
theorem dX3_enter_12 : decode cX3_enter 12 = .ok (.putfield 18, 3) := by decide +kernel
theorem dX3_enter_15 : decode cX3_enter 15 = .ok (.aload_n 0, 1) := by decide +kernel
theorem dX3_enter_16 : decode cX3_enter 16 = .ok (.iconst 0, 1) := by decide +kernel
theorem dX3_enter_17 : decode cX3_enter 17 = .ok (.putfield 21, 3) := by decide +kernel
theorem dX3_enter_20 : decode cX3_enter 20 = .ok (.aload_n 0, 1) := by decide +kernel
theorem dX3_enter_21 : decode cX3_enter 21 = .ok (.bipush (-5), 2) := by decide +kernel
theorem dX3_enter_23 : decode cX3_enter 23 = .ok (.putfield 24, 3) := by decide +kernel
theorem dX3_enter_26 : decode cX3_enter 26 = .ok (.aload_n 0, 1) := by decide +kernel
theorem dX3_enter_27 : decode cX3_enter 27 = .ok (.bipush (-5), 2) := by decide +kernel
theorem dX3_enter_29 : decode cX3_enter 29 = .ok (.putfield 27, 3) := by decide +kernel
theorem dX3_enter_32 : decode cX3_enter 32 = .ok (.aload_n 0, 1) := by decide +kernel
theorem dX3_enter_33 : decode cX3_enter 33 = .ok (.iconst 0, 1) := by decide +kernel
theorem dX3_enter_34 : decode cX3_enter 34 = .ok (.putfield 30, 3) := by decide +kernel
theorem dX3_enter_37 : decode cX3_enter 37 = .ok (.aload_n 0, 1) := by decide +kernel
theorem dX3_enter_38 : decode cX3_enter 38 = .ok (.bipush (-5), 2) := by decide +kernel
theorem dX3_enter_40 : decode cX3_enter 40 = .ok (.putfield 33, 3) := by decide +kernel
theorem dX3_enter_43 : decode cX3_enter 43 = .ok (.aload_n 0, 1) := by decide +kernel
theorem dX3_enter_44 : decode cX3_enter 44 = .ok (.bipush (-5), 2) := by decide +kernel
theorem dX3_enter_46 : decode cX3_enter 46 = .ok (.putfield 36, 3) := by decide +kernel
theorem dX3_enter_49 : decode cX3_enter 49 = .ok (.aload_n 0, 1) := by decide +kernel
theorem dX3_enter_50 : decode cX3_enter 50 = .ok (.bipush (-5), 2) := by decide +kernel
theorem dX3_enter_52 : decode cX3_enter 52 = .ok (.putfield 39, 3) := by decide +kernel
theorem dX3_enter_55 : decode cX3_enter 55 = .ok (.aload_n 0, 1) := by decide +kernel
theorem dX3_enter_56 : decode cX3_enter 56 = .ok (.iconst 0, 1) := by decide +kernel
theorem dX3_enter_57 : decode cX3_enter 57 = .ok (.putfield 42, 3) := by decide +kernel
theorem dX3_enter_60 : decode cX3_enter 60 = .ok (.aload_n 0, 1) := by decide +kernel
theorem dX3_enter_61 : decode cX3_enter 61 = .ok (.iconst 0, 1) := by decide +kernel
theorem dX3_enter_62 : decode cX3_enter 62 = .ok (.putfield 45, 3) := by decide +kernel
theorem dX3_enter_65 : decode cX3_enter 65 = .ok (.aload_n 0, 1) := by decide +kernel
theorem dX3_enter_66 : decode cX3_enter 66 = .ok (.iconst 0, 1) := by decide +kernel
theorem dX3_enter_67 : decode cX3_enter 67 = .ok (.putfield 48, 3) := by decide +kernel
theorem dX3_enter_70 : decode cX3_enter 70 = .ok (.return_, 1) := by decide +kernel
theorem dX3_copyFrom_0 : decode cX3_copyFrom 0 = .ok (.aload_n 0, 1) := by decide +kernel
theorem dX3_copyFrom_1 : decode cX3_copyFrom 1 = .ok (.aload_n 1, 1) := by decide +kernel
theorem dX3_copyFrom_2 : decode cX3_copyFrom 2 = .ok (.getfield 9, 3) := by decide +kernel
theorem dX3_copyFrom_5 : decode cX3_copyFrom 5 = .ok (.putfield 9, 3) := by decide +kernel
theorem dX3_copyFrom_8 : decode cX3_copyFrom 8 = .ok (.aload_n 0, 1) := by decide +kernel
theorem dX3_copyFrom_9 : decode cX3_copyFrom 9 = .ok (.aload_n 1, 1) := by decide +kernel
theorem dX3_copyFrom_10 : decode cX3_copyFrom 10 = .ok (.getfield 15, 3) := by decide +kernel
theorem dX3_copyFrom_13 : decode cX3_copyFrom 13 = .ok (.putfield 15, 3) := by decide +kernel
theorem dX3_copyFrom_16 : decode cX3_copyFrom 16 = .ok (.aload_n 0, 1) := by decide +kernel
theorem dX3_copyFrom_17 : decode cX3_copyFrom 17 = .ok (.aload_n 1, 1) := by decide +kernel
theorem dX3_copyFrom_18 : decode cX3_copyFrom 18 = .ok (.getfield 18, 3) := by decide +kernel
theorem dX3_copyFrom_21 : decode cX3_copyFrom 21 = .ok (.putfield 18, 3) := by decide +kernel
theorem dX3_copyFrom_24 : decode cX3_copyFrom 24 = .ok (.aload_n 0, 1) := by decide +kernel
theorem dX3_copyFrom_25 : decode cX3_copyFrom 25 = .ok (.aload_n 1, 1) := by decide +kernel
theorem dX3_copyFrom_26 : decode cX3_copyFrom 26 = .ok (.getfield 21, 3) := by decide +kernel
theorem dX3_copyFrom_29 : decode cX3_copyFrom 29 = .ok (.putfield 21, 3) := by decide +kernel
theorem dX3_copyFrom_32 : decode cX3_copyFrom 32 = .ok (.aload_n 0, 1) := by decide +kernel
theorem dX3_copyFrom_33 : decode cX3_copyFrom 33 = .ok (.aload_n 1, 1) := by decide +kernel
theorem dX3_copyFrom_34 : decode cX3_copyFrom 34 = .ok (.getfield 24, 3) := by decide +kernel
theorem dX3_copyFrom_37 : decode cX3_copyFrom 37 = .ok (.putfield 24, 3) := by decide +kernel
theorem dX3_copyFrom_40 : decode cX3_copyFrom 40 = .ok (.aload_n 0, 1) := by decide +kernel
theorem dX3_copyFrom_41 : decode cX3_copyFrom 41 = .ok (.aload_n 1, 1) := by decide +kernel
theorem dX3_copyFrom_42 : decode cX3_copyFrom 42 = .ok (.getfield 27, 3) := by decide +kernel
theorem dX3_copyFrom_45 : decode cX3_copyFrom 45 = .ok (.putfield 27, 3) := by decide +kernel
theorem dX3_copyFrom_48 : decode cX3_copyFrom 48 = .ok (.aload_n 0, 1) := by decide +kernel
theorem dX3_copyFrom_49 : decode cX3_copyFrom 49 = .ok (.aload_n 1, 1) := by decide +kernel
theorem dX3_copyFrom_50 : decode cX3_copyFrom 50 = .ok (.getfield 30, 3) := by decide +kernel
theorem dX3_copyFrom_53 : decode cX3_copyFrom 53 = .ok (.putfield 30, 3) := by decide +kernel
theorem dX3_copyFrom_56 : decode cX3_copyFrom 56 = .ok (.aload_n 0, 1) := by decide +kernel
theorem dX3_copyFrom_57 : decode cX3_copyFrom 57 = .ok (.aload_n 1, 1) := by decide +kernel
theorem dX3_copyFrom_58 : decode cX3_copyFrom 58 = .ok (.getfield 33, 3) := by decide +kernel
theorem dX3_copyFrom_61 : decode cX3_copyFrom 61 = .ok (.putfield 33, 3) := by decide +kernel
theorem dX3_copyFrom_64 : decode cX3_copyFrom 64 = .ok (.aload_n 0, 1) := by decide +kernel
theorem dX3_copyFrom_65 : decode cX3_copyFrom 65 = .ok (.aload_n 1, 1) := by decide +kernel
theorem dX3_copyFrom_66 : decode cX3_copyFrom 66 = .ok (.getfield 36, 3) := by decide +kernel
theorem dX3_copyFrom_69 : decode cX3_copyFrom 69 = .ok (.putfield 36, 3) := by decide +kernel
theorem dX3_copyFrom_72 : decode cX3_copyFrom 72 = .ok (.aload_n 0, 1) := by decide +kernel
theorem dX3_copyFrom_73 : decode cX3_copyFrom 73 = .ok (.aload_n 1, 1) := by decide +kernel
theorem dX3_copyFrom_74 : decode cX3_copyFrom 74 = .ok (.getfield 39, 3) := by decide +kernel
theorem dX3_copyFrom_77 : decode cX3_copyFrom 77 = .ok (.putfield 39, 3) := by decide +kernel
theorem dX3_copyFrom_80 : decode cX3_copyFrom 80 = .ok (.aload_n 0, 1) := by decide +kernel
theorem dX3_copyFrom_81 : decode cX3_copyFrom 81 = .ok (.aload_n 1, 1) := by decide +kernel
theorem dX3_copyFrom_82 : decode cX3_copyFrom 82 = .ok (.getfield 42, 3) := by decide +kernel
theorem dX3_copyFrom_85 : decode cX3_copyFrom 85 = .ok (.putfield 42, 3) := by decide +kernel
theorem dX3_copyFrom_88 : decode cX3_copyFrom 88 = .ok (.aload_n 0, 1) := by decide +kernel
theorem dX3_copyFrom_89 : decode cX3_copyFrom 89 = .ok (.aload_n 1, 1) := by decide +kernel
theorem dX3_copyFrom_90 : decode cX3_copyFrom 90 = .ok (.getfield 45, 3) := by decide +kernel
theorem dX3_copyFrom_93 : decode cX3_copyFrom 93 = .ok (.putfield 45, 3) := by decide +kernel
theorem dX3_copyFrom_96 : decode cX3_copyFrom 96 = .ok (.aload_n 0, 1) := by decide +kernel
theorem dX3_copyFrom_97 : decode cX3_copyFrom 97 = .ok (.aload_n 1, 1) := by decide +kernel
theorem dX3_copyFrom_98 : decode cX3_copyFrom 98 = .ok (.getfield 48, 3) := by decide +kernel
theorem dX3_copyFrom_101 : decode cX3_copyFrom 101 = .ok (.putfield 48, 3) := by decide +kernel
theorem dX3_copyFrom_104 : decode cX3_copyFrom 104 = .ok (.return_, 1) := by decide +kernel
theorem dX3_isOpen_0 : decode cX3_isOpen 0 = .ok (.aload_n 0, 1) := by decide +kernel
theorem dX3_isOpen_1 : decode cX3_isOpen 1 = .ok (.getfield 21, 3) := by decide +kernel
theorem dX3_isOpen_4 : decode cX3_isOpen 4 = .ok (.ifCond .eq 11, 3) := by decide +kernel
theorem dX3_isOpen_7 : decode cX3_isOpen 7 = .ok (.aload_n 0, 1) := by decide +kernel
theorem dX3_isOpen_8 : decode cX3_isOpen 8 = .ok (.getfield 21, 3) := by decide +kernel
theorem dX3_isOpen_11 : decode cX3_isOpen 11 = .ok (.iconst 1, 1) := by decide +kernel
theorem dX3_isOpen_12 : decode cX3_isOpen 12 = .ok (.if_icmp .ne 7, 3) := by decide +kernel
theorem dX3_isOpen_15 : decode cX3_isOpen 15 = .ok (.iconst 1, 1) := by decide +kernel
theorem dX3_isOpen_16 : decode cX3_isOpen 16 = .ok (.goto 4, 3) := by decide +kernel
theorem dX3_isOpen_19 : decode cX3_isOpen 19 = .ok (.iconst 0, 1) := by decide +kernel
theorem dX3_isOpen_20 : decode cX3_isOpen 20 = .ok (.ireturn, 1) := by decide +kernel
theorem dX3_carriedItem_0 : decode cX3_carriedItem 0 = .ok (.aload_n 0, 1) := by decide +kernel
theorem dX3_carriedItem_1 : decode cX3_carriedItem 1 = .ok (.getfield 9, 3) := by decide +kernel
theorem dX3_carriedItem_4 : decode cX3_carriedItem 4 = .ok (.iconst 1, 1) := by decide +kernel
theorem dX3_carriedItem_5 : decode cX3_carriedItem 5 = .ok (.if_icmp .ne 10, 3) := by decide +kernel
theorem dX3_carriedItem_8 : decode cX3_carriedItem 8 = .ok (.aload_n 0, 1) := by decide +kernel
theorem dX3_carriedItem_9 : decode cX3_carriedItem 9 = .ok (.getfield 36, 3) := by decide +kernel
theorem dX3_carriedItem_12 : decode cX3_carriedItem 12 = .ok (.goto 7, 3) := by decide +kernel
theorem dX3_carriedItem_15 : decode cX3_carriedItem 15 = .ok (.aload_n 0, 1) := by decide +kernel
theorem dX3_carriedItem_16 : decode cX3_carriedItem 16 = .ok (.getfield 15, 3) := by decide +kernel
theorem dX3_carriedItem_19 : decode cX3_carriedItem 19 = .ok (.ireturn, 1) := by decide +kernel
theorem dX3_steps_0 : decode cX3_steps 0 = .ok (.aload_n 0, 1) := by decide +kernel
theorem dX3_steps_1 : decode cX3_steps 1 = .ok (.getfield 9, 3) := by decide +kernel
theorem dX3_steps_4 : decode cX3_steps 4 = .ok (.iconst 2, 1) := by decide +kernel
theorem dX3_steps_5 : decode cX3_steps 5 = .ok (.if_icmp .ne 7, 3) := by decide +kernel
theorem dX3_steps_8 : decode cX3_steps 8 = .ok (.iconst 4, 1) := by decide +kernel
theorem dX3_steps_9 : decode cX3_steps 9 = .ok (.goto 5, 3) := by decide +kernel
theorem dX3_steps_12 : decode cX3_steps 12 = .ok (.bipush 8, 2) := by decide +kernel
theorem dX3_steps_14 : decode cX3_steps 14 = .ok (.ireturn, 1) := by decide +kernel
theorem dX3_tell_0 : decode cX3_tell 0 = .ok (.iload_n 1, 1) := by decide +kernel
theorem dX3_tell_1 : decode cX3_tell 1 = .ok (.tableswitch 127 0 10 #[59, 64, 69, 74, 79, 84, 89, 107, 112, 117, 122], 59) := by decide +kernel
theorem dX3_tell_60 : decode cX3_tell 60 = .ok (.aload_n 0, 1) := by decide +kernel
theorem dX3_tell_61 : decode cX3_tell 61 = .ok (.getfield 9, 3) := by decide +kernel
theorem dX3_tell_64 : decode cX3_tell 64 = .ok (.ireturn, 1) := by decide +kernel
theorem dX3_tell_65 : decode cX3_tell 65 = .ok (.aload_n 0, 1) := by decide +kernel
theorem dX3_tell_66 : decode cX3_tell 66 = .ok (.getfield 15, 3) := by decide +kernel
theorem dX3_tell_69 : decode cX3_tell 69 = .ok (.ireturn, 1) := by decide +kernel
theorem dX3_tell_70 : decode cX3_tell 70 = .ok (.aload_n 0, 1) := by decide +kernel
theorem dX3_tell_71 : decode cX3_tell 71 = .ok (.getfield 18, 3) := by decide +kernel
theorem dX3_tell_74 : decode cX3_tell 74 = .ok (.ireturn, 1) := by decide +kernel
theorem dX3_tell_75 : decode cX3_tell 75 = .ok (.aload_n 0, 1) := by decide +kernel
theorem dX3_tell_76 : decode cX3_tell 76 = .ok (.getfield 21, 3) := by decide +kernel
theorem dX3_tell_79 : decode cX3_tell 79 = .ok (.ireturn, 1) := by decide +kernel
theorem dX3_tell_80 : decode cX3_tell 80 = .ok (.aload_n 0, 1) := by decide +kernel
theorem dX3_tell_81 : decode cX3_tell 81 = .ok (.getfield 24, 3) := by decide +kernel
theorem dX3_tell_84 : decode cX3_tell 84 = .ok (.ireturn, 1) := by decide +kernel
theorem dX3_tell_85 : decode cX3_tell 85 = .ok (.aload_n 0, 1) := by decide +kernel
theorem dX3_tell_86 : decode cX3_tell 86 = .ok (.getfield 27, 3) := by decide +kernel
theorem dX3_tell_89 : decode cX3_tell 89 = .ok (.ireturn, 1) := by decide +kernel
theorem dX3_tell_90 : decode cX3_tell 90 = .ok (.aload_n 0, 1) := by decide +kernel
theorem dX3_tell_91 : decode cX3_tell 91 = .ok (.getfield 21, 3) := by decide +kernel
theorem dX3_tell_94 : decode cX3_tell 94 = .ok (.iconst 1, 1) := by decide +kernel
theorem dX3_tell_95 : decode cX3_tell 95 = .ok (.if_icmp .ne 10, 3) := by decide +kernel
theorem dX3_tell_98 : decode cX3_tell 98 = .ok (.aload_n 0, 1) := by decide +kernel
theorem dX3_tell_99 : decode cX3_tell 99 = .ok (.getfield 30, 3) := by decide +kernel
theorem dX3_tell_102 : decode cX3_tell 102 = .ok (.goto 5, 3) := by decide +kernel
theorem dX3_tell_105 : decode cX3_tell 105 = .ok (.bipush (-5), 2) := by decide +kernel
theorem dX3_tell_107 : decode cX3_tell 107 = .ok (.ireturn, 1) := by decide +kernel
theorem dX3_tell_108 : decode cX3_tell 108 = .ok (.aload_n 0, 1) := by decide +kernel
theorem dX3_tell_109 : decode cX3_tell 109 = .ok (.getfield 33, 3) := by decide +kernel
theorem dX3_tell_112 : decode cX3_tell 112 = .ok (.ireturn, 1) := by decide +kernel
theorem dX3_tell_113 : decode cX3_tell 113 = .ok (.aload_n 0, 1) := by decide +kernel
theorem dX3_tell_114 : decode cX3_tell 114 = .ok (.getfield 36, 3) := by decide +kernel
theorem dX3_tell_117 : decode cX3_tell 117 = .ok (.ireturn, 1) := by decide +kernel
theorem dX3_tell_118 : decode cX3_tell 118 = .ok (.aload_n 0, 1) := by decide +kernel
theorem dX3_tell_119 : decode cX3_tell 119 = .ok (.getfield 39, 3) := by decide +kernel
theorem dX3_tell_122 : decode cX3_tell 122 = .ok (.ireturn, 1) := by decide +kernel
theorem dX3_tell_123 : decode cX3_tell 123 = .ok (.aload_n 0, 1) := by decide +kernel
theorem dX3_tell_124 : decode cX3_tell 124 = .ok (.getfield 42, 3) := by decide +kernel
theorem dX3_tell_127 : decode cX3_tell 127 = .ok (.ireturn, 1) := by decide +kernel
theorem dX3_tell_128 : decode cX3_tell 128 = .ok (.aload_n 0, 1) := by decide +kernel
theorem dX3_tell_129 : decode cX3_tell 129 = .ok (.getfield 45, 3) := by decide +kernel
theorem dX3_tell_132 : decode cX3_tell 132 = .ok (.ireturn, 1) := by decide +kernel
theorem dX4_init_0 : decode cX4_init 0 = .ok (.aload_n 0, 1) := by decide +kernel
theorem dX4_init_1 : decode cX4_init 1 = .ok (.invokespecial 3, 3) := by decide +kernel
theorem dX4_init_4 : decode cX4_init 4 = .ok (.aload_n 0, 1) := by decide +kernel
theorem dX4_init_5 : decode cX4_init 5 = .ok (.bipush 10, 2) := by decide +kernel
theorem dX4_init_7 : decode cX4_init 7 = .ok (.newarray .int, 2) := by decide +kernel
theorem dX4_init_9 : decode cX4_init 9 = .ok (.putfield 9, 3) := by decide +kernel
theorem dX4_init_12 : decode cX4_init 12 = .ok (.aload_n 0, 1) := by decide +kernel
theorem dX4_init_13 : decode cX4_init 13 = .ok (.bipush 10, 2) := by decide +kernel
theorem dX4_init_15 : decode cX4_init 15 = .ok (.newarray .int, 2) := by decide +kernel
theorem dX4_init_17 : decode cX4_init 17 = .ok (.putfield 15, 3) := by decide +kernel
theorem dX4_init_20 : decode cX4_init 20 = .ok (.aload_n 0, 1) := by decide +kernel
theorem dX4_init_21 : decode cX4_init 21 = .ok (.bipush 10, 2) := by decide +kernel
theorem dX4_init_23 : decode cX4_init 23 = .ok (.newarray .int, 2) := by decide +kernel
theorem dX4_init_25 : decode cX4_init 25 = .ok (.putfield 18, 3) := by decide +kernel
theorem dX4_init_28 : decode cX4_init 28 = .ok (.aload_n 0, 1) := by decide +kernel
theorem dX4_init_29 : decode cX4_init 29 = .ok (.bipush 10, 2) := by decide +kernel
theorem dX4_init_31 : decode cX4_init 31 = .ok (.newarray .int, 2) := by decide +kernel
theorem dX4_init_33 : decode cX4_init 33 = .ok (.putfield 21, 3) := by decide +kernel
theorem dX4_init_36 : decode cX4_init 36 = .ok (.aload_n 0, 1) := by decide +kernel
theorem dX4_init_37 : decode cX4_init 37 = .ok (.iconst 0, 1) := by decide +kernel
theorem dX4_init_38 : decode cX4_init 38 = .ok (.putfield 24, 3) := by decide +kernel
theorem dX4_init_41 : decode cX4_init 41 = .ok (.aload_n 0, 1) := by decide +kernel
theorem dX4_init_42 : decode cX4_init 42 = .ok (.bipush 9, 2) := by decide +kernel
theorem dX4_init_44 : decode cX4_init 44 = .ok (.putfield 28, 3) := by decide +kernel
theorem dX4_init_47 : decode cX4_init 47 = .ok (.return_, 1) := by decide +kernel
theorem dX4_copyFrom_0 : decode cX4_copyFrom 0 = .ok (.aload_n 1, 1) := by decide +kernel
theorem dX4_copyFrom_1 : decode cX4_copyFrom 1 = .ok (.getfield 9, 3) := by decide +kernel
theorem dX4_copyFrom_4 : decode cX4_copyFrom 4 = .ok (.iconst 0, 1) := by decide +kernel
theorem dX4_copyFrom_5 : decode cX4_copyFrom 5 = .ok (.aload_n 0, 1) := by decide +kernel
theorem dX4_copyFrom_6 : decode cX4_copyFrom 6 = .ok (.getfield 9, 3) := by decide +kernel
theorem dX4_copyFrom_9 : decode cX4_copyFrom 9 = .ok (.iconst 0, 1) := by decide +kernel
theorem dX4_copyFrom_10 : decode cX4_copyFrom 10 = .ok (.bipush 10, 2) := by decide +kernel
theorem dX4_copyFrom_12 : decode cX4_copyFrom 12 = .ok (.invokestatic 31, 3) := by decide +kernel
theorem dX4_copyFrom_15 : decode cX4_copyFrom 15 = .ok (.aload_n 1, 1) := by decide +kernel
theorem dX4_copyFrom_16 : decode cX4_copyFrom 16 = .ok (.getfield 15, 3) := by decide +kernel
theorem dX4_copyFrom_19 : decode cX4_copyFrom 19 = .ok (.iconst 0, 1) := by decide +kernel
theorem dX4_copyFrom_20 : decode cX4_copyFrom 20 = .ok (.aload_n 0, 1) := by decide +kernel
theorem dX4_copyFrom_21 : decode cX4_copyFrom 21 = .ok (.getfield 15, 3) := by decide +kernel
theorem dX4_copyFrom_24 : decode cX4_copyFrom 24 = .ok (.iconst 0, 1) := by decide +kernel
theorem dX4_copyFrom_25 : decode cX4_copyFrom 25 = .ok (.bipush 10, 2) := by decide +kernel
theorem dX4_copyFrom_27 : decode cX4_copyFrom 27 = .ok (.invokestatic 31, 3) := by decide +kernel
theorem dX4_copyFrom_30 : decode cX4_copyFrom 30 = .ok (.aload_n 1, 1) := by decide +kernel
theorem dX4_copyFrom_31 : decode cX4_copyFrom 31 = .ok (.getfield 18, 3) := by decide +kernel
theorem dX4_copyFrom_34 : decode cX4_copyFrom 34 = .ok (.iconst 0, 1) := by decide +kernel
theorem dX4_copyFrom_35 : decode cX4_copyFrom 35 = .ok (.aload_n 0, 1) := by decide +kernel
theorem dX4_copyFrom_36 : decode cX4_copyFrom 36 = .ok (.getfield 18, 3) := by decide +kernel
theorem dX4_copyFrom_39 : decode cX4_copyFrom 39 = .ok (.iconst 0, 1) := by decide +kernel
theorem dX4_copyFrom_40 : decode cX4_copyFrom 40 = .ok (.bipush 10, 2) := by decide +kernel
theorem dX4_copyFrom_42 : decode cX4_copyFrom 42 = .ok (.invokestatic 31, 3) := by decide +kernel
theorem dX4_copyFrom_45 : decode cX4_copyFrom 45 = .ok (.aload_n 1, 1) := by decide +kernel
theorem dX4_copyFrom_46 : decode cX4_copyFrom 46 = .ok (.getfield 21, 3) := by decide +kernel
theorem dX4_copyFrom_49 : decode cX4_copyFrom 49 = .ok (.iconst 0, 1) := by decide +kernel
theorem dX4_copyFrom_50 : decode cX4_copyFrom 50 = .ok (.aload_n 0, 1) := by decide +kernel
theorem dX4_copyFrom_51 : decode cX4_copyFrom 51 = .ok (.getfield 21, 3) := by decide +kernel
theorem dX4_copyFrom_54 : decode cX4_copyFrom 54 = .ok (.iconst 0, 1) := by decide +kernel
theorem dX4_copyFrom_55 : decode cX4_copyFrom 55 = .ok (.bipush 10, 2) := by decide +kernel
theorem dX4_copyFrom_57 : decode cX4_copyFrom 57 = .ok (.invokestatic 31, 3) := by decide +kernel
theorem dX4_copyFrom_60 : decode cX4_copyFrom 60 = .ok (.aload_n 0, 1) := by decide +kernel
theorem dX4_copyFrom_61 : decode cX4_copyFrom 61 = .ok (.aload_n 1, 1) := by decide +kernel
theorem dX4_copyFrom_62 : decode cX4_copyFrom 62 = .ok (.getfield 24, 3) := by decide +kernel
theorem dX4_copyFrom_65 : decode cX4_copyFrom 65 = .ok (.putfield 24, 3) := by decide +kernel
theorem dX4_copyFrom_68 : decode cX4_copyFrom 68 = .ok (.aload_n 0, 1) := by decide +kernel
theorem dX4_copyFrom_69 : decode cX4_copyFrom 69 = .ok (.aload_n 1, 1) := by decide +kernel
theorem dX4_copyFrom_70 : decode cX4_copyFrom 70 = .ok (.getfield 28, 3) := by decide +kernel
theorem dX4_copyFrom_73 : decode cX4_copyFrom 73 = .ok (.putfield 28, 3) := by decide +kernel
theorem dX4_copyFrom_76 : decode cX4_copyFrom 76 = .ok (.return_, 1) := by decide +kernel
theorem dX4_add_0 : decode cX4_add 0 = .ok (.aload_n 0, 1) := by decide +kernel
theorem dX4_add_1 : decode cX4_add 1 = .ok (.aload_n 0, 1) := by decide +kernel
theorem dX4_add_2 : decode cX4_add 2 = .ok (.getfield 28, 3) := by decide +kernel
theorem dX4_add_5 : decode cX4_add 5 = .ok (.iconst 1, 1) := by decide +kernel
theorem dX4_add_6 : decode cX4_add 6 = .ok (.iadd, 1) := by decide +kernel
theorem dX4_add_7 : decode cX4_add 7 = .ok (.bipush 10, 2) := by decide +kernel
theorem dX4_add_9 : decode cX4_add 9 = .ok (.if_icmp .ge 12, 3) := by decide +kernel
theorem dX4_add_12 : decode cX4_add 12 = .ok (.aload_n 0, 1) := by decide +kernel
theorem dX4_add_13 : decode cX4_add 13 = .ok (.getfield 28, 3) := by decide +kernel
theorem dX4_add_16 : decode cX4_add 16 = .ok (.iconst 1, 1) := by decide +kernel
theorem dX4_add_17 : decode cX4_add 17 = .ok (.iadd, 1) := by decide +kernel
theorem dX4_add_18 : decode cX4_add 18 = .ok (.goto 4, 3) := by decide +kernel
theorem dX4_add_21 : decode cX4_add 21 = .ok (.iconst 0, 1) := by decide +kernel
theorem dX4_add_22 : decode cX4_add 22 = .ok (.putfield 28, 3) := by decide +kernel
theorem dX4_add_25 : decode cX4_add 25 = .ok (.aload_n 0, 1) := by decide +kernel
theorem dX4_add_26 : decode cX4_add 26 = .ok (.getfield 9, 3) := by decide +kernel
theorem dX4_add_29 : decode cX4_add 29 = .ok (.aload_n 0, 1) := by decide +kernel
theorem dX4_add_30 : decode cX4_add 30 = .ok (.getfield 28, 3) := by decide +kernel
theorem dX4_add_33 : decode cX4_add 33 = .ok (.iload_n 1, 1) := by decide +kernel
theorem dX4_add_34 : decode cX4_add 34 = .ok (.iastore, 1) := by decide +kernel
theorem dX4_add_35 : decode cX4_add 35 = .ok (.aload_n 0, 1) := by decide +kernel
theorem dX4_add_36 : decode cX4_add 36 = .ok (.getfield 15, 3) := by decide +kernel
theorem dX4_add_39 : decode cX4_add 39 = .ok (.aload_n 0, 1) := by decide +kernel
theorem dX4_add_40 : decode cX4_add 40 = .ok (.getfield 28, 3) := by decide +kernel
theorem dX4_add_43 : decode cX4_add 43 = .ok (.iload_n 2, 1) := by decide +kernel
theorem dX4_add_44 : decode cX4_add 44 = .ok (.iastore, 1) := by decide +kernel
theorem dX4_add_45 : decode cX4_add 45 = .ok (.aload_n 0, 1) := by decide +kernel
theorem dX4_add_46 : decode cX4_add 46 = .ok (.getfield 18, 3) := by decide +kernel
theorem dX4_add_49 : decode cX4_add 49 = .ok (.aload_n 0, 1) := by decide +kernel
theorem dX4_add_50 : decode cX4_add 50 = .ok (.getfield 28, 3) := by decide +kernel
theorem dX4_add_53 : decode cX4_add 53 = .ok (.iload_n 3, 1) := by decide +kernel
theorem dX4_add_54 : decode cX4_add 54 = .ok (.iastore, 1) := by decide +kernel
theorem dX4_add_55 : decode cX4_add 55 = .ok (.aload_n 0, 1) := by decide +kernel
theorem dX4_add_56 : decode cX4_add 56 = .ok (.getfield 21, 3) := by decide +kernel
theorem dX4_add_59 : decode cX4_add 59 = .ok (.aload_n 0, 1) := by decide +kernel
theorem dX4_add_60 : decode cX4_add 60 = .ok (.getfield 28, 3) := by decide +kernel
theorem dX4_add_63 : decode cX4_add 63 = .ok (.iload 4, 2) := by decide +kernel
theorem dX4_add_65 : decode cX4_add 65 = .ok (.iastore, 1) := by decide +kernel
theorem dX4_add_66 : decode cX4_add 66 = .ok (.aload_n 0, 1) := by decide +kernel
theorem dX4_add_67 : decode cX4_add 67 = .ok (.aload_n 0, 1) := by decide +kernel
theorem dX4_add_68 : decode cX4_add 68 = .ok (.getfield 24, 3) := by decide +kernel
theorem dX4_add_71 : decode cX4_add 71 = .ok (.iconst 1, 1) := by decide +kernel
theorem dX4_add_72 : decode cX4_add 72 = .ok (.iadd, 1) := by decide +kernel
theorem dX4_add_73 : decode cX4_add 73 = .ok (.bipush 10, 2) := by decide +kernel
theorem dX4_add_75 : decode cX4_add 75 = .ok (.invokestatic 37, 3) := by decide +kernel
theorem dX4_add_78 : decode cX4_add 78 = .ok (.putfield 24, 3) := by decide +kernel
theorem dX4_add_81 : decode cX4_add 81 = .ok (.return_, 1) := by decide +kernel
theorem dX5_init_0 : decode cX5_init 0 = .ok (.aload_n 0, 1) := by decide +kernel
theorem dX5_init_1 : decode cX5_init 1 = .ok (.invokespecial 3, 3) := by decide +kernel
theorem dX5_init_4 : decode cX5_init 4 = .ok (.aload_n 0, 1) := by decide +kernel
theorem dX5_init_5 : decode cX5_init 5 = .ok (.bipush 30, 2) := by decide +kernel
theorem dX5_init_7 : decode cX5_init 7 = .ok (.anewarray 9, 3) := by decide +kernel
theorem dX5_init_10 : decode cX5_init 10 = .ok (.putfield 11, 3) := by decide +kernel
theorem dX5_init_13 : decode cX5_init 13 = .ok (.iconst 0, 1) := by decide +kernel
theorem dX5_init_14 : decode cX5_init 14 = .ok (.istore_n 1, 1) := by decide +kernel
theorem dX5_init_15 : decode cX5_init 15 = .ok (.iload_n 1, 1) := by decide +kernel
theorem dX5_init_16 : decode cX5_init 16 = .ok (.aload_n 0, 1) := by decide +kernel
theorem dX5_init_17 : decode cX5_init 17 = .ok (.getfield 11, 3) := by decide +kernel
theorem dX5_init_20 : decode cX5_init 20 = .ok (.arraylength, 1) := by decide +kernel
theorem dX5_init_21 : decode cX5_init 21 = .ok (.if_icmp .ge 22, 3) := by decide +kernel
theorem dX5_init_24 : decode cX5_init 24 = .ok (.aload_n 0, 1) := by decide +kernel
theorem dX5_init_25 : decode cX5_init 25 = .ok (.getfield 11, 3) := by decide +kernel
theorem dX5_init_28 : decode cX5_init 28 = .ok (.iload_n 1, 1) := by decide +kernel
theorem dX5_init_29 : decode cX5_init 29 = .ok (.new 9, 3) := by decide +kernel
theorem dX5_init_32 : decode cX5_init 32 = .ok (.dup, 1) := by decide +kernel
theorem dX5_init_33 : decode cX5_init 33 = .ok (.invokespecial 17, 3) := by decide +kernel
theorem dX5_init_36 : decode cX5_init 36 = .ok (.aastore, 1) := by decide +kernel
theorem dX5_init_37 : decode cX5_init 37 = .ok (.iinc 1 1, 3) := by decide +kernel
theorem dX5_init_40 : decode cX5_init 40 = .ok (.goto (-25), 3) := by decide +kernel
theorem dX5_init_43 : decode cX5_init 43 = .ok (.aload_n 0, 1) := by decide +kernel
theorem dX5_init_44 : decode cX5_init 44 = .ok (.iconst 0, 1) := by decide +kernel
theorem dX5_init_45 : decode cX5_init 45 = .ok (.putfield 18, 3) := by decide +kernel
theorem dX5_init_48 : decode cX5_init 48 = .ok (.aload_n 0, 1) := by decide +kernel
theorem dX5_init_49 : decode cX5_init 49 = .ok (.iconst 0, 1) := by decide +kernel
theorem dX5_init_50 : decode cX5_init 50 = .ok (.putfield 22, 3) := by decide +kernel
theorem dX5_init_53 : decode cX5_init 53 = .ok (.aload_n 0, 1) := by decide +kernel
theorem dX5_init_54 : decode cX5_init 54 = .ok (.iconst 1, 1) := by decide +kernel
theorem dX5_init_55 : decode cX5_init 55 = .ok (.putfield 25, 3) := by decide +kernel
theorem dX5_init_58 : decode cX5_init 58 = .ok (.return_, 1) := by decide +kernel
theorem dX5_copyFrom_0 : decode cX5_copyFrom 0 = .ok (.aload_n 0, 1) := by decide +kernel
theorem dX5_copyFrom_1 : decode cX5_copyFrom 1 = .ok (.aload_n 1, 1) := by decide +kernel
theorem dX5_copyFrom_2 : decode cX5_copyFrom 2 = .ok (.getfield 18, 3) := by decide +kernel
theorem dX5_copyFrom_5 : decode cX5_copyFrom 5 = .ok (.putfield 18, 3) := by decide +kernel
theorem dX5_copyFrom_8 : decode cX5_copyFrom 8 = .ok (.iconst 0, 1) := by decide +kernel
theorem dX5_copyFrom_9 : decode cX5_copyFrom 9 = .ok (.istore_n 2, 1) := by decide +kernel
theorem dX5_copyFrom_10 : decode cX5_copyFrom 10 = .ok (.iload_n 2, 1) := by decide +kernel
theorem dX5_copyFrom_11 : decode cX5_copyFrom 11 = .ok (.aload_n 0, 1) := by decide +kernel
theorem dX5_copyFrom_12 : decode cX5_copyFrom 12 = .ok (.getfield 18, 3) := by decide +kernel
theorem dX5_copyFrom_15 : decode cX5_copyFrom 15 = .ok (.if_icmp .ge 24, 3) := by decide +kernel
theorem dX5_copyFrom_18 : decode cX5_copyFrom 18 = .ok (.aload_n 0, 1) := by decide +kernel
theorem dX5_copyFrom_19 : decode cX5_copyFrom 19 = .ok (.getfield 11, 3) := by decide +kernel
theorem dX5_copyFrom_22 : decode cX5_copyFrom 22 = .ok (.iload_n 2, 1) := by decide +kernel
theorem dX5_copyFrom_23 : decode cX5_copyFrom 23 = .ok (.aaload, 1) := by decide +kernel
theorem dX5_copyFrom_24 : decode cX5_copyFrom 24 = .ok (.aload_n 1, 1) := by decide +kernel
theorem dX5_copyFrom_25 : decode cX5_copyFrom 25 = .ok (.getfield 11, 3) := by decide +kernel
theorem dX5_copyFrom_28 : decode cX5_copyFrom 28 = .ok (.iload_n 2, 1) := by decide +kernel
theorem dX5_copyFrom_29 : decode cX5_copyFrom 29 = .ok (.aaload, 1) := by decide +kernel
theorem dX5_copyFrom_30 : decode cX5_copyFrom 30 = .ok (.invokevirtual 28, 3) := by decide +kernel
theorem dX5_copyFrom_33 : decode cX5_copyFrom 33 = .ok (.iinc 2 1, 3) := by decide +kernel
theorem dX5_copyFrom_36 : decode cX5_copyFrom 36 = .ok (.goto (-26), 3) := by decide +kernel
theorem dX5_copyFrom_39 : decode cX5_copyFrom 39 = .ok (.aload_n 0, 1) := by decide +kernel
theorem dX5_copyFrom_40 : decode cX5_copyFrom 40 = .ok (.aload_n 1, 1) := by decide +kernel
theorem dX5_copyFrom_41 : decode cX5_copyFrom 41 = .ok (.getfield 22, 3) := by decide +kernel
theorem dX5_copyFrom_44 : decode cX5_copyFrom 44 = .ok (.putfield 22, 3) := by decide +kernel
theorem dX5_copyFrom_47 : decode cX5_copyFrom 47 = .ok (.aload_n 0, 1) := by decide +kernel
theorem dX5_copyFrom_48 : decode cX5_copyFrom 48 = .ok (.aload_n 1, 1) := by decide +kernel
theorem dX5_copyFrom_49 : decode cX5_copyFrom 49 = .ok (.getfield 25, 3) := by decide +kernel
theorem dX5_copyFrom_52 : decode cX5_copyFrom 52 = .ok (.putfield 25, 3) := by decide +kernel
theorem dX5_copyFrom_55 : decode cX5_copyFrom 55 = .ok (.return_, 1) := by decide +kernel
theorem dX5_jobAt_0 : decode cX5_jobAt 0 = .ok (.iload_n 1, 1) := by decide +kernel
theorem dX5_jobAt_1 : decode cX5_jobAt 1 = .ok (.ifCond .lt 20, 3) := by decide +kernel
theorem dX5_jobAt_4 : decode cX5_jobAt 4 = .ok (.iload_n 1, 1) := by decide +kernel
theorem dX5_jobAt_5 : decode cX5_jobAt 5 = .ok (.aload_n 0, 1) := by decide +kernel
theorem dX5_jobAt_6 : decode cX5_jobAt 6 = .ok (.getfield 18, 3) := by decide +kernel
theorem dX5_jobAt_9 : decode cX5_jobAt 9 = .ok (.if_icmp .ge 12, 3) := by decide +kernel
theorem dX5_jobAt_12 : decode cX5_jobAt 12 = .ok (.aload_n 0, 1) := by decide +kernel
theorem dX5_jobAt_13 : decode cX5_jobAt 13 = .ok (.getfield 11, 3) := by decide +kernel
theorem dX5_jobAt_16 : decode cX5_jobAt 16 = .ok (.iload_n 1, 1) := by decide +kernel
theorem dX5_jobAt_17 : decode cX5_jobAt 17 = .ok (.aaload, 1) := by decide +kernel
theorem dX5_jobAt_18 : decode cX5_jobAt 18 = .ok (.goto 4, 3) := by decide +kernel
theorem dX5_jobAt_21 : decode cX5_jobAt 21 = .ok (.aconst_null, 1) := by decide +kernel
theorem dX5_jobAt_22 : decode cX5_jobAt 22 = .ok (.areturn, 1) := by decide +kernel
theorem dX5_enter_0 : decode cX5_enter 0 = .ok (.aload_n 0, 1) := by decide +kernel
theorem dX5_enter_1 : decode cX5_enter 1 = .ok (.getfield 18, 3) := by decide +kernel
theorem dX5_enter_4 : decode cX5_enter 4 = .ok (.aload_n 0, 1) := by decide +kernel
theorem dX5_enter_5 : decode cX5_enter 5 = .ok (.getfield 11, 3) := by decide +kernel
theorem dX5_enter_8 : decode cX5_enter 8 = .ok (.arraylength, 1) := by decide +kernel
theorem dX5_enter_9 : decode cX5_enter 9 = .ok (.if_icmp .lt 6, 3) := by decide +kernel
theorem dX5_enter_12 : decode cX5_enter 12 = .ok (.bipush (-3), 2) := by decide +kernel
theorem dX5_enter_14 : decode cX5_enter 14 = .ok (.ireturn, 1) := by decide +kernel
theorem dX5_enter_15 : decode cX5_enter 15 = .ok (.aload_n 0, 1) := by decide +kernel
theorem dX5_enter_16 : decode cX5_enter 16 = .ok (.getfield 11, 3) := by decide +kernel
theorem dX5_enter_19 : decode cX5_enter 19 = .ok (.aload_n 0, 1) := by decide +kernel
theorem dX5_enter_20 : decode cX5_enter 20 = .ok (.getfield 18, 3) := by decide +kernel
theorem dX5_enter_23 : decode cX5_enter 23 = .ok (.aaload, 1) := by decide +kernel
theorem dX5_enter_24 : decode cX5_enter 24 = .ok (.iload_n 1, 1) := by decide +kernel
theorem dX5_enter_25 : decode cX5_enter 25 = .ok (.iload_n 2, 1) := by decide +kernel
theorem dX5_enter_26 : decode cX5_enter 26 = .ok (.iload_n 3, 1) := by decide +kernel
theorem dX5_enter_27 : decode cX5_enter 27 = .ok (.invokevirtual 32, 3) := by decide +kernel
theorem dX5_enter_30 : decode cX5_enter 30 = .ok (.aload_n 0, 1) := by decide +kernel
theorem dX5_enter_31 : decode cX5_enter 31 = .ok (.dup, 1) := by decide +kernel
theorem dX5_enter_32 : decode cX5_enter 32 = .ok (.getfield 18, 3) := by decide +kernel
theorem dX5_enter_35 : decode cX5_enter 35 = .ok (.dup_x1, 1) := by decide +kernel
theorem dX5_enter_36 : decode cX5_enter 36 = .ok (.iconst 1, 1) := by decide +kernel
theorem dX5_enter_37 : decode cX5_enter 37 = .ok (.iadd, 1) := by decide +kernel
theorem dX5_enter_38 : decode cX5_enter 38 = .ok (.putfield 18, 3) := by decide +kernel
theorem dX5_enter_41 : decode cX5_enter 41 = .ok (.ireturn, 1) := by decide +kernel
theorem dX5_rankKinds_0 : decode cX5_rankKinds 0 = .ok (.aload_n 0, 1) := by decide +kernel
theorem dX5_rankKinds_1 : decode cX5_rankKinds 1 = .ok (.iload_n 1, 1) := by decide +kernel
theorem dX5_rankKinds_2 : decode cX5_rankKinds 2 = .ok (.putfield 22, 3) := by decide +kernel
theorem dX5_rankKinds_5 : decode cX5_rankKinds 5 = .ok (.aload_n 0, 1) := by decide +kernel
theorem dX5_rankKinds_6 : decode cX5_rankKinds 6 = .ok (.iload_n 2, 1) := by decide +kernel
theorem dX5_rankKinds_7 : decode cX5_rankKinds 7 = .ok (.putfield 25, 3) := by decide +kernel
theorem dX5_rankKinds_10 : decode cX5_rankKinds 10 = .ok (.iconst 3, 1) := by decide +kernel
theorem dX5_rankKinds_11 : decode cX5_rankKinds 11 = .ok (.iload_n 1, 1) := by decide +kernel
theorem dX5_rankKinds_12 : decode cX5_rankKinds 12 = .ok (.isub, 1) := by decide +kernel
theorem dX5_rankKinds_13 : decode cX5_rankKinds 13 = .ok (.iload_n 2, 1) := by decide +kernel
theorem dX5_rankKinds_14 : decode cX5_rankKinds 14 = .ok (.isub, 1) := by decide +kernel
theorem dX5_rankKinds_15 : decode cX5_rankKinds 15 = .ok (.ireturn, 1) := by decide +kernel
theorem dX5_rankOf_0 : decode cX5_rankOf 0 = .ok (.iload_n 1, 1) := by decide +kernel
theorem dX5_rankOf_1 : decode cX5_rankOf 1 = .ok (.aload_n 0, 1) := by decide +kernel
theorem dX5_rankOf_2 : decode cX5_rankOf 2 = .ok (.getfield 22, 3) := by decide +kernel
theorem dX5_rankOf_5 : decode cX5_rankOf 5 = .ok (.if_icmp .ne 7, 3) := by decide +kernel
theorem dX5_rankOf_8 : decode cX5_rankOf 8 = .ok (.iconst 0, 1) := by decide +kernel
theorem dX5_rankOf_9 : decode cX5_rankOf 9 = .ok (.goto 16, 3) := by decide +kernel
theorem dX5_rankOf_12 : decode cX5_rankOf 12 = .ok (.iload_n 1, 1) := by decide +kernel
theorem dX5_rankOf_13 : decode cX5_rankOf 13 = .ok (.aload_n 0, 1) := by decide +kernel
theorem dX5_rankOf_14 : decode cX5_rankOf 14 = .ok (.getfield 25, 3) := by decide +kernel
theorem dX5_rankOf_17 : decode cX5_rankOf 17 = .ok (.if_icmp .ne 7, 3) := by decide +kernel
theorem dX5_rankOf_20 : decode cX5_rankOf 20 = .ok (.iconst 1, 1) := by decide +kernel
theorem dX5_rankOf_21 : decode cX5_rankOf 21 = .ok (.goto 4, 3) := by decide +kernel
theorem dX5_rankOf_24 : decode cX5_rankOf 24 = .ok (.iconst 2, 1) := by decide +kernel
theorem dX5_rankOf_25 : decode cX5_rankOf 25 = .ok (.ireturn, 1) := by decide +kernel
theorem dX5_jobsInState_0 : decode cX5_jobsInState 0 = .ok (.iconst 0, 1) := by decide +kernel
theorem dX5_jobsInState_1 : decode cX5_jobsInState 1 = .ok (.istore_n 2, 1) := by decide +kernel
theorem dX5_jobsInState_2 : decode cX5_jobsInState 2 = .ok (.iconst 0, 1) := by decide +kernel
theorem dX5_jobsInState_3 : decode cX5_jobsInState 3 = .ok (.istore_n 3, 1) := by decide +kernel
theorem dX5_jobsInState_4 : decode cX5_jobsInState 4 = .ok (.iload_n 3, 1) := by decide +kernel
theorem dX5_jobsInState_5 : decode cX5_jobsInState 5 = .ok (.aload_n 0, 1) := by decide +kernel
theorem dX5_jobsInState_6 : decode cX5_jobsInState 6 = .ok (.getfield 18, 3) := by decide +kernel
theorem dX5_jobsInState_9 : decode cX5_jobsInState 9 = .ok (.if_icmp .ge 30, 3) := by decide +kernel
theorem dX5_jobsInState_12 : decode cX5_jobsInState 12 = .ok (.iload_n 2, 1) := by decide +kernel
theorem dX5_jobsInState_13 : decode cX5_jobsInState 13 = .ok (.aload_n 0, 1) := by decide +kernel
theorem dX5_jobsInState_14 : decode cX5_jobsInState 14 = .ok (.getfield 11, 3) := by decide +kernel
theorem dX5_jobsInState_17 : decode cX5_jobsInState 17 = .ok (.iload_n 3, 1) := by decide +kernel
theorem dX5_jobsInState_18 : decode cX5_jobsInState 18 = .ok (.aaload, 1) := by decide +kernel
theorem dX5_jobsInState_19 : decode cX5_jobsInState 19 = .ok (.getfield 36, 3) := by decide +kernel
theorem dX5_jobsInState_22 : decode cX5_jobsInState 22 = .ok (.iload_n 1, 1) := by decide +kernel
theorem dX5_jobsInState_23 : decode cX5_jobsInState 23 = .ok (.if_icmp .ne 7, 3) := by decide +kernel
theorem dX5_jobsInState_26 : decode cX5_jobsInState 26 = .ok (.iconst 1, 1) := by decide +kernel
theorem dX5_jobsInState_27 : decode cX5_jobsInState 27 = .ok (.goto 4, 3) := by decide +kernel
theorem dX5_jobsInState_30 : decode cX5_jobsInState 30 = .ok (.iconst 0, 1) := by decide +kernel
theorem dX5_jobsInState_31 : decode cX5_jobsInState 31 = .ok (.iadd, 1) := by decide +kernel
theorem dX5_jobsInState_32 : decode cX5_jobsInState 32 = .ok (.istore_n 2, 1) := by decide +kernel
theorem dX5_jobsInState_33 : decode cX5_jobsInState 33 = .ok (.iinc 3 1, 3) := by decide +kernel
theorem dX5_jobsInState_36 : decode cX5_jobsInState 36 = .ok (.goto (-32), 3) := by decide +kernel
theorem dX5_jobsInState_39 : decode cX5_jobsInState 39 = .ok (.iload_n 2, 1) := by decide +kernel
theorem dX5_jobsInState_40 : decode cX5_jobsInState 40 = .ok (.ireturn, 1) := by decide +kernel
theorem dX5_jobsWith_0 : decode cX5_jobsWith 0 = .ok (.iconst 0, 1) := by decide +kernel
theorem dX5_jobsWith_1 : decode cX5_jobsWith 1 = .ok (.istore_n 2, 1) := by decide +kernel
theorem dX5_jobsWith_2 : decode cX5_jobsWith 2 = .ok (.iconst 0, 1) := by decide +kernel
theorem dX5_jobsWith_3 : decode cX5_jobsWith 3 = .ok (.istore_n 3, 1) := by decide +kernel
theorem dX5_jobsWith_4 : decode cX5_jobsWith 4 = .ok (.iload_n 3, 1) := by decide +kernel
theorem dX5_jobsWith_5 : decode cX5_jobsWith 5 = .ok (.aload_n 0, 1) := by decide +kernel
theorem dX5_jobsWith_6 : decode cX5_jobsWith 6 = .ok (.getfield 18, 3) := by decide +kernel
theorem dX5_jobsWith_9 : decode cX5_jobsWith 9 = .ok (.if_icmp .ge 42, 3) := by decide +kernel
theorem dX5_jobsWith_12 : decode cX5_jobsWith 12 = .ok (.aload_n 0, 1) := by decide +kernel
theorem dX5_jobsWith_13 : decode cX5_jobsWith 13 = .ok (.getfield 11, 3) := by decide +kernel
theorem dX5_jobsWith_16 : decode cX5_jobsWith 16 = .ok (.iload_n 3, 1) := by decide +kernel
theorem dX5_jobsWith_17 : decode cX5_jobsWith 17 = .ok (.aaload, 1) := by decide +kernel
theorem dX5_jobsWith_18 : decode cX5_jobsWith 18 = .ok (.astore 4, 2) := by decide +kernel
theorem dX5_jobsWith_20 : decode cX5_jobsWith 20 = .ok (.iload_n 2, 1) := by decide +kernel
theorem dX5_jobsWith_21 : decode cX5_jobsWith 21 = .ok (.aload 4, 2) := by decide +kernel
theorem dX5_jobsWith_23 : decode cX5_jobsWith 23 = .ok (.invokevirtual 39, 3) := by decide +kernel
theorem dX5_jobsWith_26 : decode cX5_jobsWith 26 = .ok (.ifCond .eq 16, 3) := by decide +kernel
theorem dX5_jobsWith_29 : decode cX5_jobsWith 29 = .ok (.aload 4, 2) := by decide +kernel
theorem dX5_jobsWith_31 : decode cX5_jobsWith 31 = .ok (.invokevirtual 43, 3) := by decide +kernel
theorem dX5_jobsWith_34 : decode cX5_jobsWith 34 = .ok (.iload_n 1, 1) := by decide +kernel
theorem dX5_jobsWith_35 : decode cX5_jobsWith 35 = .ok (.if_icmp .ne 7, 3) := by decide +kernel
theorem dX5_jobsWith_38 : decode cX5_jobsWith 38 = .ok (.iconst 1, 1) := by decide +kernel
theorem dX5_jobsWith_39 : decode cX5_jobsWith 39 = .ok (.goto 4, 3) := by decide +kernel
theorem dX5_jobsWith_42 : decode cX5_jobsWith 42 = .ok (.iconst 0, 1) := by decide +kernel
theorem dX5_jobsWith_43 : decode cX5_jobsWith 43 = .ok (.iadd, 1) := by decide +kernel
theorem dX5_jobsWith_44 : decode cX5_jobsWith 44 = .ok (.istore_n 2, 1) := by decide +kernel
theorem dX5_jobsWith_45 : decode cX5_jobsWith 45 = .ok (.iinc 3 1, 3) := by decide +kernel
theorem dX5_jobsWith_48 : decode cX5_jobsWith 48 = .ok (.goto (-44), 3) := by decide +kernel
theorem dX5_jobsWith_51 : decode cX5_jobsWith 51 = .ok (.iload_n 2, 1) := by decide +kernel
theorem dX5_jobsWith_52 : decode cX5_jobsWith 52 = .ok (.ireturn, 1) := by decide +kernel
theorem dX6_init_0 : decode cX6_init 0 = .ok (.aload_n 0, 1) := by decide +kernel
theorem dX6_init_1 : decode cX6_init 1 = .ok (.invokespecial 3, 3) := by decide +kernel
theorem dX6_init_4 : decode cX6_init 4 = .ok (.aload_n 0, 1) := by decide +kernel
theorem dX6_init_5 : decode cX6_init 5 = .ok (.new 9, 3) := by decide +kernel
theorem dX6_init_8 : decode cX6_init 8 = .ok (.dup, 1) := by decide +kernel
theorem dX6_init_9 : decode cX6_init 9 = .ok (.invokespecial 11, 3) := by decide +kernel
theorem dX6_init_12 : decode cX6_init 12 = .ok (.putfield 12, 3) := by decide +kernel
theorem dX6_init_15 : decode cX6_init 15 = .ok (.aload_n 0, 1) := by decide +kernel
theorem dX6_init_16 : decode cX6_init 16 = .ok (.new 18, 3) := by decide +kernel
theorem dX6_init_19 : decode cX6_init 19 = .ok (.dup, 1) := by decide +kernel
theorem dX6_init_20 : decode cX6_init 20 = .ok (.invokespecial 20, 3) := by decide +kernel
theorem dX6_init_23 : decode cX6_init 23 = .ok (.putfield 21, 3) := by decide +kernel
theorem dX6_init_26 : decode cX6_init 26 = .ok (.aload_n 0, 1) := by decide +kernel
theorem dX6_init_27 : decode cX6_init 27 = .ok (.new 25, 3) := by decide +kernel
theorem dX6_init_30 : decode cX6_init 30 = .ok (.dup, 1) := by decide +kernel
theorem dX6_init_31 : decode cX6_init 31 = .ok (.invokespecial 27, 3) := by decide +kernel
theorem dX6_init_34 : decode cX6_init 34 = .ok (.putfield 28, 3) := by decide +kernel
theorem dX6_init_37 : decode cX6_init 37 = .ok (.aload_n 0, 1) := by decide +kernel
theorem dX6_init_38 : decode cX6_init 38 = .ok (.fconst 0, 1) := by decide +kernel
theorem dX6_init_39 : decode cX6_init 39 = .ok (.putfield 32, 3) := by decide +kernel
theorem dX6_init_42 : decode cX6_init 42 = .ok (.aload_n 0, 1) := by decide +kernel
theorem dX6_init_43 : decode cX6_init 43 = .ok (.ldc 36, 2) := by decide +kernel
theorem dX6_init_45 : decode cX6_init 45 = .ok (.putfield 37, 3) := by decide +kernel
theorem dX6_init_48 : decode cX6_init 48 = .ok (.aload_n 0, 1) := by decide +kernel
theorem dX6_init_49 : decode cX6_init 49 = .ok (.iconst 0, 1) := by decide +kernel
theorem dX6_init_50 : decode cX6_init 50 = .ok (.putfield 40, 3) := by decide +kernel
theorem dX6_init_53 : decode cX6_init 53 = .ok (.aload_n 0, 1) := by decide +kernel
theorem dX6_init_54 : decode cX6_init 54 = .ok (.iconst 0, 1) := by decide +kernel
theorem dX6_init_55 : decode cX6_init 55 = .ok (.putfield 44, 3) := by decide +kernel
theorem dX6_init_58 : decode cX6_init 58 = .ok (.aload_n 0, 1) := by decide +kernel
theorem dX6_init_59 : decode cX6_init 59 = .ok (.bipush (-5), 2) := by decide +kernel
theorem dX6_init_61 : decode cX6_init 61 = .ok (.putfield 47, 3) := by decide +kernel
theorem dX6_init_64 : decode cX6_init 64 = .ok (.aload_n 0, 1) := by decide +kernel
theorem dX6_init_65 : decode cX6_init 65 = .ok (.bipush (-5), 2) := by decide +kernel
theorem dX6_init_67 : decode cX6_init 67 = .ok (.putfield 50, 3) := by decide +kernel
theorem dX6_init_70 : decode cX6_init 70 = .ok (.aload_n 0, 1) := by decide +kernel
theorem dX6_init_71 : decode cX6_init 71 = .ok (.iconst 0, 1) := by decide +kernel
theorem dX6_init_72 : decode cX6_init 72 = .ok (.putfield 53, 3) := by decide +kernel
theorem dX6_init_75 : decode cX6_init 75 = .ok (.aload_n 0, 1) := by decide +kernel
theorem dX6_init_76 : decode cX6_init 76 = .ok (.iconst 0, 1) := by decide +kernel
theorem dX6_init_77 : decode cX6_init 77 = .ok (.putfield 56, 3) := by decide +kernel
theorem dX6_init_80 : decode cX6_init 80 = .ok (.aload_n 0, 1) := by decide +kernel
theorem dX6_init_81 : decode cX6_init 81 = .ok (.iconst 0, 1) := by decide +kernel
theorem dX6_init_82 : decode cX6_init 82 = .ok (.putfield 59, 3) := by decide +kernel
theorem dX6_init_85 : decode cX6_init 85 = .ok (.return_, 1) := by decide +kernel
theorem dX6_copyFrom_0 : decode cX6_copyFrom 0 = .ok (.aload_n 0, 1) := by decide +kernel
theorem dX6_copyFrom_1 : decode cX6_copyFrom 1 = .ok (.getfield 12, 3) := by decide +kernel
theorem dX6_copyFrom_4 : decode cX6_copyFrom 4 = .ok (.aload_n 1, 1) := by decide +kernel
theorem dX6_copyFrom_5 : decode cX6_copyFrom 5 = .ok (.getfield 12, 3) := by decide +kernel
theorem dX6_copyFrom_8 : decode cX6_copyFrom 8 = .ok (.invokevirtual 62, 3) := by decide +kernel
theorem dX6_copyFrom_11 : decode cX6_copyFrom 11 = .ok (.aload_n 0, 1) := by decide +kernel
theorem dX6_copyFrom_12 : decode cX6_copyFrom 12 = .ok (.getfield 21, 3) := by decide +kernel
theorem dX6_copyFrom_15 : decode cX6_copyFrom 15 = .ok (.aload_n 1, 1) := by decide +kernel
theorem dX6_copyFrom_16 : decode cX6_copyFrom 16 = .ok (.getfield 21, 3) := by decide +kernel
theorem dX6_copyFrom_19 : decode cX6_copyFrom 19 = .ok (.invokevirtual 66, 3) := by decide +kernel
theorem dX6_copyFrom_22 : decode cX6_copyFrom 22 = .ok (.aload_n 0, 1) := by decide +kernel
theorem dX6_copyFrom_23 : decode cX6_copyFrom 23 = .ok (.getfield 28, 3) := by decide +kernel
theorem dX6_copyFrom_26 : decode cX6_copyFrom 26 = .ok (.aload_n 1, 1) := by decide +kernel
theorem dX6_copyFrom_27 : decode cX6_copyFrom 27 = .ok (.getfield 28, 3) := by decide +kernel
theorem dX6_copyFrom_30 : decode cX6_copyFrom 30 = .ok (.invokevirtual 69, 3) := by decide +kernel
theorem dX6_copyFrom_33 : decode cX6_copyFrom 33 = .ok (.aload_n 0, 1) := by decide +kernel
theorem dX6_copyFrom_34 : decode cX6_copyFrom 34 = .ok (.aload_n 1, 1) := by decide +kernel
theorem dX6_copyFrom_35 : decode cX6_copyFrom 35 = .ok (.getfield 32, 3) := by decide +kernel
theorem dX6_copyFrom_38 : decode cX6_copyFrom 38 = .ok (.putfield 32, 3) := by decide +kernel
theorem dX6_copyFrom_41 : decode cX6_copyFrom 41 = .ok (.aload_n 0, 1) := by decide +kernel
theorem dX6_copyFrom_42 : decode cX6_copyFrom 42 = .ok (.aload_n 1, 1) := by decide +kernel
theorem dX6_copyFrom_43 : decode cX6_copyFrom 43 = .ok (.getfield 37, 3) := by decide +kernel
theorem dX6_copyFrom_46 : decode cX6_copyFrom 46 = .ok (.putfield 37, 3) := by decide +kernel
theorem dX6_copyFrom_49 : decode cX6_copyFrom 49 = .ok (.aload_n 0, 1) := by decide +kernel
theorem dX6_copyFrom_50 : decode cX6_copyFrom 50 = .ok (.aload_n 1, 1) := by decide +kernel
theorem dX6_copyFrom_51 : decode cX6_copyFrom 51 = .ok (.getfield 40, 3) := by decide +kernel
theorem dX6_copyFrom_54 : decode cX6_copyFrom 54 = .ok (.putfield 40, 3) := by decide +kernel
theorem dX6_copyFrom_57 : decode cX6_copyFrom 57 = .ok (.aload_n 0, 1) := by decide +kernel
theorem dX6_copyFrom_58 : decode cX6_copyFrom 58 = .ok (.aload_n 1, 1) := by decide +kernel
theorem dX6_copyFrom_59 : decode cX6_copyFrom 59 = .ok (.getfield 44, 3) := by decide +kernel
theorem dX6_copyFrom_62 : decode cX6_copyFrom 62 = .ok (.putfield 44, 3) := by decide +kernel
theorem dX6_copyFrom_65 : decode cX6_copyFrom 65 = .ok (.aload_n 0, 1) := by decide +kernel
theorem dX6_copyFrom_66 : decode cX6_copyFrom 66 = .ok (.aload_n 1, 1) := by decide +kernel
theorem dX6_copyFrom_67 : decode cX6_copyFrom 67 = .ok (.getfield 47, 3) := by decide +kernel
theorem dX6_copyFrom_70 : decode cX6_copyFrom 70 = .ok (.putfield 47, 3) := by decide +kernel
theorem dX6_copyFrom_73 : decode cX6_copyFrom 73 = .ok (.aload_n 0, 1) := by decide +kernel
