theorem dX0_init_0 : decode cX0_init 0 = .ok (.aload_n 0, 1) := by decide +kernel
theorem dX0_init_1 : decode cX0_init 1 = .ok (.invokespecial 3, 3) := by decide +kernel
theorem dX0_init_4 : decode cX0_init 4 = .ok (.aload_n 0, 1) := by decide +kernel
theorem dX0_init_5 : decode cX0_init 5 = .ok (.bipush 7, 2) := by decide +kernel
theorem dX0_init_7 : decode cX0_init 7 = .ok (.anewarray 9, 3) := by decide +kernel
theorem dX0_init_10 : decode cX0_init 10 = .ok (.putfield 11, 3) := by decide +kernel
theorem dX0_init_13 : decode cX0_init 13 = .ok (.iconst 0, 1) := by decide +kernel
theorem dX0_init_14 : decode cX0_init 14 = .ok (.istore_n 1, 1) := by decide +kernel
theorem dX0_init_15 : decode cX0_init 15 = .ok (.iload_n 1, 1) := by decide +kernel
theorem dX0_init_16 : decode cX0_init 16 = .ok (.bipush 6, 2) := by decide +kernel
theorem dX0_init_18 : decode cX0_init 18 = .ok (.if_icmp .gt 22, 3) := by decide +kernel
theorem dX0_init_21 : decode cX0_init 21 = .ok (.aload_n 0, 1) := by decide +kernel
theorem dX0_init_22 : decode cX0_init 22 = .ok (.getfield 11, 3) := by decide +kernel
theorem dX0_init_25 : decode cX0_init 25 = .ok (.iload_n 1, 1) := by decide +kernel
theorem dX0_init_26 : decode cX0_init 26 = .ok (.new 9, 3) := by decide +kernel
theorem dX0_init_29 : decode cX0_init 29 = .ok (.dup, 1) := by decide +kernel
theorem dX0_init_30 : decode cX0_init 30 = .ok (.invokespecial 17, 3) := by decide +kernel
theorem dX0_init_33 : decode cX0_init 33 = .ok (.aastore, 1) := by decide +kernel
theorem dX0_init_34 : decode cX0_init 34 = .ok (.iinc 1 1, 3) := by decide +kernel
theorem dX0_init_37 : decode cX0_init 37 = .ok (.goto (-22), 3) := by decide +kernel
theorem dX0_init_40 : decode cX0_init 40 = .ok (.aload_n 0, 1) := by decide +kernel
theorem dX0_init_41 : decode cX0_init 41 = .ok (.iconst 0, 1) := by decide +kernel
theorem dX0_init_42 : decode cX0_init 42 = .ok (.putfield 18, 3) := by decide +kernel
theorem dX0_init_45 : decode cX0_init 45 = .ok (.aload_n 0, 1) := by decide +kernel
theorem dX0_init_46 : decode cX0_init 46 = .ok (.iconst 0, 1) := by decide +kernel
theorem dX0_init_47 : decode cX0_init 47 = .ok (.putfield 22, 3) := by decide +kernel
theorem dX0_init_50 : decode cX0_init 50 = .ok (.return_, 1) := by decide +kernel
theorem dX0_prepare_0 : decode cX0_prepare 0 = .ok (.aload_n 0, 1) := by decide +kernel
theorem dX0_prepare_1 : decode cX0_prepare 1 = .ok (.getfield 11, 3) := by decide +kernel
theorem dX0_prepare_4 : decode cX0_prepare 4 = .ok (.aload_n 0, 1) := by decide +kernel
theorem dX0_prepare_5 : decode cX0_prepare 5 = .ok (.getfield 18, 3) := by decide +kernel
theorem dX0_prepare_8 : decode cX0_prepare 8 = .ok (.aaload, 1) := by decide +kernel
theorem dX0_prepare_9 : decode cX0_prepare 9 = .ok (.aload_n 1, 1) := by decide +kernel
theorem dX0_prepare_10 : decode cX0_prepare 10 = .ok (.invokevirtual 25, 3) := by decide +kernel
theorem dX0_prepare_13 : decode cX0_prepare 13 = .ok (.return_, 1) := by decide +kernel
theorem dX0_recordUnlessError_0 : decode cX0_recordUnlessError 0 = .ok (.iload_n 1, 1) := by decide +kernel
theorem dX0_recordUnlessError_1 : decode cX0_recordUnlessError 1 = .ok (.ifCond .lt 41, 3) := by decide +kernel
theorem dX0_recordUnlessError_4 : decode cX0_recordUnlessError 4 = .ok (.aload_n 0, 1) := by decide +kernel
theorem dX0_recordUnlessError_5 : decode cX0_recordUnlessError 5 = .ok (.aload_n 0, 1) := by decide +kernel
theorem dX0_recordUnlessError_6 : decode cX0_recordUnlessError 6 = .ok (.getfield 18, 3) := by decide +kernel
theorem dX0_recordUnlessError_9 : decode cX0_recordUnlessError 9 = .ok (.bipush 6, 2) := by decide +kernel
theorem dX0_recordUnlessError_11 : decode cX0_recordUnlessError 11 = .ok (.if_icmp .ne 7, 3) := by decide +kernel
theorem dX0_recordUnlessError_14 : decode cX0_recordUnlessError 14 = .ok (.iconst 0, 1) := by decide +kernel
theorem dX0_recordUnlessError_15 : decode cX0_recordUnlessError 15 = .ok (.goto 9, 3) := by decide +kernel
theorem dX0_recordUnlessError_18 : decode cX0_recordUnlessError 18 = .ok (.aload_n 0, 1) := by decide +kernel
theorem dX0_recordUnlessError_19 : decode cX0_recordUnlessError 19 = .ok (.getfield 18, 3) := by decide +kernel
theorem dX0_recordUnlessError_22 : decode cX0_recordUnlessError 22 = .ok (.iconst 1, 1) := by decide +kernel
theorem dX0_recordUnlessError_23 : decode cX0_recordUnlessError 23 = .ok (.iadd, 1) := by decide +kernel
theorem dX0_recordUnlessError_24 : decode cX0_recordUnlessError 24 = .ok (.putfield 18, 3) := by decide +kernel
theorem dX0_recordUnlessError_27 : decode cX0_recordUnlessError 27 = .ok (.aload_n 0, 1) := by decide +kernel
theorem dX0_recordUnlessError_28 : decode cX0_recordUnlessError 28 = .ok (.aload_n 0, 1) := by decide +kernel
theorem dX0_recordUnlessError_29 : decode cX0_recordUnlessError 29 = .ok (.getfield 22, 3) := by decide +kernel
theorem dX0_recordUnlessError_32 : decode cX0_recordUnlessError 32 = .ok (.iconst 1, 1) := by decide +kernel
theorem dX0_recordUnlessError_33 : decode cX0_recordUnlessError 33 = .ok (.iadd, 1) := by decide +kernel
theorem dX0_recordUnlessError_34 : decode cX0_recordUnlessError 34 = .ok (.bipush 6, 2) := by decide +kernel
theorem dX0_recordUnlessError_36 : decode cX0_recordUnlessError 36 = .ok (.invokestatic 29, 3) := by decide +kernel
theorem dX0_recordUnlessError_39 : decode cX0_recordUnlessError 39 = .ok (.putfield 22, 3) := by decide +kernel
theorem dX0_recordUnlessError_42 : decode cX0_recordUnlessError 42 = .ok (.iload_n 1, 1) := by decide +kernel
theorem dX0_recordUnlessError_43 : decode cX0_recordUnlessError 43 = .ok (.ireturn, 1) := by decide +kernel
theorem dX2_init_0 : decode cX2_init 0 = .ok (.aload_n 0, 1) := by decide +kernel
theorem dX2_init_1 : decode cX2_init 1 = .ok (.invokespecial 3, 3) := by decide +kernel
theorem dX2_init_4 : decode cX2_init 4 = .ok (.aload_n 0, 1) := by decide +kernel
theorem dX2_init_5 : decode cX2_init 5 = .ok (.aload_n 1, 1) := by decide +kernel
theorem dX2_init_6 : decode cX2_init 6 = .ok (.putfield 9, 3) := by decide +kernel
theorem dX2_init_9 : decode cX2_init 9 = .ok (.return_, 1) := by decide +kernel
theorem dX3_init_0 : decode cX3_init 0 = .ok (.aload_n 0, 1) := by decide +kernel
theorem dX3_init_1 : decode cX3_init 1 = .ok (.invokespecial 3, 3) := by decide +kernel
theorem dX3_init_4 : decode cX3_init 4 = .ok (.aload_n 0, 1) := by decide +kernel
theorem dX3_init_5 : decode cX3_init 5 = .ok (.bipush 80, 2) := by decide +kernel
theorem dX3_init_7 : decode cX3_init 7 = .ok (.newarray .char, 2) := by decide +kernel
theorem dX3_init_9 : decode cX3_init 9 = .ok (.putfield 9, 3) := by decide +kernel
theorem dX3_init_12 : decode cX3_init 12 = .ok (.aload_n 0, 1) := by decide +kernel
theorem dX3_init_13 : decode cX3_init 13 = .ok (.iconst 0, 1) := by decide +kernel
theorem dX3_init_14 : decode cX3_init 14 = .ok (.putfield 15, 3) := by decide +kernel
theorem dX3_init_17 : decode cX3_init 17 = .ok (.return_, 1) := by decide +kernel
theorem dX4_init_0 : decode cX4_init 0 = .ok (.aload_n 0, 1) := by decide +kernel
theorem dX4_init_1 : decode cX4_init 1 = .ok (.invokespecial 3, 3) := by decide +kernel
theorem dX4_init_4 : decode cX4_init 4 = .ok (.return_, 1) := by decide +kernel
theorem dX4_come_0 : decode cX4_come 0 = .ok (.aload_n 0, 1) := by decide +kernel
theorem dX4_come_1 : decode cX4_come 1 = .ok (.iload_n 1, 1) := by decide +kernel
theorem dX4_come_2 : decode cX4_come 2 = .ok (.putfield 9, 3) := by decide +kernel
theorem dX4_come_5 : decode cX4_come 5 = .ok (.aload_n 0, 1) := by decide +kernel
theorem dX4_come_6 : decode cX4_come 6 = .ok (.iload_n 2, 1) := by decide +kernel
theorem dX4_come_7 : decode cX4_come 7 = .ok (.putfield 15, 3) := by decide +kernel
theorem dX4_come_10 : decode cX4_come 10 = .ok (.aload_n 0, 1) := by decide +kernel
theorem dX4_come_11 : decode cX4_come 11 = .ok (.iload_n 3, 1) := by decide +kernel
theorem dX4_come_12 : decode cX4_come 12 = .ok (.putfield 18, 3) := by decide +kernel
theorem dX4_come_15 : decode cX4_come 15 = .ok (.aload_n 0, 1) := by decide +kernel
theorem dX4_come_16 : decode cX4_come 16 = .ok (.iload 4, 2) := by decide +kernel
theorem dX4_come_18 : decode cX4_come 18 = .ok (.putfield 21, 3) := by decide +kernel
theorem dX4_come_21 : decode cX4_come 21 = .ok (.aload_n 0, 1) := by decide +kernel
theorem dX4_come_22 : decode cX4_come 22 = .ok (.iconst 0, 1) := by decide +kernel
theorem dX4_come_23 : decode cX4_come 23 = .ok (.putfield 25, 3) := by decide +kernel
theorem dX4_come_26 : decode cX4_come 26 = .ok (.aload_n 0, 1) := by decide +kernel
theorem dX4_come_27 : decode cX4_come 27 = .ok (.iconst 0, 1) := by decide +kernel
theorem dX4_come_28 : decode cX4_come 28 = .ok (.putfield 28, 3) := by decide +kernel
theorem dX4_come_31 : decode cX4_come 31 = .ok (.aload_n 0, 1) := by decide +kernel
theorem dX4_come_32 : decode cX4_come 32 = .ok (.iconst 0, 1) := by decide +kernel
theorem dX4_come_33 : decode cX4_come 33 = .ok (.putfield 31, 3) := by decide +kernel
theorem dX4_come_36 : decode cX4_come 36 = .ok (.aload_n 0, 1) := by decide +kernel
theorem dX4_come_37 : decode cX4_come 37 = .ok (.iconst 0, 1) := by decide +kernel
theorem dX4_come_38 : decode cX4_come 38 = .ok (.putfield 34, 3) := by decide +kernel
theorem dX4_come_41 : decode cX4_come 41 = .ok (.aload_n 0, 1) := by decide +kernel
theorem dX4_come_42 : decode cX4_come 42 = .ok (.bipush (-6), 2) := by decide +kernel
theorem dX4_come_44 : decode cX4_come 44 = .ok (.putfield 37, 3) := by decide +kernel
theorem dX4_come_47 : decode cX4_come 47 = .ok (.aload_n 0, 1) := by decide +kernel
theorem dX4_come_48 : decode cX4_come 48 = .ok (.iconst 0, 1) := by decide +kernel
theorem dX4_come_49 : decode cX4_come 49 = .ok (.putfield 40, 3) := by decide +kernel
theorem dX4_come_52 : decode cX4_come 52 = .ok (.return_, 1) := by decide +kernel
theorem dX4_copyFrom_0 : decode cX4_copyFrom 0 = .ok (.aload_n 0, 1) := by decide +kernel
theorem dX4_copyFrom_1 : decode cX4_copyFrom 1 = .ok (.aload_n 1, 1) := by decide +kernel
theorem dX4_copyFrom_2 : decode cX4_copyFrom 2 = .ok (.getfield 9, 3) := by decide +kernel
theorem dX4_copyFrom_5 : decode cX4_copyFrom 5 = .ok (.putfield 9, 3) := by decide +kernel
theorem dX4_copyFrom_8 : decode cX4_copyFrom 8 = .ok (.aload_n 0, 1) := by decide +kernel
theorem dX4_copyFrom_9 : decode cX4_copyFrom 9 = .ok (.aload_n 1, 1) := by decide +kernel
theorem dX4_copyFrom_10 : decode cX4_copyFrom 10 = .ok (.getfield 15, 3) := by decide +kernel
theorem dX4_copyFrom_13 : decode cX4_copyFrom 13 = .ok (.putfield 15, 3) := by decide +kernel
theorem dX4_copyFrom_16 : decode cX4_copyFrom 16 = .ok (.aload_n 0, 1) := by decide +kernel
theorem dX4_copyFrom_17 : decode cX4_copyFrom 17 = .ok (.aload_n 1, 1) := by decide +kernel
theorem dX4_copyFrom_18 : decode cX4_copyFrom 18 = .ok (.getfield 18, 3) := by decide +kernel
theorem dX4_copyFrom_21 : decode cX4_copyFrom 21 = .ok (.putfield 18, 3) := by decide +kernel
theorem dX4_copyFrom_24 : decode cX4_copyFrom 24 = .ok (.aload_n 0, 1) := by decide +kernel
theorem dX4_copyFrom_25 : decode cX4_copyFrom 25 = .ok (.aload_n 1, 1) := by decide +kernel
theorem dX4_copyFrom_26 : decode cX4_copyFrom 26 = .ok (.getfield 21, 3) := by decide +kernel
theorem dX4_copyFrom_29 : decode cX4_copyFrom 29 = .ok (.putfield 21, 3) := by decide +kernel
theorem dX4_copyFrom_32 : decode cX4_copyFrom 32 = .ok (.aload_n 0, 1) := by decide +kernel
theorem dX4_copyFrom_33 : decode cX4_copyFrom 33 = .ok (.aload_n 1, 1) := by decide +kernel
theorem dX4_copyFrom_34 : decode cX4_copyFrom 34 = .ok (.getfield 25, 3) := by decide +kernel
theorem dX4_copyFrom_37 : decode cX4_copyFrom 37 = .ok (.putfield 25, 3) := by decide +kernel
theorem dX4_copyFrom_40 : decode cX4_copyFrom 40 = .ok (.aload_n 0, 1) := by decide +kernel
theorem dX4_copyFrom_41 : decode cX4_copyFrom 41 = .ok (.aload_n 1, 1) := by decide +kernel
theorem dX4_copyFrom_42 : decode cX4_copyFrom 42 = .ok (.getfield 28, 3) := by decide +kernel
theorem dX4_copyFrom_45 : decode cX4_copyFrom 45 = .ok (.putfield 28, 3) := by decide +kernel
theorem dX4_copyFrom_48 : decode cX4_copyFrom 48 = .ok (.aload_n 0, 1) := by decide +kernel
theorem dX4_copyFrom_49 : decode cX4_copyFrom 49 = .ok (.aload_n 1, 1) := by decide +kernel
theorem dX4_copyFrom_50 : decode cX4_copyFrom 50 = .ok (.getfield 31, 3) := by decide +kernel
theorem dX4_copyFrom_53 : decode cX4_copyFrom 53 = .ok (.putfield 31, 3) := by decide +kernel
theorem dX4_copyFrom_56 : decode cX4_copyFrom 56 = .ok (.aload_n 0, 1) := by decide +kernel
theorem dX4_copyFrom_57 : decode cX4_copyFrom 57 = .ok (.aload_n 1, 1) := by decide +kernel
theorem dX4_copyFrom_58 : decode cX4_copyFrom 58 = .ok (.getfield 34, 3) := by decide +kernel
theorem dX4_copyFrom_61 : decode cX4_copyFrom 61 = .ok (.putfield 34, 3) := by decide +kernel
theorem dX4_copyFrom_64 : decode cX4_copyFrom 64 = .ok (.aload_n 0, 1) := by decide +kernel
theorem dX4_copyFrom_65 : decode cX4_copyFrom 65 = .ok (.aload_n 1, 1) := by decide +kernel
theorem dX4_copyFrom_66 : decode cX4_copyFrom 66 = .ok (.getfield 37, 3) := by decide +kernel
theorem dX4_copyFrom_69 : decode cX4_copyFrom 69 = .ok (.putfield 37, 3) := by decide +kernel
theorem dX4_copyFrom_72 : decode cX4_copyFrom 72 = .ok (.aload_n 0, 1) := by decide +kernel
theorem dX4_copyFrom_73 : decode cX4_copyFrom 73 = .ok (.aload_n 1, 1) := by decide +kernel
theorem dX4_copyFrom_74 : decode cX4_copyFrom 74 = .ok (.getfield 40, 3) := by decide +kernel
theorem dX4_copyFrom_77 : decode cX4_copyFrom 77 = .ok (.putfield 40, 3) := by decide +kernel
theorem dX4_copyFrom_80 : decode cX4_copyFrom 80 = .ok (.return_, 1) := by decide +kernel
theorem dX4_editFor_0 : decode cX4_editFor 0 = .ok (.aload_n 0, 1) := by decide +kernel
theorem dX4_editFor_1 : decode cX4_editFor 1 = .ok (.dup, 1) := by decide +kernel
theorem dX4_editFor_2 : decode cX4_editFor 2 = .ok (.getfield 31, 3) := by decide +kernel
theorem dX4_editFor_5 : decode cX4_editFor 5 = .ok (.iload_n 1, 1) := by decide +kernel
theorem dX4_editFor_6 : decode cX4_editFor 6 = .ok (.aload_n 0, 1) := by decide +kernel
theorem dX4_editFor_7 : decode cX4_editFor 7 = .ok (.getfield 15, 3) := by decide +kernel
theorem dX4_editFor_10 : decode cX4_editFor 10 = .ok (.aload_n 0, 1) := by decide +kernel
theorem dX4_editFor_11 : decode cX4_editFor 11 = .ok (.getfield 31, 3) := by decide +kernel
theorem dX4_editFor_14 : decode cX4_editFor 14 = .ok (.isub, 1) := by decide +kernel
theorem dX4_editFor_15 : decode cX4_editFor 15 = .ok (.invokestatic 43, 3) := by decide +kernel
theorem dX4_editFor_18 : decode cX4_editFor 18 = .ok (.iadd, 1) := by decide +kernel
theorem dX4_editFor_19 : decode cX4_editFor 19 = .ok (.putfield 31, 3) := by decide +kernel
theorem dX4_editFor_22 : decode cX4_editFor 22 = .ok (.aload_n 0, 1) := by decide +kernel
theorem dX4_editFor_23 : decode cX4_editFor 23 = .ok (.getfield 31, 3) := by decide +kernel
theorem dX4_editFor_26 : decode cX4_editFor 26 = .ok (.aload_n 0, 1) := by decide +kernel
theorem dX4_editFor_27 : decode cX4_editFor 27 = .ok (.getfield 15, 3) := by decide +kernel
theorem dX4_editFor_30 : decode cX4_editFor 30 = .ok (.if_icmp .ge 4, 3) := by decide +kernel
theorem dX4_editFor_33 : decode cX4_editFor 33 = .ok (.return_, 1) := by decide +kernel
theorem dX4_editFor_34 : decode cX4_editFor 34 = .ok (.aload_n 0, 1) := by decide +kernel
theorem dX4_editFor_35 : decode cX4_editFor 35 = .ok (.getfield 21, 3) := by decide +kernel
theorem dX4_editFor_38 : decode cX4_editFor 38 = .ok (.ifCond .ne 9, 3) := by decide +kernel
theorem dX4_editFor_41 : decode cX4_editFor 41 = .ok (.aload_n 0, 1) := by decide +kernel
theorem dX4_editFor_42 : decode cX4_editFor 42 = .ok (.iload_n 2, 1) := by decide +kernel
theorem dX4_editFor_43 : decode cX4_editFor 43 = .ok (.invokevirtual 49, 3) := by decide +kernel
theorem dX4_editFor_46 : decode cX4_editFor 46 = .ok (.return_, 1) := by decide +kernel
theorem dX4_editFor_47 : decode cX4_editFor 47 = .ok (.aload_n 0, 1) := by decide +kernel
theorem dX4_editFor_48 : decode cX4_editFor 48 = .ok (.iconst 1, 1) := by decide +kernel
theorem dX4_editFor_49 : decode cX4_editFor 49 = .ok (.putfield 25, 3) := by decide +kernel
theorem dX4_editFor_52 : decode cX4_editFor 52 = .ok (.aload_n 0, 1) := by decide +kernel
theorem dX4_editFor_53 : decode cX4_editFor 53 = .ok (.iload_n 2, 1) := by decide +kernel
theorem dX4_editFor_54 : decode cX4_editFor 54 = .ok (.iconst 5, 1) := by decide +kernel
theorem dX4_editFor_55 : decode cX4_editFor 55 = .ok (.imul, 1) := by decide +kernel
theorem dX4_editFor_56 : decode cX4_editFor 56 = .ok (.aload_n 0, 1) := by decide +kernel
theorem dX4_editFor_57 : decode cX4_editFor 57 = .ok (.getfield 9, 3) := by decide +kernel
theorem dX4_editFor_60 : decode cX4_editFor 60 = .ok (.iadd, 1) := by decide +kernel
theorem dX4_editFor_61 : decode cX4_editFor 61 = .ok (.putfield 40, 3) := by decide +kernel
theorem dX4_editFor_64 : decode cX4_editFor 64 = .ok (.return_, 1) := by decide +kernel
theorem dX4_readOneMinute_0 : decode cX4_readOneMinute 0 = .ok (.aload_n 0, 1) := by decide +kernel
theorem dX4_readOneMinute_1 : decode cX4_readOneMinute 1 = .ok (.dup, 1) := by decide +kernel
theorem dX4_readOneMinute_2 : decode cX4_readOneMinute 2 = .ok (.getfield 34, 3) := by decide +kernel
theorem dX4_readOneMinute_5 : decode cX4_readOneMinute 5 = .ok (.iconst 1, 1) := by decide +kernel
theorem dX4_readOneMinute_6 : decode cX4_readOneMinute 6 = .ok (.iadd, 1) := by decide +kernel
theorem dX4_readOneMinute_7 : decode cX4_readOneMinute 7 = .ok (.putfield 34, 3) := by decide +kernel
theorem dX4_readOneMinute_10 : decode cX4_readOneMinute 10 = .ok (.aload_n 0, 1) := by decide +kernel
theorem dX4_readOneMinute_11 : decode cX4_readOneMinute 11 = .ok (.getfield 34, 3) := by decide +kernel
theorem dX4_readOneMinute_14 : decode cX4_readOneMinute 14 = .ok (.iload_n 1, 1) := by decide +kernel
theorem dX4_readOneMinute_15 : decode cX4_readOneMinute 15 = .ok (.if_icmp .lt 8, 3) := by decide +kernel
theorem dX4_readOneMinute_18 : decode cX4_readOneMinute 18 = .ok (.aload_n 0, 1) := by decide +kernel
theorem dX4_readOneMinute_19 : decode cX4_readOneMinute 19 = .ok (.iload_n 2, 1) := by decide +kernel
theorem dX4_readOneMinute_20 : decode cX4_readOneMinute 20 = .ok (.invokevirtual 49, 3) := by decide +kernel
theorem dX4_readOneMinute_23 : decode cX4_readOneMinute 23 = .ok (.return_, 1) := by decide +kernel
theorem dX4_becomeReady_0 : decode cX4_becomeReady 0 = .ok (.aload_n 0, 1) := by decide +kernel
theorem dX4_becomeReady_1 : decode cX4_becomeReady 1 = .ok (.iconst 2, 1) := by decide +kernel
theorem dX4_becomeReady_2 : decode cX4_becomeReady 2 = .ok (.putfield 25, 3) := by decide +kernel
theorem dX4_becomeReady_5 : decode cX4_becomeReady 5 = .ok (.aload_n 0, 1) := by decide +kernel
theorem dX4_becomeReady_6 : decode cX4_becomeReady 6 = .ok (.iload_n 1, 1) := by decide +kernel
theorem dX4_becomeReady_7 : decode cX4_becomeReady 7 = .ok (.putfield 37, 3) := by decide +kernel
theorem dX4_becomeReady_10 : decode cX4_becomeReady 10 = .ok (.return_, 1) := by decide +kernel
theorem dX4_isForPlate_0 : decode cX4_isForPlate 0 = .ok (.aload_n 0, 1) := by decide +kernel
theorem dX4_isForPlate_1 : decode cX4_isForPlate 1 = .ok (.getfield 25, 3) := by decide +kernel
theorem dX4_isForPlate_4 : decode cX4_isForPlate 4 = .ok (.iconst 2, 1) := by decide +kernel
theorem dX4_isForPlate_5 : decode cX4_isForPlate 5 = .ok (.if_icmp .ne 14, 3) := by decide +kernel
theorem dX4_isForPlate_8 : decode cX4_isForPlate 8 = .ok (.aload_n 0, 1) := by decide +kernel
theorem dX4_isForPlate_9 : decode cX4_isForPlate 9 = .ok (.getfield 28, 3) := by decide +kernel
theorem dX4_isForPlate_12 : decode cX4_isForPlate 12 = .ok (.ifCond .ne 7, 3) := by decide +kernel
theorem dX4_isForPlate_15 : decode cX4_isForPlate 15 = .ok (.iconst 1, 1) := by decide +kernel
theorem dX4_isForPlate_16 : decode cX4_isForPlate 16 = .ok (.goto 4, 3) := by decide +kernel
theorem dX4_isForPlate_19 : decode cX4_isForPlate 19 = .ok (.iconst 0, 1) := by decide +kernel
theorem dX4_isForPlate_20 : decode cX4_isForPlate 20 = .ok (.ireturn, 1) := by decide +kernel
theorem dX5_init_0 : decode cX5_init 0 = .ok (.aload_n 0, 1) := by decide +kernel
theorem dX5_init_1 : decode cX5_init 1 = .ok (.invokespecial 1, 3) := by decide +kernel
theorem dX5_init_4 : decode cX5_init 4 = .ok (.return_, 1) := by decide +kernel
theorem dX5_tell_0 : decode cX5_tell 0 = .ok (.aload_n 0, 1) := by decide +kernel
theorem dX5_tell_1 : decode cX5_tell 1 = .ok (.iload_n 1, 1) := by decide +kernel
theorem dX5_tell_2 : decode cX5_tell 2 = .ok (.putfield 7, 3) := by decide +kernel
theorem dX5_tell_5 : decode cX5_tell 5 = .ok (.aload_n 0, 1) := by decide +kernel
theorem dX5_tell_6 : decode cX5_tell 6 = .ok (.iload_n 2, 1) := by decide +kernel
theorem dX5_tell_7 : decode cX5_tell 7 = .ok (.putfield 13, 3) := by decide +kernel
theorem dX5_tell_10 : decode cX5_tell 10 = .ok (.aload_n 0, 1) := by decide +kernel
theorem dX5_tell_11 : decode cX5_tell 11 = .ok (.iconst 0, 1) := by decide +kernel
theorem dX5_tell_12 : decode cX5_tell 12 = .ok (.putfield 17, 3) := by decide +kernel
theorem dX5_tell_15 : decode cX5_tell 15 = .ok (.return_, 1) := by decide +kernel
theorem dX5_copyFrom_0 : decode cX5_copyFrom 0 = .ok (.aload_n 0, 1) := by decide +kernel
theorem dX5_copyFrom_1 : decode cX5_copyFrom 1 = .ok (.aload_n 1, 1) := by decide +kernel
theorem dX5_copyFrom_2 : decode cX5_copyFrom 2 = .ok (.getfield 7, 3) := by decide +kernel
theorem dX5_copyFrom_5 : decode cX5_copyFrom 5 = .ok (.putfield 7, 3) := by decide +kernel
theorem dX5_copyFrom_8 : decode cX5_copyFrom 8 = .ok (.aload_n 0, 1) := by decide +kernel
theorem dX5_copyFrom_9 : decode cX5_copyFrom 9 = .ok (.aload_n 1, 1) := by decide +kernel
theorem dX5_copyFrom_10 : decode cX5_copyFrom 10 = .ok (.getfield 13, 3) := by decide +kernel
theorem dX5_copyFrom_13 : decode cX5_copyFrom 13 = .ok (.putfield 13, 3) := by decide +kernel
theorem dX5_copyFrom_16 : decode cX5_copyFrom 16 = .ok (.aload_n 0, 1) := by decide +kernel
theorem dX5_copyFrom_17 : decode cX5_copyFrom 17 = .ok (.aload_n 1, 1) := by decide +kernel
theorem dX5_copyFrom_18 : decode cX5_copyFrom 18 = .ok (.getfield 17, 3) := by decide +kernel
theorem dX5_copyFrom_21 : decode cX5_copyFrom 21 = .ok (.putfield 17, 3) := by decide +kernel
theorem dX5_copyFrom_24 : decode cX5_copyFrom 24 = .ok (.return_, 1) := by decide +kernel
theorem dX6_init_0 : decode cX6_init 0 = .ok (.aload_n 0, 1) := by decide +kernel
theorem dX6_init_1 : decode cX6_init 1 = .ok (.invokespecial 1, 3) := by decide +kernel
theorem dX6_init_4 : decode cX6_init 4 = .ok (.aload_n 0, 1) := by decide +kernel
theorem dX6_init_5 : decode cX6_init 5 = .ok (.new 7, 3) := by decide +kernel
theorem dX6_init_8 : decode cX6_init 8 = .ok (.dup, 1) := by decide +kernel
theorem dX6_init_9 : decode cX6_init 9 = .ok (.invokespecial 9, 3) := by decide +kernel
theorem dX6_init_12 : decode cX6_init 12 = .ok (.putfield 10, 3) := by decide +kernel
theorem dX6_init_15 : decode cX6_init 15 = .ok (.aload_n 0, 1) := by decide +kernel
theorem dX6_init_16 : decode cX6_init 16 = .ok (.new 7, 3) := by decide +kernel
theorem dX6_init_19 : decode cX6_init 19 = .ok (.dup, 1) := by decide +kernel
theorem dX6_init_20 : decode cX6_init 20 = .ok (.invokespecial 9, 3) := by decide +kernel
theorem dX6_init_23 : decode cX6_init 23 = .ok (.putfield 16, 3) := by decide +kernel
theorem dX6_init_26 : decode cX6_init 26 = .ok (.aload_n 0, 1) := by decide +kernel
theorem dX6_init_27 : decode cX6_init 27 = .ok (.new 19, 3) := by decide +kernel
theorem dX6_init_30 : decode cX6_init 30 = .ok (.dup, 1) := by decide +kernel
theorem dX6_init_31 : decode cX6_init 31 = .ok (.invokespecial 21, 3) := by decide +kernel
theorem dX6_init_34 : decode cX6_init 34 = .ok (.putfield 22, 3) := by decide +kernel
theorem dX6_init_37 : decode cX6_init 37 = .ok (.aload_n 0, 1) := by decide +kernel
theorem dX6_init_38 : decode cX6_init 38 = .ok (.iconst 2, 1) := by decide +kernel
theorem dX6_init_39 : decode cX6_init 39 = .ok (.anewarray 7, 3) := by decide +kernel
theorem dX6_init_42 : decode cX6_init 42 = .ok (.putfield 26, 3) := by decide +kernel
theorem dX6_init_45 : decode cX6_init 45 = .ok (.aload_n 0, 1) := by decide +kernel
theorem dX6_init_46 : decode cX6_init 46 = .ok (.new 30, 3) := by decide +kernel
theorem dX6_init_49 : decode cX6_init 49 = .ok (.dup, 1) := by decide +kernel
theorem dX6_init_50 : decode cX6_init 50 = .ok (.invokespecial 32, 3) := by decide +kernel
theorem dX6_init_53 : decode cX6_init 53 = .ok (.putfield 33, 3) := by decide +kernel
theorem dX6_init_56 : decode cX6_init 56 = .ok (.aload_n 0, 1) := by decide +kernel
theorem dX6_init_57 : decode cX6_init 57 = .ok (.new 37, 3) := by decide +kernel
theorem dX6_init_60 : decode cX6_init 60 = .ok (.dup, 1) := by decide +kernel
theorem dX6_init_61 : decode cX6_init 61 = .ok (.aload_n 0, 1) := by decide +kernel
theorem dX6_init_62 : decode cX6_init 62 = .ok (.getfield 33, 3) := by decide +kernel
theorem dX6_init_65 : decode cX6_init 65 = .ok (.invokespecial 39, 3) := by decide +kernel
theorem dX6_init_68 : decode cX6_init 68 = .ok (.putfield 42, 3) := by decide +kernel
theorem dX6_init_71 : decode cX6_init 71 = .ok (.return_, 1) := by decide +kernel
theorem dX6_set_0 : decode cX6_set 0 = .ok (.aload_n 0, 1) := by decide +kernel
theorem dX6_set_1 : decode cX6_set 1 = .ok (.getfield 22, 3) := by decide +kernel
theorem dX6_set_4 : decode cX6_set 4 = .ok (.aload_n 0, 1) := by decide +kernel
theorem dX6_set_5 : decode cX6_set 5 = .ok (.getfield 10, 3) := by decide +kernel
theorem dX6_set_8 : decode cX6_set 8 = .ok (.invokevirtual 46, 3) := by decide +kernel
theorem dX6_set_11 : decode cX6_set 11 = .ok (.aload_n 0, 1) := by decide +kernel
theorem dX6_set_12 : decode cX6_set 12 = .ok (.getfield 22, 3) := by decide +kernel
theorem dX6_set_15 : decode cX6_set 15 = .ok (.aload_n 0, 1) := by decide +kernel
theorem dX6_set_16 : decode cX6_set 16 = .ok (.getfield 10, 3) := by decide +kernel
theorem dX6_set_19 : decode cX6_set 19 = .ok (.iload_n 1, 1) := by decide +kernel
theorem dX6_set_20 : decode cX6_set 20 = .ok (.iload_n 2, 1) := by decide +kernel
theorem dX6_set_21 : decode cX6_set 21 = .ok (.invokevirtual 50, 3) := by decide +kernel
theorem dX6_set_24 : decode cX6_set 24 = .ok (.invokevirtual 54, 3) := by decide +kernel
theorem dX6_set_27 : decode cX6_set 27 = .ok (.ireturn, 1) := by decide +kernel
theorem dX6_piece_0 : decode cX6_piece 0 = .ok (.aload_n 0, 1) := by decide +kernel
theorem dX6_piece_1 : decode cX6_piece 1 = .ok (.getfield 22, 3) := by decide +kernel
theorem dX6_piece_4 : decode cX6_piece 4 = .ok (.aload_n 0, 1) := by decide +kernel
theorem dX6_piece_5 : decode cX6_piece 5 = .ok (.getfield 10, 3) := by decide +kernel
theorem dX6_piece_8 : decode cX6_piece 8 = .ok (.invokevirtual 46, 3) := by decide +kernel
theorem dX6_piece_11 : decode cX6_piece 11 = .ok (.aload_n 0, 1) := by decide +kernel
theorem dX6_piece_12 : decode cX6_piece 12 = .ok (.getfield 22, 3) := by decide +kernel
theorem dX6_piece_15 : decode cX6_piece 15 = .ok (.aload_n 0, 1) := by decide +kernel
theorem dX6_piece_16 : decode cX6_piece 16 = .ok (.getfield 10, 3) := by decide +kernel
theorem dX6_piece_19 : decode cX6_piece 19 = .ok (.iload_n 1, 1) := by decide +kernel
theorem dX6_piece_20 : decode cX6_piece 20 = .ok (.iload_n 2, 1) := by decide +kernel
theorem dX6_piece_21 : decode cX6_piece 21 = .ok (.iload_n 3, 1) := by decide +kernel
theorem dX6_piece_22 : decode cX6_piece 22 = .ok (.iload 4, 2) := by decide +kernel
theorem dX6_piece_24 : decode cX6_piece 24 = .ok (.invokevirtual 58, 3) := by decide +kernel
theorem dX6_piece_27 : decode cX6_piece 27 = .ok (.invokevirtual 54, 3) := by decide +kernel
theorem dX6_piece_30 : decode cX6_piece 30 = .ok (.ireturn, 1) := by decide +kernel
theorem dX6_plate_0 : decode cX6_plate 0 = .ok (.aload_n 0, 1) := by decide +kernel
theorem dX6_plate_1 : decode cX6_plate 1 = .ok (.getfield 22, 3) := by decide +kernel
theorem dX6_plate_4 : decode cX6_plate 4 = .ok (.aload_n 0, 1) := by decide +kernel
theorem dX6_plate_5 : decode cX6_plate 5 = .ok (.getfield 10, 3) := by decide +kernel
theorem dX6_plate_8 : decode cX6_plate 8 = .ok (.invokevirtual 46, 3) := by decide +kernel
theorem dX6_plate_11 : decode cX6_plate 11 = .ok (.aload_n 0, 1) := by decide +kernel
theorem dX6_plate_12 : decode cX6_plate 12 = .ok (.getfield 22, 3) := by decide +kernel
theorem dX6_plate_15 : decode cX6_plate 15 = .ok (.aload_n 0, 1) := by decide +kernel
theorem dX6_plate_16 : decode cX6_plate 16 = .ok (.getfield 10, 3) := by decide +kernel
theorem dX6_plate_19 : decode cX6_plate 19 = .ok (.iload_n 1, 1) := by decide +kernel
theorem dX6_plate_20 : decode cX6_plate 20 = .ok (.invokevirtual 62, 3) := by decide +kernel
theorem dX6_plate_23 : decode cX6_plate 23 = .ok (.invokevirtual 54, 3) := by decide +kernel
theorem dX6_plate_26 : decode cX6_plate 26 = .ok (.ireturn, 1) := by decide +kernel
theorem dX6_hold_0 : decode cX6_hold 0 = .ok (.aload_n 0, 1) := by decide +kernel
theorem dX6_hold_1 : decode cX6_hold 1 = .ok (.getfield 22, 3) := by decide +kernel
theorem dX6_hold_4 : decode cX6_hold 4 = .ok (.aload_n 0, 1) := by decide +kernel
theorem dX6_hold_5 : decode cX6_hold 5 = .ok (.getfield 10, 3) := by decide +kernel
theorem dX6_hold_8 : decode cX6_hold 8 = .ok (.invokevirtual 46, 3) := by decide +kernel
theorem dX6_hold_11 : decode cX6_hold 11 = .ok (.aload_n 0, 1) := by decide +kernel
theorem dX6_hold_12 : decode cX6_hold 12 = .ok (.getfield 22, 3) := by decide +kernel
theorem dX6_hold_15 : decode cX6_hold 15 = .ok (.aload_n 0, 1) := by decide +kernel
theorem dX6_hold_16 : decode cX6_hold 16 = .ok (.getfield 10, 3) := by decide +kernel
theorem dX6_hold_19 : decode cX6_hold 19 = .ok (.iload_n 1, 1) := by decide +kernel
theorem dX6_hold_20 : decode cX6_hold 20 = .ok (.invokevirtual 65, 3) := by decide +kernel
theorem dX6_hold_23 : decode cX6_hold 23 = .ok (.invokevirtual 54, 3) := by decide +kernel
theorem dX6_hold_26 : decode cX6_hold 26 = .ok (.ireturn, 1) := by decide +kernel
theorem dX6_kill_0 : decode cX6_kill 0 = .ok (.aload_n 0, 1) := by decide +kernel
theorem dX6_kill_1 : decode cX6_kill 1 = .ok (.getfield 22, 3) := by decide +kernel
theorem dX6_kill_4 : decode cX6_kill 4 = .ok (.aload_n 0, 1) := by decide +kernel
theorem dX6_kill_5 : decode cX6_kill 5 = .ok (.getfield 10, 3) := by decide +kernel
theorem dX6_kill_8 : decode cX6_kill 8 = .ok (.invokevirtual 46, 3) := by decide +kernel
theorem dX6_kill_11 : decode cX6_kill 11 = .ok (.aload_n 0, 1) := by decide +kernel
theorem dX6_kill_12 : decode cX6_kill 12 = .ok (.getfield 22, 3) := by decide +kernel
theorem dX6_kill_15 : decode cX6_kill 15 = .ok (.aload_n 0, 1) := by decide +kernel
theorem dX6_kill_16 : decode cX6_kill 16 = .ok (.getfield 10, 3) := by decide +kernel
theorem dX6_kill_19 : decode cX6_kill 19 = .ok (.iload_n 1, 1) := by decide +kernel
theorem dX6_kill_20 : decode cX6_kill 20 = .ok (.invokevirtual 68, 3) := by decide +kernel
theorem dX6_kill_23 : decode cX6_kill 23 = .ok (.invokevirtual 54, 3) := by decide +kernel
theorem dX6_kill_26 : decode cX6_kill 26 = .ok (.ireturn, 1) := by decide +kernel
theorem dX6_pass_0 : decode cX6_pass 0 = .ok (.aload_n 0, 1) := by decide +kernel
theorem dX6_pass_1 : decode cX6_pass 1 = .ok (.getfield 22, 3) := by decide +kernel
theorem dX6_pass_4 : decode cX6_pass 4 = .ok (.aload_n 0, 1) := by decide +kernel
theorem dX6_pass_5 : decode cX6_pass 5 = .ok (.getfield 10, 3) := by decide +kernel
theorem dX6_pass_8 : decode cX6_pass 8 = .ok (.invokevirtual 46, 3) := by decide +kernel
theorem dX6_pass_11 : decode cX6_pass 11 = .ok (.aload_n 0, 1) := by decide +kernel
theorem dX6_pass_12 : decode cX6_pass 12 = .ok (.getfield 22, 3) := by decide +kernel
theorem dX6_pass_15 : decode cX6_pass 15 = .ok (.aload_n 0, 1) := by decide +kernel
theorem dX6_pass_16 : decode cX6_pass 16 = .ok (.getfield 10, 3) := by decide +kernel
theorem dX6_pass_19 : decode cX6_pass 19 = .ok (.iload_n 1, 1) := by decide +kernel
theorem dX6_pass_20 : decode cX6_pass 20 = .ok (.invokevirtual 71, 3) := by decide +kernel
theorem dX6_pass_23 : decode cX6_pass 23 = .ok (.invokevirtual 54, 3) := by decide +kernel
theorem dX6_pass_26 : decode cX6_pass 26 = .ok (.ireturn, 1) := by decide +kernel
theorem dX6_ofPiece_0 : decode cX6_ofPiece 0 = .ok (.aload_n 0, 1) := by decide +kernel
theorem dX6_ofPiece_1 : decode cX6_ofPiece 1 = .ok (.getfield 10, 3) := by decide +kernel
theorem dX6_ofPiece_4 : decode cX6_ofPiece 4 = .ok (.iload_n 1, 1) := by decide +kernel
theorem dX6_ofPiece_5 : decode cX6_ofPiece 5 = .ok (.iload_n 2, 1) := by decide +kernel
theorem dX6_ofPiece_6 : decode cX6_ofPiece 6 = .ok (.invokevirtual 74, 3) := by decide +kernel
theorem dX6_ofPiece_9 : decode cX6_ofPiece 9 = .ok (.ireturn, 1) := by decide +kernel
theorem dX6_ofPlate_0 : decode cX6_ofPlate 0 = .ok (.aload_n 0, 1) := by decide +kernel
theorem dX6_ofPlate_1 : decode cX6_ofPlate 1 = .ok (.getfield 10, 3) := by decide +kernel
theorem dX6_ofPlate_4 : decode cX6_ofPlate 4 = .ok (.iload_n 1, 1) := by decide +kernel
theorem dX6_ofPlate_5 : decode cX6_ofPlate 5 = .ok (.iload_n 2, 1) := by decide +kernel
theorem dX6_ofPlate_6 : decode cX6_ofPlate 6 = .ok (.invokevirtual 77, 3) := by decide +kernel
theorem dX6_ofPlate_9 : decode cX6_ofPlate 9 = .ok (.ireturn, 1) := by decide +kernel
theorem dX6_count_0 : decode cX6_count 0 = .ok (.iload_n 1, 1) := by decide +kernel
theorem dX6_count_1 : decode cX6_count 1 = .ok (.bipush 14, 2) := by decide +kernel
theorem dX6_count_3 : decode cX6_count 3 = .ok (.if_icmp .ne 11, 3) := by decide +kernel
theorem dX6_count_6 : decode cX6_count 6 = .ok (.aload_n 0, 1) := by decide +kernel
theorem dX6_count_7 : decode cX6_count 7 = .ok (.getfield 33, 3) := by decide +kernel
theorem dX6_count_10 : decode cX6_count 10 = .ok (.getfield 80, 3) := by decide +kernel
theorem dX6_count_13 : decode cX6_count 13 = .ok (.ireturn, 1) := by decide +kernel
theorem dX6_count_14 : decode cX6_count 14 = .ok (.iload_n 1, 1) := by decide +kernel
theorem dX6_count_15 : decode cX6_count 15 = .ok (.bipush 15, 2) := by decide +kernel
theorem dX6_count_17 : decode cX6_count 17 = .ok (.if_icmp .ne 11, 3) := by decide +kernel
theorem dX6_count_20 : decode cX6_count 20 = .ok (.aload_n 0, 1) := by decide +kernel
theorem dX6_count_21 : decode cX6_count 21 = .ok (.getfield 22, 3) := by decide +kernel
theorem dX6_count_24 : decode cX6_count 24 = .ok (.getfield 84, 3) := by decide +kernel
theorem dX6_count_27 : decode cX6_count 27 = .ok (.ireturn, 1) := by decide +kernel
theorem dX6_count_28 : decode cX6_count 28 = .ok (.aload_n 0, 1) := by decide +kernel
theorem dX6_count_29 : decode cX6_count 29 = .ok (.getfield 10, 3) := by decide +kernel
theorem dX6_count_32 : decode cX6_count 32 = .ok (.iload_n 1, 1) := by decide +kernel
theorem dX6_count_33 : decode cX6_count 33 = .ok (.invokevirtual 87, 3) := by decide +kernel
theorem dX6_count_36 : decode cX6_count 36 = .ok (.ireturn, 1) := by decide +kernel
theorem dX6_why_0 : decode cX6_why 0 = .ok (.aload_n 0, 1) := by decide +kernel
theorem dX6_why_1 : decode cX6_why 1 = .ok (.getfield 10, 3) := by decide +kernel
theorem dX6_why_4 : decode cX6_why 4 = .ok (.iload_n 1, 1) := by decide +kernel
theorem dX6_why_5 : decode cX6_why 5 = .ok (.iload_n 2, 1) := by decide +kernel
theorem dX6_why_6 : decode cX6_why 6 = .ok (.invokevirtual 90, 3) := by decide +kernel
theorem dX6_why_9 : decode cX6_why 9 = .ok (.ireturn, 1) := by decide +kernel
theorem dX6_plateNow_0 : decode cX6_plateNow 0 = .ok (.aload_n 0, 1) := by decide +kernel
theorem dX6_plateNow_1 : decode cX6_plateNow 1 = .ok (.getfield 10, 3) := by decide +kernel
theorem dX6_plateNow_4 : decode cX6_plateNow 4 = .ok (.invokevirtual 93, 3) := by decide +kernel
theorem dX6_plateNow_7 : decode cX6_plateNow 7 = .ok (.ireturn, 1) := by decide +kernel
theorem dX6_readyIn_0 : decode cX6_readyIn 0 = .ok (.aload_n 0, 1) := by decide +kernel
theorem dX6_readyIn_1 : decode cX6_readyIn 1 = .ok (.getfield 10, 3) := by decide +kernel
theorem dX6_readyIn_4 : decode cX6_readyIn 4 = .ok (.iload_n 1, 1) := by decide +kernel
theorem dX6_readyIn_5 : decode cX6_readyIn 5 = .ok (.invokevirtual 97, 3) := by decide +kernel
theorem dX6_readyIn_8 : decode cX6_readyIn 8 = .ok (.ifCond .ne 5, 3) := by decide +kernel
theorem dX6_readyIn_11 : decode cX6_readyIn 11 = .ok (.iconst (-1), 1) := by decide +kernel
theorem dX6_readyIn_12 : decode cX6_readyIn 12 = .ok (.ireturn, 1) := by decide +kernel
theorem dX6_readyIn_13 : decode cX6_readyIn 13 = .ok (.aload_n 0, 1) := by decide +kernel
theorem dX6_readyIn_14 : decode cX6_readyIn 14 = .ok (.getfield 10, 3) := by decide +kernel
theorem dX6_readyIn_17 : decode cX6_readyIn 17 = .ok (.iload_n 1, 1) := by decide +kernel
theorem dX6_readyIn_18 : decode cX6_readyIn 18 = .ok (.iconst 3, 1) := by decide +kernel
theorem dX6_readyIn_19 : decode cX6_readyIn 19 = .ok (.invokevirtual 101, 3) := by decide +kernel
theorem dX6_readyIn_22 : decode cX6_readyIn 22 = .ok (.ifCond .eq 6, 3) := by decide +kernel
theorem dX6_readyIn_25 : decode cX6_readyIn 25 = .ok (.bipush (-5), 2) := by decide +kernel
theorem dX6_readyIn_27 : decode cX6_readyIn 27 = .ok (.ireturn, 1) := by decide +kernel
theorem dX6_readyIn_28 : decode cX6_readyIn 28 = .ok (.aload_n 0, 1) := by decide +kernel
theorem dX6_readyIn_29 : decode cX6_readyIn 29 = .ok (.getfield 16, 3) := by decide +kernel
theorem dX6_readyIn_32 : decode cX6_readyIn 32 = .ok (.aload_n 0, 1) := by decide +kernel
theorem dX6_readyIn_33 : decode cX6_readyIn 33 = .ok (.getfield 10, 3) := by decide +kernel
theorem dX6_readyIn_36 : decode cX6_readyIn 36 = .ok (.invokevirtual 105, 3) := by decide +kernel
theorem dX6_readyIn_39 : decode cX6_readyIn 39 = .ok (.iconst 0, 1) := by decide +kernel
theorem dX6_readyIn_40 : decode cX6_readyIn 40 = .ok (.istore_n 2, 1) := by decide +kernel
theorem dX6_readyIn_41 : decode cX6_readyIn 41 = .ok (.iload_n 2, 1) := by decide +kernel
theorem dX6_readyIn_42 : decode cX6_readyIn 42 = .ok (.sipush 2000, 3) := by decide +kernel
theorem dX6_readyIn_45 : decode cX6_readyIn 45 = .ok (.if_icmp .gt 31, 3) := by decide +kernel
theorem dX6_readyIn_48 : decode cX6_readyIn 48 = .ok (.aload_n 0, 1) := by decide +kernel
theorem dX6_readyIn_49 : decode cX6_readyIn 49 = .ok (.getfield 16, 3) := by decide +kernel
theorem dX6_readyIn_52 : decode cX6_readyIn 52 = .ok (.iload_n 1, 1) := by decide +kernel
theorem dX6_readyIn_53 : decode cX6_readyIn 53 = .ok (.iconst 2, 1) := by decide +kernel
theorem dX6_readyIn_54 : decode cX6_readyIn 54 = .ok (.invokevirtual 101, 3) := by decide +kernel
theorem dX6_readyIn_57 : decode cX6_readyIn 57 = .ok (.ifCond .eq 5, 3) := by decide +kernel
theorem dX6_readyIn_60 : decode cX6_readyIn 60 = .ok (.iload_n 2, 1) := by decide +kernel
theorem dX6_readyIn_61 : decode cX6_readyIn 61 = .ok (.ireturn, 1) := by decide +kernel
theorem dX6_readyIn_62 : decode cX6_readyIn 62 = .ok (.aload_n 0, 1) := by decide +kernel
theorem dX6_readyIn_63 : decode cX6_readyIn 63 = .ok (.getfield 16, 3) := by decide +kernel
theorem dX6_readyIn_66 : decode cX6_readyIn 66 = .ok (.invokevirtual 108, 3) := by decide +kernel
theorem dX6_readyIn_69 : decode cX6_readyIn 69 = .ok (.pop, 1) := by decide +kernel
theorem dX6_readyIn_70 : decode cX6_readyIn 70 = .ok (.iinc 2 1, 3) := by decide +kernel
theorem dX6_readyIn_73 : decode cX6_readyIn 73 = .ok (.goto (-32), 3) := by decide +kernel
theorem dX6_readyIn_76 : decode cX6_readyIn 76 = .ok (.bipush (-6), 2) := by decide +kernel
theorem dX6_readyIn_78 : decode cX6_readyIn 78 = .ok (.ireturn, 1) := by decide +kernel
theorem dX6_leastRoom_0 : decode cX6_leastRoom 0 = .ok (.aload_n 0, 1) := by decide +kernel
theorem dX6_leastRoom_1 : decode cX6_leastRoom 1 = .ok (.getfield 10, 3) := by decide +kernel
theorem dX6_leastRoom_4 : decode cX6_leastRoom 4 = .ok (.invokevirtual 112, 3) := by decide +kernel
theorem dX6_leastRoom_7 : decode cX6_leastRoom 7 = .ok (.istore_n 1, 1) := by decide +kernel
theorem dX6_leastRoom_8 : decode cX6_leastRoom 8 = .ok (.iload_n 1, 1) := by decide +kernel
theorem dX6_leastRoom_9 : decode cX6_leastRoom 9 = .ok (.ifCond .ge 6, 3) := by decide +kernel
theorem dX6_leastRoom_12 : decode cX6_leastRoom 12 = .ok (.bipush (-5), 2) := by decide +kernel
theorem dX6_leastRoom_14 : decode cX6_leastRoom 14 = .ok (.ireturn, 1) := by decide +kernel
theorem dX6_leastRoom_15 : decode cX6_leastRoom 15 = .ok (.aload_n 0, 1) := by decide +kernel
theorem dX6_leastRoom_16 : decode cX6_leastRoom 16 = .ok (.iload_n 1, 1) := by decide +kernel
theorem dX6_leastRoom_17 : decode cX6_leastRoom 17 = .ok (.invokevirtual 115, 3) := by decide +kernel
theorem dX6_leastRoom_20 : decode cX6_leastRoom 20 = .ok (.aload_n 0, 1) := by decide +kernel
theorem dX6_leastRoom_21 : decode cX6_leastRoom 21 = .ok (.getfield 16, 3) := by decide +kernel
theorem dX6_leastRoom_24 : decode cX6_leastRoom 24 = .ok (.aload_n 0, 1) := by decide +kernel
theorem dX6_leastRoom_25 : decode cX6_leastRoom 25 = .ok (.getfield 16, 3) := by decide +kernel
theorem dX6_leastRoom_28 : decode cX6_leastRoom 28 = .ok (.invokevirtual 119, 3) := by decide +kernel
theorem dX6_leastRoom_31 : decode cX6_leastRoom 31 = .ok (.invokevirtual 122, 3) := by decide +kernel
theorem dX6_leastRoom_34 : decode cX6_leastRoom 34 = .ok (.istore_n 2, 1) := by decide +kernel
theorem dX6_leastRoom_35 : decode cX6_leastRoom 35 = .ok (.iload_n 2, 1) := by decide +kernel
theorem dX6_leastRoom_36 : decode cX6_leastRoom 36 = .ok (.getstatic 125, 3) := by decide +kernel
theorem dX6_leastRoom_39 : decode cX6_leastRoom 39 = .ok (.iconst 2, 1) := by decide +kernel
theorem dX6_leastRoom_40 : decode cX6_leastRoom 40 = .ok (.iaload, 1) := by decide +kernel
theorem dX6_leastRoom_41 : decode cX6_leastRoom 41 = .ok (.if_icmp .le 6, 3) := by decide +kernel
theorem dX6_leastRoom_44 : decode cX6_leastRoom 44 = .ok (.bipush (-6), 2) := by decide +kernel
theorem dX6_leastRoom_46 : decode cX6_leastRoom 46 = .ok (.ireturn, 1) := by decide +kernel
theorem dX6_leastRoom_47 : decode cX6_leastRoom 47 = .ok (.iload_n 2, 1) := by decide +kernel
theorem dX6_leastRoom_48 : decode cX6_leastRoom 48 = .ok (.getstatic 129, 3) := by decide +kernel
theorem dX6_leastRoom_51 : decode cX6_leastRoom 51 = .ok (.iconst 2, 1) := by decide +kernel
theorem dX6_leastRoom_52 : decode cX6_leastRoom 52 = .ok (.iaload, 1) := by decide +kernel
theorem dX6_leastRoom_53 : decode cX6_leastRoom 53 = .ok (.invokestatic 132, 3) := by decide +kernel
theorem dX6_leastRoom_56 : decode cX6_leastRoom 56 = .ok (.ireturn, 1) := by decide +kernel
theorem dX6_nextPlate_0 : decode cX6_nextPlate 0 = .ok (.aload_n 0, 1) := by decide +kernel
theorem dX6_nextPlate_1 : decode cX6_nextPlate 1 = .ok (.getfield 10, 3) := by decide +kernel
theorem dX6_nextPlate_4 : decode cX6_nextPlate 4 = .ok (.invokevirtual 112, 3) := by decide +kernel
theorem dX6_nextPlate_7 : decode cX6_nextPlate 7 = .ok (.istore_n 1, 1) := by decide +kernel
theorem dX6_nextPlate_8 : decode cX6_nextPlate 8 = .ok (.iload_n 1, 1) := by decide +kernel
theorem dX6_nextPlate_9 : decode cX6_nextPlate 9 = .ok (.ifCond .ge 6, 3) := by decide +kernel
theorem dX6_nextPlate_12 : decode cX6_nextPlate 12 = .ok (.bipush (-5), 2) := by decide +kernel
theorem dX6_nextPlate_14 : decode cX6_nextPlate 14 = .ok (.ireturn, 1) := by decide +kernel
theorem dX6_nextPlate_15 : decode cX6_nextPlate 15 = .ok (.aload_n 0, 1) := by decide +kernel
theorem dX6_nextPlate_16 : decode cX6_nextPlate 16 = .ok (.iload_n 1, 1) := by decide +kernel
theorem dX6_nextPlate_17 : decode cX6_nextPlate 17 = .ok (.invokevirtual 115, 3) := by decide +kernel
theorem dX6_nextPlate_20 : decode cX6_nextPlate 20 = .ok (.aload_n 0, 1) := by decide +kernel
theorem dX6_nextPlate_21 : decode cX6_nextPlate 21 = .ok (.getfield 16, 3) := by decide +kernel
theorem dX6_nextPlate_24 : decode cX6_nextPlate 24 = .ok (.iload_n 1, 1) := by decide +kernel
theorem dX6_nextPlate_25 : decode cX6_nextPlate 25 = .ok (.iconst 3, 1) := by decide +kernel
theorem dX6_nextPlate_26 : decode cX6_nextPlate 26 = .ok (.invokevirtual 77, 3) := by decide +kernel
theorem dX6_nextPlate_29 : decode cX6_nextPlate 29 = .ok (.ireturn, 1) := by decide +kernel
theorem dX6_goAheadToPlate_0 : decode cX6_goAheadToPlate 0 = .ok (.aload_n 0, 1) := by decide +kernel
theorem dX6_goAheadToPlate_1 : decode cX6_goAheadToPlate 1 = .ok (.getfield 16, 3) := by decide +kernel
theorem dX6_goAheadToPlate_4 : decode cX6_goAheadToPlate 4 = .ok (.aload_n 0, 1) := by decide +kernel
theorem dX6_goAheadToPlate_5 : decode cX6_goAheadToPlate 5 = .ok (.getfield 10, 3) := by decide +kernel
theorem dX6_goAheadToPlate_8 : decode cX6_goAheadToPlate 8 = .ok (.invokevirtual 105, 3) := by decide +kernel
theorem dX6_goAheadToPlate_11 : decode cX6_goAheadToPlate 11 = .ok (.aload_n 0, 1) := by decide +kernel
theorem dX6_goAheadToPlate_12 : decode cX6_goAheadToPlate 12 = .ok (.getfield 16, 3) := by decide +kernel
theorem dX6_goAheadToPlate_15 : decode cX6_goAheadToPlate 15 = .ok (.aload_n 0, 1) := by decide +kernel
theorem dX6_goAheadToPlate_16 : decode cX6_goAheadToPlate 16 = .ok (.getfield 10, 3) := by decide +kernel
theorem dX6_goAheadToPlate_19 : decode cX6_goAheadToPlate 19 = .ok (.iload_n 1, 1) := by decide +kernel
theorem dX6_goAheadToPlate_20 : decode cX6_goAheadToPlate 20 = .ok (.invokevirtual 137, 3) := by decide +kernel
theorem dX6_goAheadToPlate_23 : decode cX6_goAheadToPlate 23 = .ok (.invokevirtual 71, 3) := by decide +kernel
theorem dX6_goAheadToPlate_26 : decode cX6_goAheadToPlate 26 = .ok (.pop, 1) := by decide +kernel
theorem dX6_goAheadToPlate_27 : decode cX6_goAheadToPlate 27 = .ok (.return_, 1) := by decide +kernel
theorem dX6_isInSet_0 : decode cX6_isInSet 0 = .ok (.iload_n 1, 1) := by decide +kernel
theorem dX6_isInSet_1 : decode cX6_isInSet 1 = .ok (.iload_n 0, 1) := by decide +kernel
theorem dX6_isInSet_2 : decode cX6_isInSet 2 = .ok (.ishr, 1) := by decide +kernel
theorem dX6_isInSet_3 : decode cX6_isInSet 3 = .ok (.iconst 1, 1) := by decide +kernel
theorem dX6_isInSet_4 : decode cX6_isInSet 4 = .ok (.iand, 1) := by decide +kernel
theorem dX6_isInSet_5 : decode cX6_isInSet 5 = .ok (.iconst 1, 1) := by decide +kernel
theorem dX6_isInSet_6 : decode cX6_isInSet 6 = .ok (.if_icmp .ne 7, 3) := by decide +kernel
theorem dX6_isInSet_9 : decode cX6_isInSet 9 = .ok (.iconst 1, 1) := by decide +kernel
theorem dX6_isInSet_10 : decode cX6_isInSet 10 = .ok (.goto 4, 3) := by decide +kernel
theorem dX6_isInSet_13 : decode cX6_isInSet 13 = .ok (.iconst 0, 1) := by decide +kernel
theorem dX6_isInSet_14 : decode cX6_isInSet 14 = .ok (.ireturn, 1) := by decide +kernel
theorem dX6_oneIf_0 : decode cX6_oneIf 0 = .ok (.iload_n 0, 1) := by decide +kernel
theorem dX6_oneIf_1 : decode cX6_oneIf 1 = .ok (.ifCond .eq 7, 3) := by decide +kernel
theorem dX6_oneIf_4 : decode cX6_oneIf 4 = .ok (.iconst 1, 1) := by decide +kernel
theorem dX6_oneIf_5 : decode cX6_oneIf 5 = .ok (.goto 4, 3) := by decide +kernel
theorem dX6_oneIf_8 : decode cX6_oneIf 8 = .ok (.iconst 0, 1) := by decide +kernel
theorem dX6_oneIf_9 : decode cX6_oneIf 9 = .ok (.ireturn, 1) := by decide +kernel
