theorem dX0_init_0 : decode cX0_init 0 = .ok (.aload_n 0, 1) := by decide +kernel
theorem dX0_init_1 : decode cX0_init 1 = .ok (.invokespecial 3, 3) := by decide +kernel
theorem dX0_init_4 : decode cX0_init 4 = .ok (.aload_n 0, 1) := by decide +kernel
theorem dX0_init_5 : decode cX0_init 5 = .ok (.bipush 7, 2) := by decide +kernel
theorem dX0_init_7 : decode cX0_init 7 = .ok (.anewarray 9, 3) := by decide +kernel
theorem dX0_init_10 : decode cX0_init 10 = .ok (.putfield 11, 3) := by decide +kernel
theorem dX0_init_13 : decode cX0_init 13 = .ok (.iconst 0, 1) := by decide +kernel
theorem dX0_init_14 : decode cX0_init 14 = .ok (.istore_n 1, 1) := by decide +kernel
theorem dX0_init_15 : decode cX0_init 15 = .ok (.iload_n 1, 1) := by decide +kernel
theorem dX0_init_16 : decode cX0_init 16 = .ok (.bipush 6, 2) := by decide +kernel
theorem dX0_init_18 : decode cX0_init 18 = .ok (.if_icmp .gt 22, 3) := by decide +kernel
theorem dX0_init_21 : decode cX0_init 21 = .ok (.aload_n 0, 1) := by decide +kernel
theorem dX0_init_22 : decode cX0_init 22 = .ok (.getfield 11, 3) := by decide +kernel
theorem dX0_init_25 : decode cX0_init 25 = .ok (.iload_n 1, 1) := by decide +kernel
theorem dX0_init_26 : decode cX0_init 26 = .ok (.new 9, 3) := by decide +kernel
theorem dX0_init_29 : decode cX0_init 29 = .ok (.dup, 1) := by decide +kernel
theorem dX0_init_30 : decode cX0_init 30 = .ok (.invokespecial 17, 3) := by decide +kernel
theorem dX0_init_33 : decode cX0_init 33 = .ok (.aastore, 1) := by decide +kernel
theorem dX0_init_34 : decode cX0_init 34 = .ok (.iinc 1 1, 3) := by decide +kernel
theorem dX0_init_37 : decode cX0_init 37 = .ok (.goto (-22), 3) := by decide +kernel
theorem dX0_init_40 : decode cX0_init 40 = .ok (.aload_n 0, 1) := by decide +kernel
theorem dX0_init_41 : decode cX0_init 41 = .ok (.iconst 0, 1) := by decide +kernel
theorem dX0_init_42 : decode cX0_init 42 = .ok (.putfield 18, 3) := by decide +kernel
theorem dX0_init_45 : decode cX0_init 45 = .ok (.aload_n 0, 1) := by decide +kernel
theorem dX0_init_46 : decode cX0_init 46 = .ok (.iconst 0, 1) := by decide +kernel
theorem dX0_init_47 : decode cX0_init 47 = .ok (.putfield 22, 3) := by decide +kernel
theorem dX0_init_50 : decode cX0_init 50 = .ok (.return_, 1) := by decide +kernel
theorem dX0_prepare_0 : decode cX0_prepare 0 = .ok (.aload_n 0, 1) := by decide +kernel
theorem dX0_prepare_1 : decode cX0_prepare 1 = .ok (.getfield 11, 3) := by decide +kernel
theorem dX0_prepare_4 : decode cX0_prepare 4 = .ok (.aload_n 0, 1) := by decide +kernel
theorem dX0_prepare_5 : decode cX0_prepare 5 = .ok (.getfield 18, 3) := by decide +kernel
theorem dX0_prepare_8 : decode cX0_prepare 8 = .ok (.aaload, 1) := by decide +kernel
theorem dX0_prepare_9 : decode cX0_prepare 9 = .ok (.aload_n 1, 1) := by decide +kernel
theorem dX0_prepare_10 : decode cX0_prepare 10 = .ok (.invokevirtual 25, 3) := by decide +kernel
theorem dX0_prepare_13 : decode cX0_prepare 13 = .ok (.return_, 1) := by decide +kernel
theorem dX0_recordUnlessError_0 : decode cX0_recordUnlessError 0 = .ok (.iload_n 1, 1) := by decide +kernel
theorem dX0_recordUnlessError_1 : decode cX0_recordUnlessError 1 = .ok (.ifCond .lt 41, 3) := by decide +kernel
theorem dX0_recordUnlessError_4 : decode cX0_recordUnlessError 4 = .ok (.aload_n 0, 1) := by decide +kernel
theorem dX0_recordUnlessError_5 : decode cX0_recordUnlessError 5 = .ok (.aload_n 0, 1) := by decide +kernel
theorem dX0_recordUnlessError_6 : decode cX0_recordUnlessError 6 = .ok (.getfield 18, 3) := by decide +kernel
theorem dX0_recordUnlessError_9 : decode cX0_recordUnlessError 9 = .ok (.bipush 6, 2) := by decide +kernel
theorem dX0_recordUnlessError_11 : decode cX0_recordUnlessError 11 = .ok (.if_icmp .ne 7, 3) := by decide +kernel
theorem dX0_recordUnlessError_14 : decode cX0_recordUnlessError 14 = .ok (.iconst 0, 1) := by decide +kernel
theorem dX0_recordUnlessError_15 : decode cX0_recordUnlessError 15 = .ok (.goto 9, 3) := by decide +kernel
theorem dX0_recordUnlessError_18 : decode cX0_recordUnlessError 18 = .ok (.aload_n 0, 1) := by decide +kernel
theorem dX0_recordUnlessError_19 : decode cX0_recordUnlessError 19 = .ok (.getfield 18, 3) := by decide +kernel
theorem dX0_recordUnlessError_22 : decode cX0_recordUnlessError 22 = .ok (.iconst 1, 1) := by decide +kernel
theorem dX0_recordUnlessError_23 : decode cX0_recordUnlessError 23 = .ok (.iadd, 1) := by decide +kernel
theorem dX0_recordUnlessError_24 : decode cX0_recordUnlessError 24 = .ok (.putfield 18, 3) := by decide +kernel
theorem dX0_recordUnlessError_27 : decode cX0_recordUnlessError 27 = .ok (.aload_n 0, 1) := by decide +kernel
theorem dX0_recordUnlessError_28 : decode cX0_recordUnlessError 28 = .ok (.aload_n 0, 1) := by decide +kernel
theorem dX0_recordUnlessError_29 : decode cX0_recordUnlessError 29 = .ok (.getfield 22, 3) := by decide +kernel
theorem dX0_recordUnlessError_32 : decode cX0_recordUnlessError 32 = .ok (.iconst 1, 1) := by decide +kernel
theorem dX0_recordUnlessError_33 : decode cX0_recordUnlessError 33 = .ok (.iadd, 1) := by decide +kernel
theorem dX0_recordUnlessError_34 : decode cX0_recordUnlessError 34 = .ok (.bipush 6, 2) := by decide +kernel
theorem dX0_recordUnlessError_36 : decode cX0_recordUnlessError 36 = .ok (.invokestatic 29, 3) := by decide +kernel
theorem dX0_recordUnlessError_39 : decode cX0_recordUnlessError 39 = .ok (.putfield 22, 3) := by decide +kernel
theorem dX0_recordUnlessError_42 : decode cX0_recordUnlessError 42 = .ok (.iload_n 1, 1) := by decide +kernel
theorem dX0_recordUnlessError_43 : decode cX0_recordUnlessError 43 = .ok (.ireturn, 1) := by decide +kernel
theorem dX0_takeBack_0 : decode cX0_takeBack 0 = .ok (.aload_n 0, 1) := by decide +kernel
theorem dX0_takeBack_1 : decode cX0_takeBack 1 = .ok (.getfield 22, 3) := by decide +kernel
theorem dX0_takeBack_4 : decode cX0_takeBack 4 = .ok (.ifCond .ne 4, 3) := by decide +kernel
theorem dX0_takeBack_7 : decode cX0_takeBack 7 = .ok (.return_, 1) := by decide +kernel
theorem dX0_takeBack_8 : decode cX0_takeBack 8 = .ok (.aload_n 0, 1) := by decide +kernel
theorem dX0_takeBack_9 : decode cX0_takeBack 9 = .ok (.aload_n 0, 1) := by decide +kernel
theorem dX0_takeBack_10 : decode cX0_takeBack 10 = .ok (.getfield 18, 3) := by decide +kernel
theorem dX0_takeBack_13 : decode cX0_takeBack 13 = .ok (.ifCond .ne 8, 3) := by decide +kernel
theorem dX0_takeBack_16 : decode cX0_takeBack 16 = .ok (.bipush 6, 2) := by decide +kernel
theorem dX0_takeBack_18 : decode cX0_takeBack 18 = .ok (.goto 9, 3) := by decide +kernel
theorem dX0_takeBack_21 : decode cX0_takeBack 21 = .ok (.aload_n 0, 1) := by decide +kernel
theorem dX0_takeBack_22 : decode cX0_takeBack 22 = .ok (.getfield 18, 3) := by decide +kernel
theorem dX0_takeBack_25 : decode cX0_takeBack 25 = .ok (.iconst 1, 1) := by decide +kernel
theorem dX0_takeBack_26 : decode cX0_takeBack 26 = .ok (.isub, 1) := by decide +kernel
theorem dX0_takeBack_27 : decode cX0_takeBack 27 = .ok (.putfield 18, 3) := by decide +kernel
theorem dX0_takeBack_30 : decode cX0_takeBack 30 = .ok (.aload_n 0, 1) := by decide +kernel
theorem dX0_takeBack_31 : decode cX0_takeBack 31 = .ok (.dup, 1) := by decide +kernel
theorem dX0_takeBack_32 : decode cX0_takeBack 32 = .ok (.getfield 22, 3) := by decide +kernel
theorem dX0_takeBack_35 : decode cX0_takeBack 35 = .ok (.iconst 1, 1) := by decide +kernel
theorem dX0_takeBack_36 : decode cX0_takeBack 36 = .ok (.isub, 1) := by decide +kernel
theorem dX0_takeBack_37 : decode cX0_takeBack 37 = .ok (.putfield 22, 3) := by decide +kernel
theorem dX0_takeBack_40 : decode cX0_takeBack 40 = .ok (.aload_n 1, 1) := by decide +kernel
theorem dX0_takeBack_41 : decode cX0_takeBack 41 = .ok (.aload_n 0, 1) := by decide +kernel
theorem dX0_takeBack_42 : decode cX0_takeBack 42 = .ok (.getfield 11, 3) := by decide +kernel
theorem dX0_takeBack_45 : decode cX0_takeBack 45 = .ok (.aload_n 0, 1) := by decide +kernel
theorem dX0_takeBack_46 : decode cX0_takeBack 46 = .ok (.getfield 18, 3) := by decide +kernel
theorem dX0_takeBack_49 : decode cX0_takeBack 49 = .ok (.aaload, 1) := by decide +kernel
theorem dX0_takeBack_50 : decode cX0_takeBack 50 = .ok (.invokevirtual 25, 3) := by decide +kernel
theorem dX0_takeBack_53 : decode cX0_takeBack 53 = .ok (.return_, 1) := by decide +kernel
theorem dX2_init_0 : decode cX2_init 0 = .ok (.aload_n 0, 1) := by decide +kernel
theorem dX2_init_1 : decode cX2_init 1 = .ok (.invokespecial 3, 3) := by decide +kernel
theorem dX2_init_4 : decode cX2_init 4 = .ok (.aload_n 0, 1) := by decide +kernel
theorem dX2_init_5 : decode cX2_init 5 = .ok (.aload_n 1, 1) := by decide +kernel
theorem dX2_init_6 : decode cX2_init 6 = .ok (.putfield 9, 3) := by decide +kernel
theorem dX2_init_9 : decode cX2_init 9 = .ok (.return_, 1) := by decide +kernel
theorem dX2_goToStart_0 : decode cX2_goToStart 0 = .ok (.aload_n 0, 1) := by decide +kernel
theorem dX2_goToStart_1 : decode cX2_goToStart 1 = .ok (.iconst 0, 1) := by decide +kernel
theorem dX2_goToStart_2 : decode cX2_goToStart 2 = .ok (.putfield 15, 3) := by decide +kernel
theorem dX2_goToStart_5 : decode cX2_goToStart 5 = .ok (.return_, 1) := by decide +kernel
theorem dX2_findFault_0 : decode cX2_findFault 0 = .ok (.aload_n 0, 1) := by decide +kernel
theorem dX2_findFault_1 : decode cX2_findFault 1 = .ok (.invokevirtual 19, 3) := by decide +kernel
theorem dX2_findFault_4 : decode cX2_findFault 4 = .ok (.iconst 0, 1) := by decide +kernel
theorem dX2_findFault_5 : decode cX2_findFault 5 = .ok (.istore_n 1, 1) := by decide +kernel
theorem dX2_findFault_6 : decode cX2_findFault 6 = .ok (.iload_n 1, 1) := by decide +kernel
theorem dX2_findFault_7 : decode cX2_findFault 7 = .ok (.bipush 80, 2) := by decide +kernel
theorem dX2_findFault_9 : decode cX2_findFault 9 = .ok (.if_icmp .ge 52, 3) := by decide +kernel
theorem dX2_findFault_12 : decode cX2_findFault 12 = .ok (.aload_n 0, 1) := by decide +kernel
theorem dX2_findFault_13 : decode cX2_findFault 13 = .ok (.invokevirtual 22, 3) := by decide +kernel
theorem dX2_findFault_16 : decode cX2_findFault 16 = .ok (.ifCond .ne 8, 3) := by decide +kernel
theorem dX2_findFault_19 : decode cX2_findFault 19 = .ok (.aload_n 0, 1) := by decide +kernel
theorem dX2_findFault_20 : decode cX2_findFault 20 = .ok (.getfield 15, 3) := by decide +kernel
theorem dX2_findFault_23 : decode cX2_findFault 23 = .ok (.ireturn, 1) := by decide +kernel
theorem dX2_findFault_24 : decode cX2_findFault 24 = .ok (.aload_n 0, 1) := by decide +kernel
theorem dX2_findFault_25 : decode cX2_findFault 25 = .ok (.getfield 15, 3) := by decide +kernel
theorem dX2_findFault_28 : decode cX2_findFault 28 = .ok (.aload_n 0, 1) := by decide +kernel
theorem dX2_findFault_29 : decode cX2_findFault 29 = .ok (.getfield 9, 3) := by decide +kernel
theorem dX2_findFault_32 : decode cX2_findFault 32 = .ok (.getfield 26, 3) := by decide +kernel
theorem dX2_findFault_35 : decode cX2_findFault 35 = .ok (.if_icmp .lt 6, 3) := by decide +kernel
theorem dX2_findFault_38 : decode cX2_findFault 38 = .ok (.bipush (-6), 2) := by decide +kernel
theorem dX2_findFault_40 : decode cX2_findFault 40 = .ok (.ireturn, 1) := by decide +kernel
theorem dX2_findFault_41 : decode cX2_findFault 41 = .ok (.aload_n 0, 1) := by decide +kernel
theorem dX2_findFault_42 : decode cX2_findFault 42 = .ok (.bipush 59, 2) := by decide +kernel
theorem dX2_findFault_44 : decode cX2_findFault 44 = .ok (.invokevirtual 31, 3) := by decide +kernel
theorem dX2_findFault_47 : decode cX2_findFault 47 = .ok (.ifCond .ne 8, 3) := by decide +kernel
theorem dX2_findFault_50 : decode cX2_findFault 50 = .ok (.aload_n 0, 1) := by decide +kernel
theorem dX2_findFault_51 : decode cX2_findFault 51 = .ok (.getfield 15, 3) := by decide +kernel
theorem dX2_findFault_54 : decode cX2_findFault 54 = .ok (.ireturn, 1) := by decide +kernel
theorem dX2_findFault_55 : decode cX2_findFault 55 = .ok (.iinc 1 1, 3) := by decide +kernel
theorem dX2_findFault_58 : decode cX2_findFault 58 = .ok (.goto (-52), 3) := by decide +kernel
theorem dX2_findFault_61 : decode cX2_findFault 61 = .ok (.aload_n 0, 1) := by decide +kernel
theorem dX2_findFault_62 : decode cX2_findFault 62 = .ok (.getfield 15, 3) := by decide +kernel
theorem dX2_findFault_65 : decode cX2_findFault 65 = .ok (.ireturn, 1) := by decide +kernel
theorem dX2_readOrder_0 : decode cX2_readOrder 0 = .ok (.aload_n 0, 1) := by decide +kernel
theorem dX2_readOrder_1 : decode cX2_readOrder 1 = .ok (.aload_n 0, 1) := by decide +kernel
theorem dX2_readOrder_2 : decode cX2_readOrder 2 = .ok (.getfield 9, 3) := by decide +kernel
theorem dX2_readOrder_5 : decode cX2_readOrder 5 = .ok (.aload_n 0, 1) := by decide +kernel
theorem dX2_readOrder_6 : decode cX2_readOrder 6 = .ok (.getfield 15, 3) := by decide +kernel
theorem dX2_readOrder_9 : decode cX2_readOrder 9 = .ok (.invokevirtual 35, 3) := by decide +kernel
theorem dX2_readOrder_12 : decode cX2_readOrder 12 = .ok (.putfield 39, 3) := by decide +kernel
theorem dX2_readOrder_15 : decode cX2_readOrder 15 = .ok (.aload_n 0, 1) := by decide +kernel
theorem dX2_readOrder_16 : decode cX2_readOrder 16 = .ok (.getfield 39, 3) := by decide +kernel
theorem dX2_readOrder_19 : decode cX2_readOrder 19 = .ok (.bipush 43, 2) := by decide +kernel
theorem dX2_readOrder_21 : decode cX2_readOrder 21 = .ok (.if_icmp .ne 18, 3) := by decide +kernel
theorem dX2_readOrder_24 : decode cX2_readOrder 24 = .ok (.aload_n 0, 1) := by decide +kernel
theorem dX2_readOrder_25 : decode cX2_readOrder 25 = .ok (.dup, 1) := by decide +kernel
theorem dX2_readOrder_26 : decode cX2_readOrder 26 = .ok (.getfield 15, 3) := by decide +kernel
theorem dX2_readOrder_29 : decode cX2_readOrder 29 = .ok (.iconst 1, 1) := by decide +kernel
theorem dX2_readOrder_30 : decode cX2_readOrder 30 = .ok (.iadd, 1) := by decide +kernel
theorem dX2_readOrder_31 : decode cX2_readOrder 31 = .ok (.putfield 15, 3) := by decide +kernel
theorem dX2_readOrder_34 : decode cX2_readOrder 34 = .ok (.aload_n 0, 1) := by decide +kernel
theorem dX2_readOrder_35 : decode cX2_readOrder 35 = .ok (.invokevirtual 43, 3) := by decide +kernel
theorem dX2_readOrder_38 : decode cX2_readOrder 38 = .ok (.ireturn, 1) := by decide +kernel
theorem dX2_readOrder_39 : decode cX2_readOrder 39 = .ok (.aload_n 0, 1) := by decide +kernel
theorem dX2_readOrder_40 : decode cX2_readOrder 40 = .ok (.getfield 39, 3) := by decide +kernel
theorem dX2_readOrder_43 : decode cX2_readOrder 43 = .ok (.bipush 112, 2) := by decide +kernel
theorem dX2_readOrder_45 : decode cX2_readOrder 45 = .ok (.if_icmp .eq 30, 3) := by decide +kernel
theorem dX2_readOrder_48 : decode cX2_readOrder 48 = .ok (.aload_n 0, 1) := by decide +kernel
theorem dX2_readOrder_49 : decode cX2_readOrder 49 = .ok (.getfield 39, 3) := by decide +kernel
theorem dX2_readOrder_52 : decode cX2_readOrder 52 = .ok (.bipush 104, 2) := by decide +kernel
theorem dX2_readOrder_54 : decode cX2_readOrder 54 = .ok (.if_icmp .eq 21, 3) := by decide +kernel
theorem dX2_readOrder_57 : decode cX2_readOrder 57 = .ok (.aload_n 0, 1) := by decide +kernel
theorem dX2_readOrder_58 : decode cX2_readOrder 58 = .ok (.getfield 39, 3) := by decide +kernel
theorem dX2_readOrder_61 : decode cX2_readOrder 61 = .ok (.bipush 107, 2) := by decide +kernel
theorem dX2_readOrder_63 : decode cX2_readOrder 63 = .ok (.if_icmp .eq 12, 3) := by decide +kernel
theorem dX2_readOrder_66 : decode cX2_readOrder 66 = .ok (.aload_n 0, 1) := by decide +kernel
theorem dX2_readOrder_67 : decode cX2_readOrder 67 = .ok (.getfield 39, 3) := by decide +kernel
theorem dX2_readOrder_70 : decode cX2_readOrder 70 = .ok (.bipush 116, 2) := by decide +kernel
theorem dX2_readOrder_72 : decode cX2_readOrder 72 = .ok (.if_icmp .ne 18, 3) := by decide +kernel
theorem dX2_readOrder_75 : decode cX2_readOrder 75 = .ok (.aload_n 0, 1) := by decide +kernel
theorem dX2_readOrder_76 : decode cX2_readOrder 76 = .ok (.dup, 1) := by decide +kernel
theorem dX2_readOrder_77 : decode cX2_readOrder 77 = .ok (.getfield 15, 3) := by decide +kernel
theorem dX2_readOrder_80 : decode cX2_readOrder 80 = .ok (.iconst 1, 1) := by decide +kernel
theorem dX2_readOrder_81 : decode cX2_readOrder 81 = .ok (.iadd, 1) := by decide +kernel
theorem dX2_readOrder_82 : decode cX2_readOrder 82 = .ok (.putfield 15, 3) := by decide +kernel
theorem dX2_readOrder_85 : decode cX2_readOrder 85 = .ok (.aload_n 0, 1) := by decide +kernel
theorem dX2_readOrder_86 : decode cX2_readOrder 86 = .ok (.invokevirtual 46, 3) := by decide +kernel
theorem dX2_readOrder_89 : decode cX2_readOrder 89 = .ok (.ireturn, 1) := by decide +kernel
theorem dX2_readOrder_90 : decode cX2_readOrder 90 = .ok (.iconst 0, 1) := by decide +kernel
theorem dX2_readOrder_91 : decode cX2_readOrder 91 = .ok (.ireturn, 1) := by decide +kernel
theorem dX2_readPiece_0 : decode cX2_readPiece 0 = .ok (.aload_n 0, 1) := by decide +kernel
theorem dX2_readPiece_1 : decode cX2_readPiece 1 = .ok (.aload_n 0, 1) := by decide +kernel
theorem dX2_readPiece_2 : decode cX2_readPiece 2 = .ok (.invokevirtual 49, 3) := by decide +kernel
theorem dX2_readPiece_5 : decode cX2_readPiece 5 = .ok (.putfield 53, 3) := by decide +kernel
theorem dX2_readPiece_8 : decode cX2_readPiece 8 = .ok (.aload_n 0, 1) := by decide +kernel
theorem dX2_readPiece_9 : decode cX2_readPiece 9 = .ok (.getfield 53, 3) := by decide +kernel
theorem dX2_readPiece_12 : decode cX2_readPiece 12 = .ok (.ifCond .lt 11, 3) := by decide +kernel
theorem dX2_readPiece_15 : decode cX2_readPiece 15 = .ok (.aload_n 0, 1) := by decide +kernel
theorem dX2_readPiece_16 : decode cX2_readPiece 16 = .ok (.getfield 53, 3) := by decide +kernel
theorem dX2_readPiece_19 : decode cX2_readPiece 19 = .ok (.iconst 5, 1) := by decide +kernel
theorem dX2_readPiece_20 : decode cX2_readPiece 20 = .ok (.if_icmp .lt 5, 3) := by decide +kernel
theorem dX2_readPiece_23 : decode cX2_readPiece 23 = .ok (.iconst 0, 1) := by decide +kernel
theorem dX2_readPiece_24 : decode cX2_readPiece 24 = .ok (.ireturn, 1) := by decide +kernel
theorem dX2_readPiece_25 : decode cX2_readPiece 25 = .ok (.aload_n 0, 1) := by decide +kernel
theorem dX2_readPiece_26 : decode cX2_readPiece 26 = .ok (.dup, 1) := by decide +kernel
theorem dX2_readPiece_27 : decode cX2_readPiece 27 = .ok (.getfield 15, 3) := by decide +kernel
theorem dX2_readPiece_30 : decode cX2_readPiece 30 = .ok (.iconst 1, 1) := by decide +kernel
theorem dX2_readPiece_31 : decode cX2_readPiece 31 = .ok (.iadd, 1) := by decide +kernel
theorem dX2_readPiece_32 : decode cX2_readPiece 32 = .ok (.putfield 15, 3) := by decide +kernel
theorem dX2_readPiece_35 : decode cX2_readPiece 35 = .ok (.aload_n 0, 1) := by decide +kernel
theorem dX2_readPiece_36 : decode cX2_readPiece 36 = .ok (.bipush 58, 2) := by decide +kernel
theorem dX2_readPiece_38 : decode cX2_readPiece 38 = .ok (.invokevirtual 31, 3) := by decide +kernel
theorem dX2_readPiece_41 : decode cX2_readPiece 41 = .ok (.ifCond .eq 19, 3) := by decide +kernel
theorem dX2_readPiece_44 : decode cX2_readPiece 44 = .ok (.aload_n 0, 1) := by decide +kernel
theorem dX2_readPiece_45 : decode cX2_readPiece 45 = .ok (.invokevirtual 46, 3) := by decide +kernel
theorem dX2_readPiece_48 : decode cX2_readPiece 48 = .ok (.ifCond .eq 12, 3) := by decide +kernel
theorem dX2_readPiece_51 : decode cX2_readPiece 51 = .ok (.aload_n 0, 1) := by decide +kernel
theorem dX2_readPiece_52 : decode cX2_readPiece 52 = .ok (.bipush 33, 2) := by decide +kernel
theorem dX2_readPiece_54 : decode cX2_readPiece 54 = .ok (.invokevirtual 31, 3) := by decide +kernel
theorem dX2_readPiece_57 : decode cX2_readPiece 57 = .ok (.ifCond .ne 5, 3) := by decide +kernel
theorem dX2_readPiece_60 : decode cX2_readPiece 60 = .ok (.iconst 0, 1) := by decide +kernel
theorem dX2_readPiece_61 : decode cX2_readPiece 61 = .ok (.ireturn, 1) := by decide +kernel
theorem dX2_readPiece_62 : decode cX2_readPiece 62 = .ok (.aload_n 0, 1) := by decide +kernel
theorem dX2_readPiece_63 : decode cX2_readPiece 63 = .ok (.aload_n 0, 1) := by decide +kernel
theorem dX2_readPiece_64 : decode cX2_readPiece 64 = .ok (.invokevirtual 49, 3) := by decide +kernel
theorem dX2_readPiece_67 : decode cX2_readPiece 67 = .ok (.putfield 56, 3) := by decide +kernel
theorem dX2_readPiece_70 : decode cX2_readPiece 70 = .ok (.aload_n 0, 1) := by decide +kernel
theorem dX2_readPiece_71 : decode cX2_readPiece 71 = .ok (.getfield 56, 3) := by decide +kernel
theorem dX2_readPiece_74 : decode cX2_readPiece 74 = .ok (.ifCond .ge 5, 3) := by decide +kernel
theorem dX2_readPiece_77 : decode cX2_readPiece 77 = .ok (.iconst 0, 1) := by decide +kernel
theorem dX2_readPiece_78 : decode cX2_readPiece 78 = .ok (.ireturn, 1) := by decide +kernel
theorem dX2_readPiece_79 : decode cX2_readPiece 79 = .ok (.aload_n 0, 1) := by decide +kernel
theorem dX2_readPiece_80 : decode cX2_readPiece 80 = .ok (.dup, 1) := by decide +kernel
theorem dX2_readPiece_81 : decode cX2_readPiece 81 = .ok (.getfield 15, 3) := by decide +kernel
theorem dX2_readPiece_84 : decode cX2_readPiece 84 = .ok (.iconst 1, 1) := by decide +kernel
theorem dX2_readPiece_85 : decode cX2_readPiece 85 = .ok (.iadd, 1) := by decide +kernel
theorem dX2_readPiece_86 : decode cX2_readPiece 86 = .ok (.putfield 15, 3) := by decide +kernel
theorem dX2_readPiece_89 : decode cX2_readPiece 89 = .ok (.aload_n 0, 1) := by decide +kernel
theorem dX2_readPiece_90 : decode cX2_readPiece 90 = .ok (.aload_n 0, 1) := by decide +kernel
theorem dX2_readPiece_91 : decode cX2_readPiece 91 = .ok (.bipush 76, 2) := by decide +kernel
theorem dX2_readPiece_93 : decode cX2_readPiece 93 = .ok (.invokevirtual 31, 3) := by decide +kernel
theorem dX2_readPiece_96 : decode cX2_readPiece 96 = .ok (.invokestatic 59, 3) := by decide +kernel
theorem dX2_readPiece_99 : decode cX2_readPiece 99 = .ok (.putfield 63, 3) := by decide +kernel
theorem dX2_readPiece_102 : decode cX2_readPiece 102 = .ok (.iconst 1, 1) := by decide +kernel
theorem dX2_readPiece_103 : decode cX2_readPiece 103 = .ok (.ireturn, 1) := by decide +kernel
theorem dX2_readNumber_0 : decode cX2_readNumber 0 = .ok (.aload_n 0, 1) := by decide +kernel
theorem dX2_readNumber_1 : decode cX2_readNumber 1 = .ok (.aload_n 0, 1) := by decide +kernel
theorem dX2_readNumber_2 : decode cX2_readNumber 2 = .ok (.invokevirtual 49, 3) := by decide +kernel
theorem dX2_readNumber_5 : decode cX2_readNumber 5 = .ok (.putfield 66, 3) := by decide +kernel
theorem dX2_readNumber_8 : decode cX2_readNumber 8 = .ok (.aload_n 0, 1) := by decide +kernel
theorem dX2_readNumber_9 : decode cX2_readNumber 9 = .ok (.getfield 66, 3) := by decide +kernel
theorem dX2_readNumber_12 : decode cX2_readNumber 12 = .ok (.ifCond .ge 5, 3) := by decide +kernel
theorem dX2_readNumber_15 : decode cX2_readNumber 15 = .ok (.iconst 0, 1) := by decide +kernel
theorem dX2_readNumber_16 : decode cX2_readNumber 16 = .ok (.ireturn, 1) := by decide +kernel
theorem dX2_readNumber_17 : decode cX2_readNumber 17 = .ok (.aload_n 0, 1) := by decide +kernel
theorem dX2_readNumber_18 : decode cX2_readNumber 18 = .ok (.dup, 1) := by decide +kernel
theorem dX2_readNumber_19 : decode cX2_readNumber 19 = .ok (.getfield 15, 3) := by decide +kernel
theorem dX2_readNumber_22 : decode cX2_readNumber 22 = .ok (.iconst 1, 1) := by decide +kernel
theorem dX2_readNumber_23 : decode cX2_readNumber 23 = .ok (.iadd, 1) := by decide +kernel
theorem dX2_readNumber_24 : decode cX2_readNumber 24 = .ok (.putfield 15, 3) := by decide +kernel
theorem dX2_readNumber_27 : decode cX2_readNumber 27 = .ok (.iconst 1, 1) := by decide +kernel
theorem dX2_readNumber_28 : decode cX2_readNumber 28 = .ok (.istore_n 1, 1) := by decide +kernel
theorem dX2_readNumber_29 : decode cX2_readNumber 29 = .ok (.iload_n 1, 1) := by decide +kernel
theorem dX2_readNumber_30 : decode cX2_readNumber 30 = .ok (.iconst 3, 1) := by decide +kernel
theorem dX2_readNumber_31 : decode cX2_readNumber 31 = .ok (.if_icmp .ge 50, 3) := by decide +kernel
theorem dX2_readNumber_34 : decode cX2_readNumber 34 = .ok (.aload_n 0, 1) := by decide +kernel
theorem dX2_readNumber_35 : decode cX2_readNumber 35 = .ok (.getfield 66, 3) := by decide +kernel
theorem dX2_readNumber_38 : decode cX2_readNumber 38 = .ok (.ifCond .le 43, 3) := by decide +kernel
theorem dX2_readNumber_41 : decode cX2_readNumber 41 = .ok (.aload_n 0, 1) := by decide +kernel
theorem dX2_readNumber_42 : decode cX2_readNumber 42 = .ok (.invokevirtual 49, 3) := by decide +kernel
theorem dX2_readNumber_45 : decode cX2_readNumber 45 = .ok (.istore_n 2, 1) := by decide +kernel
theorem dX2_readNumber_46 : decode cX2_readNumber 46 = .ok (.iload_n 2, 1) := by decide +kernel
theorem dX2_readNumber_47 : decode cX2_readNumber 47 = .ok (.ifCond .ge 5, 3) := by decide +kernel
theorem dX2_readNumber_50 : decode cX2_readNumber 50 = .ok (.iconst 1, 1) := by decide +kernel
theorem dX2_readNumber_51 : decode cX2_readNumber 51 = .ok (.ireturn, 1) := by decide +kernel
theorem dX2_readNumber_52 : decode cX2_readNumber 52 = .ok (.aload_n 0, 1) := by decide +kernel
theorem dX2_readNumber_53 : decode cX2_readNumber 53 = .ok (.aload_n 0, 1) := by decide +kernel
theorem dX2_readNumber_54 : decode cX2_readNumber 54 = .ok (.getfield 66, 3) := by decide +kernel
theorem dX2_readNumber_57 : decode cX2_readNumber 57 = .ok (.bipush 10, 2) := by decide +kernel
theorem dX2_readNumber_59 : decode cX2_readNumber 59 = .ok (.imul, 1) := by decide +kernel
theorem dX2_readNumber_60 : decode cX2_readNumber 60 = .ok (.iload_n 2, 1) := by decide +kernel
theorem dX2_readNumber_61 : decode cX2_readNumber 61 = .ok (.iadd, 1) := by decide +kernel
theorem dX2_readNumber_62 : decode cX2_readNumber 62 = .ok (.putfield 66, 3) := by decide +kernel
theorem dX2_readNumber_65 : decode cX2_readNumber 65 = .ok (.aload_n 0, 1) := by decide +kernel
theorem dX2_readNumber_66 : decode cX2_readNumber 66 = .ok (.dup, 1) := by decide +kernel
theorem dX2_readNumber_67 : decode cX2_readNumber 67 = .ok (.getfield 15, 3) := by decide +kernel
theorem dX2_readNumber_70 : decode cX2_readNumber 70 = .ok (.iconst 1, 1) := by decide +kernel
theorem dX2_readNumber_71 : decode cX2_readNumber 71 = .ok (.iadd, 1) := by decide +kernel
theorem dX2_readNumber_72 : decode cX2_readNumber 72 = .ok (.putfield 15, 3) := by decide +kernel
theorem dX2_readNumber_75 : decode cX2_readNumber 75 = .ok (.iinc 1 1, 3) := by decide +kernel
theorem dX2_readNumber_78 : decode cX2_readNumber 78 = .ok (.goto (-49), 3) := by decide +kernel
theorem dX2_readNumber_81 : decode cX2_readNumber 81 = .ok (.iconst 1, 1) := by decide +kernel
theorem dX2_readNumber_82 : decode cX2_readNumber 82 = .ok (.ireturn, 1) := by decide +kernel
theorem dX2_readSign_0 : decode cX2_readSign 0 = .ok (.aload_n 0, 1) := by decide +kernel
theorem dX2_readSign_1 : decode cX2_readSign 1 = .ok (.getfield 9, 3) := by decide +kernel
theorem dX2_readSign_4 : decode cX2_readSign 4 = .ok (.aload_n 0, 1) := by decide +kernel
theorem dX2_readSign_5 : decode cX2_readSign 5 = .ok (.getfield 15, 3) := by decide +kernel
theorem dX2_readSign_8 : decode cX2_readSign 8 = .ok (.invokevirtual 35, 3) := by decide +kernel
theorem dX2_readSign_11 : decode cX2_readSign 11 = .ok (.iload_n 1, 1) := by decide +kernel
theorem dX2_readSign_12 : decode cX2_readSign 12 = .ok (.if_icmp .eq 5, 3) := by decide +kernel
theorem dX2_readSign_15 : decode cX2_readSign 15 = .ok (.iconst 0, 1) := by decide +kernel
theorem dX2_readSign_16 : decode cX2_readSign 16 = .ok (.ireturn, 1) := by decide +kernel
theorem dX2_readSign_17 : decode cX2_readSign 17 = .ok (.aload_n 0, 1) := by decide +kernel
theorem dX2_readSign_18 : decode cX2_readSign 18 = .ok (.dup, 1) := by decide +kernel
theorem dX2_readSign_19 : decode cX2_readSign 19 = .ok (.getfield 15, 3) := by decide +kernel
theorem dX2_readSign_22 : decode cX2_readSign 22 = .ok (.iconst 1, 1) := by decide +kernel
theorem dX2_readSign_23 : decode cX2_readSign 23 = .ok (.iadd, 1) := by decide +kernel
theorem dX2_readSign_24 : decode cX2_readSign 24 = .ok (.putfield 15, 3) := by decide +kernel
theorem dX2_readSign_27 : decode cX2_readSign 27 = .ok (.iconst 1, 1) := by decide +kernel
theorem dX2_readSign_28 : decode cX2_readSign 28 = .ok (.ireturn, 1) := by decide +kernel
theorem dX2_digitHere_0 : decode cX2_digitHere 0 = .ok (.aload_n 0, 1) := by decide +kernel
theorem dX2_digitHere_1 : decode cX2_digitHere 1 = .ok (.getfield 9, 3) := by decide +kernel
theorem dX2_digitHere_4 : decode cX2_digitHere 4 = .ok (.aload_n 0, 1) := by decide +kernel
theorem dX2_digitHere_5 : decode cX2_digitHere 5 = .ok (.getfield 15, 3) := by decide +kernel
theorem dX2_digitHere_8 : decode cX2_digitHere 8 = .ok (.invokevirtual 35, 3) := by decide +kernel
theorem dX2_digitHere_11 : decode cX2_digitHere 11 = .ok (.istore_n 1, 1) := by decide +kernel
theorem dX2_digitHere_12 : decode cX2_digitHere 12 = .ok (.iload_n 1, 1) := by decide +kernel
theorem dX2_digitHere_13 : decode cX2_digitHere 13 = .ok (.bipush 48, 2) := by decide +kernel
theorem dX2_digitHere_15 : decode cX2_digitHere 15 = .ok (.if_icmp .lt 16, 3) := by decide +kernel
theorem dX2_digitHere_18 : decode cX2_digitHere 18 = .ok (.iload_n 1, 1) := by decide +kernel
theorem dX2_digitHere_19 : decode cX2_digitHere 19 = .ok (.bipush 57, 2) := by decide +kernel
theorem dX2_digitHere_21 : decode cX2_digitHere 21 = .ok (.if_icmp .gt 10, 3) := by decide +kernel
theorem dX2_digitHere_24 : decode cX2_digitHere 24 = .ok (.iload_n 1, 1) := by decide +kernel
theorem dX2_digitHere_25 : decode cX2_digitHere 25 = .ok (.bipush 48, 2) := by decide +kernel
theorem dX2_digitHere_27 : decode cX2_digitHere 27 = .ok (.isub, 1) := by decide +kernel
theorem dX2_digitHere_28 : decode cX2_digitHere 28 = .ok (.goto 5, 3) := by decide +kernel
theorem dX2_digitHere_31 : decode cX2_digitHere 31 = .ok (.bipush (-6), 2) := by decide +kernel
theorem dX2_digitHere_33 : decode cX2_digitHere 33 = .ok (.ireturn, 1) := by decide +kernel
theorem dX3_init_0 : decode cX3_init 0 = .ok (.aload_n 0, 1) := by decide +kernel
theorem dX3_init_1 : decode cX3_init 1 = .ok (.invokespecial 3, 3) := by decide +kernel
theorem dX3_init_4 : decode cX3_init 4 = .ok (.aload_n 0, 1) := by decide +kernel
theorem dX3_init_5 : decode cX3_init 5 = .ok (.bipush 80, 2) := by decide +kernel
theorem dX3_init_7 : decode cX3_init 7 = .ok (.newarray .char, 2) := by decide +kernel
theorem dX3_init_9 : decode cX3_init 9 = .ok (.putfield 9, 3) := by decide +kernel
theorem dX3_init_12 : decode cX3_init 12 = .ok (.aload_n 0, 1) := by decide +kernel
theorem dX3_init_13 : decode cX3_init 13 = .ok (.iconst 0, 1) := by decide +kernel
theorem dX3_init_14 : decode cX3_init 14 = .ok (.putfield 15, 3) := by decide +kernel
theorem dX3_init_17 : decode cX3_init 17 = .ok (.return_, 1) := by decide +kernel
theorem dX3_append_0 : decode cX3_append 0 = .ok (.lload_n 1, 1) := by decide +kernel
theorem dX3_append_1 : decode cX3_append 1 = .ok (.invokestatic 19, 3) := by decide +kernel
theorem dX3_append_4 : decode cX3_append 4 = .ok (.istore_n 3, 1) := by decide +kernel
theorem dX3_append_5 : decode cX3_append 5 = .ok (.iload_n 3, 1) := by decide +kernel
theorem dX3_append_6 : decode cX3_append 6 = .ok (.ifCond .ne 6, 3) := by decide +kernel
theorem dX3_append_9 : decode cX3_append 9 = .ok (.bipush (-2), 2) := by decide +kernel
theorem dX3_append_11 : decode cX3_append 11 = .ok (.ireturn, 1) := by decide +kernel
theorem dX3_append_12 : decode cX3_append 12 = .ok (.aload_n 0, 1) := by decide +kernel
theorem dX3_append_13 : decode cX3_append 13 = .ok (.getfield 15, 3) := by decide +kernel
theorem dX3_append_16 : decode cX3_append 16 = .ok (.iload_n 3, 1) := by decide +kernel
theorem dX3_append_17 : decode cX3_append 17 = .ok (.iadd, 1) := by decide +kernel
theorem dX3_append_18 : decode cX3_append 18 = .ok (.bipush 80, 2) := by decide +kernel
theorem dX3_append_20 : decode cX3_append 20 = .ok (.if_icmp .le 6, 3) := by decide +kernel
theorem dX3_append_23 : decode cX3_append 23 = .ok (.bipush (-4), 2) := by decide +kernel
theorem dX3_append_25 : decode cX3_append 25 = .ok (.ireturn, 1) := by decide +kernel
theorem dX3_append_26 : decode cX3_append 26 = .ok (.lload_n 1, 1) := by decide +kernel
theorem dX3_append_27 : decode cX3_append 27 = .ok (.lstore 4, 2) := by decide +kernel
theorem dX3_append_29 : decode cX3_append 29 = .ok (.aload_n 0, 1) := by decide +kernel
theorem dX3_append_30 : decode cX3_append 30 = .ok (.getfield 15, 3) := by decide +kernel
theorem dX3_append_33 : decode cX3_append 33 = .ok (.iload_n 3, 1) := by decide +kernel
theorem dX3_append_34 : decode cX3_append 34 = .ok (.iadd, 1) := by decide +kernel
theorem dX3_append_35 : decode cX3_append 35 = .ok (.iconst 1, 1) := by decide +kernel
theorem dX3_append_36 : decode cX3_append 36 = .ok (.isub, 1) := by decide +kernel
theorem dX3_append_37 : decode cX3_append 37 = .ok (.istore 6, 2) := by decide +kernel
theorem dX3_append_39 : decode cX3_append 39 = .ok (.iload 6, 2) := by decide +kernel
theorem dX3_append_41 : decode cX3_append 41 = .ok (.aload_n 0, 1) := by decide +kernel
theorem dX3_append_42 : decode cX3_append 42 = .ok (.getfield 15, 3) := by decide +kernel
theorem dX3_append_45 : decode cX3_append 45 = .ok (.if_icmp .lt 31, 3) := by decide +kernel
theorem dX3_append_48 : decode cX3_append 48 = .ok (.aload_n 0, 1) := by decide +kernel
theorem dX3_append_49 : decode cX3_append 49 = .ok (.getfield 9, 3) := by decide +kernel
theorem dX3_append_52 : decode cX3_append 52 = .ok (.iload 6, 2) := by decide +kernel
theorem dX3_append_54 : decode cX3_append 54 = .ok (.lload 4, 2) := by decide +kernel
theorem dX3_append_56 : decode cX3_append 56 = .ok (.ldc2_w 23, 3) := by decide +kernel
theorem dX3_append_59 : decode cX3_append 59 = .ok (.land, 1) := by decide +kernel
theorem dX3_append_60 : decode cX3_append 60 = .ok (.l2i, 1) := by decide +kernel
theorem dX3_append_61 : decode cX3_append 61 = .ok (.i2c, 1) := by decide +kernel
theorem dX3_append_62 : decode cX3_append 62 = .ok (.castore, 1) := by decide +kernel
theorem dX3_append_63 : decode cX3_append 63 = .ok (.lload 4, 2) := by decide +kernel
theorem dX3_append_65 : decode cX3_append 65 = .ok (.bipush 8, 2) := by decide +kernel
theorem dX3_append_67 : decode cX3_append 67 = .ok (.lushr, 1) := by decide +kernel
theorem dX3_append_68 : decode cX3_append 68 = .ok (.lstore 4, 2) := by decide +kernel
theorem dX3_append_70 : decode cX3_append 70 = .ok (.iinc 6 (-1), 3) := by decide +kernel
theorem dX3_append_73 : decode cX3_append 73 = .ok (.goto (-34), 3) := by decide +kernel
theorem dX3_append_76 : decode cX3_append 76 = .ok (.aload_n 0, 1) := by decide +kernel
theorem dX3_append_77 : decode cX3_append 77 = .ok (.dup, 1) := by decide +kernel
theorem dX3_append_78 : decode cX3_append 78 = .ok (.getfield 15, 3) := by decide +kernel
theorem dX3_append_81 : decode cX3_append 81 = .ok (.iload_n 3, 1) := by decide +kernel
theorem dX3_append_82 : decode cX3_append 82 = .ok (.iadd, 1) := by decide +kernel
theorem dX3_append_83 : decode cX3_append 83 = .ok (.putfield 15, 3) := by decide +kernel
theorem dX3_append_86 : decode cX3_append 86 = .ok (.aload_n 0, 1) := by decide +kernel
theorem dX3_append_87 : decode cX3_append 87 = .ok (.getfield 15, 3) := by decide +kernel
theorem dX3_append_90 : decode cX3_append 90 = .ok (.ireturn, 1) := by decide +kernel
theorem dX3_charactersIn_0 : decode cX3_charactersIn 0 = .ok (.iconst 0, 1) := by decide +kernel
theorem dX3_charactersIn_1 : decode cX3_charactersIn 1 = .ok (.istore_n 2, 1) := by decide +kernel
theorem dX3_charactersIn_2 : decode cX3_charactersIn 2 = .ok (.lload_n 0, 1) := by decide +kernel
theorem dX3_charactersIn_3 : decode cX3_charactersIn 3 = .ok (.lstore_n 3, 1) := by decide +kernel
theorem dX3_charactersIn_4 : decode cX3_charactersIn 4 = .ok (.lload_n 3, 1) := by decide +kernel
theorem dX3_charactersIn_5 : decode cX3_charactersIn 5 = .ok (.lconst 0, 1) := by decide +kernel
theorem dX3_charactersIn_6 : decode cX3_charactersIn 6 = .ok (.lcmp, 1) := by decide +kernel
theorem dX3_charactersIn_7 : decode cX3_charactersIn 7 = .ok (.ifCond .eq 47, 3) := by decide +kernel
theorem dX3_charactersIn_10 : decode cX3_charactersIn 10 = .ok (.iload_n 2, 1) := by decide +kernel
theorem dX3_charactersIn_11 : decode cX3_charactersIn 11 = .ok (.bipush 8, 2) := by decide +kernel
theorem dX3_charactersIn_13 : decode cX3_charactersIn 13 = .ok (.if_icmp .ge 41, 3) := by decide +kernel
theorem dX3_charactersIn_16 : decode cX3_charactersIn 16 = .ok (.lload_n 3, 1) := by decide +kernel
theorem dX3_charactersIn_17 : decode cX3_charactersIn 17 = .ok (.ldc2_w 23, 3) := by decide +kernel
theorem dX3_charactersIn_20 : decode cX3_charactersIn 20 = .ok (.land, 1) := by decide +kernel
theorem dX3_charactersIn_21 : decode cX3_charactersIn 21 = .ok (.lstore 5, 2) := by decide +kernel
theorem dX3_charactersIn_23 : decode cX3_charactersIn 23 = .ok (.lload 5, 2) := by decide +kernel
theorem dX3_charactersIn_25 : decode cX3_charactersIn 25 = .ok (.ldc2_w 25, 3) := by decide +kernel
theorem dX3_charactersIn_28 : decode cX3_charactersIn 28 = .ok (.lcmp, 1) := by decide +kernel
theorem dX3_charactersIn_29 : decode cX3_charactersIn 29 = .ok (.ifCond .lt 12, 3) := by decide +kernel
theorem dX3_charactersIn_32 : decode cX3_charactersIn 32 = .ok (.lload 5, 2) := by decide +kernel
theorem dX3_charactersIn_34 : decode cX3_charactersIn 34 = .ok (.ldc2_w 27, 3) := by decide +kernel
theorem dX3_charactersIn_37 : decode cX3_charactersIn 37 = .ok (.lcmp, 1) := by decide +kernel
theorem dX3_charactersIn_38 : decode cX3_charactersIn 38 = .ok (.ifCond .le 5, 3) := by decide +kernel
theorem dX3_charactersIn_41 : decode cX3_charactersIn 41 = .ok (.iconst 0, 1) := by decide +kernel
theorem dX3_charactersIn_42 : decode cX3_charactersIn 42 = .ok (.ireturn, 1) := by decide +kernel
theorem dX3_charactersIn_43 : decode cX3_charactersIn 43 = .ok (.iinc 2 1, 3) := by decide +kernel
theorem dX3_charactersIn_46 : decode cX3_charactersIn 46 = .ok (.lload_n 3, 1) := by decide +kernel
theorem dX3_charactersIn_47 : decode cX3_charactersIn 47 = .ok (.bipush 8, 2) := by decide +kernel
theorem dX3_charactersIn_49 : decode cX3_charactersIn 49 = .ok (.lushr, 1) := by decide +kernel
theorem dX3_charactersIn_50 : decode cX3_charactersIn 50 = .ok (.lstore_n 3, 1) := by decide +kernel
theorem dX3_charactersIn_51 : decode cX3_charactersIn 51 = .ok (.goto (-47), 3) := by decide +kernel
theorem dX3_charactersIn_54 : decode cX3_charactersIn 54 = .ok (.iload_n 2, 1) := by decide +kernel
theorem dX3_charactersIn_55 : decode cX3_charactersIn 55 = .ok (.ireturn, 1) := by decide +kernel
theorem dX3_empty_0 : decode cX3_empty 0 = .ok (.aload_n 0, 1) := by decide +kernel
theorem dX3_empty_1 : decode cX3_empty 1 = .ok (.getfield 15, 3) := by decide +kernel
theorem dX3_empty_4 : decode cX3_empty 4 = .ok (.istore_n 1, 1) := by decide +kernel
theorem dX3_empty_5 : decode cX3_empty 5 = .ok (.aload_n 0, 1) := by decide +kernel
theorem dX3_empty_6 : decode cX3_empty 6 = .ok (.iconst 0, 1) := by decide +kernel
theorem dX3_empty_7 : decode cX3_empty 7 = .ok (.putfield 15, 3) := by decide +kernel
theorem dX3_empty_10 : decode cX3_empty 10 = .ok (.iload_n 1, 1) := by decide +kernel
theorem dX3_empty_11 : decode cX3_empty 11 = .ok (.ireturn, 1) := by decide +kernel
theorem dX3_characterAt_0 : decode cX3_characterAt 0 = .ok (.iload_n 1, 1) := by decide +kernel
theorem dX3_characterAt_1 : decode cX3_characterAt 1 = .ok (.ifCond .lt 20, 3) := by decide +kernel
theorem dX3_characterAt_4 : decode cX3_characterAt 4 = .ok (.iload_n 1, 1) := by decide +kernel
theorem dX3_characterAt_5 : decode cX3_characterAt 5 = .ok (.aload_n 0, 1) := by decide +kernel
theorem dX3_characterAt_6 : decode cX3_characterAt 6 = .ok (.getfield 15, 3) := by decide +kernel
theorem dX3_characterAt_9 : decode cX3_characterAt 9 = .ok (.if_icmp .ge 12, 3) := by decide +kernel
theorem dX3_characterAt_12 : decode cX3_characterAt 12 = .ok (.aload_n 0, 1) := by decide +kernel
theorem dX3_characterAt_13 : decode cX3_characterAt 13 = .ok (.getfield 9, 3) := by decide +kernel
theorem dX3_characterAt_16 : decode cX3_characterAt 16 = .ok (.iload_n 1, 1) := by decide +kernel
theorem dX3_characterAt_17 : decode cX3_characterAt 17 = .ok (.caload, 1) := by decide +kernel
theorem dX3_characterAt_18 : decode cX3_characterAt 18 = .ok (.goto 4, 3) := by decide +kernel
theorem dX3_characterAt_21 : decode cX3_characterAt 21 = .ok (.iconst 0, 1) := by decide +kernel
theorem dX3_characterAt_22 : decode cX3_characterAt 22 = .ok (.ireturn, 1) := by decide +kernel
theorem dX4_init_0 : decode cX4_init 0 = .ok (.aload_n 0, 1) := by decide +kernel
theorem dX4_init_1 : decode cX4_init 1 = .ok (.invokespecial 3, 3) := by decide +kernel
theorem dX4_init_4 : decode cX4_init 4 = .ok (.return_, 1) := by decide +kernel
theorem dX4_come_0 : decode cX4_come 0 = .ok (.aload_n 0, 1) := by decide +kernel
theorem dX4_come_1 : decode cX4_come 1 = .ok (.iload_n 1, 1) := by decide +kernel
theorem dX4_come_2 : decode cX4_come 2 = .ok (.putfield 9, 3) := by decide +kernel
theorem dX4_come_5 : decode cX4_come 5 = .ok (.aload_n 0, 1) := by decide +kernel
theorem dX4_come_6 : decode cX4_come 6 = .ok (.iload_n 2, 1) := by decide +kernel
theorem dX4_come_7 : decode cX4_come 7 = .ok (.putfield 15, 3) := by decide +kernel
theorem dX4_come_10 : decode cX4_come 10 = .ok (.aload_n 0, 1) := by decide +kernel
theorem dX4_come_11 : decode cX4_come 11 = .ok (.iload_n 3, 1) := by decide +kernel
theorem dX4_come_12 : decode cX4_come 12 = .ok (.putfield 18, 3) := by decide +kernel
theorem dX4_come_15 : decode cX4_come 15 = .ok (.aload_n 0, 1) := by decide +kernel
theorem dX4_come_16 : decode cX4_come 16 = .ok (.iload 4, 2) := by decide +kernel
theorem dX4_come_18 : decode cX4_come 18 = .ok (.putfield 21, 3) := by decide +kernel
theorem dX4_come_21 : decode cX4_come 21 = .ok (.aload_n 0, 1) := by decide +kernel
theorem dX4_come_22 : decode cX4_come 22 = .ok (.iconst 0, 1) := by decide +kernel
theorem dX4_come_23 : decode cX4_come 23 = .ok (.putfield 25, 3) := by decide +kernel
theorem dX4_come_26 : decode cX4_come 26 = .ok (.aload_n 0, 1) := by decide +kernel
theorem dX4_come_27 : decode cX4_come 27 = .ok (.iconst 0, 1) := by decide +kernel
theorem dX4_come_28 : decode cX4_come 28 = .ok (.putfield 28, 3) := by decide +kernel
theorem dX4_come_31 : decode cX4_come 31 = .ok (.aload_n 0, 1) := by decide +kernel
theorem dX4_come_32 : decode cX4_come 32 = .ok (.iconst 0, 1) := by decide +kernel
theorem dX4_come_33 : decode cX4_come 33 = .ok (.putfield 31, 3) := by decide +kernel
theorem dX4_come_36 : decode cX4_come 36 = .ok (.aload_n 0, 1) := by decide +kernel
theorem dX4_come_37 : decode cX4_come 37 = .ok (.iconst 0, 1) := by decide +kernel
theorem dX4_come_38 : decode cX4_come 38 = .ok (.putfield 34, 3) := by decide +kernel
theorem dX4_come_41 : decode cX4_come 41 = .ok (.aload_n 0, 1) := by decide +kernel
theorem dX4_come_42 : decode cX4_come 42 = .ok (.bipush (-6), 2) := by decide +kernel
theorem dX4_come_44 : decode cX4_come 44 = .ok (.putfield 37, 3) := by decide +kernel
theorem dX4_come_47 : decode cX4_come 47 = .ok (.aload_n 0, 1) := by decide +kernel
theorem dX4_come_48 : decode cX4_come 48 = .ok (.iconst 0, 1) := by decide +kernel
theorem dX4_come_49 : decode cX4_come 49 = .ok (.putfield 40, 3) := by decide +kernel
theorem dX4_come_52 : decode cX4_come 52 = .ok (.return_, 1) := by decide +kernel
theorem dX4_copyFrom_0 : decode cX4_copyFrom 0 = .ok (.aload_n 0, 1) := by decide +kernel
theorem dX4_copyFrom_1 : decode cX4_copyFrom 1 = .ok (.aload_n 1, 1) := by decide +kernel
theorem dX4_copyFrom_2 : decode cX4_copyFrom 2 = .ok (.getfield 9, 3) := by decide +kernel
theorem dX4_copyFrom_5 : decode cX4_copyFrom 5 = .ok (.putfield 9, 3) := by decide +kernel
theorem dX4_copyFrom_8 : decode cX4_copyFrom 8 = .ok (.aload_n 0, 1) := by decide +kernel
theorem dX4_copyFrom_9 : decode cX4_copyFrom 9 = .ok (.aload_n 1, 1) := by decide +kernel
theorem dX4_copyFrom_10 : decode cX4_copyFrom 10 = .ok (.getfield 15, 3) := by decide +kernel
theorem dX4_copyFrom_13 : decode cX4_copyFrom 13 = .ok (.putfield 15, 3) := by decide +kernel
theorem dX4_copyFrom_16 : decode cX4_copyFrom 16 = .ok (.aload_n 0, 1) := by decide +kernel
theorem dX4_copyFrom_17 : decode cX4_copyFrom 17 = .ok (.aload_n 1, 1) := by decide +kernel
theorem dX4_copyFrom_18 : decode cX4_copyFrom 18 = .ok (.getfield 18, 3) := by decide +kernel
theorem dX4_copyFrom_21 : decode cX4_copyFrom 21 = .ok (.putfield 18, 3) := by decide +kernel
theorem dX4_copyFrom_24 : decode cX4_copyFrom 24 = .ok (.aload_n 0, 1) := by decide +kernel
theorem dX4_copyFrom_25 : decode cX4_copyFrom 25 = .ok (.aload_n 1, 1) := by decide +kernel
theorem dX4_copyFrom_26 : decode cX4_copyFrom 26 = .ok (.getfield 21, 3) := by decide +kernel
theorem dX4_copyFrom_29 : decode cX4_copyFrom 29 = .ok (.putfield 21, 3) := by decide +kernel
theorem dX4_copyFrom_32 : decode cX4_copyFrom 32 = .ok (.aload_n 0, 1) := by decide +kernel
theorem dX4_copyFrom_33 : decode cX4_copyFrom 33 = .ok (.aload_n 1, 1) := by decide +kernel
theorem dX4_copyFrom_34 : decode cX4_copyFrom 34 = .ok (.getfield 25, 3) := by decide +kernel
theorem dX4_copyFrom_37 : decode cX4_copyFrom 37 = .ok (.putfield 25, 3) := by decide +kernel
theorem dX4_copyFrom_40 : decode cX4_copyFrom 40 = .ok (.aload_n 0, 1) := by decide +kernel
theorem dX4_copyFrom_41 : decode cX4_copyFrom 41 = .ok (.aload_n 1, 1) := by decide +kernel
theorem dX4_copyFrom_42 : decode cX4_copyFrom 42 = .ok (.getfield 28, 3) := by decide +kernel
theorem dX4_copyFrom_45 : decode cX4_copyFrom 45 = .ok (.putfield 28, 3) := by decide +kernel
theorem dX4_copyFrom_48 : decode cX4_copyFrom 48 = .ok (.aload_n 0, 1) := by decide +kernel
theorem dX4_copyFrom_49 : decode cX4_copyFrom 49 = .ok (.aload_n 1, 1) := by decide +kernel
theorem dX4_copyFrom_50 : decode cX4_copyFrom 50 = .ok (.getfield 31, 3) := by decide +kernel
theorem dX4_copyFrom_53 : decode cX4_copyFrom 53 = .ok (.putfield 31, 3) := by decide +kernel
theorem dX4_copyFrom_56 : decode cX4_copyFrom 56 = .ok (.aload_n 0, 1) := by decide +kernel
theorem dX4_copyFrom_57 : decode cX4_copyFrom 57 = .ok (.aload_n 1, 1) := by decide +kernel
theorem dX4_copyFrom_58 : decode cX4_copyFrom 58 = .ok (.getfield 34, 3) := by decide +kernel
theorem dX4_copyFrom_61 : decode cX4_copyFrom 61 = .ok (.putfield 34, 3) := by decide +kernel
theorem dX4_copyFrom_64 : decode cX4_copyFrom 64 = .ok (.aload_n 0, 1) := by decide +kernel
theorem dX4_copyFrom_65 : decode cX4_copyFrom 65 = .ok (.aload_n 1, 1) := by decide +kernel
theorem dX4_copyFrom_66 : decode cX4_copyFrom 66 = .ok (.getfield 37, 3) := by decide +kernel
theorem dX4_copyFrom_69 : decode cX4_copyFrom 69 = .ok (.putfield 37, 3) := by decide +kernel
theorem dX4_copyFrom_72 : decode cX4_copyFrom 72 = .ok (.aload_n 0, 1) := by decide +kernel
theorem dX4_copyFrom_73 : decode cX4_copyFrom 73 = .ok (.aload_n 1, 1) := by decide +kernel
theorem dX4_copyFrom_74 : decode cX4_copyFrom 74 = .ok (.getfield 40, 3) := by decide +kernel
theorem dX4_copyFrom_77 : decode cX4_copyFrom 77 = .ok (.putfield 40, 3) := by decide +kernel
theorem dX4_copyFrom_80 : decode cX4_copyFrom 80 = .ok (.return_, 1) := by decide +kernel
theorem dX4_editFor_0 : decode cX4_editFor 0 = .ok (.aload_n 0, 1) := by decide +kernel
theorem dX4_editFor_1 : decode cX4_editFor 1 = .ok (.dup, 1) := by decide +kernel
theorem dX4_editFor_2 : decode cX4_editFor 2 = .ok (.getfield 31, 3) := by decide +kernel
theorem dX4_editFor_5 : decode cX4_editFor 5 = .ok (.iload_n 1, 1) := by decide +kernel
theorem dX4_editFor_6 : decode cX4_editFor 6 = .ok (.aload_n 0, 1) := by decide +kernel
theorem dX4_editFor_7 : decode cX4_editFor 7 = .ok (.getfield 15, 3) := by decide +kernel
theorem dX4_editFor_10 : decode cX4_editFor 10 = .ok (.aload_n 0, 1) := by decide +kernel
theorem dX4_editFor_11 : decode cX4_editFor 11 = .ok (.getfield 31, 3) := by decide +kernel
theorem dX4_editFor_14 : decode cX4_editFor 14 = .ok (.isub, 1) := by decide +kernel
theorem dX4_editFor_15 : decode cX4_editFor 15 = .ok (.invokestatic 43, 3) := by decide +kernel
theorem dX4_editFor_18 : decode cX4_editFor 18 = .ok (.iadd, 1) := by decide +kernel
theorem dX4_editFor_19 : decode cX4_editFor 19 = .ok (.putfield 31, 3) := by decide +kernel
theorem dX4_editFor_22 : decode cX4_editFor 22 = .ok (.aload_n 0, 1) := by decide +kernel
theorem dX4_editFor_23 : decode cX4_editFor 23 = .ok (.getfield 31, 3) := by decide +kernel
theorem dX4_editFor_26 : decode cX4_editFor 26 = .ok (.aload_n 0, 1) := by decide +kernel
theorem dX4_editFor_27 : decode cX4_editFor 27 = .ok (.getfield 15, 3) := by decide +kernel
theorem dX4_editFor_30 : decode cX4_editFor 30 = .ok (.if_icmp .ge 4, 3) := by decide +kernel
theorem dX4_editFor_33 : decode cX4_editFor 33 = .ok (.return_, 1) := by decide +kernel
theorem dX4_editFor_34 : decode cX4_editFor 34 = .ok (.aload_n 0, 1) := by decide +kernel
theorem dX4_editFor_35 : decode cX4_editFor 35 = .ok (.getfield 21, 3) := by decide +kernel
theorem dX4_editFor_38 : decode cX4_editFor 38 = .ok (.ifCond .ne 9, 3) := by decide +kernel
theorem dX4_editFor_41 : decode cX4_editFor 41 = .ok (.aload_n 0, 1) := by decide +kernel
theorem dX4_editFor_42 : decode cX4_editFor 42 = .ok (.iload_n 2, 1) := by decide +kernel
theorem dX4_editFor_43 : decode cX4_editFor 43 = .ok (.invokevirtual 49, 3) := by decide +kernel
theorem dX4_editFor_46 : decode cX4_editFor 46 = .ok (.return_, 1) := by decide +kernel
theorem dX4_editFor_47 : decode cX4_editFor 47 = .ok (.aload_n 0, 1) := by decide +kernel
theorem dX4_editFor_48 : decode cX4_editFor 48 = .ok (.iconst 1, 1) := by decide +kernel
theorem dX4_editFor_49 : decode cX4_editFor 49 = .ok (.putfield 25, 3) := by decide +kernel
theorem dX4_editFor_52 : decode cX4_editFor 52 = .ok (.aload_n 0, 1) := by decide +kernel
theorem dX4_editFor_53 : decode cX4_editFor 53 = .ok (.iload_n 2, 1) := by decide +kernel
theorem dX4_editFor_54 : decode cX4_editFor 54 = .ok (.iconst 5, 1) := by decide +kernel
theorem dX4_editFor_55 : decode cX4_editFor 55 = .ok (.imul, 1) := by decide +kernel
theorem dX4_editFor_56 : decode cX4_editFor 56 = .ok (.aload_n 0, 1) := by decide +kernel
theorem dX4_editFor_57 : decode cX4_editFor 57 = .ok (.getfield 9, 3) := by decide +kernel
theorem dX4_editFor_60 : decode cX4_editFor 60 = .ok (.iadd, 1) := by decide +kernel
theorem dX4_editFor_61 : decode cX4_editFor 61 = .ok (.putfield 40, 3) := by decide +kernel
theorem dX4_editFor_64 : decode cX4_editFor 64 = .ok (.return_, 1) := by decide +kernel
theorem dX4_readOneMinute_0 : decode cX4_readOneMinute 0 = .ok (.aload_n 0, 1) := by decide +kernel
theorem dX4_readOneMinute_1 : decode cX4_readOneMinute 1 = .ok (.dup, 1) := by decide +kernel
theorem dX4_readOneMinute_2 : decode cX4_readOneMinute 2 = .ok (.getfield 34, 3) := by decide +kernel
theorem dX4_readOneMinute_5 : decode cX4_readOneMinute 5 = .ok (.iconst 1, 1) := by decide +kernel
theorem dX4_readOneMinute_6 : decode cX4_readOneMinute 6 = .ok (.iadd, 1) := by decide +kernel
theorem dX4_readOneMinute_7 : decode cX4_readOneMinute 7 = .ok (.putfield 34, 3) := by decide +kernel
theorem dX4_readOneMinute_10 : decode cX4_readOneMinute 10 = .ok (.aload_n 0, 1) := by decide +kernel
theorem dX4_readOneMinute_11 : decode cX4_readOneMinute 11 = .ok (.getfield 34, 3) := by decide +kernel
theorem dX4_readOneMinute_14 : decode cX4_readOneMinute 14 = .ok (.iload_n 1, 1) := by decide +kernel
theorem dX4_readOneMinute_15 : decode cX4_readOneMinute 15 = .ok (.if_icmp .lt 8, 3) := by decide +kernel
theorem dX4_readOneMinute_18 : decode cX4_readOneMinute 18 = .ok (.aload_n 0, 1) := by decide +kernel
theorem dX4_readOneMinute_19 : decode cX4_readOneMinute 19 = .ok (.iload_n 2, 1) := by decide +kernel
theorem dX4_readOneMinute_20 : decode cX4_readOneMinute 20 = .ok (.invokevirtual 49, 3) := by decide +kernel
theorem dX4_readOneMinute_23 : decode cX4_readOneMinute 23 = .ok (.return_, 1) := by decide +kernel
theorem dX4_becomeReady_0 : decode cX4_becomeReady 0 = .ok (.aload_n 0, 1) := by decide +kernel
theorem dX4_becomeReady_1 : decode cX4_becomeReady 1 = .ok (.iconst 2, 1) := by decide +kernel
theorem dX4_becomeReady_2 : decode cX4_becomeReady 2 = .ok (.putfield 25, 3) := by decide +kernel
theorem dX4_becomeReady_5 : decode cX4_becomeReady 5 = .ok (.aload_n 0, 1) := by decide +kernel
theorem dX4_becomeReady_6 : decode cX4_becomeReady 6 = .ok (.iload_n 1, 1) := by decide +kernel
theorem dX4_becomeReady_7 : decode cX4_becomeReady 7 = .ok (.putfield 37, 3) := by decide +kernel
theorem dX4_becomeReady_10 : decode cX4_becomeReady 10 = .ok (.return_, 1) := by decide +kernel
theorem dX4_isForPlate_0 : decode cX4_isForPlate 0 = .ok (.aload_n 0, 1) := by decide +kernel
theorem dX4_isForPlate_1 : decode cX4_isForPlate 1 = .ok (.getfield 25, 3) := by decide +kernel
theorem dX4_isForPlate_4 : decode cX4_isForPlate 4 = .ok (.iconst 2, 1) := by decide +kernel
theorem dX4_isForPlate_5 : decode cX4_isForPlate 5 = .ok (.if_icmp .ne 14, 3) := by decide +kernel
theorem dX4_isForPlate_8 : decode cX4_isForPlate 8 = .ok (.aload_n 0, 1) := by decide +kernel
theorem dX4_isForPlate_9 : decode cX4_isForPlate 9 = .ok (.getfield 28, 3) := by decide +kernel
theorem dX4_isForPlate_12 : decode cX4_isForPlate 12 = .ok (.ifCond .ne 7, 3) := by decide +kernel
theorem dX4_isForPlate_15 : decode cX4_isForPlate 15 = .ok (.iconst 1, 1) := by decide +kernel
theorem dX4_isForPlate_16 : decode cX4_isForPlate 16 = .ok (.goto 4, 3) := by decide +kernel
theorem dX4_isForPlate_19 : decode cX4_isForPlate 19 = .ok (.iconst 0, 1) := by decide +kernel
theorem dX4_isForPlate_20 : decode cX4_isForPlate 20 = .ok (.ireturn, 1) := by decide +kernel
theorem dX5_init_0 : decode cX5_init 0 = .ok (.aload_n 0, 1) := by decide +kernel
theorem dX5_init_1 : decode cX5_init 1 = .ok (.invokespecial 1, 3) := by decide +kernel
theorem dX5_init_4 : decode cX5_init 4 = .ok (.return_, 1) := by decide +kernel
theorem dX5_tell_0 : decode cX5_tell 0 = .ok (.aload_n 0, 1) := by decide +kernel
theorem dX5_tell_1 : decode cX5_tell 1 = .ok (.iload_n 1, 1) := by decide +kernel
theorem dX5_tell_2 : decode cX5_tell 2 = .ok (.putfield 7, 3) := by decide +kernel
theorem dX5_tell_5 : decode cX5_tell 5 = .ok (.aload_n 0, 1) := by decide +kernel
theorem dX5_tell_6 : decode cX5_tell 6 = .ok (.iload_n 2, 1) := by decide +kernel
theorem dX5_tell_7 : decode cX5_tell 7 = .ok (.putfield 13, 3) := by decide +kernel
theorem dX5_tell_10 : decode cX5_tell 10 = .ok (.aload_n 0, 1) := by decide +kernel
theorem dX5_tell_11 : decode cX5_tell 11 = .ok (.iconst 0, 1) := by decide +kernel
theorem dX5_tell_12 : decode cX5_tell 12 = .ok (.putfield 17, 3) := by decide +kernel
theorem dX5_tell_15 : decode cX5_tell 15 = .ok (.return_, 1) := by decide +kernel
theorem dX5_copyFrom_0 : decode cX5_copyFrom 0 = .ok (.aload_n 0, 1) := by decide +kernel
theorem dX5_copyFrom_1 : decode cX5_copyFrom 1 = .ok (.aload_n 1, 1) := by decide +kernel
theorem dX5_copyFrom_2 : decode cX5_copyFrom 2 = .ok (.getfield 7, 3) := by decide +kernel
theorem dX5_copyFrom_5 : decode cX5_copyFrom 5 = .ok (.putfield 7, 3) := by decide +kernel
theorem dX5_copyFrom_8 : decode cX5_copyFrom 8 = .ok (.aload_n 0, 1) := by decide +kernel
theorem dX5_copyFrom_9 : decode cX5_copyFrom 9 = .ok (.aload_n 1, 1) := by decide +kernel
theorem dX5_copyFrom_10 : decode cX5_copyFrom 10 = .ok (.getfield 13, 3) := by decide +kernel
theorem dX5_copyFrom_13 : decode cX5_copyFrom 13 = .ok (.putfield 13, 3) := by decide +kernel
theorem dX5_copyFrom_16 : decode cX5_copyFrom 16 = .ok (.aload_n 0, 1) := by decide +kernel
theorem dX5_copyFrom_17 : decode cX5_copyFrom 17 = .ok (.aload_n 1, 1) := by decide +kernel
theorem dX5_copyFrom_18 : decode cX5_copyFrom 18 = .ok (.getfield 17, 3) := by decide +kernel
theorem dX5_copyFrom_21 : decode cX5_copyFrom 21 = .ok (.putfield 17, 3) := by decide +kernel
theorem dX5_copyFrom_24 : decode cX5_copyFrom 24 = .ok (.return_, 1) := by decide +kernel
theorem dX6_init_0 : decode cX6_init 0 = .ok (.aload_n 0, 1) := by decide +kernel
theorem dX6_init_1 : decode cX6_init 1 = .ok (.invokespecial 1, 3) := by decide +kernel
theorem dX6_init_4 : decode cX6_init 4 = .ok (.aload_n 0, 1) := by decide +kernel
theorem dX6_init_5 : decode cX6_init 5 = .ok (.new 7, 3) := by decide +kernel
theorem dX6_init_8 : decode cX6_init 8 = .ok (.dup, 1) := by decide +kernel
theorem dX6_init_9 : decode cX6_init 9 = .ok (.invokespecial 9, 3) := by decide +kernel
theorem dX6_init_12 : decode cX6_init 12 = .ok (.putfield 10, 3) := by decide +kernel
theorem dX6_init_15 : decode cX6_init 15 = .ok (.aload_n 0, 1) := by decide +kernel
theorem dX6_init_16 : decode cX6_init 16 = .ok (.new 7, 3) := by decide +kernel
theorem dX6_init_19 : decode cX6_init 19 = .ok (.dup, 1) := by decide +kernel
theorem dX6_init_20 : decode cX6_init 20 = .ok (.invokespecial 9, 3) := by decide +kernel
theorem dX6_init_23 : decode cX6_init 23 = .ok (.putfield 16, 3) := by decide +kernel
theorem dX6_init_26 : decode cX6_init 26 = .ok (.aload_n 0, 1) := by decide +kernel
theorem dX6_init_27 : decode cX6_init 27 = .ok (.new 19, 3) := by decide +kernel
theorem dX6_init_30 : decode cX6_init 30 = .ok (.dup, 1) := by decide +kernel
theorem dX6_init_31 : decode cX6_init 31 = .ok (.invokespecial 21, 3) := by decide +kernel
theorem dX6_init_34 : decode cX6_init 34 = .ok (.putfield 22, 3) := by decide +kernel
theorem dX6_init_37 : decode cX6_init 37 = .ok (.aload_n 0, 1) := by decide +kernel
theorem dX6_init_38 : decode cX6_init 38 = .ok (.iconst 2, 1) := by decide +kernel
theorem dX6_init_39 : decode cX6_init 39 = .ok (.anewarray 7, 3) := by decide +kernel
theorem dX6_init_42 : decode cX6_init 42 = .ok (.putfield 26, 3) := by decide +kernel
theorem dX6_init_45 : decode cX6_init 45 = .ok (.aload_n 0, 1) := by decide +kernel
theorem dX6_init_46 : decode cX6_init 46 = .ok (.new 30, 3) := by decide +kernel
theorem dX6_init_49 : decode cX6_init 49 = .ok (.dup, 1) := by decide +kernel
theorem dX6_init_50 : decode cX6_init 50 = .ok (.invokespecial 32, 3) := by decide +kernel
theorem dX6_init_53 : decode cX6_init 53 = .ok (.putfield 33, 3) := by decide +kernel
theorem dX6_init_56 : decode cX6_init 56 = .ok (.aload_n 0, 1) := by decide +kernel
theorem dX6_init_57 : decode cX6_init 57 = .ok (.new 37, 3) := by decide +kernel
theorem dX6_init_60 : decode cX6_init 60 = .ok (.dup, 1) := by decide +kernel
theorem dX6_init_61 : decode cX6_init 61 = .ok (.aload_n 0, 1) := by decide +kernel
theorem dX6_init_62 : decode cX6_init 62 = .ok (.getfield 33, 3) := by decide +kernel
theorem dX6_init_65 : decode cX6_init 65 = .ok (.invokespecial 39, 3) := by decide +kernel
theorem dX6_init_68 : decode cX6_init 68 = .ok (.putfield 42, 3) := by decide +kernel
theorem dX6_init_71 : decode cX6_init 71 = .ok (.return_, 1) := by decide +kernel
theorem dX6_set_0 : decode cX6_set 0 = .ok (.aload_n 0, 1) := by decide +kernel
theorem dX6_set_1 : decode cX6_set 1 = .ok (.getfield 22, 3) := by decide +kernel
theorem dX6_set_4 : decode cX6_set 4 = .ok (.aload_n 0, 1) := by decide +kernel
theorem dX6_set_5 : decode cX6_set 5 = .ok (.getfield 10, 3) := by decide +kernel
theorem dX6_set_8 : decode cX6_set 8 = .ok (.invokevirtual 46, 3) := by decide +kernel
theorem dX6_set_11 : decode cX6_set 11 = .ok (.aload_n 0, 1) := by decide +kernel
theorem dX6_set_12 : decode cX6_set 12 = .ok (.getfield 22, 3) := by decide +kernel
theorem dX6_set_15 : decode cX6_set 15 = .ok (.aload_n 0, 1) := by decide +kernel
theorem dX6_set_16 : decode cX6_set 16 = .ok (.getfield 10, 3) := by decide +kernel
theorem dX6_set_19 : decode cX6_set 19 = .ok (.iload_n 1, 1) := by decide +kernel
theorem dX6_set_20 : decode cX6_set 20 = .ok (.iload_n 2, 1) := by decide +kernel
theorem dX6_set_21 : decode cX6_set 21 = .ok (.invokevirtual 50, 3) := by decide +kernel
theorem dX6_set_24 : decode cX6_set 24 = .ok (.invokevirtual 54, 3) := by decide +kernel
theorem dX6_set_27 : decode cX6_set 27 = .ok (.ireturn, 1) := by decide +kernel
theorem dX6_piece_0 : decode cX6_piece 0 = .ok (.aload_n 0, 1) := by decide +kernel
theorem dX6_piece_1 : decode cX6_piece 1 = .ok (.getfield 22, 3) := by decide +kernel
theorem dX6_piece_4 : decode cX6_piece 4 = .ok (.aload_n 0, 1) := by decide +kernel
theorem dX6_piece_5 : decode cX6_piece 5 = .ok (.getfield 10, 3) := by decide +kernel
theorem dX6_piece_8 : decode cX6_piece 8 = .ok (.invokevirtual 46, 3) := by decide +kernel
theorem dX6_piece_11 : decode cX6_piece 11 = .ok (.aload_n 0, 1) := by decide +kernel
theorem dX6_piece_12 : decode cX6_piece 12 = .ok (.getfield 22, 3) := by decide +kernel
theorem dX6_piece_15 : decode cX6_piece 15 = .ok (.aload_n 0, 1) := by decide +kernel
theorem dX6_piece_16 : decode cX6_piece 16 = .ok (.getfield 10, 3) := by decide +kernel
theorem dX6_piece_19 : decode cX6_piece 19 = .ok (.iload_n 1, 1) := by decide +kernel
theorem dX6_piece_20 : decode cX6_piece 20 = .ok (.iload_n 2, 1) := by decide +kernel
theorem dX6_piece_21 : decode cX6_piece 21 = .ok (.iload_n 3, 1) := by decide +kernel
theorem dX6_piece_22 : decode cX6_piece 22 = .ok (.iload 4, 2) := by decide +kernel
theorem dX6_piece_24 : decode cX6_piece 24 = .ok (.invokevirtual 58, 3) := by decide +kernel
theorem dX6_piece_27 : decode cX6_piece 27 = .ok (.invokevirtual 54, 3) := by decide +kernel
theorem dX6_piece_30 : decode cX6_piece 30 = .ok (.ireturn, 1) := by decide +kernel
theorem dX6_plate_0 : decode cX6_plate 0 = .ok (.aload_n 0, 1) := by decide +kernel
theorem dX6_plate_1 : decode cX6_plate 1 = .ok (.getfield 22, 3) := by decide +kernel
theorem dX6_plate_4 : decode cX6_plate 4 = .ok (.aload_n 0, 1) := by decide +kernel
theorem dX6_plate_5 : decode cX6_plate 5 = .ok (.getfield 10, 3) := by decide +kernel
theorem dX6_plate_8 : decode cX6_plate 8 = .ok (.invokevirtual 46, 3) := by decide +kernel
theorem dX6_plate_11 : decode cX6_plate 11 = .ok (.aload_n 0, 1) := by decide +kernel
theorem dX6_plate_12 : decode cX6_plate 12 = .ok (.getfield 22, 3) := by decide +kernel
theorem dX6_plate_15 : decode cX6_plate 15 = .ok (.aload_n 0, 1) := by decide +kernel
theorem dX6_plate_16 : decode cX6_plate 16 = .ok (.getfield 10, 3) := by decide +kernel
theorem dX6_plate_19 : decode cX6_plate 19 = .ok (.iload_n 1, 1) := by decide +kernel
theorem dX6_plate_20 : decode cX6_plate 20 = .ok (.invokevirtual 62, 3) := by decide +kernel
theorem dX6_plate_23 : decode cX6_plate 23 = .ok (.invokevirtual 54, 3) := by decide +kernel
theorem dX6_plate_26 : decode cX6_plate 26 = .ok (.ireturn, 1) := by decide +kernel
theorem dX6_hold_0 : decode cX6_hold 0 = .ok (.aload_n 0, 1) := by decide +kernel
theorem dX6_hold_1 : decode cX6_hold 1 = .ok (.getfield 22, 3) := by decide +kernel
theorem dX6_hold_4 : decode cX6_hold 4 = .ok (.aload_n 0, 1) := by decide +kernel
theorem dX6_hold_5 : decode cX6_hold 5 = .ok (.getfield 10, 3) := by decide +kernel
theorem dX6_hold_8 : decode cX6_hold 8 = .ok (.invokevirtual 46, 3) := by decide +kernel
theorem dX6_hold_11 : decode cX6_hold 11 = .ok (.aload_n 0, 1) := by decide +kernel
theorem dX6_hold_12 : decode cX6_hold 12 = .ok (.getfield 22, 3) := by decide +kernel
theorem dX6_hold_15 : decode cX6_hold 15 = .ok (.aload_n 0, 1) := by decide +kernel
theorem dX6_hold_16 : decode cX6_hold 16 = .ok (.getfield 10, 3) := by decide +kernel
theorem dX6_hold_19 : decode cX6_hold 19 = .ok (.iload_n 1, 1) := by decide +kernel
theorem dX6_hold_20 : decode cX6_hold 20 = .ok (.invokevirtual 65, 3) := by decide +kernel
theorem dX6_hold_23 : decode cX6_hold 23 = .ok (.invokevirtual 54, 3) := by decide +kernel
theorem dX6_hold_26 : decode cX6_hold 26 = .ok (.ireturn, 1) := by decide +kernel
theorem dX6_kill_0 : decode cX6_kill 0 = .ok (.aload_n 0, 1) := by decide +kernel
theorem dX6_kill_1 : decode cX6_kill 1 = .ok (.getfield 22, 3) := by decide +kernel
theorem dX6_kill_4 : decode cX6_kill 4 = .ok (.aload_n 0, 1) := by decide +kernel
theorem dX6_kill_5 : decode cX6_kill 5 = .ok (.getfield 10, 3) := by decide +kernel
theorem dX6_kill_8 : decode cX6_kill 8 = .ok (.invokevirtual 46, 3) := by decide +kernel
theorem dX6_kill_11 : decode cX6_kill 11 = .ok (.aload_n 0, 1) := by decide +kernel
theorem dX6_kill_12 : decode cX6_kill 12 = .ok (.getfield 22, 3) := by decide +kernel
theorem dX6_kill_15 : decode cX6_kill 15 = .ok (.aload_n 0, 1) := by decide +kernel
theorem dX6_kill_16 : decode cX6_kill 16 = .ok (.getfield 10, 3) := by decide +kernel
theorem dX6_kill_19 : decode cX6_kill 19 = .ok (.iload_n 1, 1) := by decide +kernel
theorem dX6_kill_20 : decode cX6_kill 20 = .ok (.invokevirtual 68, 3) := by decide +kernel
theorem dX6_kill_23 : decode cX6_kill 23 = .ok (.invokevirtual 54, 3) := by decide +kernel
theorem dX6_kill_26 : decode cX6_kill 26 = .ok (.ireturn, 1) := by decide +kernel
theorem dX6_pass_0 : decode cX6_pass 0 = .ok (.aload_n 0, 1) := by decide +kernel
theorem dX6_pass_1 : decode cX6_pass 1 = .ok (.getfield 22, 3) := by decide +kernel
theorem dX6_pass_4 : decode cX6_pass 4 = .ok (.aload_n 0, 1) := by decide +kernel
theorem dX6_pass_5 : decode cX6_pass 5 = .ok (.getfield 10, 3) := by decide +kernel
theorem dX6_pass_8 : decode cX6_pass 8 = .ok (.invokevirtual 46, 3) := by decide +kernel
theorem dX6_pass_11 : decode cX6_pass 11 = .ok (.aload_n 0, 1) := by decide +kernel
theorem dX6_pass_12 : decode cX6_pass 12 = .ok (.getfield 22, 3) := by decide +kernel
theorem dX6_pass_15 : decode cX6_pass 15 = .ok (.aload_n 0, 1) := by decide +kernel
theorem dX6_pass_16 : decode cX6_pass 16 = .ok (.getfield 10, 3) := by decide +kernel
theorem dX6_pass_19 : decode cX6_pass 19 = .ok (.iload_n 1, 1) := by decide +kernel
theorem dX6_pass_20 : decode cX6_pass 20 = .ok (.invokevirtual 71, 3) := by decide +kernel
theorem dX6_pass_23 : decode cX6_pass 23 = .ok (.invokevirtual 54, 3) := by decide +kernel
theorem dX6_pass_26 : decode cX6_pass 26 = .ok (.ireturn, 1) := by decide +kernel
theorem dX6_ofPiece_0 : decode cX6_ofPiece 0 = .ok (.aload_n 0, 1) := by decide +kernel
theorem dX6_ofPiece_1 : decode cX6_ofPiece 1 = .ok (.getfield 10, 3) := by decide +kernel
theorem dX6_ofPiece_4 : decode cX6_ofPiece 4 = .ok (.iload_n 1, 1) := by decide +kernel
theorem dX6_ofPiece_5 : decode cX6_ofPiece 5 = .ok (.iload_n 2, 1) := by decide +kernel
theorem dX6_ofPiece_6 : decode cX6_ofPiece 6 = .ok (.invokevirtual 74, 3) := by decide +kernel
theorem dX6_ofPiece_9 : decode cX6_ofPiece 9 = .ok (.ireturn, 1) := by decide +kernel
theorem dX6_ofPlate_0 : decode cX6_ofPlate 0 = .ok (.aload_n 0, 1) := by decide +kernel
theorem dX6_ofPlate_1 : decode cX6_ofPlate 1 = .ok (.getfield 10, 3) := by decide +kernel
theorem dX6_ofPlate_4 : decode cX6_ofPlate 4 = .ok (.iload_n 1, 1) := by decide +kernel
theorem dX6_ofPlate_5 : decode cX6_ofPlate 5 = .ok (.iload_n 2, 1) := by decide +kernel
theorem dX6_ofPlate_6 : decode cX6_ofPlate 6 = .ok (.invokevirtual 77, 3) := by decide +kernel
theorem dX6_ofPlate_9 : decode cX6_ofPlate 9 = .ok (.ireturn, 1) := by decide +kernel
theorem dX6_count_0 : decode cX6_count 0 = .ok (.iload_n 1, 1) := by decide +kernel
theorem dX6_count_1 : decode cX6_count 1 = .ok (.bipush 14, 2) := by decide +kernel
theorem dX6_count_3 : decode cX6_count 3 = .ok (.if_icmp .ne 11, 3) := by decide +kernel
theorem dX6_count_6 : decode cX6_count 6 = .ok (.aload_n 0, 1) := by decide +kernel
theorem dX6_count_7 : decode cX6_count 7 = .ok (.getfield 33, 3) := by decide +kernel
theorem dX6_count_10 : decode cX6_count 10 = .ok (.getfield 80, 3) := by decide +kernel
theorem dX6_count_13 : decode cX6_count 13 = .ok (.ireturn, 1) := by decide +kernel
theorem dX6_count_14 : decode cX6_count 14 = .ok (.iload_n 1, 1) := by decide +kernel
theorem dX6_count_15 : decode cX6_count 15 = .ok (.bipush 15, 2) := by decide +kernel
theorem dX6_count_17 : decode cX6_count 17 = .ok (.if_icmp .ne 11, 3) := by decide +kernel
theorem dX6_count_20 : decode cX6_count 20 = .ok (.aload_n 0, 1) := by decide +kernel
theorem dX6_count_21 : decode cX6_count 21 = .ok (.getfield 22, 3) := by decide +kernel
theorem dX6_count_24 : decode cX6_count 24 = .ok (.getfield 84, 3) := by decide +kernel
theorem dX6_count_27 : decode cX6_count 27 = .ok (.ireturn, 1) := by decide +kernel
theorem dX6_count_28 : decode cX6_count 28 = .ok (.aload_n 0, 1) := by decide +kernel
theorem dX6_count_29 : decode cX6_count 29 = .ok (.getfield 10, 3) := by decide +kernel
theorem dX6_count_32 : decode cX6_count 32 = .ok (.iload_n 1, 1) := by decide +kernel
theorem dX6_count_33 : decode cX6_count 33 = .ok (.invokevirtual 87, 3) := by decide +kernel
theorem dX6_count_36 : decode cX6_count 36 = .ok (.ireturn, 1) := by decide +kernel
theorem dX6_why_0 : decode cX6_why 0 = .ok (.aload_n 0, 1) := by decide +kernel
theorem dX6_why_1 : decode cX6_why 1 = .ok (.getfield 10, 3) := by decide +kernel
theorem dX6_why_4 : decode cX6_why 4 = .ok (.iload_n 1, 1) := by decide +kernel
theorem dX6_why_5 : decode cX6_why 5 = .ok (.iload_n 2, 1) := by decide +kernel
theorem dX6_why_6 : decode cX6_why 6 = .ok (.invokevirtual 90, 3) := by decide +kernel
theorem dX6_why_9 : decode cX6_why 9 = .ok (.ireturn, 1) := by decide +kernel
theorem dX6_plateNow_0 : decode cX6_plateNow 0 = .ok (.aload_n 0, 1) := by decide +kernel
theorem dX6_plateNow_1 : decode cX6_plateNow 1 = .ok (.getfield 10, 3) := by decide +kernel
theorem dX6_plateNow_4 : decode cX6_plateNow 4 = .ok (.invokevirtual 93, 3) := by decide +kernel
theorem dX6_plateNow_7 : decode cX6_plateNow 7 = .ok (.ireturn, 1) := by decide +kernel
theorem dX6_readyIn_0 : decode cX6_readyIn 0 = .ok (.aload_n 0, 1) := by decide +kernel
theorem dX6_readyIn_1 : decode cX6_readyIn 1 = .ok (.getfield 10, 3) := by decide +kernel
theorem dX6_readyIn_4 : decode cX6_readyIn 4 = .ok (.iload_n 1, 1) := by decide +kernel
theorem dX6_readyIn_5 : decode cX6_readyIn 5 = .ok (.invokevirtual 97, 3) := by decide +kernel
theorem dX6_readyIn_8 : decode cX6_readyIn 8 = .ok (.ifCond .ne 5, 3) := by decide +kernel
theorem dX6_readyIn_11 : decode cX6_readyIn 11 = .ok (.iconst (-1), 1) := by decide +kernel
theorem dX6_readyIn_12 : decode cX6_readyIn 12 = .ok (.ireturn, 1) := by decide +kernel
theorem dX6_readyIn_13 : decode cX6_readyIn 13 = .ok (.aload_n 0, 1) := by decide +kernel
theorem dX6_readyIn_14 : decode cX6_readyIn 14 = .ok (.getfield 10, 3) := by decide +kernel
theorem dX6_readyIn_17 : decode cX6_readyIn 17 = .ok (.iload_n 1, 1) := by decide +kernel
theorem dX6_readyIn_18 : decode cX6_readyIn 18 = .ok (.iconst 3, 1) := by decide +kernel
theorem dX6_readyIn_19 : decode cX6_readyIn 19 = .ok (.invokevirtual 101, 3) := by decide +kernel
theorem dX6_readyIn_22 : decode cX6_readyIn 22 = .ok (.ifCond .eq 6, 3) := by decide +kernel
theorem dX6_readyIn_25 : decode cX6_readyIn 25 = .ok (.bipush (-5), 2) := by decide +kernel
theorem dX6_readyIn_27 : decode cX6_readyIn 27 = .ok (.ireturn, 1) := by decide +kernel
theorem dX6_readyIn_28 : decode cX6_readyIn 28 = .ok (.aload_n 0, 1) := by decide +kernel
theorem dX6_readyIn_29 : decode cX6_readyIn 29 = .ok (.getfield 16, 3) := by decide +kernel
theorem dX6_readyIn_32 : decode cX6_readyIn 32 = .ok (.aload_n 0, 1) := by decide +kernel
theorem dX6_readyIn_33 : decode cX6_readyIn 33 = .ok (.getfield 10, 3) := by decide +kernel
theorem dX6_readyIn_36 : decode cX6_readyIn 36 = .ok (.invokevirtual 105, 3) := by decide +kernel
theorem dX6_readyIn_39 : decode cX6_readyIn 39 = .ok (.iconst 0, 1) := by decide +kernel
theorem dX6_readyIn_40 : decode cX6_readyIn 40 = .ok (.istore_n 2, 1) := by decide +kernel
theorem dX6_readyIn_41 : decode cX6_readyIn 41 = .ok (.iload_n 2, 1) := by decide +kernel
theorem dX6_readyIn_42 : decode cX6_readyIn 42 = .ok (.sipush 2000, 3) := by decide +kernel
theorem dX6_readyIn_45 : decode cX6_readyIn 45 = .ok (.if_icmp .gt 31, 3) := by decide +kernel
theorem dX6_readyIn_48 : decode cX6_readyIn 48 = .ok (.aload_n 0, 1) := by decide +kernel
theorem dX6_readyIn_49 : decode cX6_readyIn 49 = .ok (.getfield 16, 3) := by decide +kernel
theorem dX6_readyIn_52 : decode cX6_readyIn 52 = .ok (.iload_n 1, 1) := by decide +kernel
theorem dX6_readyIn_53 : decode cX6_readyIn 53 = .ok (.iconst 2, 1) := by decide +kernel
theorem dX6_readyIn_54 : decode cX6_readyIn 54 = .ok (.invokevirtual 101, 3) := by decide +kernel
theorem dX6_readyIn_57 : decode cX6_readyIn 57 = .ok (.ifCond .eq 5, 3) := by decide +kernel
theorem dX6_readyIn_60 : decode cX6_readyIn 60 = .ok (.iload_n 2, 1) := by decide +kernel
theorem dX6_readyIn_61 : decode cX6_readyIn 61 = .ok (.ireturn, 1) := by decide +kernel
theorem dX6_readyIn_62 : decode cX6_readyIn 62 = .ok (.aload_n 0, 1) := by decide +kernel
theorem dX6_readyIn_63 : decode cX6_readyIn 63 = .ok (.getfield 16, 3) := by decide +kernel
theorem dX6_readyIn_66 : decode cX6_readyIn 66 = .ok (.invokevirtual 108, 3) := by decide +kernel
theorem dX6_readyIn_69 : decode cX6_readyIn 69 = .ok (.pop, 1) := by decide +kernel
theorem dX6_readyIn_70 : decode cX6_readyIn 70 = .ok (.iinc 2 1, 3) := by decide +kernel
theorem dX6_readyIn_73 : decode cX6_readyIn 73 = .ok (.goto (-32), 3) := by decide +kernel
theorem dX6_readyIn_76 : decode cX6_readyIn 76 = .ok (.bipush (-6), 2) := by decide +kernel
theorem dX6_readyIn_78 : decode cX6_readyIn 78 = .ok (.ireturn, 1) := by decide +kernel
theorem dX6_leastRoom_0 : decode cX6_leastRoom 0 = .ok (.aload_n 0, 1) := by decide +kernel
theorem dX6_leastRoom_1 : decode cX6_leastRoom 1 = .ok (.getfield 10, 3) := by decide +kernel
theorem dX6_leastRoom_4 : decode cX6_leastRoom 4 = .ok (.invokevirtual 112, 3) := by decide +kernel
theorem dX6_leastRoom_7 : decode cX6_leastRoom 7 = .ok (.istore_n 1, 1) := by decide +kernel
theorem dX6_leastRoom_8 : decode cX6_leastRoom 8 = .ok (.iload_n 1, 1) := by decide +kernel
theorem dX6_leastRoom_9 : decode cX6_leastRoom 9 = .ok (.ifCond .ge 6, 3) := by decide +kernel
theorem dX6_leastRoom_12 : decode cX6_leastRoom 12 = .ok (.bipush (-5), 2) := by decide +kernel
theorem dX6_leastRoom_14 : decode cX6_leastRoom 14 = .ok (.ireturn, 1) := by decide +kernel
theorem dX6_leastRoom_15 : decode cX6_leastRoom 15 = .ok (.aload_n 0, 1) := by decide +kernel
theorem dX6_leastRoom_16 : decode cX6_leastRoom 16 = .ok (.iload_n 1, 1) := by decide +kernel
theorem dX6_leastRoom_17 : decode cX6_leastRoom 17 = .ok (.invokevirtual 115, 3) := by decide +kernel
theorem dX6_leastRoom_20 : decode cX6_leastRoom 20 = .ok (.aload_n 0, 1) := by decide +kernel
theorem dX6_leastRoom_21 : decode cX6_leastRoom 21 = .ok (.getfield 16, 3) := by decide +kernel
theorem dX6_leastRoom_24 : decode cX6_leastRoom 24 = .ok (.aload_n 0, 1) := by decide +kernel
theorem dX6_leastRoom_25 : decode cX6_leastRoom 25 = .ok (.getfield 16, 3) := by decide +kernel
theorem dX6_leastRoom_28 : decode cX6_leastRoom 28 = .ok (.invokevirtual 119, 3) := by decide +kernel
theorem dX6_leastRoom_31 : decode cX6_leastRoom 31 = .ok (.invokevirtual 122, 3) := by decide +kernel
theorem dX6_leastRoom_34 : decode cX6_leastRoom 34 = .ok (.istore_n 2, 1) := by decide +kernel
theorem dX6_leastRoom_35 : decode cX6_leastRoom 35 = .ok (.iload_n 2, 1) := by decide +kernel
theorem dX6_leastRoom_36 : decode cX6_leastRoom 36 = .ok (.getstatic 125, 3) := by decide +kernel
theorem dX6_leastRoom_39 : decode cX6_leastRoom 39 = .ok (.iconst 2, 1) := by decide +kernel
theorem dX6_leastRoom_40 : decode cX6_leastRoom 40 = .ok (.iaload, 1) := by decide +kernel
theorem dX6_leastRoom_41 : decode cX6_leastRoom 41 = .ok (.if_icmp .le 6, 3) := by decide +kernel
theorem dX6_leastRoom_44 : decode cX6_leastRoom 44 = .ok (.bipush (-6), 2) := by decide +kernel
theorem dX6_leastRoom_46 : decode cX6_leastRoom 46 = .ok (.ireturn, 1) := by decide +kernel
theorem dX6_leastRoom_47 : decode cX6_leastRoom 47 = .ok (.iload_n 2, 1) := by decide +kernel
theorem dX6_leastRoom_48 : decode cX6_leastRoom 48 = .ok (.getstatic 129, 3) := by decide +kernel
theorem dX6_leastRoom_51 : decode cX6_leastRoom 51 = .ok (.iconst 2, 1) := by decide +kernel
theorem dX6_leastRoom_52 : decode cX6_leastRoom 52 = .ok (.iaload, 1) := by decide +kernel
theorem dX6_leastRoom_53 : decode cX6_leastRoom 53 = .ok (.invokestatic 132, 3) := by decide +kernel
theorem dX6_leastRoom_56 : decode cX6_leastRoom 56 = .ok (.ireturn, 1) := by decide +kernel
theorem dX6_nextPlate_0 : decode cX6_nextPlate 0 = .ok (.aload_n 0, 1) := by decide +kernel
theorem dX6_nextPlate_1 : decode cX6_nextPlate 1 = .ok (.getfield 10, 3) := by decide +kernel
theorem dX6_nextPlate_4 : decode cX6_nextPlate 4 = .ok (.invokevirtual 112, 3) := by decide +kernel
theorem dX6_nextPlate_7 : decode cX6_nextPlate 7 = .ok (.istore_n 1, 1) := by decide +kernel
theorem dX6_nextPlate_8 : decode cX6_nextPlate 8 = .ok (.iload_n 1, 1) := by decide +kernel
theorem dX6_nextPlate_9 : decode cX6_nextPlate 9 = .ok (.ifCond .ge 6, 3) := by decide +kernel
theorem dX6_nextPlate_12 : decode cX6_nextPlate 12 = .ok (.bipush (-5), 2) := by decide +kernel
theorem dX6_nextPlate_14 : decode cX6_nextPlate 14 = .ok (.ireturn, 1) := by decide +kernel
theorem dX6_nextPlate_15 : decode cX6_nextPlate 15 = .ok (.aload_n 0, 1) := by decide +kernel
theorem dX6_nextPlate_16 : decode cX6_nextPlate 16 = .ok (.iload_n 1, 1) := by decide +kernel
theorem dX6_nextPlate_17 : decode cX6_nextPlate 17 = .ok (.invokevirtual 115, 3) := by decide +kernel
theorem dX6_nextPlate_20 : decode cX6_nextPlate 20 = .ok (.aload_n 0, 1) := by decide +kernel
theorem dX6_nextPlate_21 : decode cX6_nextPlate 21 = .ok (.getfield 16, 3) := by decide +kernel
theorem dX6_nextPlate_24 : decode cX6_nextPlate 24 = .ok (.iload_n 1, 1) := by decide +kernel
theorem dX6_nextPlate_25 : decode cX6_nextPlate 25 = .ok (.iconst 3, 1) := by decide +kernel
theorem dX6_nextPlate_26 : decode cX6_nextPlate 26 = .ok (.invokevirtual 77, 3) := by decide +kernel
theorem dX6_nextPlate_29 : decode cX6_nextPlate 29 = .ok (.ireturn, 1) := by decide +kernel
theorem dX6_goAheadToPlate_0 : decode cX6_goAheadToPlate 0 = .ok (.aload_n 0, 1) := by decide +kernel
theorem dX6_goAheadToPlate_1 : decode cX6_goAheadToPlate 1 = .ok (.getfield 16, 3) := by decide +kernel
theorem dX6_goAheadToPlate_4 : decode cX6_goAheadToPlate 4 = .ok (.aload_n 0, 1) := by decide +kernel
theorem dX6_goAheadToPlate_5 : decode cX6_goAheadToPlate 5 = .ok (.getfield 10, 3) := by decide +kernel
theorem dX6_goAheadToPlate_8 : decode cX6_goAheadToPlate 8 = .ok (.invokevirtual 105, 3) := by decide +kernel
theorem dX6_goAheadToPlate_11 : decode cX6_goAheadToPlate 11 = .ok (.aload_n 0, 1) := by decide +kernel
theorem dX6_goAheadToPlate_12 : decode cX6_goAheadToPlate 12 = .ok (.getfield 16, 3) := by decide +kernel
theorem dX6_goAheadToPlate_15 : decode cX6_goAheadToPlate 15 = .ok (.aload_n 0, 1) := by decide +kernel
theorem dX6_goAheadToPlate_16 : decode cX6_goAheadToPlate 16 = .ok (.getfield 10, 3) := by decide +kernel
theorem dX6_goAheadToPlate_19 : decode cX6_goAheadToPlate 19 = .ok (.iload_n 1, 1) := by decide +kernel
theorem dX6_goAheadToPlate_20 : decode cX6_goAheadToPlate 20 = .ok (.invokevirtual 137, 3) := by decide +kernel
theorem dX6_goAheadToPlate_23 : decode cX6_goAheadToPlate 23 = .ok (.invokevirtual 71, 3) := by decide +kernel
theorem dX6_goAheadToPlate_26 : decode cX6_goAheadToPlate 26 = .ok (.pop, 1) := by decide +kernel
theorem dX6_goAheadToPlate_27 : decode cX6_goAheadToPlate 27 = .ok (.return_, 1) := by decide +kernel
theorem dX6_put_0 : decode cX6_put 0 = .ok (.aload_n 0, 1) := by decide +kernel
theorem dX6_put_1 : decode cX6_put 1 = .ok (.getfield 33, 3) := by decide +kernel
theorem dX6_put_4 : decode cX6_put 4 = .ok (.lload_n 1, 1) := by decide +kernel
theorem dX6_put_5 : decode cX6_put 5 = .ok (.invokevirtual 140, 3) := by decide +kernel
theorem dX6_put_8 : decode cX6_put 8 = .ok (.ireturn, 1) := by decide +kernel
theorem dX6_wipe_0 : decode cX6_wipe 0 = .ok (.aload_n 0, 1) := by decide +kernel
theorem dX6_wipe_1 : decode cX6_wipe 1 = .ok (.getfield 33, 3) := by decide +kernel
theorem dX6_wipe_4 : decode cX6_wipe 4 = .ok (.invokevirtual 144, 3) := by decide +kernel
theorem dX6_wipe_7 : decode cX6_wipe 7 = .ok (.ireturn, 1) := by decide +kernel
theorem dX6_fault_0 : decode cX6_fault 0 = .ok (.aload_n 0, 1) := by decide +kernel
theorem dX6_fault_1 : decode cX6_fault 1 = .ok (.getfield 42, 3) := by decide +kernel
theorem dX6_fault_4 : decode cX6_fault 4 = .ok (.invokevirtual 147, 3) := by decide +kernel
theorem dX6_fault_7 : decode cX6_fault 7 = .ok (.ireturn, 1) := by decide +kernel
theorem dX6_carryOut_0 : decode cX6_carryOut 0 = .ok (.aload_n 0, 1) := by decide +kernel
theorem dX6_carryOut_1 : decode cX6_carryOut 1 = .ok (.getfield 42, 3) := by decide +kernel
theorem dX6_carryOut_4 : decode cX6_carryOut 4 = .ok (.invokevirtual 147, 3) := by decide +kernel
theorem dX6_carryOut_7 : decode cX6_carryOut 7 = .ok (.bipush (-6), 2) := by decide +kernel
theorem dX6_carryOut_9 : decode cX6_carryOut 9 = .ok (.if_icmp .eq 6, 3) := by decide +kernel
theorem dX6_carryOut_12 : decode cX6_carryOut 12 = .ok (.bipush (-3), 2) := by decide +kernel
theorem dX6_carryOut_14 : decode cX6_carryOut 14 = .ok (.ireturn, 1) := by decide +kernel
theorem dX6_carryOut_15 : decode cX6_carryOut 15 = .ok (.aload_n 0, 1) := by decide +kernel
theorem dX6_carryOut_16 : decode cX6_carryOut 16 = .ok (.getfield 22, 3) := by decide +kernel
theorem dX6_carryOut_19 : decode cX6_carryOut 19 = .ok (.aload_n 0, 1) := by decide +kernel
theorem dX6_carryOut_20 : decode cX6_carryOut 20 = .ok (.getfield 10, 3) := by decide +kernel
theorem dX6_carryOut_23 : decode cX6_carryOut 23 = .ok (.invokevirtual 46, 3) := by decide +kernel
theorem dX6_carryOut_26 : decode cX6_carryOut 26 = .ok (.aload_n 0, 1) := by decide +kernel
theorem dX6_carryOut_27 : decode cX6_carryOut 27 = .ok (.getfield 42, 3) := by decide +kernel
theorem dX6_carryOut_30 : decode cX6_carryOut 30 = .ok (.invokevirtual 150, 3) := by decide +kernel
theorem dX6_carryOut_33 : decode cX6_carryOut 33 = .ok (.iconst 0, 1) := by decide +kernel
theorem dX6_carryOut_34 : decode cX6_carryOut 34 = .ok (.istore_n 1, 1) := by decide +kernel
theorem dX6_carryOut_35 : decode cX6_carryOut 35 = .ok (.iconst 0, 1) := by decide +kernel
theorem dX6_carryOut_36 : decode cX6_carryOut 36 = .ok (.istore_n 2, 1) := by decide +kernel
theorem dX6_carryOut_37 : decode cX6_carryOut 37 = .ok (.iload_n 2, 1) := by decide +kernel
theorem dX6_carryOut_38 : decode cX6_carryOut 38 = .ok (.bipush 80, 2) := by decide +kernel
theorem dX6_carryOut_40 : decode cX6_carryOut 40 = .ok (.if_icmp .ge 47, 3) := by decide +kernel
theorem dX6_carryOut_43 : decode cX6_carryOut 43 = .ok (.aload_n 0, 1) := by decide +kernel
theorem dX6_carryOut_44 : decode cX6_carryOut 44 = .ok (.getfield 42, 3) := by decide +kernel
theorem dX6_carryOut_47 : decode cX6_carryOut 47 = .ok (.invokevirtual 153, 3) := by decide +kernel
theorem dX6_carryOut_50 : decode cX6_carryOut 50 = .ok (.ifCond .eq 37, 3) := by decide +kernel
theorem dX6_carryOut_53 : decode cX6_carryOut 53 = .ok (.aload_n 0, 1) := by decide +kernel
theorem dX6_carryOut_54 : decode cX6_carryOut 54 = .ok (.invokevirtual 156, 3) := by decide +kernel
theorem dX6_carryOut_57 : decode cX6_carryOut 57 = .ok (.ifCond .ge 6, 3) := by decide +kernel
theorem dX6_carryOut_60 : decode cX6_carryOut 60 = .ok (.goto 27, 3) := by decide +kernel
theorem dX6_carryOut_63 : decode cX6_carryOut 63 = .ok (.iinc 1 1, 3) := by decide +kernel
theorem dX6_carryOut_66 : decode cX6_carryOut 66 = .ok (.aload_n 0, 1) := by decide +kernel
theorem dX6_carryOut_67 : decode cX6_carryOut 67 = .ok (.getfield 42, 3) := by decide +kernel
theorem dX6_carryOut_70 : decode cX6_carryOut 70 = .ok (.bipush 59, 2) := by decide +kernel
theorem dX6_carryOut_72 : decode cX6_carryOut 72 = .ok (.invokevirtual 159, 3) := by decide +kernel
theorem dX6_carryOut_75 : decode cX6_carryOut 75 = .ok (.ifCond .ne 6, 3) := by decide +kernel
theorem dX6_carryOut_78 : decode cX6_carryOut 78 = .ok (.goto 9, 3) := by decide +kernel
theorem dX6_carryOut_81 : decode cX6_carryOut 81 = .ok (.iinc 2 1, 3) := by decide +kernel
theorem dX6_carryOut_84 : decode cX6_carryOut 84 = .ok (.goto (-47), 3) := by decide +kernel
theorem dX6_carryOut_87 : decode cX6_carryOut 87 = .ok (.aload_n 0, 1) := by decide +kernel
theorem dX6_carryOut_88 : decode cX6_carryOut 88 = .ok (.getfield 33, 3) := by decide +kernel
theorem dX6_carryOut_91 : decode cX6_carryOut 91 = .ok (.invokevirtual 144, 3) := by decide +kernel
theorem dX6_carryOut_94 : decode cX6_carryOut 94 = .ok (.pop, 1) := by decide +kernel
theorem dX6_carryOut_95 : decode cX6_carryOut 95 = .ok (.aload_n 0, 1) := by decide +kernel
theorem dX6_carryOut_96 : decode cX6_carryOut 96 = .ok (.getfield 22, 3) := by decide +kernel
theorem dX6_carryOut_99 : decode cX6_carryOut 99 = .ok (.iload_n 1, 1) := by decide +kernel
theorem dX6_carryOut_100 : decode cX6_carryOut 100 = .ok (.invokevirtual 54, 3) := by decide +kernel
theorem dX6_carryOut_103 : decode cX6_carryOut 103 = .ok (.ireturn, 1) := by decide +kernel
theorem dX6_carryOrderOut_0 : decode cX6_carryOrderOut 0 = .ok (.aload_n 0, 1) := by decide +kernel
theorem dX6_carryOrderOut_1 : decode cX6_carryOrderOut 1 = .ok (.getfield 42, 3) := by decide +kernel
theorem dX6_carryOrderOut_4 : decode cX6_carryOrderOut 4 = .ok (.getfield 163, 3) := by decide +kernel
theorem dX6_carryOrderOut_7 : decode cX6_carryOrderOut 7 = .ok (.bipush 43, 2) := by decide +kernel
theorem dX6_carryOrderOut_9 : decode cX6_carryOrderOut 9 = .ok (.if_icmp .ne 39, 3) := by decide +kernel
theorem dX6_carryOrderOut_12 : decode cX6_carryOrderOut 12 = .ok (.aload_n 0, 1) := by decide +kernel
theorem dX6_carryOrderOut_13 : decode cX6_carryOrderOut 13 = .ok (.getfield 10, 3) := by decide +kernel
theorem dX6_carryOrderOut_16 : decode cX6_carryOrderOut 16 = .ok (.aload_n 0, 1) := by decide +kernel
theorem dX6_carryOrderOut_17 : decode cX6_carryOrderOut 17 = .ok (.getfield 42, 3) := by decide +kernel
theorem dX6_carryOrderOut_20 : decode cX6_carryOrderOut 20 = .ok (.getfield 167, 3) := by decide +kernel
theorem dX6_carryOrderOut_23 : decode cX6_carryOrderOut 23 = .ok (.aload_n 0, 1) := by decide +kernel
theorem dX6_carryOrderOut_24 : decode cX6_carryOrderOut 24 = .ok (.getfield 42, 3) := by decide +kernel
theorem dX6_carryOrderOut_27 : decode cX6_carryOrderOut 27 = .ok (.getfield 170, 3) := by decide +kernel
theorem dX6_carryOrderOut_30 : decode cX6_carryOrderOut 30 = .ok (.aload_n 0, 1) := by decide +kernel
theorem dX6_carryOrderOut_31 : decode cX6_carryOrderOut 31 = .ok (.getfield 42, 3) := by decide +kernel
theorem dX6_carryOrderOut_34 : decode cX6_carryOrderOut 34 = .ok (.getfield 173, 3) := by decide +kernel
theorem dX6_carryOrderOut_37 : decode cX6_carryOrderOut 37 = .ok (.aload_n 0, 1) := by decide +kernel
theorem dX6_carryOrderOut_38 : decode cX6_carryOrderOut 38 = .ok (.getfield 42, 3) := by decide +kernel
theorem dX6_carryOrderOut_41 : decode cX6_carryOrderOut 41 = .ok (.getfield 176, 3) := by decide +kernel
theorem dX6_carryOrderOut_44 : decode cX6_carryOrderOut 44 = .ok (.invokevirtual 58, 3) := by decide +kernel
theorem dX6_carryOrderOut_47 : decode cX6_carryOrderOut 47 = .ok (.ireturn, 1) := by decide +kernel
theorem dX6_carryOrderOut_48 : decode cX6_carryOrderOut 48 = .ok (.aload_n 0, 1) := by decide +kernel
theorem dX6_carryOrderOut_49 : decode cX6_carryOrderOut 49 = .ok (.getfield 42, 3) := by decide +kernel
theorem dX6_carryOrderOut_52 : decode cX6_carryOrderOut 52 = .ok (.getfield 163, 3) := by decide +kernel
theorem dX6_carryOrderOut_55 : decode cX6_carryOrderOut 55 = .ok (.bipush 112, 2) := by decide +kernel
theorem dX6_carryOrderOut_57 : decode cX6_carryOrderOut 57 = .ok (.if_icmp .ne 18, 3) := by decide +kernel
theorem dX6_carryOrderOut_60 : decode cX6_carryOrderOut 60 = .ok (.aload_n 0, 1) := by decide +kernel
theorem dX6_carryOrderOut_61 : decode cX6_carryOrderOut 61 = .ok (.getfield 10, 3) := by decide +kernel
theorem dX6_carryOrderOut_64 : decode cX6_carryOrderOut 64 = .ok (.aload_n 0, 1) := by decide +kernel
theorem dX6_carryOrderOut_65 : decode cX6_carryOrderOut 65 = .ok (.getfield 42, 3) := by decide +kernel
theorem dX6_carryOrderOut_68 : decode cX6_carryOrderOut 68 = .ok (.getfield 170, 3) := by decide +kernel
theorem dX6_carryOrderOut_71 : decode cX6_carryOrderOut 71 = .ok (.invokevirtual 62, 3) := by decide +kernel
theorem dX6_carryOrderOut_74 : decode cX6_carryOrderOut 74 = .ok (.ireturn, 1) := by decide +kernel
theorem dX6_carryOrderOut_75 : decode cX6_carryOrderOut 75 = .ok (.aload_n 0, 1) := by decide +kernel
theorem dX6_carryOrderOut_76 : decode cX6_carryOrderOut 76 = .ok (.getfield 42, 3) := by decide +kernel
theorem dX6_carryOrderOut_79 : decode cX6_carryOrderOut 79 = .ok (.getfield 163, 3) := by decide +kernel
theorem dX6_carryOrderOut_82 : decode cX6_carryOrderOut 82 = .ok (.bipush 104, 2) := by decide +kernel
theorem dX6_carryOrderOut_84 : decode cX6_carryOrderOut 84 = .ok (.if_icmp .ne 18, 3) := by decide +kernel
theorem dX6_carryOrderOut_87 : decode cX6_carryOrderOut 87 = .ok (.aload_n 0, 1) := by decide +kernel
theorem dX6_carryOrderOut_88 : decode cX6_carryOrderOut 88 = .ok (.getfield 10, 3) := by decide +kernel
theorem dX6_carryOrderOut_91 : decode cX6_carryOrderOut 91 = .ok (.aload_n 0, 1) := by decide +kernel
theorem dX6_carryOrderOut_92 : decode cX6_carryOrderOut 92 = .ok (.getfield 42, 3) := by decide +kernel
theorem dX6_carryOrderOut_95 : decode cX6_carryOrderOut 95 = .ok (.getfield 170, 3) := by decide +kernel
theorem dX6_carryOrderOut_98 : decode cX6_carryOrderOut 98 = .ok (.invokevirtual 65, 3) := by decide +kernel
theorem dX6_carryOrderOut_101 : decode cX6_carryOrderOut 101 = .ok (.ireturn, 1) := by decide +kernel
theorem dX6_carryOrderOut_102 : decode cX6_carryOrderOut 102 = .ok (.aload_n 0, 1) := by decide +kernel
theorem dX6_carryOrderOut_103 : decode cX6_carryOrderOut 103 = .ok (.getfield 42, 3) := by decide +kernel
theorem dX6_carryOrderOut_106 : decode cX6_carryOrderOut 106 = .ok (.getfield 163, 3) := by decide +kernel
theorem dX6_carryOrderOut_109 : decode cX6_carryOrderOut 109 = .ok (.bipush 107, 2) := by decide +kernel
theorem dX6_carryOrderOut_111 : decode cX6_carryOrderOut 111 = .ok (.if_icmp .ne 18, 3) := by decide +kernel
theorem dX6_carryOrderOut_114 : decode cX6_carryOrderOut 114 = .ok (.aload_n 0, 1) := by decide +kernel
theorem dX6_carryOrderOut_115 : decode cX6_carryOrderOut 115 = .ok (.getfield 10, 3) := by decide +kernel
theorem dX6_carryOrderOut_118 : decode cX6_carryOrderOut 118 = .ok (.aload_n 0, 1) := by decide +kernel
theorem dX6_carryOrderOut_119 : decode cX6_carryOrderOut 119 = .ok (.getfield 42, 3) := by decide +kernel
theorem dX6_carryOrderOut_122 : decode cX6_carryOrderOut 122 = .ok (.getfield 170, 3) := by decide +kernel
theorem dX6_carryOrderOut_125 : decode cX6_carryOrderOut 125 = .ok (.invokevirtual 68, 3) := by decide +kernel
theorem dX6_carryOrderOut_128 : decode cX6_carryOrderOut 128 = .ok (.ireturn, 1) := by decide +kernel
theorem dX6_carryOrderOut_129 : decode cX6_carryOrderOut 129 = .ok (.aload_n 0, 1) := by decide +kernel
theorem dX6_carryOrderOut_130 : decode cX6_carryOrderOut 130 = .ok (.getfield 10, 3) := by decide +kernel
theorem dX6_carryOrderOut_133 : decode cX6_carryOrderOut 133 = .ok (.aload_n 0, 1) := by decide +kernel
theorem dX6_carryOrderOut_134 : decode cX6_carryOrderOut 134 = .ok (.getfield 42, 3) := by decide +kernel
theorem dX6_carryOrderOut_137 : decode cX6_carryOrderOut 137 = .ok (.getfield 170, 3) := by decide +kernel
theorem dX6_carryOrderOut_140 : decode cX6_carryOrderOut 140 = .ok (.invokevirtual 71, 3) := by decide +kernel
theorem dX6_carryOrderOut_143 : decode cX6_carryOrderOut 143 = .ok (.ireturn, 1) := by decide +kernel
theorem dX6_undo_0 : decode cX6_undo 0 = .ok (.aload_n 0, 1) := by decide +kernel
theorem dX6_undo_1 : decode cX6_undo 1 = .ok (.getfield 22, 3) := by decide +kernel
theorem dX6_undo_4 : decode cX6_undo 4 = .ok (.getfield 84, 3) := by decide +kernel
theorem dX6_undo_7 : decode cX6_undo 7 = .ok (.ifCond .ne 6, 3) := by decide +kernel
theorem dX6_undo_10 : decode cX6_undo 10 = .ok (.bipush (-5), 2) := by decide +kernel
theorem dX6_undo_12 : decode cX6_undo 12 = .ok (.ireturn, 1) := by decide +kernel
theorem dX6_undo_13 : decode cX6_undo 13 = .ok (.aload_n 0, 1) := by decide +kernel
theorem dX6_undo_14 : decode cX6_undo 14 = .ok (.getfield 22, 3) := by decide +kernel
theorem dX6_undo_17 : decode cX6_undo 17 = .ok (.aload_n 0, 1) := by decide +kernel
theorem dX6_undo_18 : decode cX6_undo 18 = .ok (.getfield 10, 3) := by decide +kernel
theorem dX6_undo_21 : decode cX6_undo 21 = .ok (.invokevirtual 179, 3) := by decide +kernel
theorem dX6_undo_24 : decode cX6_undo 24 = .ok (.aload_n 0, 1) := by decide +kernel
theorem dX6_undo_25 : decode cX6_undo 25 = .ok (.getfield 22, 3) := by decide +kernel
theorem dX6_undo_28 : decode cX6_undo 28 = .ok (.getfield 84, 3) := by decide +kernel
theorem dX6_undo_31 : decode cX6_undo 31 = .ok (.ireturn, 1) := by decide +kernel
theorem dX6_save_0 : decode cX6_save 0 = .ok (.iload_n 1, 1) := by decide +kernel
theorem dX6_save_1 : decode cX6_save 1 = .ok (.ifCond .lt 8, 3) := by decide +kernel
theorem dX6_save_4 : decode cX6_save 4 = .ok (.iload_n 1, 1) := by decide +kernel
theorem dX6_save_5 : decode cX6_save 5 = .ok (.iconst 2, 1) := by decide +kernel
theorem dX6_save_6 : decode cX6_save 6 = .ok (.if_icmp .lt 6, 3) := by decide +kernel
theorem dX6_save_9 : decode cX6_save 9 = .ok (.bipush (-2), 2) := by decide +kernel
theorem dX6_save_11 : decode cX6_save 11 = .ok (.ireturn, 1) := by decide +kernel
theorem dX6_save_12 : decode cX6_save 12 = .ok (.aload_n 0, 1) := by decide +kernel
theorem dX6_save_13 : decode cX6_save 13 = .ok (.getfield 26, 3) := by decide +kernel
theorem dX6_save_16 : decode cX6_save 16 = .ok (.iload_n 1, 1) := by decide +kernel
theorem dX6_save_17 : decode cX6_save 17 = .ok (.aaload, 1) := by decide +kernel
theorem dX6_save_18 : decode cX6_save 18 = .ok (.astore_n 2, 1) := by decide +kernel
theorem dX6_save_19 : decode cX6_save 19 = .ok (.aload_n 2, 1) := by decide +kernel
theorem dX6_save_20 : decode cX6_save 20 = .ok (.ifnonnull 18, 3) := by decide +kernel
theorem dX6_save_23 : decode cX6_save 23 = .ok (.new 7, 3) := by decide +kernel
theorem dX6_save_26 : decode cX6_save 26 = .ok (.dup, 1) := by decide +kernel
theorem dX6_save_27 : decode cX6_save 27 = .ok (.invokespecial 9, 3) := by decide +kernel
theorem dX6_save_30 : decode cX6_save 30 = .ok (.astore_n 2, 1) := by decide +kernel
theorem dX6_save_31 : decode cX6_save 31 = .ok (.aload_n 0, 1) := by decide +kernel
theorem dX6_save_32 : decode cX6_save 32 = .ok (.getfield 26, 3) := by decide +kernel
theorem dX6_save_35 : decode cX6_save 35 = .ok (.iload_n 1, 1) := by decide +kernel
theorem dX6_save_36 : decode cX6_save 36 = .ok (.aload_n 2, 1) := by decide +kernel
theorem dX6_save_37 : decode cX6_save 37 = .ok (.aastore, 1) := by decide +kernel
theorem dX6_save_38 : decode cX6_save 38 = .ok (.aload_n 2, 1) := by decide +kernel
theorem dX6_save_39 : decode cX6_save 39 = .ok (.aload_n 0, 1) := by decide +kernel
theorem dX6_save_40 : decode cX6_save 40 = .ok (.getfield 10, 3) := by decide +kernel
theorem dX6_save_43 : decode cX6_save 43 = .ok (.invokevirtual 105, 3) := by decide +kernel
theorem dX6_save_46 : decode cX6_save 46 = .ok (.aload_n 0, 1) := by decide +kernel
theorem dX6_save_47 : decode cX6_save 47 = .ok (.getfield 10, 3) := by decide +kernel
theorem dX6_save_50 : decode cX6_save 50 = .ok (.getfield 182, 3) := by decide +kernel
theorem dX6_save_53 : decode cX6_save 53 = .ok (.ireturn, 1) := by decide +kernel
theorem dX6_restore_0 : decode cX6_restore 0 = .ok (.iload_n 1, 1) := by decide +kernel
theorem dX6_restore_1 : decode cX6_restore 1 = .ok (.ifCond .lt 8, 3) := by decide +kernel
theorem dX6_restore_4 : decode cX6_restore 4 = .ok (.iload_n 1, 1) := by decide +kernel
theorem dX6_restore_5 : decode cX6_restore 5 = .ok (.iconst 2, 1) := by decide +kernel
theorem dX6_restore_6 : decode cX6_restore 6 = .ok (.if_icmp .lt 6, 3) := by decide +kernel
theorem dX6_restore_9 : decode cX6_restore 9 = .ok (.bipush (-2), 2) := by decide +kernel
theorem dX6_restore_11 : decode cX6_restore 11 = .ok (.ireturn, 1) := by decide +kernel
theorem dX6_restore_12 : decode cX6_restore 12 = .ok (.aload_n 0, 1) := by decide +kernel
theorem dX6_restore_13 : decode cX6_restore 13 = .ok (.getfield 26, 3) := by decide +kernel
theorem dX6_restore_16 : decode cX6_restore 16 = .ok (.iload_n 1, 1) := by decide +kernel
theorem dX6_restore_17 : decode cX6_restore 17 = .ok (.aaload, 1) := by decide +kernel
theorem dX6_restore_18 : decode cX6_restore 18 = .ok (.astore_n 2, 1) := by decide +kernel
theorem dX6_restore_19 : decode cX6_restore 19 = .ok (.aload_n 2, 1) := by decide +kernel
theorem dX6_restore_20 : decode cX6_restore 20 = .ok (.ifnonnull 6, 3) := by decide +kernel
theorem dX6_restore_23 : decode cX6_restore 23 = .ok (.bipush (-5), 2) := by decide +kernel
theorem dX6_restore_25 : decode cX6_restore 25 = .ok (.ireturn, 1) := by decide +kernel
theorem dX6_restore_26 : decode cX6_restore 26 = .ok (.aload_n 0, 1) := by decide +kernel
theorem dX6_restore_27 : decode cX6_restore 27 = .ok (.getfield 22, 3) := by decide +kernel
theorem dX6_restore_30 : decode cX6_restore 30 = .ok (.aload_n 0, 1) := by decide +kernel
theorem dX6_restore_31 : decode cX6_restore 31 = .ok (.getfield 10, 3) := by decide +kernel
theorem dX6_restore_34 : decode cX6_restore 34 = .ok (.invokevirtual 46, 3) := by decide +kernel
theorem dX6_restore_37 : decode cX6_restore 37 = .ok (.aload_n 0, 1) := by decide +kernel
theorem dX6_restore_38 : decode cX6_restore 38 = .ok (.getfield 10, 3) := by decide +kernel
theorem dX6_restore_41 : decode cX6_restore 41 = .ok (.aload_n 2, 1) := by decide +kernel
theorem dX6_restore_42 : decode cX6_restore 42 = .ok (.invokevirtual 105, 3) := by decide +kernel
theorem dX6_restore_45 : decode cX6_restore 45 = .ok (.aload_n 0, 1) := by decide +kernel
theorem dX6_restore_46 : decode cX6_restore 46 = .ok (.getfield 22, 3) := by decide +kernel
theorem dX6_restore_49 : decode cX6_restore 49 = .ok (.aload_n 0, 1) := by decide +kernel
theorem dX6_restore_50 : decode cX6_restore 50 = .ok (.getfield 10, 3) := by decide +kernel
theorem dX6_restore_53 : decode cX6_restore 53 = .ok (.getfield 182, 3) := by decide +kernel
theorem dX6_restore_56 : decode cX6_restore 56 = .ok (.invokevirtual 54, 3) := by decide +kernel
theorem dX6_restore_59 : decode cX6_restore 59 = .ok (.ireturn, 1) := by decide +kernel
theorem dX6_isInSet_0 : decode cX6_isInSet 0 = .ok (.iload_n 1, 1) := by decide +kernel
theorem dX6_isInSet_1 : decode cX6_isInSet 1 = .ok (.iload_n 0, 1) := by decide +kernel
theorem dX6_isInSet_2 : decode cX6_isInSet 2 = .ok (.ishr, 1) := by decide +kernel
theorem dX6_isInSet_3 : decode cX6_isInSet 3 = .ok (.iconst 1, 1) := by decide +kernel
theorem dX6_isInSet_4 : decode cX6_isInSet 4 = .ok (.iand, 1) := by decide +kernel
theorem dX6_isInSet_5 : decode cX6_isInSet 5 = .ok (.iconst 1, 1) := by decide +kernel
theorem dX6_isInSet_6 : decode cX6_isInSet 6 = .ok (.if_icmp .ne 7, 3) := by decide +kernel
theorem dX6_isInSet_9 : decode cX6_isInSet 9 = .ok (.iconst 1, 1) := by decide +kernel
theorem dX6_isInSet_10 : decode cX6_isInSet 10 = .ok (.goto 4, 3) := by decide +kernel
theorem dX6_isInSet_13 : decode cX6_isInSet 13 = .ok (.iconst 0, 1) := by decide +kernel
theorem dX6_isInSet_14 : decode cX6_isInSet 14 = .ok (.ireturn, 1) := by decide +kernel
theorem dX6_oneIf_0 : decode cX6_oneIf 0 = .ok (.iload_n 0, 1) := by decide +kernel
theorem dX6_oneIf_1 : decode cX6_oneIf 1 = .ok (.ifCond .eq 7, 3) := by decide +kernel
theorem dX6_oneIf_4 : decode cX6_oneIf 4 = .ok (.iconst 1, 1) := by decide +kernel
theorem dX6_oneIf_5 : decode cX6_oneIf 5 = .ok (.goto 4, 3) := by decide +kernel
theorem dX6_oneIf_8 : decode cX6_oneIf 8 = .ok (.iconst 0, 1) := by decide +kernel
theorem dX6_oneIf_9 : decode cX6_oneIf 9 = .ok (.ireturn, 1) := by decide +kernel
