theorem dX7_init_0 : decode cX7_init 0 = .ok (.aload_n 0, 1) := by decide +kernel
theorem dX7_init_1 : decode cX7_init 1 = .ok (.invokespecial 1, 3) := by decide +kernel
theorem dX7_init_4 : decode cX7_init 4 = .ok (.aload_n 0, 1) := by decide +kernel
theorem dX7_init_5 : decode cX7_init 5 = .ok (.sipush 420, 3) := by decide +kernel
theorem dX7_init_8 : decode cX7_init 8 = .ok (.newarray .int, 2) := by decide +kernel
theorem dX7_init_10 : decode cX7_init 10 = .ok (.putfield 7, 3) := by decide +kernel
theorem dX7_init_13 : decode cX7_init 13 = .ok (.aload_n 0, 1) := by decide +kernel
theorem dX7_init_14 : decode cX7_init 14 = .ok (.sipush 420, 3) := by decide +kernel
theorem dX7_init_17 : decode cX7_init 17 = .ok (.newarray .int, 2) := by decide +kernel
theorem dX7_init_19 : decode cX7_init 19 = .ok (.putfield 13, 3) := by decide +kernel
theorem dX7_init_22 : decode cX7_init 22 = .ok (.aload_n 0, 1) := by decide +kernel
theorem dX7_init_23 : decode cX7_init 23 = .ok (.sipush 420, 3) := by decide +kernel
theorem dX7_init_26 : decode cX7_init 26 = .ok (.newarray .int, 2) := by decide +kernel
theorem dX7_init_28 : decode cX7_init 28 = .ok (.putfield 16, 3) := by decide +kernel
theorem dX7_init_31 : decode cX7_init 31 = .ok (.aload_n 0, 1) := by decide +kernel
theorem dX7_init_32 : decode cX7_init 32 = .ok (.sipush 2520, 3) := by decide +kernel
theorem dX7_init_35 : decode cX7_init 35 = .ok (.newarray .int, 2) := by decide +kernel
theorem dX7_init_37 : decode cX7_init 37 = .ok (.putfield 19, 3) := by decide +kernel
theorem dX7_init_40 : decode cX7_init 40 = .ok (.aload_n 0, 1) := by decide +kernel
theorem dX7_init_41 : decode cX7_init 41 = .ok (.sipush 840, 3) := by decide +kernel
theorem dX7_init_44 : decode cX7_init 44 = .ok (.newarray .int, 2) := by decide +kernel
theorem dX7_init_46 : decode cX7_init 46 = .ok (.putfield 22, 3) := by decide +kernel
theorem dX7_init_49 : decode cX7_init 49 = .ok (.aload_n 0, 1) := by decide +kernel
theorem dX7_init_50 : decode cX7_init 50 = .ok (.iconst 2, 1) := by decide +kernel
theorem dX7_init_51 : decode cX7_init 51 = .ok (.newarray .int, 2) := by decide +kernel
theorem dX7_init_53 : decode cX7_init 53 = .ok (.putfield 25, 3) := by decide +kernel
theorem dX7_init_56 : decode cX7_init 56 = .ok (.aload_n 0, 1) := by decide +kernel
theorem dX7_init_57 : decode cX7_init 57 = .ok (.bipush 80, 2) := by decide +kernel
theorem dX7_init_59 : decode cX7_init 59 = .ok (.newarray .int, 2) := by decide +kernel
theorem dX7_init_61 : decode cX7_init 61 = .ok (.putfield 28, 3) := by decide +kernel
theorem dX7_init_64 : decode cX7_init 64 = .ok (.aload_n 0, 1) := by decide +kernel
theorem dX7_init_65 : decode cX7_init 65 = .ok (.getfield 7, 3) := by decide +kernel
theorem dX7_init_68 : decode cX7_init 68 = .ok (.iconst 0, 1) := by decide +kernel
theorem dX7_init_69 : decode cX7_init 69 = .ok (.iconst 4, 1) := by decide +kernel
theorem dX7_init_70 : decode cX7_init 70 = .ok (.iastore, 1) := by decide +kernel
theorem dX7_init_71 : decode cX7_init 71 = .ok (.aload_n 0, 1) := by decide +kernel
theorem dX7_init_72 : decode cX7_init 72 = .ok (.getfield 7, 3) := by decide +kernel
theorem dX7_init_75 : decode cX7_init 75 = .ok (.iconst 1, 1) := by decide +kernel
theorem dX7_init_76 : decode cX7_init 76 = .ok (.bipush 10, 2) := by decide +kernel
theorem dX7_init_78 : decode cX7_init 78 = .ok (.iastore, 1) := by decide +kernel
theorem dX7_init_79 : decode cX7_init 79 = .ok (.aload_n 0, 1) := by decide +kernel
theorem dX7_init_80 : decode cX7_init 80 = .ok (.getfield 7, 3) := by decide +kernel
theorem dX7_init_83 : decode cX7_init 83 = .ok (.iconst 2, 1) := by decide +kernel
theorem dX7_init_84 : decode cX7_init 84 = .ok (.bipush 60, 2) := by decide +kernel
theorem dX7_init_86 : decode cX7_init 86 = .ok (.iastore, 1) := by decide +kernel
theorem dX7_init_87 : decode cX7_init 87 = .ok (.aload_n 0, 1) := by decide +kernel
theorem dX7_init_88 : decode cX7_init 88 = .ok (.getfield 7, 3) := by decide +kernel
theorem dX7_init_91 : decode cX7_init 91 = .ok (.iconst 3, 1) := by decide +kernel
theorem dX7_init_92 : decode cX7_init 92 = .ok (.iconst 5, 1) := by decide +kernel
theorem dX7_init_93 : decode cX7_init 93 = .ok (.iastore, 1) := by decide +kernel
theorem dX7_init_94 : decode cX7_init 94 = .ok (.return_, 1) := by decide +kernel
theorem dX7_in_0 : decode cX7_in 0 = .ok (.lload_n 0, 1) := by decide +kernel
theorem dX7_in_1 : decode cX7_in 1 = .ok (.lload_n 2, 1) := by decide +kernel
theorem dX7_in_2 : decode cX7_in 2 = .ok (.lcmp, 1) := by decide +kernel
theorem dX7_in_3 : decode cX7_in 3 = .ok (.ifCond .lt 14, 3) := by decide +kernel
theorem dX7_in_6 : decode cX7_in 6 = .ok (.lload_n 0, 1) := by decide +kernel
theorem dX7_in_7 : decode cX7_in 7 = .ok (.lload 4, 2) := by decide +kernel
theorem dX7_in_9 : decode cX7_in 9 = .ok (.lcmp, 1) := by decide +kernel
theorem dX7_in_10 : decode cX7_in 10 = .ok (.ifCond .gt 7, 3) := by decide +kernel
theorem dX7_in_13 : decode cX7_in 13 = .ok (.iconst 1, 1) := by decide +kernel
theorem dX7_in_14 : decode cX7_in 14 = .ok (.goto 4, 3) := by decide +kernel
theorem dX7_in_17 : decode cX7_in 17 = .ok (.iconst 0, 1) := by decide +kernel
theorem dX7_in_18 : decode cX7_in 18 = .ok (.ireturn, 1) := by decide +kernel
theorem dX7_copy_0 : decode cX7_copy 0 = .ok (.iconst 0, 1) := by decide +kernel
theorem dX7_copy_1 : decode cX7_copy 1 = .ok (.istore_n 2, 1) := by decide +kernel
theorem dX7_copy_2 : decode cX7_copy 2 = .ok (.iload_n 2, 1) := by decide +kernel
theorem dX7_copy_3 : decode cX7_copy 3 = .ok (.sipush 420, 3) := by decide +kernel
theorem dX7_copy_6 : decode cX7_copy 6 = .ok (.if_icmp .ge 15, 3) := by decide +kernel
theorem dX7_copy_9 : decode cX7_copy 9 = .ok (.aload_n 1, 1) := by decide +kernel
theorem dX7_copy_10 : decode cX7_copy 10 = .ok (.iload_n 2, 1) := by decide +kernel
theorem dX7_copy_11 : decode cX7_copy 11 = .ok (.aload_n 0, 1) := by decide +kernel
theorem dX7_copy_12 : decode cX7_copy 12 = .ok (.iload_n 2, 1) := by decide +kernel
theorem dX7_copy_13 : decode cX7_copy 13 = .ok (.iaload, 1) := by decide +kernel
theorem dX7_copy_14 : decode cX7_copy 14 = .ok (.iastore, 1) := by decide +kernel
theorem dX7_copy_15 : decode cX7_copy 15 = .ok (.iinc 2 1, 3) := by decide +kernel
theorem dX7_copy_18 : decode cX7_copy 18 = .ok (.goto (-16), 3) := by decide +kernel
theorem dX7_copy_21 : decode cX7_copy 21 = .ok (.return_, 1) := by decide +kernel
theorem dX7_ends_0 : decode cX7_ends 0 = .ok (.iload_n 1, 1) := by decide +kernel
theorem dX7_ends_1 : decode cX7_ends 1 = .ok (.ifCond .ge 5, 3) := by decide +kernel
theorem dX7_ends_4 : decode cX7_ends 4 = .ok (.iload_n 1, 1) := by decide +kernel
theorem dX7_ends_5 : decode cX7_ends 5 = .ok (.ireturn, 1) := by decide +kernel
theorem dX7_ends_6 : decode cX7_ends 6 = .ok (.aload_n 0, 1) := by decide +kernel
theorem dX7_ends_7 : decode cX7_ends 7 = .ok (.getfield 31, 3) := by decide +kernel
theorem dX7_ends_10 : decode cX7_ends 10 = .ok (.bipush 6, 2) := by decide +kernel
theorem dX7_ends_12 : decode cX7_ends 12 = .ok (.if_icmp .ne 44, 3) := by decide +kernel
theorem dX7_ends_15 : decode cX7_ends 15 = .ok (.iconst 0, 1) := by decide +kernel
theorem dX7_ends_16 : decode cX7_ends 16 = .ok (.istore_n 2, 1) := by decide +kernel
theorem dX7_ends_17 : decode cX7_ends 17 = .ok (.iload_n 2, 1) := by decide +kernel
theorem dX7_ends_18 : decode cX7_ends 18 = .ok (.sipush 2100, 3) := by decide +kernel
theorem dX7_ends_21 : decode cX7_ends 21 = .ok (.if_icmp .ge 25, 3) := by decide +kernel
theorem dX7_ends_24 : decode cX7_ends 24 = .ok (.aload_n 0, 1) := by decide +kernel
theorem dX7_ends_25 : decode cX7_ends 25 = .ok (.getfield 19, 3) := by decide +kernel
theorem dX7_ends_28 : decode cX7_ends 28 = .ok (.iload_n 2, 1) := by decide +kernel
theorem dX7_ends_29 : decode cX7_ends 29 = .ok (.aload_n 0, 1) := by decide +kernel
theorem dX7_ends_30 : decode cX7_ends 30 = .ok (.getfield 19, 3) := by decide +kernel
theorem dX7_ends_33 : decode cX7_ends 33 = .ok (.iload_n 2, 1) := by decide +kernel
theorem dX7_ends_34 : decode cX7_ends 34 = .ok (.sipush 420, 3) := by decide +kernel
theorem dX7_ends_37 : decode cX7_ends 37 = .ok (.iadd, 1) := by decide +kernel
theorem dX7_ends_38 : decode cX7_ends 38 = .ok (.iaload, 1) := by decide +kernel
theorem dX7_ends_39 : decode cX7_ends 39 = .ok (.iastore, 1) := by decide +kernel
theorem dX7_ends_40 : decode cX7_ends 40 = .ok (.iinc 2 1, 3) := by decide +kernel
theorem dX7_ends_43 : decode cX7_ends 43 = .ok (.goto (-26), 3) := by decide +kernel
theorem dX7_ends_46 : decode cX7_ends 46 = .ok (.aload_n 0, 1) := by decide +kernel
theorem dX7_ends_47 : decode cX7_ends 47 = .ok (.dup, 1) := by decide +kernel
theorem dX7_ends_48 : decode cX7_ends 48 = .ok (.getfield 31, 3) := by decide +kernel
theorem dX7_ends_51 : decode cX7_ends 51 = .ok (.iconst 1, 1) := by decide +kernel
theorem dX7_ends_52 : decode cX7_ends 52 = .ok (.isub, 1) := by decide +kernel
theorem dX7_ends_53 : decode cX7_ends 53 = .ok (.putfield 31, 3) := by decide +kernel
theorem dX7_ends_56 : decode cX7_ends 56 = .ok (.iconst 0, 1) := by decide +kernel
theorem dX7_ends_57 : decode cX7_ends 57 = .ok (.istore_n 2, 1) := by decide +kernel
theorem dX7_ends_58 : decode cX7_ends 58 = .ok (.iload_n 2, 1) := by decide +kernel
theorem dX7_ends_59 : decode cX7_ends 59 = .ok (.sipush 420, 3) := by decide +kernel
theorem dX7_ends_62 : decode cX7_ends 62 = .ok (.if_icmp .ge 30, 3) := by decide +kernel
theorem dX7_ends_65 : decode cX7_ends 65 = .ok (.aload_n 0, 1) := by decide +kernel
theorem dX7_ends_66 : decode cX7_ends 66 = .ok (.getfield 19, 3) := by decide +kernel
theorem dX7_ends_69 : decode cX7_ends 69 = .ok (.sipush 420, 3) := by decide +kernel
theorem dX7_ends_72 : decode cX7_ends 72 = .ok (.aload_n 0, 1) := by decide +kernel
theorem dX7_ends_73 : decode cX7_ends 73 = .ok (.getfield 31, 3) := by decide +kernel
theorem dX7_ends_76 : decode cX7_ends 76 = .ok (.imul, 1) := by decide +kernel
theorem dX7_ends_77 : decode cX7_ends 77 = .ok (.iload_n 2, 1) := by decide +kernel
theorem dX7_ends_78 : decode cX7_ends 78 = .ok (.iadd, 1) := by decide +kernel
theorem dX7_ends_79 : decode cX7_ends 79 = .ok (.aload_n 0, 1) := by decide +kernel
theorem dX7_ends_80 : decode cX7_ends 80 = .ok (.getfield 13, 3) := by decide +kernel
theorem dX7_ends_83 : decode cX7_ends 83 = .ok (.iload_n 2, 1) := by decide +kernel
theorem dX7_ends_84 : decode cX7_ends 84 = .ok (.iaload, 1) := by decide +kernel
theorem dX7_ends_85 : decode cX7_ends 85 = .ok (.iastore, 1) := by decide +kernel
theorem dX7_ends_86 : decode cX7_ends 86 = .ok (.iinc 2 1, 3) := by decide +kernel
theorem dX7_ends_89 : decode cX7_ends 89 = .ok (.goto (-31), 3) := by decide +kernel
theorem dX7_ends_92 : decode cX7_ends 92 = .ok (.aload_n 0, 1) := by decide +kernel
theorem dX7_ends_93 : decode cX7_ends 93 = .ok (.dup, 1) := by decide +kernel
theorem dX7_ends_94 : decode cX7_ends 94 = .ok (.getfield 31, 3) := by decide +kernel
theorem dX7_ends_97 : decode cX7_ends 97 = .ok (.iconst 1, 1) := by decide +kernel
theorem dX7_ends_98 : decode cX7_ends 98 = .ok (.iadd, 1) := by decide +kernel
theorem dX7_ends_99 : decode cX7_ends 99 = .ok (.putfield 31, 3) := by decide +kernel
theorem dX7_ends_102 : decode cX7_ends 102 = .ok (.iload_n 1, 1) := by decide +kernel
theorem dX7_ends_103 : decode cX7_ends 103 = .ok (.ireturn, 1) := by decide +kernel
theorem dX7_isPiece_0 : decode cX7_isPiece 0 = .ok (.iload_n 1, 1) := by decide +kernel
theorem dX7_isPiece_1 : decode cX7_isPiece 1 = .ok (.i2l, 1) := by decide +kernel
theorem dX7_isPiece_2 : decode cX7_isPiece 2 = .ok (.lconst 0, 1) := by decide +kernel
theorem dX7_isPiece_3 : decode cX7_isPiece 3 = .ok (.aload_n 0, 1) := by decide +kernel
theorem dX7_isPiece_4 : decode cX7_isPiece 4 = .ok (.getfield 7, 3) := by decide +kernel
theorem dX7_isPiece_7 : decode cX7_isPiece 7 = .ok (.iconst 5, 1) := by decide +kernel
theorem dX7_isPiece_8 : decode cX7_isPiece 8 = .ok (.iaload, 1) := by decide +kernel
theorem dX7_isPiece_9 : decode cX7_isPiece 9 = .ok (.i2l, 1) := by decide +kernel
theorem dX7_isPiece_10 : decode cX7_isPiece 10 = .ok (.lconst 1, 1) := by decide +kernel
theorem dX7_isPiece_11 : decode cX7_isPiece 11 = .ok (.lsub, 1) := by decide +kernel
theorem dX7_isPiece_12 : decode cX7_isPiece 12 = .ok (.invokestatic 35, 3) := by decide +kernel
theorem dX7_isPiece_15 : decode cX7_isPiece 15 = .ok (.ireturn, 1) := by decide +kernel
theorem dX7_of_0 : decode cX7_of 0 = .ok (.aload_n 0, 1) := by decide +kernel
theorem dX7_of_1 : decode cX7_of 1 = .ok (.getfield 7, 3) := by decide +kernel
theorem dX7_of_4 : decode cX7_of 4 = .ok (.sipush 158, 3) := by decide +kernel
theorem dX7_of_7 : decode cX7_of 7 = .ok (.bipush 9, 2) := by decide +kernel
theorem dX7_of_9 : decode cX7_of 9 = .ok (.iload_n 1, 1) := by decide +kernel
theorem dX7_of_10 : decode cX7_of 10 = .ok (.imul, 1) := by decide +kernel
theorem dX7_of_11 : decode cX7_of 11 = .ok (.iadd, 1) := by decide +kernel
theorem dX7_of_12 : decode cX7_of 12 = .ok (.iload_n 2, 1) := by decide +kernel
theorem dX7_of_13 : decode cX7_of 13 = .ok (.iadd, 1) := by decide +kernel
theorem dX7_of_14 : decode cX7_of 14 = .ok (.iaload, 1) := by decide +kernel
theorem dX7_of_15 : decode cX7_of 15 = .ok (.ireturn, 1) := by decide +kernel
theorem dX7_sets_0 : decode cX7_sets 0 = .ok (.aload_n 0, 1) := by decide +kernel
theorem dX7_sets_1 : decode cX7_sets 1 = .ok (.getfield 7, 3) := by decide +kernel
theorem dX7_sets_4 : decode cX7_sets 4 = .ok (.sipush 158, 3) := by decide +kernel
theorem dX7_sets_7 : decode cX7_sets 7 = .ok (.bipush 9, 2) := by decide +kernel
theorem dX7_sets_9 : decode cX7_sets 9 = .ok (.iload_n 1, 1) := by decide +kernel
theorem dX7_sets_10 : decode cX7_sets 10 = .ok (.imul, 1) := by decide +kernel
theorem dX7_sets_11 : decode cX7_sets 11 = .ok (.iadd, 1) := by decide +kernel
theorem dX7_sets_12 : decode cX7_sets 12 = .ok (.iload_n 2, 1) := by decide +kernel
theorem dX7_sets_13 : decode cX7_sets 13 = .ok (.iadd, 1) := by decide +kernel
theorem dX7_sets_14 : decode cX7_sets 14 = .ok (.iload_n 3, 1) := by decide +kernel
theorem dX7_sets_15 : decode cX7_sets 15 = .ok (.iastore, 1) := by decide +kernel
theorem dX7_sets_16 : decode cX7_sets 16 = .ok (.return_, 1) := by decide +kernel
theorem dX7_inQueue_0 : decode cX7_inQueue 0 = .ok (.aload_n 0, 1) := by decide +kernel
theorem dX7_inQueue_1 : decode cX7_inQueue 1 = .ok (.getfield 7, 3) := by decide +kernel
theorem dX7_inQueue_4 : decode cX7_inQueue 4 = .ok (.bipush 14, 2) := by decide +kernel
theorem dX7_inQueue_6 : decode cX7_inQueue 6 = .ok (.bipush 24, 2) := by decide +kernel
theorem dX7_inQueue_8 : decode cX7_inQueue 8 = .ok (.iload_n 1, 1) := by decide +kernel
theorem dX7_inQueue_9 : decode cX7_inQueue 9 = .ok (.imul, 1) := by decide +kernel
theorem dX7_inQueue_10 : decode cX7_inQueue 10 = .ok (.iadd, 1) := by decide +kernel
theorem dX7_inQueue_11 : decode cX7_inQueue 11 = .ok (.iload_n 2, 1) := by decide +kernel
theorem dX7_inQueue_12 : decode cX7_inQueue 12 = .ok (.iadd, 1) := by decide +kernel
theorem dX7_inQueue_13 : decode cX7_inQueue 13 = .ok (.iaload, 1) := by decide +kernel
theorem dX7_inQueue_14 : decode cX7_inQueue 14 = .ok (.ireturn, 1) := by decide +kernel
theorem dX7_queueOf_0 : decode cX7_queueOf 0 = .ok (.aload_n 0, 1) := by decide +kernel
theorem dX7_queueOf_1 : decode cX7_queueOf 1 = .ok (.iload_n 1, 1) := by decide +kernel
theorem dX7_queueOf_2 : decode cX7_queueOf 2 = .ok (.iconst 4, 1) := by decide +kernel
theorem dX7_queueOf_3 : decode cX7_queueOf 3 = .ok (.invokevirtual 39, 3) := by decide +kernel
theorem dX7_queueOf_6 : decode cX7_queueOf 6 = .ok (.ifCond .ne 12, 3) := by decide +kernel
theorem dX7_queueOf_9 : decode cX7_queueOf 9 = .ok (.aload_n 0, 1) := by decide +kernel
theorem dX7_queueOf_10 : decode cX7_queueOf 10 = .ok (.iload_n 1, 1) := by decide +kernel
theorem dX7_queueOf_11 : decode cX7_queueOf 11 = .ok (.iconst 0, 1) := by decide +kernel
theorem dX7_queueOf_12 : decode cX7_queueOf 12 = .ok (.invokevirtual 39, 3) := by decide +kernel
theorem dX7_queueOf_15 : decode cX7_queueOf 15 = .ok (.goto 19, 3) := by decide +kernel
theorem dX7_queueOf_18 : decode cX7_queueOf 18 = .ok (.aload_n 0, 1) := by decide +kernel
theorem dX7_queueOf_19 : decode cX7_queueOf 19 = .ok (.iload_n 1, 1) := by decide +kernel
theorem dX7_queueOf_20 : decode cX7_queueOf 20 = .ok (.iconst 4, 1) := by decide +kernel
theorem dX7_queueOf_21 : decode cX7_queueOf 21 = .ok (.invokevirtual 39, 3) := by decide +kernel
theorem dX7_queueOf_24 : decode cX7_queueOf 24 = .ok (.iconst 1, 1) := by decide +kernel
theorem dX7_queueOf_25 : decode cX7_queueOf 25 = .ok (.if_icmp .ne 7, 3) := by decide +kernel
theorem dX7_queueOf_28 : decode cX7_queueOf 28 = .ok (.iconst 5, 1) := by decide +kernel
theorem dX7_queueOf_29 : decode cX7_queueOf 29 = .ok (.goto 5, 3) := by decide +kernel
theorem dX7_queueOf_32 : decode cX7_queueOf 32 = .ok (.bipush (-6), 2) := by decide +kernel
theorem dX7_queueOf_34 : decode cX7_queueOf 34 = .ok (.ireturn, 1) := by decide +kernel
theorem dX7_placeOf_0 : decode cX7_placeOf 0 = .ok (.aload_n 0, 1) := by decide +kernel
theorem dX7_placeOf_1 : decode cX7_placeOf 1 = .ok (.iload_n 1, 1) := by decide +kernel
theorem dX7_placeOf_2 : decode cX7_placeOf 2 = .ok (.invokevirtual 43, 3) := by decide +kernel
theorem dX7_placeOf_5 : decode cX7_placeOf 5 = .ok (.istore_n 2, 1) := by decide +kernel
theorem dX7_placeOf_6 : decode cX7_placeOf 6 = .ok (.iload_n 2, 1) := by decide +kernel
theorem dX7_placeOf_7 : decode cX7_placeOf 7 = .ok (.bipush (-6), 2) := by decide +kernel
theorem dX7_placeOf_9 : decode cX7_placeOf 9 = .ok (.if_icmp .ne 6, 3) := by decide +kernel
theorem dX7_placeOf_12 : decode cX7_placeOf 12 = .ok (.bipush (-6), 2) := by decide +kernel
theorem dX7_placeOf_14 : decode cX7_placeOf 14 = .ok (.ireturn, 1) := by decide +kernel
theorem dX7_placeOf_15 : decode cX7_placeOf 15 = .ok (.iconst 0, 1) := by decide +kernel
theorem dX7_placeOf_16 : decode cX7_placeOf 16 = .ok (.istore_n 3, 1) := by decide +kernel
theorem dX7_placeOf_17 : decode cX7_placeOf 17 = .ok (.aload_n 0, 1) := by decide +kernel
theorem dX7_placeOf_18 : decode cX7_placeOf 18 = .ok (.iload_n 2, 1) := by decide +kernel
theorem dX7_placeOf_19 : decode cX7_placeOf 19 = .ok (.iload_n 3, 1) := by decide +kernel
theorem dX7_placeOf_20 : decode cX7_placeOf 20 = .ok (.invokevirtual 47, 3) := by decide +kernel
theorem dX7_placeOf_23 : decode cX7_placeOf 23 = .ok (.iload_n 1, 1) := by decide +kernel
theorem dX7_placeOf_24 : decode cX7_placeOf 24 = .ok (.if_icmp .eq 9, 3) := by decide +kernel
theorem dX7_placeOf_27 : decode cX7_placeOf 27 = .ok (.iinc 3 1, 3) := by decide +kernel
theorem dX7_placeOf_30 : decode cX7_placeOf 30 = .ok (.goto (-13), 3) := by decide +kernel
theorem dX7_placeOf_33 : decode cX7_placeOf 33 = .ok (.iload_n 3, 1) := by decide +kernel
theorem dX7_placeOf_34 : decode cX7_placeOf 34 = .ok (.ireturn, 1) := by decide +kernel
theorem dX7_comesTo_0 : decode cX7_comesTo 0 = .ok (.aload_n 0, 1) := by decide +kernel
theorem dX7_comesTo_1 : decode cX7_comesTo 1 = .ok (.getfield 7, 3) := by decide +kernel
theorem dX7_comesTo_4 : decode cX7_comesTo 4 = .ok (.bipush 14, 2) := by decide +kernel
theorem dX7_comesTo_6 : decode cX7_comesTo 6 = .ok (.bipush 24, 2) := by decide +kernel
theorem dX7_comesTo_8 : decode cX7_comesTo 8 = .ok (.iload_n 1, 1) := by decide +kernel
theorem dX7_comesTo_9 : decode cX7_comesTo 9 = .ok (.imul, 1) := by decide +kernel
theorem dX7_comesTo_10 : decode cX7_comesTo 10 = .ok (.iadd, 1) := by decide +kernel
theorem dX7_comesTo_11 : decode cX7_comesTo 11 = .ok (.aload_n 0, 1) := by decide +kernel
theorem dX7_comesTo_12 : decode cX7_comesTo 12 = .ok (.getfield 7, 3) := by decide +kernel
theorem dX7_comesTo_15 : decode cX7_comesTo 15 = .ok (.bipush 8, 2) := by decide +kernel
theorem dX7_comesTo_17 : decode cX7_comesTo 17 = .ok (.iload_n 1, 1) := by decide +kernel
theorem dX7_comesTo_18 : decode cX7_comesTo 18 = .ok (.iadd, 1) := by decide +kernel
theorem dX7_comesTo_19 : decode cX7_comesTo 19 = .ok (.iaload, 1) := by decide +kernel
theorem dX7_comesTo_20 : decode cX7_comesTo 20 = .ok (.iadd, 1) := by decide +kernel
theorem dX7_comesTo_21 : decode cX7_comesTo 21 = .ok (.iload_n 2, 1) := by decide +kernel
theorem dX7_comesTo_22 : decode cX7_comesTo 22 = .ok (.iastore, 1) := by decide +kernel
theorem dX7_comesTo_23 : decode cX7_comesTo 23 = .ok (.aload_n 0, 1) := by decide +kernel
theorem dX7_comesTo_24 : decode cX7_comesTo 24 = .ok (.getfield 7, 3) := by decide +kernel
theorem dX7_comesTo_27 : decode cX7_comesTo 27 = .ok (.bipush 8, 2) := by decide +kernel
theorem dX7_comesTo_29 : decode cX7_comesTo 29 = .ok (.iload_n 1, 1) := by decide +kernel
theorem dX7_comesTo_30 : decode cX7_comesTo 30 = .ok (.iadd, 1) := by decide +kernel
theorem dX7_comesTo_31 : decode cX7_comesTo 31 = .ok (.dup2, 1) := by decide +kernel
theorem dX7_comesTo_32 : decode cX7_comesTo 32 = .ok (.iaload, 1) := by decide +kernel
theorem dX7_comesTo_33 : decode cX7_comesTo 33 = .ok (.iconst 1, 1) := by decide +kernel
theorem dX7_comesTo_34 : decode cX7_comesTo 34 = .ok (.iadd, 1) := by decide +kernel
theorem dX7_comesTo_35 : decode cX7_comesTo 35 = .ok (.iastore, 1) := by decide +kernel
theorem dX7_comesTo_36 : decode cX7_comesTo 36 = .ok (.return_, 1) := by decide +kernel
theorem dX7_leaves_0 : decode cX7_leaves 0 = .ok (.aload_n 0, 1) := by decide +kernel
theorem dX7_leaves_1 : decode cX7_leaves 1 = .ok (.iload_n 1, 1) := by decide +kernel
theorem dX7_leaves_2 : decode cX7_leaves 2 = .ok (.invokevirtual 43, 3) := by decide +kernel
theorem dX7_leaves_5 : decode cX7_leaves 5 = .ok (.istore_n 2, 1) := by decide +kernel
theorem dX7_leaves_6 : decode cX7_leaves 6 = .ok (.iload_n 2, 1) := by decide +kernel
theorem dX7_leaves_7 : decode cX7_leaves 7 = .ok (.bipush (-6), 2) := by decide +kernel
theorem dX7_leaves_9 : decode cX7_leaves 9 = .ok (.if_icmp .ne 4, 3) := by decide +kernel
theorem dX7_leaves_12 : decode cX7_leaves 12 = .ok (.return_, 1) := by decide +kernel
theorem dX7_leaves_13 : decode cX7_leaves 13 = .ok (.aload_n 0, 1) := by decide +kernel
theorem dX7_leaves_14 : decode cX7_leaves 14 = .ok (.iload_n 1, 1) := by decide +kernel
theorem dX7_leaves_15 : decode cX7_leaves 15 = .ok (.invokevirtual 50, 3) := by decide +kernel
theorem dX7_leaves_18 : decode cX7_leaves 18 = .ok (.istore_n 3, 1) := by decide +kernel
theorem dX7_leaves_19 : decode cX7_leaves 19 = .ok (.aload_n 0, 1) := by decide +kernel
theorem dX7_leaves_20 : decode cX7_leaves 20 = .ok (.getfield 7, 3) := by decide +kernel
theorem dX7_leaves_23 : decode cX7_leaves 23 = .ok (.bipush 8, 2) := by decide +kernel
theorem dX7_leaves_25 : decode cX7_leaves 25 = .ok (.iload_n 2, 1) := by decide +kernel
theorem dX7_leaves_26 : decode cX7_leaves 26 = .ok (.iadd, 1) := by decide +kernel
theorem dX7_leaves_27 : decode cX7_leaves 27 = .ok (.dup2, 1) := by decide +kernel
theorem dX7_leaves_28 : decode cX7_leaves 28 = .ok (.iaload, 1) := by decide +kernel
theorem dX7_leaves_29 : decode cX7_leaves 29 = .ok (.iconst 1, 1) := by decide +kernel
theorem dX7_leaves_30 : decode cX7_leaves 30 = .ok (.isub, 1) := by decide +kernel
theorem dX7_leaves_31 : decode cX7_leaves 31 = .ok (.iastore, 1) := by decide +kernel
theorem dX7_leaves_32 : decode cX7_leaves 32 = .ok (.iload_n 3, 1) := by decide +kernel
theorem dX7_leaves_33 : decode cX7_leaves 33 = .ok (.istore 4, 2) := by decide +kernel
theorem dX7_leaves_35 : decode cX7_leaves 35 = .ok (.iload 4, 2) := by decide +kernel
theorem dX7_leaves_37 : decode cX7_leaves 37 = .ok (.aload_n 0, 1) := by decide +kernel
theorem dX7_leaves_38 : decode cX7_leaves 38 = .ok (.getfield 7, 3) := by decide +kernel
theorem dX7_leaves_41 : decode cX7_leaves 41 = .ok (.bipush 8, 2) := by decide +kernel
theorem dX7_leaves_43 : decode cX7_leaves 43 = .ok (.iload_n 2, 1) := by decide +kernel
theorem dX7_leaves_44 : decode cX7_leaves 44 = .ok (.iadd, 1) := by decide +kernel
theorem dX7_leaves_45 : decode cX7_leaves 45 = .ok (.iaload, 1) := by decide +kernel
theorem dX7_leaves_46 : decode cX7_leaves 46 = .ok (.if_icmp .ge 37, 3) := by decide +kernel
theorem dX7_leaves_49 : decode cX7_leaves 49 = .ok (.bipush 14, 2) := by decide +kernel
theorem dX7_leaves_51 : decode cX7_leaves 51 = .ok (.bipush 24, 2) := by decide +kernel
theorem dX7_leaves_53 : decode cX7_leaves 53 = .ok (.iload_n 2, 1) := by decide +kernel
theorem dX7_leaves_54 : decode cX7_leaves 54 = .ok (.imul, 1) := by decide +kernel
theorem dX7_leaves_55 : decode cX7_leaves 55 = .ok (.iadd, 1) := by decide +kernel
theorem dX7_leaves_56 : decode cX7_leaves 56 = .ok (.iload 4, 2) := by decide +kernel
theorem dX7_leaves_58 : decode cX7_leaves 58 = .ok (.iadd, 1) := by decide +kernel
theorem dX7_leaves_59 : decode cX7_leaves 59 = .ok (.istore 5, 2) := by decide +kernel
theorem dX7_leaves_61 : decode cX7_leaves 61 = .ok (.aload_n 0, 1) := by decide +kernel
theorem dX7_leaves_62 : decode cX7_leaves 62 = .ok (.getfield 7, 3) := by decide +kernel
theorem dX7_leaves_65 : decode cX7_leaves 65 = .ok (.iload 5, 2) := by decide +kernel
theorem dX7_leaves_67 : decode cX7_leaves 67 = .ok (.aload_n 0, 1) := by decide +kernel
theorem dX7_leaves_68 : decode cX7_leaves 68 = .ok (.getfield 7, 3) := by decide +kernel
theorem dX7_leaves_71 : decode cX7_leaves 71 = .ok (.iload 5, 2) := by decide +kernel
theorem dX7_leaves_73 : decode cX7_leaves 73 = .ok (.iconst 1, 1) := by decide +kernel
theorem dX7_leaves_74 : decode cX7_leaves 74 = .ok (.iadd, 1) := by decide +kernel
theorem dX7_leaves_75 : decode cX7_leaves 75 = .ok (.iaload, 1) := by decide +kernel
theorem dX7_leaves_76 : decode cX7_leaves 76 = .ok (.iastore, 1) := by decide +kernel
theorem dX7_leaves_77 : decode cX7_leaves 77 = .ok (.iinc 4 1, 3) := by decide +kernel
theorem dX7_leaves_80 : decode cX7_leaves 80 = .ok (.goto (-45), 3) := by decide +kernel
theorem dX7_leaves_83 : decode cX7_leaves 83 = .ok (.return_, 1) := by decide +kernel
theorem dX7_becomesReady_0 : decode cX7_becomesReady 0 = .ok (.aload_n 0, 1) := by decide +kernel
theorem dX7_becomesReady_1 : decode cX7_becomesReady 1 = .ok (.iload_n 1, 1) := by decide +kernel
theorem dX7_becomesReady_2 : decode cX7_becomesReady 2 = .ok (.iconst 4, 1) := by decide +kernel
theorem dX7_becomesReady_3 : decode cX7_becomesReady 3 = .ok (.iconst 2, 1) := by decide +kernel
theorem dX7_becomesReady_4 : decode cX7_becomesReady 4 = .ok (.invokevirtual 53, 3) := by decide +kernel
theorem dX7_becomesReady_7 : decode cX7_becomesReady 7 = .ok (.aload_n 0, 1) := by decide +kernel
theorem dX7_becomesReady_8 : decode cX7_becomesReady 8 = .ok (.iload_n 1, 1) := by decide +kernel
theorem dX7_becomesReady_9 : decode cX7_becomesReady 9 = .ok (.bipush 8, 2) := by decide +kernel
theorem dX7_becomesReady_11 : decode cX7_becomesReady 11 = .ok (.aload_n 0, 1) := by decide +kernel
theorem dX7_becomesReady_12 : decode cX7_becomesReady 12 = .ok (.getfield 7, 3) := by decide +kernel
theorem dX7_becomesReady_15 : decode cX7_becomesReady 15 = .ok (.iconst 4, 1) := by decide +kernel
theorem dX7_becomesReady_16 : decode cX7_becomesReady 16 = .ok (.iaload, 1) := by decide +kernel
theorem dX7_becomesReady_17 : decode cX7_becomesReady 17 = .ok (.invokevirtual 53, 3) := by decide +kernel
theorem dX7_becomesReady_20 : decode cX7_becomesReady 20 = .ok (.return_, 1) := by decide +kernel
theorem dX7_edits_0 : decode cX7_edits 0 = .ok (.aload_n 0, 1) := by decide +kernel
theorem dX7_edits_1 : decode cX7_edits 1 = .ok (.getfield 7, 3) := by decide +kernel
theorem dX7_edits_4 : decode cX7_edits 4 = .ok (.bipush 8, 2) := by decide +kernel
theorem dX7_edits_6 : decode cX7_edits 6 = .ok (.iload_n 1, 1) := by decide +kernel
theorem dX7_edits_7 : decode cX7_edits 7 = .ok (.iadd, 1) := by decide +kernel
theorem dX7_edits_8 : decode cX7_edits 8 = .ok (.iaload, 1) := by decide +kernel
theorem dX7_edits_9 : decode cX7_edits 9 = .ok (.ifCond .ne 4, 3) := by decide +kernel
theorem dX7_edits_12 : decode cX7_edits 12 = .ok (.return_, 1) := by decide +kernel
theorem dX7_edits_13 : decode cX7_edits 13 = .ok (.aload_n 0, 1) := by decide +kernel
theorem dX7_edits_14 : decode cX7_edits 14 = .ok (.iload_n 1, 1) := by decide +kernel
theorem dX7_edits_15 : decode cX7_edits 15 = .ok (.iconst 0, 1) := by decide +kernel
theorem dX7_edits_16 : decode cX7_edits 16 = .ok (.invokevirtual 47, 3) := by decide +kernel
theorem dX7_edits_19 : decode cX7_edits 19 = .ok (.istore_n 2, 1) := by decide +kernel
theorem dX7_edits_20 : decode cX7_edits 20 = .ok (.aload_n 0, 1) := by decide +kernel
theorem dX7_edits_21 : decode cX7_edits 21 = .ok (.iload_n 2, 1) := by decide +kernel
theorem dX7_edits_22 : decode cX7_edits 22 = .ok (.bipush 6, 2) := by decide +kernel
theorem dX7_edits_24 : decode cX7_edits 24 = .ok (.invokevirtual 39, 3) := by decide +kernel
theorem dX7_edits_27 : decode cX7_edits 27 = .ok (.aload_n 0, 1) := by decide +kernel
theorem dX7_edits_28 : decode cX7_edits 28 = .ok (.getfield 7, 3) := by decide +kernel
theorem dX7_edits_31 : decode cX7_edits 31 = .ok (.iconst 0, 1) := by decide +kernel
theorem dX7_edits_32 : decode cX7_edits 32 = .ok (.iaload, 1) := by decide +kernel
theorem dX7_edits_33 : decode cX7_edits 33 = .ok (.iadd, 1) := by decide +kernel
theorem dX7_edits_34 : decode cX7_edits 34 = .ok (.istore_n 3, 1) := by decide +kernel
theorem dX7_edits_35 : decode cX7_edits 35 = .ok (.aload_n 0, 1) := by decide +kernel
theorem dX7_edits_36 : decode cX7_edits 36 = .ok (.iload_n 2, 1) := by decide +kernel
theorem dX7_edits_37 : decode cX7_edits 37 = .ok (.bipush 6, 2) := by decide +kernel
theorem dX7_edits_39 : decode cX7_edits 39 = .ok (.iload_n 3, 1) := by decide +kernel
theorem dX7_edits_40 : decode cX7_edits 40 = .ok (.aload_n 0, 1) := by decide +kernel
theorem dX7_edits_41 : decode cX7_edits 41 = .ok (.iload_n 2, 1) := by decide +kernel
theorem dX7_edits_42 : decode cX7_edits 42 = .ok (.iconst 1, 1) := by decide +kernel
theorem dX7_edits_43 : decode cX7_edits 43 = .ok (.invokevirtual 39, 3) := by decide +kernel
theorem dX7_edits_46 : decode cX7_edits 46 = .ok (.if_icmp .ge 7, 3) := by decide +kernel
theorem dX7_edits_49 : decode cX7_edits 49 = .ok (.iload_n 3, 1) := by decide +kernel
theorem dX7_edits_50 : decode cX7_edits 50 = .ok (.goto 9, 3) := by decide +kernel
theorem dX7_edits_53 : decode cX7_edits 53 = .ok (.aload_n 0, 1) := by decide +kernel
theorem dX7_edits_54 : decode cX7_edits 54 = .ok (.iload_n 2, 1) := by decide +kernel
theorem dX7_edits_55 : decode cX7_edits 55 = .ok (.iconst 1, 1) := by decide +kernel
theorem dX7_edits_56 : decode cX7_edits 56 = .ok (.invokevirtual 39, 3) := by decide +kernel
theorem dX7_edits_59 : decode cX7_edits 59 = .ok (.invokevirtual 53, 3) := by decide +kernel
theorem dX7_edits_62 : decode cX7_edits 62 = .ok (.iload_n 3, 1) := by decide +kernel
theorem dX7_edits_63 : decode cX7_edits 63 = .ok (.aload_n 0, 1) := by decide +kernel
theorem dX7_edits_64 : decode cX7_edits 64 = .ok (.iload_n 2, 1) := by decide +kernel
theorem dX7_edits_65 : decode cX7_edits 65 = .ok (.iconst 1, 1) := by decide +kernel
theorem dX7_edits_66 : decode cX7_edits 66 = .ok (.invokevirtual 39, 3) := by decide +kernel
theorem dX7_edits_69 : decode cX7_edits 69 = .ok (.if_icmp .lt 39, 3) := by decide +kernel
theorem dX7_edits_72 : decode cX7_edits 72 = .ok (.aload_n 0, 1) := by decide +kernel
theorem dX7_edits_73 : decode cX7_edits 73 = .ok (.iload_n 2, 1) := by decide +kernel
theorem dX7_edits_74 : decode cX7_edits 74 = .ok (.invokevirtual 57, 3) := by decide +kernel
theorem dX7_edits_77 : decode cX7_edits 77 = .ok (.aload_n 0, 1) := by decide +kernel
theorem dX7_edits_78 : decode cX7_edits 78 = .ok (.iload_n 2, 1) := by decide +kernel
theorem dX7_edits_79 : decode cX7_edits 79 = .ok (.iconst 3, 1) := by decide +kernel
theorem dX7_edits_80 : decode cX7_edits 80 = .ok (.invokevirtual 39, 3) := by decide +kernel
theorem dX7_edits_83 : decode cX7_edits 83 = .ok (.iconst 1, 1) := by decide +kernel
theorem dX7_edits_84 : decode cX7_edits 84 = .ok (.if_icmp .ne 19, 3) := by decide +kernel
theorem dX7_edits_87 : decode cX7_edits 87 = .ok (.aload_n 0, 1) := by decide +kernel
theorem dX7_edits_88 : decode cX7_edits 88 = .ok (.iload_n 2, 1) := by decide +kernel
theorem dX7_edits_89 : decode cX7_edits 89 = .ok (.iconst 4, 1) := by decide +kernel
theorem dX7_edits_90 : decode cX7_edits 90 = .ok (.iconst 1, 1) := by decide +kernel
theorem dX7_edits_91 : decode cX7_edits 91 = .ok (.invokevirtual 53, 3) := by decide +kernel
theorem dX7_edits_94 : decode cX7_edits 94 = .ok (.aload_n 0, 1) := by decide +kernel
theorem dX7_edits_95 : decode cX7_edits 95 = .ok (.iconst 5, 1) := by decide +kernel
theorem dX7_edits_96 : decode cX7_edits 96 = .ok (.iload_n 2, 1) := by decide +kernel
theorem dX7_edits_97 : decode cX7_edits 97 = .ok (.invokevirtual 61, 3) := by decide +kernel
theorem dX7_edits_100 : decode cX7_edits 100 = .ok (.goto 8, 3) := by decide +kernel
theorem dX7_edits_103 : decode cX7_edits 103 = .ok (.aload_n 0, 1) := by decide +kernel
theorem dX7_edits_104 : decode cX7_edits 104 = .ok (.iload_n 2, 1) := by decide +kernel
theorem dX7_edits_105 : decode cX7_edits 105 = .ok (.invokevirtual 65, 3) := by decide +kernel
theorem dX7_edits_108 : decode cX7_edits 108 = .ok (.return_, 1) := by decide +kernel
theorem dX7_reads_0 : decode cX7_reads 0 = .ok (.aload_n 0, 1) := by decide +kernel
theorem dX7_reads_1 : decode cX7_reads 1 = .ok (.getfield 7, 3) := by decide +kernel
theorem dX7_reads_4 : decode cX7_reads 4 = .ok (.bipush 13, 2) := by decide +kernel
theorem dX7_reads_6 : decode cX7_reads 6 = .ok (.iaload, 1) := by decide +kernel
theorem dX7_reads_7 : decode cX7_reads 7 = .ok (.ifCond .ne 4, 3) := by decide +kernel
theorem dX7_reads_10 : decode cX7_reads 10 = .ok (.return_, 1) := by decide +kernel
theorem dX7_reads_11 : decode cX7_reads 11 = .ok (.aload_n 0, 1) := by decide +kernel
theorem dX7_reads_12 : decode cX7_reads 12 = .ok (.iconst 5, 1) := by decide +kernel
theorem dX7_reads_13 : decode cX7_reads 13 = .ok (.iconst 0, 1) := by decide +kernel
theorem dX7_reads_14 : decode cX7_reads 14 = .ok (.invokevirtual 47, 3) := by decide +kernel
theorem dX7_reads_17 : decode cX7_reads 17 = .ok (.istore_n 1, 1) := by decide +kernel
theorem dX7_reads_18 : decode cX7_reads 18 = .ok (.aload_n 0, 1) := by decide +kernel
theorem dX7_reads_19 : decode cX7_reads 19 = .ok (.iload_n 1, 1) := by decide +kernel
theorem dX7_reads_20 : decode cX7_reads 20 = .ok (.bipush 7, 2) := by decide +kernel
theorem dX7_reads_22 : decode cX7_reads 22 = .ok (.aload_n 0, 1) := by decide +kernel
theorem dX7_reads_23 : decode cX7_reads 23 = .ok (.iload_n 1, 1) := by decide +kernel
theorem dX7_reads_24 : decode cX7_reads 24 = .ok (.bipush 7, 2) := by decide +kernel
theorem dX7_reads_26 : decode cX7_reads 26 = .ok (.invokevirtual 39, 3) := by decide +kernel
theorem dX7_reads_29 : decode cX7_reads 29 = .ok (.iconst 1, 1) := by decide +kernel
theorem dX7_reads_30 : decode cX7_reads 30 = .ok (.iadd, 1) := by decide +kernel
theorem dX7_reads_31 : decode cX7_reads 31 = .ok (.invokevirtual 53, 3) := by decide +kernel
theorem dX7_reads_34 : decode cX7_reads 34 = .ok (.aload_n 0, 1) := by decide +kernel
theorem dX7_reads_35 : decode cX7_reads 35 = .ok (.iload_n 1, 1) := by decide +kernel
theorem dX7_reads_36 : decode cX7_reads 36 = .ok (.bipush 7, 2) := by decide +kernel
theorem dX7_reads_38 : decode cX7_reads 38 = .ok (.invokevirtual 39, 3) := by decide +kernel
theorem dX7_reads_41 : decode cX7_reads 41 = .ok (.aload_n 0, 1) := by decide +kernel
theorem dX7_reads_42 : decode cX7_reads 42 = .ok (.getfield 7, 3) := by decide +kernel
theorem dX7_reads_45 : decode cX7_reads 45 = .ok (.iconst 1, 1) := by decide +kernel
theorem dX7_reads_46 : decode cX7_reads 46 = .ok (.iaload, 1) := by decide +kernel
theorem dX7_reads_47 : decode cX7_reads 47 = .ok (.if_icmp .lt 13, 3) := by decide +kernel
theorem dX7_reads_50 : decode cX7_reads 50 = .ok (.aload_n 0, 1) := by decide +kernel
theorem dX7_reads_51 : decode cX7_reads 51 = .ok (.iload_n 1, 1) := by decide +kernel
theorem dX7_reads_52 : decode cX7_reads 52 = .ok (.invokevirtual 57, 3) := by decide +kernel
theorem dX7_reads_55 : decode cX7_reads 55 = .ok (.aload_n 0, 1) := by decide +kernel
theorem dX7_reads_56 : decode cX7_reads 56 = .ok (.iload_n 1, 1) := by decide +kernel
theorem dX7_reads_57 : decode cX7_reads 57 = .ok (.invokevirtual 65, 3) := by decide +kernel
theorem dX7_reads_60 : decode cX7_reads 60 = .ok (.return_, 1) := by decide +kernel
theorem dX7_isFree_0 : decode cX7_isFree 0 = .ok (.aload_n 0, 1) := by decide +kernel
theorem dX7_isFree_1 : decode cX7_isFree 1 = .ok (.iload_n 1, 1) := by decide +kernel
theorem dX7_isFree_2 : decode cX7_isFree 2 = .ok (.iconst 4, 1) := by decide +kernel
theorem dX7_isFree_3 : decode cX7_isFree 3 = .ok (.invokevirtual 39, 3) := by decide +kernel
theorem dX7_isFree_6 : decode cX7_isFree 6 = .ok (.iconst 2, 1) := by decide +kernel
theorem dX7_isFree_7 : decode cX7_isFree 7 = .ok (.if_icmp .ne 16, 3) := by decide +kernel
theorem dX7_isFree_10 : decode cX7_isFree 10 = .ok (.aload_n 0, 1) := by decide +kernel
theorem dX7_isFree_11 : decode cX7_isFree 11 = .ok (.iload_n 1, 1) := by decide +kernel
theorem dX7_isFree_12 : decode cX7_isFree 12 = .ok (.iconst 5, 1) := by decide +kernel
theorem dX7_isFree_13 : decode cX7_isFree 13 = .ok (.invokevirtual 39, 3) := by decide +kernel
theorem dX7_isFree_16 : decode cX7_isFree 16 = .ok (.ifCond .ne 7, 3) := by decide +kernel
theorem dX7_isFree_19 : decode cX7_isFree 19 = .ok (.iconst 1, 1) := by decide +kernel
theorem dX7_isFree_20 : decode cX7_isFree 20 = .ok (.goto 4, 3) := by decide +kernel
theorem dX7_isFree_23 : decode cX7_isFree 23 = .ok (.iconst 0, 1) := by decide +kernel
theorem dX7_isFree_24 : decode cX7_isFree 24 = .ok (.ireturn, 1) := by decide +kernel
theorem dX7_isAhead_0 : decode cX7_isAhead 0 = .ok (.aload_n 0, 1) := by decide +kernel
theorem dX7_isAhead_1 : decode cX7_isAhead 1 = .ok (.iload_n 2, 1) := by decide +kernel
theorem dX7_isAhead_2 : decode cX7_isAhead 2 = .ok (.iconst 2, 1) := by decide +kernel
theorem dX7_isAhead_3 : decode cX7_isAhead 3 = .ok (.invokevirtual 39, 3) := by decide +kernel
theorem dX7_isAhead_6 : decode cX7_isAhead 6 = .ok (.aload_n 0, 1) := by decide +kernel
theorem dX7_isAhead_7 : decode cX7_isAhead 7 = .ok (.iload_n 1, 1) := by decide +kernel
theorem dX7_isAhead_8 : decode cX7_isAhead 8 = .ok (.iconst 2, 1) := by decide +kernel
theorem dX7_isAhead_9 : decode cX7_isAhead 9 = .ok (.invokevirtual 39, 3) := by decide +kernel
theorem dX7_isAhead_12 : decode cX7_isAhead 12 = .ok (.isub, 1) := by decide +kernel
theorem dX7_isAhead_13 : decode cX7_isAhead 13 = .ok (.istore_n 3, 1) := by decide +kernel
theorem dX7_isAhead_14 : decode cX7_isAhead 14 = .ok (.aload_n 0, 1) := by decide +kernel
theorem dX7_isAhead_15 : decode cX7_isAhead 15 = .ok (.iload_n 1, 1) := by decide +kernel
theorem dX7_isAhead_16 : decode cX7_isAhead 16 = .ok (.bipush 8, 2) := by decide +kernel
theorem dX7_isAhead_18 : decode cX7_isAhead 18 = .ok (.invokevirtual 39, 3) := by decide +kernel
theorem dX7_isAhead_21 : decode cX7_isAhead 21 = .ok (.aload_n 0, 1) := by decide +kernel
theorem dX7_isAhead_22 : decode cX7_isAhead 22 = .ok (.iload_n 2, 1) := by decide +kernel
theorem dX7_isAhead_23 : decode cX7_isAhead 23 = .ok (.bipush 8, 2) := by decide +kernel
theorem dX7_isAhead_25 : decode cX7_isAhead 25 = .ok (.invokevirtual 39, 3) := by decide +kernel
theorem dX7_isAhead_28 : decode cX7_isAhead 28 = .ok (.isub, 1) := by decide +kernel
theorem dX7_isAhead_29 : decode cX7_isAhead 29 = .ok (.istore 4, 2) := by decide +kernel
theorem dX7_isAhead_31 : decode cX7_isAhead 31 = .ok (.iload_n 3, 1) := by decide +kernel
theorem dX7_isAhead_32 : decode cX7_isAhead 32 = .ok (.ifCond .lt 22, 3) := by decide +kernel
theorem dX7_isAhead_35 : decode cX7_isAhead 35 = .ok (.iload_n 3, 1) := by decide +kernel
theorem dX7_isAhead_36 : decode cX7_isAhead 36 = .ok (.ifCond .ne 22, 3) := by decide +kernel
theorem dX7_isAhead_39 : decode cX7_isAhead 39 = .ok (.iload 4, 2) := by decide +kernel
theorem dX7_isAhead_41 : decode cX7_isAhead 41 = .ok (.ifCond .lt 13, 3) := by decide +kernel
theorem dX7_isAhead_44 : decode cX7_isAhead 44 = .ok (.iload 4, 2) := by decide +kernel
theorem dX7_isAhead_46 : decode cX7_isAhead 46 = .ok (.ifCond .ne 12, 3) := by decide +kernel
theorem dX7_isAhead_49 : decode cX7_isAhead 49 = .ok (.iload_n 1, 1) := by decide +kernel
theorem dX7_isAhead_50 : decode cX7_isAhead 50 = .ok (.iload_n 2, 1) := by decide +kernel
theorem dX7_isAhead_51 : decode cX7_isAhead 51 = .ok (.if_icmp .ge 7, 3) := by decide +kernel
theorem dX7_isAhead_54 : decode cX7_isAhead 54 = .ok (.iconst 1, 1) := by decide +kernel
theorem dX7_isAhead_55 : decode cX7_isAhead 55 = .ok (.goto 4, 3) := by decide +kernel
theorem dX7_isAhead_58 : decode cX7_isAhead 58 = .ok (.iconst 0, 1) := by decide +kernel
theorem dX7_isAhead_59 : decode cX7_isAhead 59 = .ok (.ireturn, 1) := by decide +kernel
theorem dX7_ranked_0 : decode cX7_ranked 0 = .ok (.iconst 0, 1) := by decide +kernel
theorem dX7_ranked_1 : decode cX7_ranked 1 = .ok (.istore_n 2, 1) := by decide +kernel
theorem dX7_ranked_2 : decode cX7_ranked 2 = .ok (.iload_n 2, 1) := by decide +kernel
theorem dX7_ranked_3 : decode cX7_ranked 3 = .ok (.aload_n 0, 1) := by decide +kernel
theorem dX7_ranked_4 : decode cX7_ranked 4 = .ok (.getfield 7, 3) := by decide +kernel
theorem dX7_ranked_7 : decode cX7_ranked 7 = .ok (.iconst 5, 1) := by decide +kernel
theorem dX7_ranked_8 : decode cX7_ranked 8 = .ok (.iaload, 1) := by decide +kernel
theorem dX7_ranked_9 : decode cX7_ranked 9 = .ok (.if_icmp .ge 79, 3) := by decide +kernel
theorem dX7_ranked_12 : decode cX7_ranked 12 = .ok (.iconst 0, 1) := by decide +kernel
theorem dX7_ranked_13 : decode cX7_ranked 13 = .ok (.istore_n 3, 1) := by decide +kernel
theorem dX7_ranked_14 : decode cX7_ranked 14 = .ok (.iconst 0, 1) := by decide +kernel
theorem dX7_ranked_15 : decode cX7_ranked 15 = .ok (.istore 4, 2) := by decide +kernel
theorem dX7_ranked_17 : decode cX7_ranked 17 = .ok (.iload 4, 2) := by decide +kernel
theorem dX7_ranked_19 : decode cX7_ranked 19 = .ok (.aload_n 0, 1) := by decide +kernel
theorem dX7_ranked_20 : decode cX7_ranked 20 = .ok (.getfield 7, 3) := by decide +kernel
theorem dX7_ranked_23 : decode cX7_ranked 23 = .ok (.iconst 5, 1) := by decide +kernel
theorem dX7_ranked_24 : decode cX7_ranked 24 = .ok (.iaload, 1) := by decide +kernel
theorem dX7_ranked_25 : decode cX7_ranked 25 = .ok (.if_icmp .ge 42, 3) := by decide +kernel
theorem dX7_ranked_28 : decode cX7_ranked 28 = .ok (.iload_n 3, 1) := by decide +kernel
theorem dX7_ranked_29 : decode cX7_ranked 29 = .ok (.aload_n 0, 1) := by decide +kernel
theorem dX7_ranked_30 : decode cX7_ranked 30 = .ok (.iload 4, 2) := by decide +kernel
theorem dX7_ranked_32 : decode cX7_ranked 32 = .ok (.invokevirtual 68, 3) := by decide +kernel
theorem dX7_ranked_35 : decode cX7_ranked 35 = .ok (.ifCond .eq 23, 3) := by decide +kernel
theorem dX7_ranked_38 : decode cX7_ranked 38 = .ok (.iload 4, 2) := by decide +kernel
theorem dX7_ranked_40 : decode cX7_ranked 40 = .ok (.iload_n 2, 1) := by decide +kernel
theorem dX7_ranked_41 : decode cX7_ranked 41 = .ok (.if_icmp .eq 17, 3) := by decide +kernel
theorem dX7_ranked_44 : decode cX7_ranked 44 = .ok (.aload_n 0, 1) := by decide +kernel
theorem dX7_ranked_45 : decode cX7_ranked 45 = .ok (.iload 4, 2) := by decide +kernel
theorem dX7_ranked_47 : decode cX7_ranked 47 = .ok (.iload_n 2, 1) := by decide +kernel
theorem dX7_ranked_48 : decode cX7_ranked 48 = .ok (.invokevirtual 72, 3) := by decide +kernel
theorem dX7_ranked_51 : decode cX7_ranked 51 = .ok (.ifCond .eq 7, 3) := by decide +kernel
theorem dX7_ranked_54 : decode cX7_ranked 54 = .ok (.iconst 1, 1) := by decide +kernel
theorem dX7_ranked_55 : decode cX7_ranked 55 = .ok (.goto 4, 3) := by decide +kernel
theorem dX7_ranked_58 : decode cX7_ranked 58 = .ok (.iconst 0, 1) := by decide +kernel
theorem dX7_ranked_59 : decode cX7_ranked 59 = .ok (.iadd, 1) := by decide +kernel
theorem dX7_ranked_60 : decode cX7_ranked 60 = .ok (.istore_n 3, 1) := by decide +kernel
theorem dX7_ranked_61 : decode cX7_ranked 61 = .ok (.iinc 4 1, 3) := by decide +kernel
theorem dX7_ranked_64 : decode cX7_ranked 64 = .ok (.goto (-47), 3) := by decide +kernel
theorem dX7_ranked_67 : decode cX7_ranked 67 = .ok (.aload_n 0, 1) := by decide +kernel
theorem dX7_ranked_68 : decode cX7_ranked 68 = .ok (.iload_n 2, 1) := by decide +kernel
theorem dX7_ranked_69 : decode cX7_ranked 69 = .ok (.invokevirtual 68, 3) := by decide +kernel
theorem dX7_ranked_72 : decode cX7_ranked 72 = .ok (.ifCond .eq 10, 3) := by decide +kernel
theorem dX7_ranked_75 : decode cX7_ranked 75 = .ok (.iload_n 3, 1) := by decide +kernel
theorem dX7_ranked_76 : decode cX7_ranked 76 = .ok (.iload_n 1, 1) := by decide +kernel
theorem dX7_ranked_77 : decode cX7_ranked 77 = .ok (.if_icmp .ne 5, 3) := by decide +kernel
theorem dX7_ranked_80 : decode cX7_ranked 80 = .ok (.iload_n 2, 1) := by decide +kernel
theorem dX7_ranked_81 : decode cX7_ranked 81 = .ok (.ireturn, 1) := by decide +kernel
theorem dX7_ranked_82 : decode cX7_ranked 82 = .ok (.iinc 2 1, 3) := by decide +kernel
theorem dX7_ranked_85 : decode cX7_ranked 85 = .ok (.goto (-83), 3) := by decide +kernel
theorem dX7_ranked_88 : decode cX7_ranked 88 = .ok (.bipush (-6), 2) := by decide +kernel
theorem dX7_ranked_90 : decode cX7_ranked 90 = .ok (.ireturn, 1) := by decide +kernel
theorem dX7_takes_0 : decode cX7_takes 0 = .ok (.aload_n 0, 1) := by decide +kernel
theorem dX7_takes_1 : decode cX7_takes 1 = .ok (.iconst 0, 1) := by decide +kernel
theorem dX7_takes_2 : decode cX7_takes 2 = .ok (.putfield 76, 3) := by decide +kernel
theorem dX7_takes_5 : decode cX7_takes 5 = .ok (.aload_n 0, 1) := by decide +kernel
theorem dX7_takes_6 : decode cX7_takes 6 = .ok (.iconst 0, 1) := by decide +kernel
theorem dX7_takes_7 : decode cX7_takes 7 = .ok (.putfield 79, 3) := by decide +kernel
theorem dX7_takes_10 : decode cX7_takes 10 = .ok (.iconst 0, 1) := by decide +kernel
theorem dX7_takes_11 : decode cX7_takes 11 = .ok (.istore_n 2, 1) := by decide +kernel
theorem dX7_takes_12 : decode cX7_takes 12 = .ok (.aload_n 0, 1) := by decide +kernel
theorem dX7_takes_13 : decode cX7_takes 13 = .ok (.iload_n 2, 1) := by decide +kernel
theorem dX7_takes_14 : decode cX7_takes 14 = .ok (.invokevirtual 82, 3) := by decide +kernel
theorem dX7_takes_17 : decode cX7_takes 17 = .ok (.bipush (-6), 2) := by decide +kernel
theorem dX7_takes_19 : decode cX7_takes 19 = .ok (.if_icmp .eq 57, 3) := by decide +kernel
theorem dX7_takes_22 : decode cX7_takes 22 = .ok (.aload_n 0, 1) := by decide +kernel
theorem dX7_takes_23 : decode cX7_takes 23 = .ok (.iload_n 2, 1) := by decide +kernel
theorem dX7_takes_24 : decode cX7_takes 24 = .ok (.invokevirtual 82, 3) := by decide +kernel
theorem dX7_takes_27 : decode cX7_takes 27 = .ok (.istore_n 3, 1) := by decide +kernel
theorem dX7_takes_28 : decode cX7_takes 28 = .ok (.aload_n 0, 1) := by decide +kernel
theorem dX7_takes_29 : decode cX7_takes 29 = .ok (.getfield 79, 3) := by decide +kernel
theorem dX7_takes_32 : decode cX7_takes 32 = .ok (.aload_n 0, 1) := by decide +kernel
theorem dX7_takes_33 : decode cX7_takes 33 = .ok (.iload_n 3, 1) := by decide +kernel
theorem dX7_takes_34 : decode cX7_takes 34 = .ok (.iconst 1, 1) := by decide +kernel
theorem dX7_takes_35 : decode cX7_takes 35 = .ok (.invokevirtual 39, 3) := by decide +kernel
theorem dX7_takes_38 : decode cX7_takes 38 = .ok (.iadd, 1) := by decide +kernel
theorem dX7_takes_39 : decode cX7_takes 39 = .ok (.iload_n 1, 1) := by decide +kernel
theorem dX7_takes_40 : decode cX7_takes 40 = .ok (.if_icmp .gt 30, 3) := by decide +kernel
theorem dX7_takes_43 : decode cX7_takes 43 = .ok (.aload_n 0, 1) := by decide +kernel
theorem dX7_takes_44 : decode cX7_takes 44 = .ok (.dup, 1) := by decide +kernel
theorem dX7_takes_45 : decode cX7_takes 45 = .ok (.getfield 76, 3) := by decide +kernel
theorem dX7_takes_48 : decode cX7_takes 48 = .ok (.iconst 1, 1) := by decide +kernel
theorem dX7_takes_49 : decode cX7_takes 49 = .ok (.iload_n 3, 1) := by decide +kernel
theorem dX7_takes_50 : decode cX7_takes 50 = .ok (.ishl, 1) := by decide +kernel
theorem dX7_takes_51 : decode cX7_takes 51 = .ok (.ior, 1) := by decide +kernel
theorem dX7_takes_52 : decode cX7_takes 52 = .ok (.putfield 76, 3) := by decide +kernel
theorem dX7_takes_55 : decode cX7_takes 55 = .ok (.aload_n 0, 1) := by decide +kernel
theorem dX7_takes_56 : decode cX7_takes 56 = .ok (.dup, 1) := by decide +kernel
theorem dX7_takes_57 : decode cX7_takes 57 = .ok (.getfield 79, 3) := by decide +kernel
theorem dX7_takes_60 : decode cX7_takes 60 = .ok (.aload_n 0, 1) := by decide +kernel
theorem dX7_takes_61 : decode cX7_takes 61 = .ok (.iload_n 3, 1) := by decide +kernel
theorem dX7_takes_62 : decode cX7_takes 62 = .ok (.iconst 1, 1) := by decide +kernel
theorem dX7_takes_63 : decode cX7_takes 63 = .ok (.invokevirtual 39, 3) := by decide +kernel
theorem dX7_takes_66 : decode cX7_takes 66 = .ok (.iadd, 1) := by decide +kernel
theorem dX7_takes_67 : decode cX7_takes 67 = .ok (.putfield 79, 3) := by decide +kernel
theorem dX7_takes_70 : decode cX7_takes 70 = .ok (.iinc 2 1, 3) := by decide +kernel
theorem dX7_takes_73 : decode cX7_takes 73 = .ok (.goto (-61), 3) := by decide +kernel
theorem dX7_takes_76 : decode cX7_takes 76 = .ok (.return_, 1) := by decide +kernel
theorem dX7_plateAt_0 : decode cX7_plateAt 0 = .ok (.aload_n 0, 1) := by decide +kernel
theorem dX7_plateAt_1 : decode cX7_plateAt 1 = .ok (.getfield 7, 3) := by decide +kernel
theorem dX7_plateAt_4 : decode cX7_plateAt 4 = .ok (.sipush 374, 3) := by decide +kernel
theorem dX7_plateAt_7 : decode cX7_plateAt 7 = .ok (.iconst 4, 1) := by decide +kernel
theorem dX7_plateAt_8 : decode cX7_plateAt 8 = .ok (.iload_n 1, 1) := by decide +kernel
theorem dX7_plateAt_9 : decode cX7_plateAt 9 = .ok (.imul, 1) := by decide +kernel
theorem dX7_plateAt_10 : decode cX7_plateAt 10 = .ok (.iadd, 1) := by decide +kernel
theorem dX7_plateAt_11 : decode cX7_plateAt 11 = .ok (.iload_n 2, 1) := by decide +kernel
theorem dX7_plateAt_12 : decode cX7_plateAt 12 = .ok (.iadd, 1) := by decide +kernel
theorem dX7_plateAt_13 : decode cX7_plateAt 13 = .ok (.iaload, 1) := by decide +kernel
theorem dX7_plateAt_14 : decode cX7_plateAt 14 = .ok (.ireturn, 1) := by decide +kernel
theorem dX7_due_0 : decode cX7_due 0 = .ok (.iconst 0, 1) := by decide +kernel
theorem dX7_due_1 : decode cX7_due 1 = .ok (.istore_n 2, 1) := by decide +kernel
theorem dX7_due_2 : decode cX7_due 2 = .ok (.iload_n 2, 1) := by decide +kernel
theorem dX7_due_3 : decode cX7_due 3 = .ok (.aload_n 0, 1) := by decide +kernel
theorem dX7_due_4 : decode cX7_due 4 = .ok (.getfield 7, 3) := by decide +kernel
theorem dX7_due_7 : decode cX7_due 7 = .ok (.bipush 6, 2) := by decide +kernel
theorem dX7_due_9 : decode cX7_due 9 = .ok (.iaload, 1) := by decide +kernel
theorem dX7_due_10 : decode cX7_due 10 = .ok (.if_icmp .ge 21, 3) := by decide +kernel
theorem dX7_due_13 : decode cX7_due 13 = .ok (.aload_n 0, 1) := by decide +kernel
theorem dX7_due_14 : decode cX7_due 14 = .ok (.iload_n 2, 1) := by decide +kernel
theorem dX7_due_15 : decode cX7_due 15 = .ok (.iconst 0, 1) := by decide +kernel
theorem dX7_due_16 : decode cX7_due 16 = .ok (.invokevirtual 85, 3) := by decide +kernel
theorem dX7_due_19 : decode cX7_due 19 = .ok (.iload_n 1, 1) := by decide +kernel
theorem dX7_due_20 : decode cX7_due 20 = .ok (.if_icmp .ne 5, 3) := by decide +kernel
theorem dX7_due_23 : decode cX7_due 23 = .ok (.iload_n 2, 1) := by decide +kernel
theorem dX7_due_24 : decode cX7_due 24 = .ok (.ireturn, 1) := by decide +kernel
theorem dX7_due_25 : decode cX7_due 25 = .ok (.iinc 2 1, 3) := by decide +kernel
theorem dX7_due_28 : decode cX7_due 28 = .ok (.goto (-26), 3) := by decide +kernel
theorem dX7_due_31 : decode cX7_due 31 = .ok (.bipush (-6), 2) := by decide +kernel
theorem dX7_due_33 : decode cX7_due 33 = .ok (.ireturn, 1) := by decide +kernel
theorem dX7_works_0 : decode cX7_works 0 = .ok (.iconst 0, 1) := by decide +kernel
theorem dX7_works_1 : decode cX7_works 1 = .ok (.istore_n 1, 1) := by decide +kernel
theorem dX7_works_2 : decode cX7_works 2 = .ok (.iload_n 1, 1) := by decide +kernel
theorem dX7_works_3 : decode cX7_works 3 = .ok (.iconst 5, 1) := by decide +kernel
theorem dX7_works_4 : decode cX7_works 4 = .ok (.if_icmp .ge 14, 3) := by decide +kernel
theorem dX7_works_7 : decode cX7_works 7 = .ok (.aload_n 0, 1) := by decide +kernel
theorem dX7_works_8 : decode cX7_works 8 = .ok (.iload_n 1, 1) := by decide +kernel
theorem dX7_works_9 : decode cX7_works 9 = .ok (.invokevirtual 88, 3) := by decide +kernel
theorem dX7_works_12 : decode cX7_works 12 = .ok (.iinc 1 1, 3) := by decide +kernel
theorem dX7_works_15 : decode cX7_works 15 = .ok (.goto (-13), 3) := by decide +kernel
theorem dX7_works_18 : decode cX7_works 18 = .ok (.aload_n 0, 1) := by decide +kernel
theorem dX7_works_19 : decode cX7_works 19 = .ok (.invokevirtual 91, 3) := by decide +kernel
theorem dX7_works_22 : decode cX7_works 22 = .ok (.return_, 1) := by decide +kernel
theorem dX7_passes_0 : decode cX7_passes 0 = .ok (.aload_n 0, 1) := by decide +kernel
theorem dX7_passes_1 : decode cX7_passes 1 = .ok (.invokevirtual 94, 3) := by decide +kernel
theorem dX7_passes_4 : decode cX7_passes 4 = .ok (.aload_n 0, 1) := by decide +kernel
theorem dX7_passes_5 : decode cX7_passes 5 = .ok (.aload_n 0, 1) := by decide +kernel
theorem dX7_passes_6 : decode cX7_passes 6 = .ok (.getfield 7, 3) := by decide +kernel
theorem dX7_passes_9 : decode cX7_passes 9 = .ok (.iconst 4, 1) := by decide +kernel
theorem dX7_passes_10 : decode cX7_passes 10 = .ok (.iaload, 1) := by decide +kernel
theorem dX7_passes_11 : decode cX7_passes 11 = .ok (.invokevirtual 97, 3) := by decide +kernel
theorem dX7_passes_14 : decode cX7_passes 14 = .ok (.istore_n 1, 1) := by decide +kernel
theorem dX7_passes_15 : decode cX7_passes 15 = .ok (.iload_n 1, 1) := by decide +kernel
theorem dX7_passes_16 : decode cX7_passes 16 = .ok (.bipush (-6), 2) := by decide +kernel
theorem dX7_passes_18 : decode cX7_passes 18 = .ok (.if_icmp .eq 57, 3) := by decide +kernel
theorem dX7_passes_21 : decode cX7_passes 21 = .ok (.aload_n 0, 1) := by decide +kernel
theorem dX7_passes_22 : decode cX7_passes 22 = .ok (.aload_n 0, 1) := by decide +kernel
theorem dX7_passes_23 : decode cX7_passes 23 = .ok (.getfield 7, 3) := by decide +kernel
theorem dX7_passes_26 : decode cX7_passes 26 = .ok (.iconst 2, 1) := by decide +kernel
theorem dX7_passes_27 : decode cX7_passes 27 = .ok (.iaload, 1) := by decide +kernel
theorem dX7_passes_28 : decode cX7_passes 28 = .ok (.invokevirtual 100, 3) := by decide +kernel
theorem dX7_passes_31 : decode cX7_passes 31 = .ok (.aload_n 0, 1) := by decide +kernel
theorem dX7_passes_32 : decode cX7_passes 32 = .ok (.getfield 7, 3) := by decide +kernel
theorem dX7_passes_35 : decode cX7_passes 35 = .ok (.sipush 374, 3) := by decide +kernel
theorem dX7_passes_38 : decode cX7_passes 38 = .ok (.iconst 4, 1) := by decide +kernel
theorem dX7_passes_39 : decode cX7_passes 39 = .ok (.iload_n 1, 1) := by decide +kernel
theorem dX7_passes_40 : decode cX7_passes 40 = .ok (.imul, 1) := by decide +kernel
theorem dX7_passes_41 : decode cX7_passes 41 = .ok (.iadd, 1) := by decide +kernel
theorem dX7_passes_42 : decode cX7_passes 42 = .ok (.iconst 1, 1) := by decide +kernel
theorem dX7_passes_43 : decode cX7_passes 43 = .ok (.iadd, 1) := by decide +kernel
theorem dX7_passes_44 : decode cX7_passes 44 = .ok (.iconst 1, 1) := by decide +kernel
theorem dX7_passes_45 : decode cX7_passes 45 = .ok (.iastore, 1) := by decide +kernel
theorem dX7_passes_46 : decode cX7_passes 46 = .ok (.aload_n 0, 1) := by decide +kernel
theorem dX7_passes_47 : decode cX7_passes 47 = .ok (.getfield 7, 3) := by decide +kernel
theorem dX7_passes_50 : decode cX7_passes 50 = .ok (.sipush 374, 3) := by decide +kernel
theorem dX7_passes_53 : decode cX7_passes 53 = .ok (.iconst 4, 1) := by decide +kernel
theorem dX7_passes_54 : decode cX7_passes 54 = .ok (.iload_n 1, 1) := by decide +kernel
theorem dX7_passes_55 : decode cX7_passes 55 = .ok (.imul, 1) := by decide +kernel
theorem dX7_passes_56 : decode cX7_passes 56 = .ok (.iadd, 1) := by decide +kernel
theorem dX7_passes_57 : decode cX7_passes 57 = .ok (.iconst 3, 1) := by decide +kernel
theorem dX7_passes_58 : decode cX7_passes 58 = .ok (.iadd, 1) := by decide +kernel
theorem dX7_passes_59 : decode cX7_passes 59 = .ok (.aload_n 0, 1) := by decide +kernel
theorem dX7_passes_60 : decode cX7_passes 60 = .ok (.getfield 76, 3) := by decide +kernel
theorem dX7_passes_63 : decode cX7_passes 63 = .ok (.iastore, 1) := by decide +kernel
theorem dX7_passes_64 : decode cX7_passes 64 = .ok (.aload_n 0, 1) := by decide +kernel
theorem dX7_passes_65 : decode cX7_passes 65 = .ok (.getfield 7, 3) := by decide +kernel
theorem dX7_passes_68 : decode cX7_passes 68 = .ok (.bipush 7, 2) := by decide +kernel
theorem dX7_passes_70 : decode cX7_passes 70 = .ok (.dup2, 1) := by decide +kernel
theorem dX7_passes_71 : decode cX7_passes 71 = .ok (.iaload, 1) := by decide +kernel
theorem dX7_passes_72 : decode cX7_passes 72 = .ok (.iconst 1, 1) := by decide +kernel
theorem dX7_passes_73 : decode cX7_passes 73 = .ok (.iadd, 1) := by decide +kernel
theorem dX7_passes_74 : decode cX7_passes 74 = .ok (.iastore, 1) := by decide +kernel
theorem dX7_passes_75 : decode cX7_passes 75 = .ok (.aload_n 0, 1) := by decide +kernel
theorem dX7_passes_76 : decode cX7_passes 76 = .ok (.getfield 7, 3) := by decide +kernel
theorem dX7_passes_79 : decode cX7_passes 79 = .ok (.iconst 4, 1) := by decide +kernel
theorem dX7_passes_80 : decode cX7_passes 80 = .ok (.dup2, 1) := by decide +kernel
theorem dX7_passes_81 : decode cX7_passes 81 = .ok (.iaload, 1) := by decide +kernel
theorem dX7_passes_82 : decode cX7_passes 82 = .ok (.iconst 1, 1) := by decide +kernel
theorem dX7_passes_83 : decode cX7_passes 83 = .ok (.iadd, 1) := by decide +kernel
theorem dX7_passes_84 : decode cX7_passes 84 = .ok (.iastore, 1) := by decide +kernel
theorem dX7_passes_85 : decode cX7_passes 85 = .ok (.iload_n 1, 1) := by decide +kernel
theorem dX7_passes_86 : decode cX7_passes 86 = .ok (.bipush (-6), 2) := by decide +kernel
theorem dX7_passes_88 : decode cX7_passes 88 = .ok (.if_icmp .ne 7, 3) := by decide +kernel
theorem dX7_passes_91 : decode cX7_passes 91 = .ok (.iconst 0, 1) := by decide +kernel
theorem dX7_passes_92 : decode cX7_passes 92 = .ok (.goto 4, 3) := by decide +kernel
theorem dX7_passes_95 : decode cX7_passes 95 = .ok (.iconst 1, 1) := by decide +kernel
theorem dX7_passes_96 : decode cX7_passes 96 = .ok (.ireturn, 1) := by decide +kernel
theorem dX7_doPiece_0 : decode cX7_doPiece 0 = .ok (.iload_n 1, 1) := by decide +kernel
theorem dX7_doPiece_1 : decode cX7_doPiece 1 = .ok (.i2l, 1) := by decide +kernel
theorem dX7_doPiece_2 : decode cX7_doPiece 2 = .ok (.lconst 0, 1) := by decide +kernel
theorem dX7_doPiece_3 : decode cX7_doPiece 3 = .ok (.ldc2_w 103, 3) := by decide +kernel
theorem dX7_doPiece_6 : decode cX7_doPiece 6 = .ok (.invokestatic 35, 3) := by decide +kernel
theorem dX7_doPiece_9 : decode cX7_doPiece 9 = .ok (.ifCond .ne 5, 3) := by decide +kernel
theorem dX7_doPiece_12 : decode cX7_doPiece 12 = .ok (.iconst (-1), 1) := by decide +kernel
theorem dX7_doPiece_13 : decode cX7_doPiece 13 = .ok (.ireturn, 1) := by decide +kernel
theorem dX7_doPiece_14 : decode cX7_doPiece 14 = .ok (.iload_n 2, 1) := by decide +kernel
theorem dX7_doPiece_15 : decode cX7_doPiece 15 = .ok (.i2l, 1) := by decide +kernel
theorem dX7_doPiece_16 : decode cX7_doPiece 16 = .ok (.lconst 1, 1) := by decide +kernel
theorem dX7_doPiece_17 : decode cX7_doPiece 17 = .ok (.ldc2_w 105, 3) := by decide +kernel
theorem dX7_doPiece_20 : decode cX7_doPiece 20 = .ok (.invokestatic 35, 3) := by decide +kernel
theorem dX7_doPiece_23 : decode cX7_doPiece 23 = .ok (.ifCond .eq 26, 3) := by decide +kernel
theorem dX7_doPiece_26 : decode cX7_doPiece 26 = .ok (.iload_n 3, 1) := by decide +kernel
theorem dX7_doPiece_27 : decode cX7_doPiece 27 = .ok (.i2l, 1) := by decide +kernel
theorem dX7_doPiece_28 : decode cX7_doPiece 28 = .ok (.lconst 0, 1) := by decide +kernel
theorem dX7_doPiece_29 : decode cX7_doPiece 29 = .ok (.ldc2_w 107, 3) := by decide +kernel
theorem dX7_doPiece_32 : decode cX7_doPiece 32 = .ok (.invokestatic 35, 3) := by decide +kernel
theorem dX7_doPiece_35 : decode cX7_doPiece 35 = .ok (.ifCond .eq 14, 3) := by decide +kernel
theorem dX7_doPiece_38 : decode cX7_doPiece 38 = .ok (.iload 4, 2) := by decide +kernel
theorem dX7_doPiece_40 : decode cX7_doPiece 40 = .ok (.i2l, 1) := by decide +kernel
theorem dX7_doPiece_41 : decode cX7_doPiece 41 = .ok (.lconst 0, 1) := by decide +kernel
theorem dX7_doPiece_42 : decode cX7_doPiece 42 = .ok (.lconst 1, 1) := by decide +kernel
theorem dX7_doPiece_43 : decode cX7_doPiece 43 = .ok (.invokestatic 35, 3) := by decide +kernel
theorem dX7_doPiece_46 : decode cX7_doPiece 46 = .ok (.ifCond .ne 6, 3) := by decide +kernel
theorem dX7_doPiece_49 : decode cX7_doPiece 49 = .ok (.bipush (-2), 2) := by decide +kernel
theorem dX7_doPiece_51 : decode cX7_doPiece 51 = .ok (.ireturn, 1) := by decide +kernel
theorem dX7_doPiece_52 : decode cX7_doPiece 52 = .ok (.aload_n 0, 1) := by decide +kernel
theorem dX7_doPiece_53 : decode cX7_doPiece 53 = .ok (.getfield 7, 3) := by decide +kernel
theorem dX7_doPiece_56 : decode cX7_doPiece 56 = .ok (.iconst 5, 1) := by decide +kernel
theorem dX7_doPiece_57 : decode cX7_doPiece 57 = .ok (.iaload, 1) := by decide +kernel
theorem dX7_doPiece_58 : decode cX7_doPiece 58 = .ok (.bipush 24, 2) := by decide +kernel
theorem dX7_doPiece_60 : decode cX7_doPiece 60 = .ok (.if_icmp .ne 6, 3) := by decide +kernel
theorem dX7_doPiece_63 : decode cX7_doPiece 63 = .ok (.bipush (-4), 2) := by decide +kernel
theorem dX7_doPiece_65 : decode cX7_doPiece 65 = .ok (.ireturn, 1) := by decide +kernel
theorem dX7_doPiece_66 : decode cX7_doPiece 66 = .ok (.aload_n 0, 1) := by decide +kernel
theorem dX7_doPiece_67 : decode cX7_doPiece 67 = .ok (.getfield 7, 3) := by decide +kernel
theorem dX7_doPiece_70 : decode cX7_doPiece 70 = .ok (.iconst 5, 1) := by decide +kernel
theorem dX7_doPiece_71 : decode cX7_doPiece 71 = .ok (.iaload, 1) := by decide +kernel
theorem dX7_doPiece_72 : decode cX7_doPiece 72 = .ok (.istore 5, 2) := by decide +kernel
theorem dX7_doPiece_74 : decode cX7_doPiece 74 = .ok (.aload_n 0, 1) := by decide +kernel
theorem dX7_doPiece_75 : decode cX7_doPiece 75 = .ok (.getfield 7, 3) := by decide +kernel
theorem dX7_doPiece_78 : decode cX7_doPiece 78 = .ok (.iconst 5, 1) := by decide +kernel
theorem dX7_doPiece_79 : decode cX7_doPiece 79 = .ok (.dup2, 1) := by decide +kernel
theorem dX7_doPiece_80 : decode cX7_doPiece 80 = .ok (.iaload, 1) := by decide +kernel
theorem dX7_doPiece_81 : decode cX7_doPiece 81 = .ok (.iconst 1, 1) := by decide +kernel
theorem dX7_doPiece_82 : decode cX7_doPiece 82 = .ok (.iadd, 1) := by decide +kernel
theorem dX7_doPiece_83 : decode cX7_doPiece 83 = .ok (.iastore, 1) := by decide +kernel
theorem dX7_doPiece_84 : decode cX7_doPiece 84 = .ok (.iconst 0, 1) := by decide +kernel
theorem dX7_doPiece_85 : decode cX7_doPiece 85 = .ok (.istore 6, 2) := by decide +kernel
theorem dX7_doPiece_87 : decode cX7_doPiece 87 = .ok (.iload 6, 2) := by decide +kernel
theorem dX7_doPiece_89 : decode cX7_doPiece 89 = .ok (.bipush 9, 2) := by decide +kernel
theorem dX7_doPiece_91 : decode cX7_doPiece 91 = .ok (.if_icmp .ge 18, 3) := by decide +kernel
theorem dX7_doPiece_94 : decode cX7_doPiece 94 = .ok (.aload_n 0, 1) := by decide +kernel
theorem dX7_doPiece_95 : decode cX7_doPiece 95 = .ok (.iload 5, 2) := by decide +kernel
theorem dX7_doPiece_97 : decode cX7_doPiece 97 = .ok (.iload 6, 2) := by decide +kernel
theorem dX7_doPiece_99 : decode cX7_doPiece 99 = .ok (.iconst 0, 1) := by decide +kernel
theorem dX7_doPiece_100 : decode cX7_doPiece 100 = .ok (.invokevirtual 53, 3) := by decide +kernel
theorem dX7_doPiece_103 : decode cX7_doPiece 103 = .ok (.iinc 6 1, 3) := by decide +kernel
theorem dX7_doPiece_106 : decode cX7_doPiece 106 = .ok (.goto (-19), 3) := by decide +kernel
theorem dX7_doPiece_109 : decode cX7_doPiece 109 = .ok (.aload_n 0, 1) := by decide +kernel
theorem dX7_doPiece_110 : decode cX7_doPiece 110 = .ok (.iload 5, 2) := by decide +kernel
theorem dX7_doPiece_112 : decode cX7_doPiece 112 = .ok (.iconst 0, 1) := by decide +kernel
theorem dX7_doPiece_113 : decode cX7_doPiece 113 = .ok (.iload_n 1, 1) := by decide +kernel
theorem dX7_doPiece_114 : decode cX7_doPiece 114 = .ok (.invokevirtual 53, 3) := by decide +kernel
theorem dX7_doPiece_117 : decode cX7_doPiece 117 = .ok (.aload_n 0, 1) := by decide +kernel
theorem dX7_doPiece_118 : decode cX7_doPiece 118 = .ok (.iload 5, 2) := by decide +kernel
theorem dX7_doPiece_120 : decode cX7_doPiece 120 = .ok (.iconst 1, 1) := by decide +kernel
theorem dX7_doPiece_121 : decode cX7_doPiece 121 = .ok (.iload_n 2, 1) := by decide +kernel
theorem dX7_doPiece_122 : decode cX7_doPiece 122 = .ok (.invokevirtual 53, 3) := by decide +kernel
theorem dX7_doPiece_125 : decode cX7_doPiece 125 = .ok (.aload_n 0, 1) := by decide +kernel
theorem dX7_doPiece_126 : decode cX7_doPiece 126 = .ok (.iload 5, 2) := by decide +kernel
theorem dX7_doPiece_128 : decode cX7_doPiece 128 = .ok (.iconst 2, 1) := by decide +kernel
theorem dX7_doPiece_129 : decode cX7_doPiece 129 = .ok (.iload_n 3, 1) := by decide +kernel
theorem dX7_doPiece_130 : decode cX7_doPiece 130 = .ok (.invokevirtual 53, 3) := by decide +kernel
theorem dX7_doPiece_133 : decode cX7_doPiece 133 = .ok (.aload_n 0, 1) := by decide +kernel
theorem dX7_doPiece_134 : decode cX7_doPiece 134 = .ok (.iload 5, 2) := by decide +kernel
theorem dX7_doPiece_136 : decode cX7_doPiece 136 = .ok (.iconst 3, 1) := by decide +kernel
theorem dX7_doPiece_137 : decode cX7_doPiece 137 = .ok (.iload 4, 2) := by decide +kernel
theorem dX7_doPiece_139 : decode cX7_doPiece 139 = .ok (.invokevirtual 53, 3) := by decide +kernel
theorem dX7_doPiece_142 : decode cX7_doPiece 142 = .ok (.aload_n 0, 1) := by decide +kernel
theorem dX7_doPiece_143 : decode cX7_doPiece 143 = .ok (.iload 5, 2) := by decide +kernel
theorem dX7_doPiece_145 : decode cX7_doPiece 145 = .ok (.bipush 8, 2) := by decide +kernel
theorem dX7_doPiece_147 : decode cX7_doPiece 147 = .ok (.bipush (-6), 2) := by decide +kernel
theorem dX7_doPiece_149 : decode cX7_doPiece 149 = .ok (.invokevirtual 53, 3) := by decide +kernel
theorem dX7_doPiece_152 : decode cX7_doPiece 152 = .ok (.aload_n 0, 1) := by decide +kernel
theorem dX7_doPiece_153 : decode cX7_doPiece 153 = .ok (.iload_n 1, 1) := by decide +kernel
theorem dX7_doPiece_154 : decode cX7_doPiece 154 = .ok (.iload 5, 2) := by decide +kernel
theorem dX7_doPiece_156 : decode cX7_doPiece 156 = .ok (.invokevirtual 61, 3) := by decide +kernel
theorem dX7_doPiece_159 : decode cX7_doPiece 159 = .ok (.iload 5, 2) := by decide +kernel
theorem dX7_doPiece_161 : decode cX7_doPiece 161 = .ok (.ireturn, 1) := by decide +kernel
theorem dX7_tells_0 : decode cX7_tells 0 = .ok (.aload_n 0, 1) := by decide +kernel
theorem dX7_tells_1 : decode cX7_tells 1 = .ok (.getfield 7, 3) := by decide +kernel
theorem dX7_tells_4 : decode cX7_tells 4 = .ok (.bipush 6, 2) := by decide +kernel
theorem dX7_tells_6 : decode cX7_tells 6 = .ok (.iaload, 1) := by decide +kernel
theorem dX7_tells_7 : decode cX7_tells 7 = .ok (.istore_n 3, 1) := by decide +kernel
theorem dX7_tells_8 : decode cX7_tells 8 = .ok (.iload_n 3, 1) := by decide +kernel
theorem dX7_tells_9 : decode cX7_tells 9 = .ok (.ifCond .le 60, 3) := by decide +kernel
theorem dX7_tells_12 : decode cX7_tells 12 = .ok (.aload_n 0, 1) := by decide +kernel
theorem dX7_tells_13 : decode cX7_tells 13 = .ok (.iload_n 3, 1) := by decide +kernel
theorem dX7_tells_14 : decode cX7_tells 14 = .ok (.iconst 1, 1) := by decide +kernel
theorem dX7_tells_15 : decode cX7_tells 15 = .ok (.isub, 1) := by decide +kernel
theorem dX7_tells_16 : decode cX7_tells 16 = .ok (.iconst 0, 1) := by decide +kernel
theorem dX7_tells_17 : decode cX7_tells 17 = .ok (.invokevirtual 85, 3) := by decide +kernel
theorem dX7_tells_20 : decode cX7_tells 20 = .ok (.iload_n 1, 1) := by decide +kernel
theorem dX7_tells_21 : decode cX7_tells 21 = .ok (.if_icmp .le 48, 3) := by decide +kernel
theorem dX7_tells_24 : decode cX7_tells 24 = .ok (.iconst 0, 1) := by decide +kernel
theorem dX7_tells_25 : decode cX7_tells 25 = .ok (.istore 4, 2) := by decide +kernel
theorem dX7_tells_27 : decode cX7_tells 27 = .ok (.iload 4, 2) := by decide +kernel
theorem dX7_tells_29 : decode cX7_tells 29 = .ok (.iconst 4, 1) := by decide +kernel
theorem dX7_tells_30 : decode cX7_tells 30 = .ok (.if_icmp .ge 33, 3) := by decide +kernel
theorem dX7_tells_33 : decode cX7_tells 33 = .ok (.aload_n 0, 1) := by decide +kernel
theorem dX7_tells_34 : decode cX7_tells 34 = .ok (.getfield 7, 3) := by decide +kernel
theorem dX7_tells_37 : decode cX7_tells 37 = .ok (.sipush 374, 3) := by decide +kernel
theorem dX7_tells_40 : decode cX7_tells 40 = .ok (.iconst 4, 1) := by decide +kernel
theorem dX7_tells_41 : decode cX7_tells 41 = .ok (.iload_n 3, 1) := by decide +kernel
theorem dX7_tells_42 : decode cX7_tells 42 = .ok (.imul, 1) := by decide +kernel
theorem dX7_tells_43 : decode cX7_tells 43 = .ok (.iadd, 1) := by decide +kernel
theorem dX7_tells_44 : decode cX7_tells 44 = .ok (.iload 4, 2) := by decide +kernel
theorem dX7_tells_46 : decode cX7_tells 46 = .ok (.iadd, 1) := by decide +kernel
theorem dX7_tells_47 : decode cX7_tells 47 = .ok (.aload_n 0, 1) := by decide +kernel
theorem dX7_tells_48 : decode cX7_tells 48 = .ok (.iload_n 3, 1) := by decide +kernel
theorem dX7_tells_49 : decode cX7_tells 49 = .ok (.iconst 1, 1) := by decide +kernel
theorem dX7_tells_50 : decode cX7_tells 50 = .ok (.isub, 1) := by decide +kernel
theorem dX7_tells_51 : decode cX7_tells 51 = .ok (.iload 4, 2) := by decide +kernel
theorem dX7_tells_53 : decode cX7_tells 53 = .ok (.invokevirtual 85, 3) := by decide +kernel
theorem dX7_tells_56 : decode cX7_tells 56 = .ok (.iastore, 1) := by decide +kernel
theorem dX7_tells_57 : decode cX7_tells 57 = .ok (.iinc 4 1, 3) := by decide +kernel
theorem dX7_tells_60 : decode cX7_tells 60 = .ok (.goto (-33), 3) := by decide +kernel
theorem dX7_tells_63 : decode cX7_tells 63 = .ok (.iinc 3 (-1), 3) := by decide +kernel
theorem dX7_tells_66 : decode cX7_tells 66 = .ok (.goto (-58), 3) := by decide +kernel
theorem dX7_tells_69 : decode cX7_tells 69 = .ok (.aload_n 0, 1) := by decide +kernel
theorem dX7_tells_70 : decode cX7_tells 70 = .ok (.getfield 7, 3) := by decide +kernel
theorem dX7_tells_73 : decode cX7_tells 73 = .ok (.bipush 6, 2) := by decide +kernel
theorem dX7_tells_75 : decode cX7_tells 75 = .ok (.dup2, 1) := by decide +kernel
theorem dX7_tells_76 : decode cX7_tells 76 = .ok (.iaload, 1) := by decide +kernel
theorem dX7_tells_77 : decode cX7_tells 77 = .ok (.iconst 1, 1) := by decide +kernel
theorem dX7_tells_78 : decode cX7_tells 78 = .ok (.iadd, 1) := by decide +kernel
theorem dX7_tells_79 : decode cX7_tells 79 = .ok (.iastore, 1) := by decide +kernel
theorem dX7_tells_80 : decode cX7_tells 80 = .ok (.aload_n 0, 1) := by decide +kernel
theorem dX7_tells_81 : decode cX7_tells 81 = .ok (.getfield 7, 3) := by decide +kernel
theorem dX7_tells_84 : decode cX7_tells 84 = .ok (.sipush 374, 3) := by decide +kernel
theorem dX7_tells_87 : decode cX7_tells 87 = .ok (.iconst 4, 1) := by decide +kernel
theorem dX7_tells_88 : decode cX7_tells 88 = .ok (.iload_n 3, 1) := by decide +kernel
theorem dX7_tells_89 : decode cX7_tells 89 = .ok (.imul, 1) := by decide +kernel
theorem dX7_tells_90 : decode cX7_tells 90 = .ok (.iadd, 1) := by decide +kernel
theorem dX7_tells_91 : decode cX7_tells 91 = .ok (.iconst 0, 1) := by decide +kernel
theorem dX7_tells_92 : decode cX7_tells 92 = .ok (.iadd, 1) := by decide +kernel
theorem dX7_tells_93 : decode cX7_tells 93 = .ok (.iload_n 1, 1) := by decide +kernel
theorem dX7_tells_94 : decode cX7_tells 94 = .ok (.iastore, 1) := by decide +kernel
theorem dX7_tells_95 : decode cX7_tells 95 = .ok (.aload_n 0, 1) := by decide +kernel
theorem dX7_tells_96 : decode cX7_tells 96 = .ok (.getfield 7, 3) := by decide +kernel
theorem dX7_tells_99 : decode cX7_tells 99 = .ok (.sipush 374, 3) := by decide +kernel
theorem dX7_tells_102 : decode cX7_tells 102 = .ok (.iconst 4, 1) := by decide +kernel
theorem dX7_tells_103 : decode cX7_tells 103 = .ok (.iload_n 3, 1) := by decide +kernel
theorem dX7_tells_104 : decode cX7_tells 104 = .ok (.imul, 1) := by decide +kernel
theorem dX7_tells_105 : decode cX7_tells 105 = .ok (.iadd, 1) := by decide +kernel
theorem dX7_tells_106 : decode cX7_tells 106 = .ok (.iconst 1, 1) := by decide +kernel
theorem dX7_tells_107 : decode cX7_tells 107 = .ok (.iadd, 1) := by decide +kernel
theorem dX7_tells_108 : decode cX7_tells 108 = .ok (.iconst 0, 1) := by decide +kernel
theorem dX7_tells_109 : decode cX7_tells 109 = .ok (.iastore, 1) := by decide +kernel
theorem dX7_tells_110 : decode cX7_tells 110 = .ok (.aload_n 0, 1) := by decide +kernel
theorem dX7_tells_111 : decode cX7_tells 111 = .ok (.getfield 7, 3) := by decide +kernel
theorem dX7_tells_114 : decode cX7_tells 114 = .ok (.sipush 374, 3) := by decide +kernel
theorem dX7_tells_117 : decode cX7_tells 117 = .ok (.iconst 4, 1) := by decide +kernel
theorem dX7_tells_118 : decode cX7_tells 118 = .ok (.iload_n 3, 1) := by decide +kernel
theorem dX7_tells_119 : decode cX7_tells 119 = .ok (.imul, 1) := by decide +kernel
theorem dX7_tells_120 : decode cX7_tells 120 = .ok (.iadd, 1) := by decide +kernel
theorem dX7_tells_121 : decode cX7_tells 121 = .ok (.iconst 2, 1) := by decide +kernel
theorem dX7_tells_122 : decode cX7_tells 122 = .ok (.iadd, 1) := by decide +kernel
theorem dX7_tells_123 : decode cX7_tells 123 = .ok (.iload_n 2, 1) := by decide +kernel
theorem dX7_tells_124 : decode cX7_tells 124 = .ok (.iastore, 1) := by decide +kernel
theorem dX7_tells_125 : decode cX7_tells 125 = .ok (.aload_n 0, 1) := by decide +kernel
theorem dX7_tells_126 : decode cX7_tells 126 = .ok (.getfield 7, 3) := by decide +kernel
theorem dX7_tells_129 : decode cX7_tells 129 = .ok (.sipush 374, 3) := by decide +kernel
theorem dX7_tells_132 : decode cX7_tells 132 = .ok (.iconst 4, 1) := by decide +kernel
theorem dX7_tells_133 : decode cX7_tells 133 = .ok (.iload_n 3, 1) := by decide +kernel
theorem dX7_tells_134 : decode cX7_tells 134 = .ok (.imul, 1) := by decide +kernel
theorem dX7_tells_135 : decode cX7_tells 135 = .ok (.iadd, 1) := by decide +kernel
theorem dX7_tells_136 : decode cX7_tells 136 = .ok (.iconst 3, 1) := by decide +kernel
theorem dX7_tells_137 : decode cX7_tells 137 = .ok (.iadd, 1) := by decide +kernel
theorem dX7_tells_138 : decode cX7_tells 138 = .ok (.iconst 0, 1) := by decide +kernel
theorem dX7_tells_139 : decode cX7_tells 139 = .ok (.iastore, 1) := by decide +kernel
theorem dX7_tells_140 : decode cX7_tells 140 = .ok (.iload_n 3, 1) := by decide +kernel
theorem dX7_tells_141 : decode cX7_tells 141 = .ok (.ireturn, 1) := by decide +kernel
theorem dX7_doPlate_0 : decode cX7_doPlate 0 = .ok (.iload_n 1, 1) := by decide +kernel
theorem dX7_doPlate_1 : decode cX7_doPlate 1 = .ok (.i2l, 1) := by decide +kernel
theorem dX7_doPlate_2 : decode cX7_doPlate 2 = .ok (.aload_n 0, 1) := by decide +kernel
theorem dX7_doPlate_3 : decode cX7_doPlate 3 = .ok (.getfield 7, 3) := by decide +kernel
theorem dX7_doPlate_6 : decode cX7_doPlate 6 = .ok (.iconst 4, 1) := by decide +kernel
theorem dX7_doPlate_7 : decode cX7_doPlate 7 = .ok (.iaload, 1) := by decide +kernel
theorem dX7_doPlate_8 : decode cX7_doPlate 8 = .ok (.i2l, 1) := by decide +kernel
theorem dX7_doPlate_9 : decode cX7_doPlate 9 = .ok (.ldc2_w 109, 3) := by decide +kernel
theorem dX7_doPlate_12 : decode cX7_doPlate 12 = .ok (.invokestatic 35, 3) := by decide +kernel
theorem dX7_doPlate_15 : decode cX7_doPlate 15 = .ok (.ifCond .ne 6, 3) := by decide +kernel
theorem dX7_doPlate_18 : decode cX7_doPlate 18 = .ok (.bipush (-2), 2) := by decide +kernel
theorem dX7_doPlate_20 : decode cX7_doPlate 20 = .ok (.ireturn, 1) := by decide +kernel
theorem dX7_doPlate_21 : decode cX7_doPlate 21 = .ok (.aload_n 0, 1) := by decide +kernel
theorem dX7_doPlate_22 : decode cX7_doPlate 22 = .ok (.getfield 7, 3) := by decide +kernel
theorem dX7_doPlate_25 : decode cX7_doPlate 25 = .ok (.bipush 6, 2) := by decide +kernel
theorem dX7_doPlate_27 : decode cX7_doPlate 27 = .ok (.iaload, 1) := by decide +kernel
theorem dX7_doPlate_28 : decode cX7_doPlate 28 = .ok (.bipush 8, 2) := by decide +kernel
theorem dX7_doPlate_30 : decode cX7_doPlate 30 = .ok (.if_icmp .ne 6, 3) := by decide +kernel
theorem dX7_doPlate_33 : decode cX7_doPlate 33 = .ok (.bipush (-4), 2) := by decide +kernel
theorem dX7_doPlate_35 : decode cX7_doPlate 35 = .ok (.ireturn, 1) := by decide +kernel
theorem dX7_doPlate_36 : decode cX7_doPlate 36 = .ok (.aload_n 0, 1) := by decide +kernel
theorem dX7_doPlate_37 : decode cX7_doPlate 37 = .ok (.iload_n 1, 1) := by decide +kernel
theorem dX7_doPlate_38 : decode cX7_doPlate 38 = .ok (.invokevirtual 97, 3) := by decide +kernel
theorem dX7_doPlate_41 : decode cX7_doPlate 41 = .ok (.bipush (-6), 2) := by decide +kernel
theorem dX7_doPlate_43 : decode cX7_doPlate 43 = .ok (.if_icmp .ne 12, 3) := by decide +kernel
theorem dX7_doPlate_46 : decode cX7_doPlate 46 = .ok (.aload_n 0, 1) := by decide +kernel
theorem dX7_doPlate_47 : decode cX7_doPlate 47 = .ok (.iload_n 1, 1) := by decide +kernel
theorem dX7_doPlate_48 : decode cX7_doPlate 48 = .ok (.iconst 0, 1) := by decide +kernel
theorem dX7_doPlate_49 : decode cX7_doPlate 49 = .ok (.invokevirtual 111, 3) := by decide +kernel
theorem dX7_doPlate_52 : decode cX7_doPlate 52 = .ok (.goto 5, 3) := by decide +kernel
theorem dX7_doPlate_55 : decode cX7_doPlate 55 = .ok (.bipush (-5), 2) := by decide +kernel
theorem dX7_doPlate_57 : decode cX7_doPlate 57 = .ok (.ireturn, 1) := by decide +kernel
theorem dX7_doHold_0 : decode cX7_doHold 0 = .ok (.aload_n 0, 1) := by decide +kernel
theorem dX7_doHold_1 : decode cX7_doHold 1 = .ok (.iload_n 1, 1) := by decide +kernel
theorem dX7_doHold_2 : decode cX7_doHold 2 = .ok (.invokevirtual 114, 3) := by decide +kernel
theorem dX7_doHold_5 : decode cX7_doHold 5 = .ok (.ifCond .ne 5, 3) := by decide +kernel
theorem dX7_doHold_8 : decode cX7_doHold 8 = .ok (.iconst (-1), 1) := by decide +kernel
theorem dX7_doHold_9 : decode cX7_doHold 9 = .ok (.ireturn, 1) := by decide +kernel
theorem dX7_doHold_10 : decode cX7_doHold 10 = .ok (.aload_n 0, 1) := by decide +kernel
theorem dX7_doHold_11 : decode cX7_doHold 11 = .ok (.iload_n 1, 1) := by decide +kernel
theorem dX7_doHold_12 : decode cX7_doHold 12 = .ok (.iconst 4, 1) := by decide +kernel
theorem dX7_doHold_13 : decode cX7_doHold 13 = .ok (.invokevirtual 39, 3) := by decide +kernel
theorem dX7_doHold_16 : decode cX7_doHold 16 = .ok (.iconst 3, 1) := by decide +kernel
theorem dX7_doHold_17 : decode cX7_doHold 17 = .ok (.if_icmp .ne 6, 3) := by decide +kernel
theorem dX7_doHold_20 : decode cX7_doHold 20 = .ok (.bipush (-5), 2) := by decide +kernel
theorem dX7_doHold_22 : decode cX7_doHold 22 = .ok (.ireturn, 1) := by decide +kernel
theorem dX7_doHold_23 : decode cX7_doHold 23 = .ok (.aload_n 0, 1) := by decide +kernel
theorem dX7_doHold_24 : decode cX7_doHold 24 = .ok (.iload_n 1, 1) := by decide +kernel
theorem dX7_doHold_25 : decode cX7_doHold 25 = .ok (.iconst 5, 1) := by decide +kernel
theorem dX7_doHold_26 : decode cX7_doHold 26 = .ok (.iconst 1, 1) := by decide +kernel
theorem dX7_doHold_27 : decode cX7_doHold 27 = .ok (.aload_n 0, 1) := by decide +kernel
theorem dX7_doHold_28 : decode cX7_doHold 28 = .ok (.iload_n 1, 1) := by decide +kernel
theorem dX7_doHold_29 : decode cX7_doHold 29 = .ok (.iconst 5, 1) := by decide +kernel
theorem dX7_doHold_30 : decode cX7_doHold 30 = .ok (.invokevirtual 39, 3) := by decide +kernel
theorem dX7_doHold_33 : decode cX7_doHold 33 = .ok (.isub, 1) := by decide +kernel
theorem dX7_doHold_34 : decode cX7_doHold 34 = .ok (.invokevirtual 53, 3) := by decide +kernel
theorem dX7_doHold_37 : decode cX7_doHold 37 = .ok (.aload_n 0, 1) := by decide +kernel
theorem dX7_doHold_38 : decode cX7_doHold 38 = .ok (.iload_n 1, 1) := by decide +kernel
theorem dX7_doHold_39 : decode cX7_doHold 39 = .ok (.iconst 5, 1) := by decide +kernel
theorem dX7_doHold_40 : decode cX7_doHold 40 = .ok (.invokevirtual 39, 3) := by decide +kernel
theorem dX7_doHold_43 : decode cX7_doHold 43 = .ok (.ireturn, 1) := by decide +kernel
theorem dX7_isOnLatest_0 : decode cX7_isOnLatest 0 = .ok (.aload_n 0, 1) := by decide +kernel
theorem dX7_isOnLatest_1 : decode cX7_isOnLatest 1 = .ok (.getfield 7, 3) := by decide +kernel
theorem dX7_isOnLatest_4 : decode cX7_isOnLatest 4 = .ok (.bipush 7, 2) := by decide +kernel
theorem dX7_isOnLatest_6 : decode cX7_isOnLatest 6 = .ok (.iaload, 1) := by decide +kernel
theorem dX7_isOnLatest_7 : decode cX7_isOnLatest 7 = .ok (.ifCond .le 29, 3) := by decide +kernel
theorem dX7_isOnLatest_10 : decode cX7_isOnLatest 10 = .ok (.aload_n 0, 1) := by decide +kernel
theorem dX7_isOnLatest_11 : decode cX7_isOnLatest 11 = .ok (.aload_n 0, 1) := by decide +kernel
theorem dX7_isOnLatest_12 : decode cX7_isOnLatest 12 = .ok (.getfield 7, 3) := by decide +kernel
theorem dX7_isOnLatest_15 : decode cX7_isOnLatest 15 = .ok (.bipush 7, 2) := by decide +kernel
theorem dX7_isOnLatest_17 : decode cX7_isOnLatest 17 = .ok (.iaload, 1) := by decide +kernel
theorem dX7_isOnLatest_18 : decode cX7_isOnLatest 18 = .ok (.iconst 1, 1) := by decide +kernel
theorem dX7_isOnLatest_19 : decode cX7_isOnLatest 19 = .ok (.isub, 1) := by decide +kernel
theorem dX7_isOnLatest_20 : decode cX7_isOnLatest 20 = .ok (.iconst 3, 1) := by decide +kernel
theorem dX7_isOnLatest_21 : decode cX7_isOnLatest 21 = .ok (.invokevirtual 85, 3) := by decide +kernel
theorem dX7_isOnLatest_24 : decode cX7_isOnLatest 24 = .ok (.iload_n 1, 1) := by decide +kernel
theorem dX7_isOnLatest_25 : decode cX7_isOnLatest 25 = .ok (.ishr, 1) := by decide +kernel
theorem dX7_isOnLatest_26 : decode cX7_isOnLatest 26 = .ok (.iconst 1, 1) := by decide +kernel
theorem dX7_isOnLatest_27 : decode cX7_isOnLatest 27 = .ok (.iand, 1) := by decide +kernel
theorem dX7_isOnLatest_28 : decode cX7_isOnLatest 28 = .ok (.iconst 1, 1) := by decide +kernel
theorem dX7_isOnLatest_29 : decode cX7_isOnLatest 29 = .ok (.if_icmp .ne 7, 3) := by decide +kernel
theorem dX7_isOnLatest_32 : decode cX7_isOnLatest 32 = .ok (.iconst 1, 1) := by decide +kernel
theorem dX7_isOnLatest_33 : decode cX7_isOnLatest 33 = .ok (.goto 4, 3) := by decide +kernel
theorem dX7_isOnLatest_36 : decode cX7_isOnLatest 36 = .ok (.iconst 0, 1) := by decide +kernel
theorem dX7_isOnLatest_37 : decode cX7_isOnLatest 37 = .ok (.ireturn, 1) := by decide +kernel
theorem dX7_isDueSoon_0 : decode cX7_isDueSoon 0 = .ok (.iconst 0, 1) := by decide +kernel
theorem dX7_isDueSoon_1 : decode cX7_isDueSoon 1 = .ok (.istore_n 1, 1) := by decide +kernel
theorem dX7_isDueSoon_2 : decode cX7_isDueSoon 2 = .ok (.iconst 0, 1) := by decide +kernel
theorem dX7_isDueSoon_3 : decode cX7_isDueSoon 3 = .ok (.istore_n 2, 1) := by decide +kernel
theorem dX7_isDueSoon_4 : decode cX7_isDueSoon 4 = .ok (.iload_n 2, 1) := by decide +kernel
theorem dX7_isDueSoon_5 : decode cX7_isDueSoon 5 = .ok (.aload_n 0, 1) := by decide +kernel
theorem dX7_isDueSoon_6 : decode cX7_isDueSoon 6 = .ok (.getfield 7, 3) := by decide +kernel
theorem dX7_isDueSoon_9 : decode cX7_isDueSoon 9 = .ok (.bipush 6, 2) := by decide +kernel
theorem dX7_isDueSoon_11 : decode cX7_isDueSoon 11 = .ok (.iaload, 1) := by decide +kernel
theorem dX7_isDueSoon_12 : decode cX7_isDueSoon 12 = .ok (.if_icmp .ge 53, 3) := by decide +kernel
theorem dX7_isDueSoon_15 : decode cX7_isDueSoon 15 = .ok (.iload_n 1, 1) := by decide +kernel
theorem dX7_isDueSoon_16 : decode cX7_isDueSoon 16 = .ok (.ifCond .ne 37, 3) := by decide +kernel
theorem dX7_isDueSoon_19 : decode cX7_isDueSoon 19 = .ok (.aload_n 0, 1) := by decide +kernel
theorem dX7_isDueSoon_20 : decode cX7_isDueSoon 20 = .ok (.iload_n 2, 1) := by decide +kernel
theorem dX7_isDueSoon_21 : decode cX7_isDueSoon 21 = .ok (.iconst 0, 1) := by decide +kernel
theorem dX7_isDueSoon_22 : decode cX7_isDueSoon 22 = .ok (.invokevirtual 85, 3) := by decide +kernel
theorem dX7_isDueSoon_25 : decode cX7_isDueSoon 25 = .ok (.i2l, 1) := by decide +kernel
theorem dX7_isDueSoon_26 : decode cX7_isDueSoon 26 = .ok (.aload_n 0, 1) := by decide +kernel
theorem dX7_isDueSoon_27 : decode cX7_isDueSoon 27 = .ok (.getfield 7, 3) := by decide +kernel
theorem dX7_isDueSoon_30 : decode cX7_isDueSoon 30 = .ok (.iconst 4, 1) := by decide +kernel
theorem dX7_isDueSoon_31 : decode cX7_isDueSoon 31 = .ok (.iaload, 1) := by decide +kernel
theorem dX7_isDueSoon_32 : decode cX7_isDueSoon 32 = .ok (.i2l, 1) := by decide +kernel
theorem dX7_isDueSoon_33 : decode cX7_isDueSoon 33 = .ok (.aload_n 0, 1) := by decide +kernel
theorem dX7_isDueSoon_34 : decode cX7_isDueSoon 34 = .ok (.getfield 7, 3) := by decide +kernel
theorem dX7_isDueSoon_37 : decode cX7_isDueSoon 37 = .ok (.iconst 4, 1) := by decide +kernel
theorem dX7_isDueSoon_38 : decode cX7_isDueSoon 38 = .ok (.iaload, 1) := by decide +kernel
theorem dX7_isDueSoon_39 : decode cX7_isDueSoon 39 = .ok (.aload_n 0, 1) := by decide +kernel
theorem dX7_isDueSoon_40 : decode cX7_isDueSoon 40 = .ok (.getfield 7, 3) := by decide +kernel
theorem dX7_isDueSoon_43 : decode cX7_isDueSoon 43 = .ok (.iconst 3, 1) := by decide +kernel
theorem dX7_isDueSoon_44 : decode cX7_isDueSoon 44 = .ok (.iaload, 1) := by decide +kernel
theorem dX7_isDueSoon_45 : decode cX7_isDueSoon 45 = .ok (.iadd, 1) := by decide +kernel
theorem dX7_isDueSoon_46 : decode cX7_isDueSoon 46 = .ok (.i2l, 1) := by decide +kernel
theorem dX7_isDueSoon_47 : decode cX7_isDueSoon 47 = .ok (.invokestatic 35, 3) := by decide +kernel
theorem dX7_isDueSoon_50 : decode cX7_isDueSoon 50 = .ok (.ifCond .eq 7, 3) := by decide +kernel
theorem dX7_isDueSoon_53 : decode cX7_isDueSoon 53 = .ok (.iconst 1, 1) := by decide +kernel
theorem dX7_isDueSoon_54 : decode cX7_isDueSoon 54 = .ok (.goto 4, 3) := by decide +kernel
theorem dX7_isDueSoon_57 : decode cX7_isDueSoon 57 = .ok (.iconst 0, 1) := by decide +kernel
theorem dX7_isDueSoon_58 : decode cX7_isDueSoon 58 = .ok (.istore_n 1, 1) := by decide +kernel
theorem dX7_isDueSoon_59 : decode cX7_isDueSoon 59 = .ok (.iinc 2 1, 3) := by decide +kernel
theorem dX7_isDueSoon_62 : decode cX7_isDueSoon 62 = .ok (.goto (-58), 3) := by decide +kernel
theorem dX7_isDueSoon_65 : decode cX7_isDueSoon 65 = .ok (.iload_n 1, 1) := by decide +kernel
theorem dX7_isDueSoon_66 : decode cX7_isDueSoon 66 = .ok (.ireturn, 1) := by decide +kernel
theorem dX7_doKill_0 : decode cX7_doKill 0 = .ok (.aload_n 0, 1) := by decide +kernel
theorem dX7_doKill_1 : decode cX7_doKill 1 = .ok (.iload_n 1, 1) := by decide +kernel
theorem dX7_doKill_2 : decode cX7_doKill 2 = .ok (.invokevirtual 114, 3) := by decide +kernel
theorem dX7_doKill_5 : decode cX7_doKill 5 = .ok (.ifCond .ne 5, 3) := by decide +kernel
theorem dX7_doKill_8 : decode cX7_doKill 8 = .ok (.iconst (-1), 1) := by decide +kernel
theorem dX7_doKill_9 : decode cX7_doKill 9 = .ok (.ireturn, 1) := by decide +kernel
theorem dX7_doKill_10 : decode cX7_doKill 10 = .ok (.aload_n 0, 1) := by decide +kernel
theorem dX7_doKill_11 : decode cX7_doKill 11 = .ok (.iload_n 1, 1) := by decide +kernel
theorem dX7_doKill_12 : decode cX7_doKill 12 = .ok (.iconst 4, 1) := by decide +kernel
theorem dX7_doKill_13 : decode cX7_doKill 13 = .ok (.invokevirtual 39, 3) := by decide +kernel
theorem dX7_doKill_16 : decode cX7_doKill 16 = .ok (.iconst 3, 1) := by decide +kernel
theorem dX7_doKill_17 : decode cX7_doKill 17 = .ok (.if_icmp .ne 6, 3) := by decide +kernel
theorem dX7_doKill_20 : decode cX7_doKill 20 = .ok (.bipush (-5), 2) := by decide +kernel
theorem dX7_doKill_22 : decode cX7_doKill 22 = .ok (.ireturn, 1) := by decide +kernel
theorem dX7_doKill_23 : decode cX7_doKill 23 = .ok (.aload_n 0, 1) := by decide +kernel
theorem dX7_doKill_24 : decode cX7_doKill 24 = .ok (.iload_n 1, 1) := by decide +kernel
theorem dX7_doKill_25 : decode cX7_doKill 25 = .ok (.invokevirtual 57, 3) := by decide +kernel
theorem dX7_doKill_28 : decode cX7_doKill 28 = .ok (.aload_n 0, 1) := by decide +kernel
theorem dX7_doKill_29 : decode cX7_doKill 29 = .ok (.iload_n 1, 1) := by decide +kernel
theorem dX7_doKill_30 : decode cX7_doKill 30 = .ok (.iconst 4, 1) := by decide +kernel
theorem dX7_doKill_31 : decode cX7_doKill 31 = .ok (.iconst 3, 1) := by decide +kernel
theorem dX7_doKill_32 : decode cX7_doKill 32 = .ok (.invokevirtual 53, 3) := by decide +kernel
theorem dX7_doKill_35 : decode cX7_doKill 35 = .ok (.aload_n 0, 1) := by decide +kernel
theorem dX7_doKill_36 : decode cX7_doKill 36 = .ok (.getfield 7, 3) := by decide +kernel
theorem dX7_doKill_39 : decode cX7_doKill 39 = .ok (.iconst 4, 1) := by decide +kernel
theorem dX7_doKill_40 : decode cX7_doKill 40 = .ok (.iaload, 1) := by decide +kernel
theorem dX7_doKill_41 : decode cX7_doKill 41 = .ok (.aload_n 0, 1) := by decide +kernel
theorem dX7_doKill_42 : decode cX7_doKill 42 = .ok (.getfield 7, 3) := by decide +kernel
theorem dX7_doKill_45 : decode cX7_doKill 45 = .ok (.iconst 3, 1) := by decide +kernel
theorem dX7_doKill_46 : decode cX7_doKill 46 = .ok (.iaload, 1) := by decide +kernel
theorem dX7_doKill_47 : decode cX7_doKill 47 = .ok (.iadd, 1) := by decide +kernel
theorem dX7_doKill_48 : decode cX7_doKill 48 = .ok (.istore_n 2, 1) := by decide +kernel
theorem dX7_doKill_49 : decode cX7_doKill 49 = .ok (.aload_n 0, 1) := by decide +kernel
theorem dX7_doKill_50 : decode cX7_doKill 50 = .ok (.iload_n 1, 1) := by decide +kernel
theorem dX7_doKill_51 : decode cX7_doKill 51 = .ok (.invokevirtual 117, 3) := by decide +kernel
theorem dX7_doKill_54 : decode cX7_doKill 54 = .ok (.ifCond .eq 29, 3) := by decide +kernel
theorem dX7_doKill_57 : decode cX7_doKill 57 = .ok (.aload_n 0, 1) := by decide +kernel
theorem dX7_doKill_58 : decode cX7_doKill 58 = .ok (.invokevirtual 120, 3) := by decide +kernel
theorem dX7_doKill_61 : decode cX7_doKill 61 = .ok (.ifCond .ne 22, 3) := by decide +kernel
theorem dX7_doKill_64 : decode cX7_doKill 64 = .ok (.aload_n 0, 1) := by decide +kernel
theorem dX7_doKill_65 : decode cX7_doKill 65 = .ok (.getfield 7, 3) := by decide +kernel
theorem dX7_doKill_68 : decode cX7_doKill 68 = .ok (.bipush 6, 2) := by decide +kernel
theorem dX7_doKill_70 : decode cX7_doKill 70 = .ok (.iaload, 1) := by decide +kernel
theorem dX7_doKill_71 : decode cX7_doKill 71 = .ok (.bipush 8, 2) := by decide +kernel
theorem dX7_doKill_73 : decode cX7_doKill 73 = .ok (.if_icmp .eq 10, 3) := by decide +kernel
theorem dX7_doKill_76 : decode cX7_doKill 76 = .ok (.iload_n 2, 1) := by decide +kernel
theorem dX7_doKill_77 : decode cX7_doKill 77 = .ok (.sipush 599, 3) := by decide +kernel
theorem dX7_doKill_80 : decode cX7_doKill 80 = .ok (.if_icmp .le 5, 3) := by decide +kernel
theorem dX7_doKill_83 : decode cX7_doKill 83 = .ok (.iconst 0, 1) := by decide +kernel
theorem dX7_doKill_84 : decode cX7_doKill 84 = .ok (.ireturn, 1) := by decide +kernel
theorem dX7_doKill_85 : decode cX7_doKill 85 = .ok (.aload_n 0, 1) := by decide +kernel
theorem dX7_doKill_86 : decode cX7_doKill 86 = .ok (.iload_n 2, 1) := by decide +kernel
theorem dX7_doKill_87 : decode cX7_doKill 87 = .ok (.iconst 1, 1) := by decide +kernel
theorem dX7_doKill_88 : decode cX7_doKill 88 = .ok (.invokevirtual 111, 3) := by decide +kernel
theorem dX7_doKill_91 : decode cX7_doKill 91 = .ok (.istore_n 3, 1) := by decide +kernel
theorem dX7_doKill_92 : decode cX7_doKill 92 = .ok (.iconst 1, 1) := by decide +kernel
theorem dX7_doKill_93 : decode cX7_doKill 93 = .ok (.ireturn, 1) := by decide +kernel
theorem dX7_doPass_0 : decode cX7_doPass 0 = .ok (.iload_n 1, 1) := by decide +kernel
theorem dX7_doPass_1 : decode cX7_doPass 1 = .ok (.iconst 1, 1) := by decide +kernel
theorem dX7_doPass_2 : decode cX7_doPass 2 = .ok (.if_icmp .ge 6, 3) := by decide +kernel
theorem dX7_doPass_5 : decode cX7_doPass 5 = .ok (.bipush (-2), 2) := by decide +kernel
theorem dX7_doPass_7 : decode cX7_doPass 7 = .ok (.ireturn, 1) := by decide +kernel
theorem dX7_doPass_8 : decode cX7_doPass 8 = .ok (.iload_n 1, 1) := by decide +kernel
theorem dX7_doPass_9 : decode cX7_doPass 9 = .ok (.sipush 600, 3) := by decide +kernel
theorem dX7_doPass_12 : decode cX7_doPass 12 = .ok (.aload_n 0, 1) := by decide +kernel
theorem dX7_doPass_13 : decode cX7_doPass 13 = .ok (.getfield 7, 3) := by decide +kernel
theorem dX7_doPass_16 : decode cX7_doPass 16 = .ok (.iconst 4, 1) := by decide +kernel
theorem dX7_doPass_17 : decode cX7_doPass 17 = .ok (.iaload, 1) := by decide +kernel
theorem dX7_doPass_18 : decode cX7_doPass 18 = .ok (.isub, 1) := by decide +kernel
theorem dX7_doPass_19 : decode cX7_doPass 19 = .ok (.if_icmp .le 6, 3) := by decide +kernel
theorem dX7_doPass_22 : decode cX7_doPass 22 = .ok (.bipush (-5), 2) := by decide +kernel
theorem dX7_doPass_24 : decode cX7_doPass 24 = .ok (.ireturn, 1) := by decide +kernel
theorem dX7_doPass_25 : decode cX7_doPass 25 = .ok (.iconst 0, 1) := by decide +kernel
theorem dX7_doPass_26 : decode cX7_doPass 26 = .ok (.istore_n 2, 1) := by decide +kernel
theorem dX7_doPass_27 : decode cX7_doPass 27 = .ok (.iconst 0, 1) := by decide +kernel
theorem dX7_doPass_28 : decode cX7_doPass 28 = .ok (.istore_n 3, 1) := by decide +kernel
theorem dX7_doPass_29 : decode cX7_doPass 29 = .ok (.iload_n 3, 1) := by decide +kernel
theorem dX7_doPass_30 : decode cX7_doPass 30 = .ok (.iload_n 1, 1) := by decide +kernel
theorem dX7_doPass_31 : decode cX7_doPass 31 = .ok (.if_icmp .ge 16, 3) := by decide +kernel
theorem dX7_doPass_34 : decode cX7_doPass 34 = .ok (.iload_n 2, 1) := by decide +kernel
theorem dX7_doPass_35 : decode cX7_doPass 35 = .ok (.aload_n 0, 1) := by decide +kernel
theorem dX7_doPass_36 : decode cX7_doPass 36 = .ok (.invokevirtual 124, 3) := by decide +kernel
theorem dX7_doPass_39 : decode cX7_doPass 39 = .ok (.iadd, 1) := by decide +kernel
theorem dX7_doPass_40 : decode cX7_doPass 40 = .ok (.istore_n 2, 1) := by decide +kernel
theorem dX7_doPass_41 : decode cX7_doPass 41 = .ok (.iinc 3 1, 3) := by decide +kernel
theorem dX7_doPass_44 : decode cX7_doPass 44 = .ok (.goto (-15), 3) := by decide +kernel
theorem dX7_doPass_47 : decode cX7_doPass 47 = .ok (.iload_n 2, 1) := by decide +kernel
theorem dX7_doPass_48 : decode cX7_doPass 48 = .ok (.ireturn, 1) := by decide +kernel
theorem dX7_isSetting_0 : decode cX7_isSetting 0 = .ok (.iload_n 0, 1) := by decide +kernel
theorem dX7_isSetting_1 : decode cX7_isSetting 1 = .ok (.tableswitch 51 0 3 #[31, 41, 51, 41], 31) := by decide +kernel
theorem dX7_isSetting_32 : decode cX7_isSetting 32 = .ok (.iload_n 1, 1) := by decide +kernel
theorem dX7_isSetting_33 : decode cX7_isSetting 33 = .ok (.i2l, 1) := by decide +kernel
theorem dX7_isSetting_34 : decode cX7_isSetting 34 = .ok (.lconst 1, 1) := by decide +kernel
theorem dX7_isSetting_35 : decode cX7_isSetting 35 = .ok (.ldc2_w 128, 3) := by decide +kernel
theorem dX7_isSetting_38 : decode cX7_isSetting 38 = .ok (.invokestatic 35, 3) := by decide +kernel
theorem dX7_isSetting_41 : decode cX7_isSetting 41 = .ok (.ireturn, 1) := by decide +kernel
theorem dX7_isSetting_42 : decode cX7_isSetting 42 = .ok (.iload_n 1, 1) := by decide +kernel
theorem dX7_isSetting_43 : decode cX7_isSetting 43 = .ok (.i2l, 1) := by decide +kernel
theorem dX7_isSetting_44 : decode cX7_isSetting 44 = .ok (.lconst 1, 1) := by decide +kernel
theorem dX7_isSetting_45 : decode cX7_isSetting 45 = .ok (.ldc2_w 130, 3) := by decide +kernel
theorem dX7_isSetting_48 : decode cX7_isSetting 48 = .ok (.invokestatic 35, 3) := by decide +kernel
theorem dX7_isSetting_51 : decode cX7_isSetting 51 = .ok (.ireturn, 1) := by decide +kernel
theorem dX7_isSetting_52 : decode cX7_isSetting 52 = .ok (.iload_n 0, 1) := by decide +kernel
theorem dX7_isSetting_53 : decode cX7_isSetting 53 = .ok (.iconst 2, 1) := by decide +kernel
theorem dX7_isSetting_54 : decode cX7_isSetting 54 = .ok (.if_icmp .ne 21, 3) := by decide +kernel
theorem dX7_isSetting_57 : decode cX7_isSetting 57 = .ok (.iload_n 1, 1) := by decide +kernel
theorem dX7_isSetting_58 : decode cX7_isSetting 58 = .ok (.i2l, 1) := by decide +kernel
theorem dX7_isSetting_59 : decode cX7_isSetting 59 = .ok (.ldc2_w 132, 3) := by decide +kernel
theorem dX7_isSetting_62 : decode cX7_isSetting 62 = .ok (.ldc2_w 134, 3) := by decide +kernel
theorem dX7_isSetting_65 : decode cX7_isSetting 65 = .ok (.invokestatic 35, 3) := by decide +kernel
theorem dX7_isSetting_68 : decode cX7_isSetting 68 = .ok (.ifCond .eq 7, 3) := by decide +kernel
theorem dX7_isSetting_71 : decode cX7_isSetting 71 = .ok (.iconst 1, 1) := by decide +kernel
theorem dX7_isSetting_72 : decode cX7_isSetting 72 = .ok (.goto 4, 3) := by decide +kernel
theorem dX7_isSetting_75 : decode cX7_isSetting 75 = .ok (.iconst 0, 1) := by decide +kernel
theorem dX7_isSetting_76 : decode cX7_isSetting 76 = .ok (.ireturn, 1) := by decide +kernel
theorem dX7_set_0 : decode cX7_set 0 = .ok (.iload_n 1, 1) := by decide +kernel
theorem dX7_set_1 : decode cX7_set 1 = .ok (.iload_n 2, 1) := by decide +kernel
theorem dX7_set_2 : decode cX7_set 2 = .ok (.invokestatic 136, 3) := by decide +kernel
theorem dX7_set_5 : decode cX7_set 5 = .ok (.ifCond .ne 6, 3) := by decide +kernel
theorem dX7_set_8 : decode cX7_set 8 = .ok (.bipush (-2), 2) := by decide +kernel
theorem dX7_set_10 : decode cX7_set 10 = .ok (.ireturn, 1) := by decide +kernel
theorem dX7_set_11 : decode cX7_set 11 = .ok (.aload_n 0, 1) := by decide +kernel
theorem dX7_set_12 : decode cX7_set 12 = .ok (.getfield 7, 3) := by decide +kernel
theorem dX7_set_15 : decode cX7_set 15 = .ok (.aload_n 0, 1) := by decide +kernel
theorem dX7_set_16 : decode cX7_set 16 = .ok (.getfield 13, 3) := by decide +kernel
theorem dX7_set_19 : decode cX7_set 19 = .ok (.invokestatic 139, 3) := by decide +kernel
theorem dX7_set_22 : decode cX7_set 22 = .ok (.aload_n 0, 1) := by decide +kernel
theorem dX7_set_23 : decode cX7_set 23 = .ok (.getfield 7, 3) := by decide +kernel
theorem dX7_set_26 : decode cX7_set 26 = .ok (.iload_n 1, 1) := by decide +kernel
theorem dX7_set_27 : decode cX7_set 27 = .ok (.iaload, 1) := by decide +kernel
theorem dX7_set_28 : decode cX7_set 28 = .ok (.istore_n 3, 1) := by decide +kernel
theorem dX7_set_29 : decode cX7_set 29 = .ok (.aload_n 0, 1) := by decide +kernel
theorem dX7_set_30 : decode cX7_set 30 = .ok (.getfield 7, 3) := by decide +kernel
theorem dX7_set_33 : decode cX7_set 33 = .ok (.iload_n 1, 1) := by decide +kernel
theorem dX7_set_34 : decode cX7_set 34 = .ok (.iload_n 2, 1) := by decide +kernel
theorem dX7_set_35 : decode cX7_set 35 = .ok (.iastore, 1) := by decide +kernel
theorem dX7_set_36 : decode cX7_set 36 = .ok (.aload_n 0, 1) := by decide +kernel
theorem dX7_set_37 : decode cX7_set 37 = .ok (.iload_n 3, 1) := by decide +kernel
theorem dX7_set_38 : decode cX7_set 38 = .ok (.invokevirtual 143, 3) := by decide +kernel
theorem dX7_set_41 : decode cX7_set 41 = .ok (.ireturn, 1) := by decide +kernel
theorem dX7_piece_0 : decode cX7_piece 0 = .ok (.aload_n 0, 1) := by decide +kernel
theorem dX7_piece_1 : decode cX7_piece 1 = .ok (.getfield 7, 3) := by decide +kernel
theorem dX7_piece_4 : decode cX7_piece 4 = .ok (.aload_n 0, 1) := by decide +kernel
theorem dX7_piece_5 : decode cX7_piece 5 = .ok (.getfield 13, 3) := by decide +kernel
theorem dX7_piece_8 : decode cX7_piece 8 = .ok (.invokestatic 139, 3) := by decide +kernel
theorem dX7_piece_11 : decode cX7_piece 11 = .ok (.aload_n 0, 1) := by decide +kernel
theorem dX7_piece_12 : decode cX7_piece 12 = .ok (.aload_n 0, 1) := by decide +kernel
theorem dX7_piece_13 : decode cX7_piece 13 = .ok (.iload_n 1, 1) := by decide +kernel
theorem dX7_piece_14 : decode cX7_piece 14 = .ok (.iload_n 2, 1) := by decide +kernel
theorem dX7_piece_15 : decode cX7_piece 15 = .ok (.iload_n 3, 1) := by decide +kernel
theorem dX7_piece_16 : decode cX7_piece 16 = .ok (.iload 4, 2) := by decide +kernel
theorem dX7_piece_18 : decode cX7_piece 18 = .ok (.invokevirtual 146, 3) := by decide +kernel
theorem dX7_piece_21 : decode cX7_piece 21 = .ok (.invokevirtual 143, 3) := by decide +kernel
theorem dX7_piece_24 : decode cX7_piece 24 = .ok (.ireturn, 1) := by decide +kernel
theorem dX7_plate_0 : decode cX7_plate 0 = .ok (.aload_n 0, 1) := by decide +kernel
theorem dX7_plate_1 : decode cX7_plate 1 = .ok (.getfield 7, 3) := by decide +kernel
theorem dX7_plate_4 : decode cX7_plate 4 = .ok (.aload_n 0, 1) := by decide +kernel
theorem dX7_plate_5 : decode cX7_plate 5 = .ok (.getfield 13, 3) := by decide +kernel
theorem dX7_plate_8 : decode cX7_plate 8 = .ok (.invokestatic 139, 3) := by decide +kernel
theorem dX7_plate_11 : decode cX7_plate 11 = .ok (.aload_n 0, 1) := by decide +kernel
theorem dX7_plate_12 : decode cX7_plate 12 = .ok (.aload_n 0, 1) := by decide +kernel
theorem dX7_plate_13 : decode cX7_plate 13 = .ok (.iload_n 1, 1) := by decide +kernel
theorem dX7_plate_14 : decode cX7_plate 14 = .ok (.invokevirtual 150, 3) := by decide +kernel
theorem dX7_plate_17 : decode cX7_plate 17 = .ok (.invokevirtual 143, 3) := by decide +kernel
theorem dX7_plate_20 : decode cX7_plate 20 = .ok (.ireturn, 1) := by decide +kernel
theorem dX7_hold_0 : decode cX7_hold 0 = .ok (.aload_n 0, 1) := by decide +kernel
theorem dX7_hold_1 : decode cX7_hold 1 = .ok (.getfield 7, 3) := by decide +kernel
theorem dX7_hold_4 : decode cX7_hold 4 = .ok (.aload_n 0, 1) := by decide +kernel
theorem dX7_hold_5 : decode cX7_hold 5 = .ok (.getfield 13, 3) := by decide +kernel
theorem dX7_hold_8 : decode cX7_hold 8 = .ok (.invokestatic 139, 3) := by decide +kernel
theorem dX7_hold_11 : decode cX7_hold 11 = .ok (.aload_n 0, 1) := by decide +kernel
theorem dX7_hold_12 : decode cX7_hold 12 = .ok (.aload_n 0, 1) := by decide +kernel
theorem dX7_hold_13 : decode cX7_hold 13 = .ok (.iload_n 1, 1) := by decide +kernel
theorem dX7_hold_14 : decode cX7_hold 14 = .ok (.invokevirtual 153, 3) := by decide +kernel
theorem dX7_hold_17 : decode cX7_hold 17 = .ok (.invokevirtual 143, 3) := by decide +kernel
theorem dX7_hold_20 : decode cX7_hold 20 = .ok (.ireturn, 1) := by decide +kernel
theorem dX7_kill_0 : decode cX7_kill 0 = .ok (.aload_n 0, 1) := by decide +kernel
theorem dX7_kill_1 : decode cX7_kill 1 = .ok (.getfield 7, 3) := by decide +kernel
theorem dX7_kill_4 : decode cX7_kill 4 = .ok (.aload_n 0, 1) := by decide +kernel
theorem dX7_kill_5 : decode cX7_kill 5 = .ok (.getfield 13, 3) := by decide +kernel
theorem dX7_kill_8 : decode cX7_kill 8 = .ok (.invokestatic 139, 3) := by decide +kernel
theorem dX7_kill_11 : decode cX7_kill 11 = .ok (.aload_n 0, 1) := by decide +kernel
theorem dX7_kill_12 : decode cX7_kill 12 = .ok (.aload_n 0, 1) := by decide +kernel
theorem dX7_kill_13 : decode cX7_kill 13 = .ok (.iload_n 1, 1) := by decide +kernel
theorem dX7_kill_14 : decode cX7_kill 14 = .ok (.invokevirtual 156, 3) := by decide +kernel
theorem dX7_kill_17 : decode cX7_kill 17 = .ok (.invokevirtual 143, 3) := by decide +kernel
theorem dX7_kill_20 : decode cX7_kill 20 = .ok (.ireturn, 1) := by decide +kernel
theorem dX7_pass_0 : decode cX7_pass 0 = .ok (.aload_n 0, 1) := by decide +kernel
theorem dX7_pass_1 : decode cX7_pass 1 = .ok (.getfield 7, 3) := by decide +kernel
theorem dX7_pass_4 : decode cX7_pass 4 = .ok (.aload_n 0, 1) := by decide +kernel
theorem dX7_pass_5 : decode cX7_pass 5 = .ok (.getfield 13, 3) := by decide +kernel
theorem dX7_pass_8 : decode cX7_pass 8 = .ok (.invokestatic 139, 3) := by decide +kernel
theorem dX7_pass_11 : decode cX7_pass 11 = .ok (.aload_n 0, 1) := by decide +kernel
theorem dX7_pass_12 : decode cX7_pass 12 = .ok (.aload_n 0, 1) := by decide +kernel
theorem dX7_pass_13 : decode cX7_pass 13 = .ok (.iload_n 1, 1) := by decide +kernel
theorem dX7_pass_14 : decode cX7_pass 14 = .ok (.invokevirtual 159, 3) := by decide +kernel
theorem dX7_pass_17 : decode cX7_pass 17 = .ok (.invokevirtual 143, 3) := by decide +kernel
theorem dX7_pass_20 : decode cX7_pass 20 = .ok (.ireturn, 1) := by decide +kernel
theorem dX7_platesWith_0 : decode cX7_platesWith 0 = .ok (.iconst 0, 1) := by decide +kernel
theorem dX7_platesWith_1 : decode cX7_platesWith 1 = .ok (.istore_n 2, 1) := by decide +kernel
theorem dX7_platesWith_2 : decode cX7_platesWith 2 = .ok (.iconst 0, 1) := by decide +kernel
theorem dX7_platesWith_3 : decode cX7_platesWith 3 = .ok (.istore_n 3, 1) := by decide +kernel
theorem dX7_platesWith_4 : decode cX7_platesWith 4 = .ok (.iload_n 3, 1) := by decide +kernel
theorem dX7_platesWith_5 : decode cX7_platesWith 5 = .ok (.aload_n 0, 1) := by decide +kernel
theorem dX7_platesWith_6 : decode cX7_platesWith 6 = .ok (.getfield 7, 3) := by decide +kernel
theorem dX7_platesWith_9 : decode cX7_platesWith 9 = .ok (.bipush 6, 2) := by decide +kernel
theorem dX7_platesWith_11 : decode cX7_platesWith 11 = .ok (.iaload, 1) := by decide +kernel
theorem dX7_platesWith_12 : decode cX7_platesWith 12 = .ok (.if_icmp .ge 24, 3) := by decide +kernel
theorem dX7_platesWith_15 : decode cX7_platesWith 15 = .ok (.iload_n 2, 1) := by decide +kernel
theorem dX7_platesWith_16 : decode cX7_platesWith 16 = .ok (.aload_n 0, 1) := by decide +kernel
theorem dX7_platesWith_17 : decode cX7_platesWith 17 = .ok (.iload_n 3, 1) := by decide +kernel
theorem dX7_platesWith_18 : decode cX7_platesWith 18 = .ok (.iconst 3, 1) := by decide +kernel
theorem dX7_platesWith_19 : decode cX7_platesWith 19 = .ok (.invokevirtual 85, 3) := by decide +kernel
theorem dX7_platesWith_22 : decode cX7_platesWith 22 = .ok (.iload_n 1, 1) := by decide +kernel
theorem dX7_platesWith_23 : decode cX7_platesWith 23 = .ok (.ishr, 1) := by decide +kernel
theorem dX7_platesWith_24 : decode cX7_platesWith 24 = .ok (.iconst 1, 1) := by decide +kernel
theorem dX7_platesWith_25 : decode cX7_platesWith 25 = .ok (.iand, 1) := by decide +kernel
theorem dX7_platesWith_26 : decode cX7_platesWith 26 = .ok (.iload_n 3, 1) := by decide +kernel
theorem dX7_platesWith_27 : decode cX7_platesWith 27 = .ok (.ishl, 1) := by decide +kernel
theorem dX7_platesWith_28 : decode cX7_platesWith 28 = .ok (.ior, 1) := by decide +kernel
theorem dX7_platesWith_29 : decode cX7_platesWith 29 = .ok (.istore_n 2, 1) := by decide +kernel
theorem dX7_platesWith_30 : decode cX7_platesWith 30 = .ok (.iinc 3 1, 3) := by decide +kernel
theorem dX7_platesWith_33 : decode cX7_platesWith 33 = .ok (.goto (-29), 3) := by decide +kernel
theorem dX7_platesWith_36 : decode cX7_platesWith 36 = .ok (.iload_n 2, 1) := by decide +kernel
theorem dX7_platesWith_37 : decode cX7_platesWith 37 = .ok (.ireturn, 1) := by decide +kernel
theorem dX7_ofPiece_0 : decode cX7_ofPiece 0 = .ok (.aload_n 0, 1) := by decide +kernel
theorem dX7_ofPiece_1 : decode cX7_ofPiece 1 = .ok (.iload_n 1, 1) := by decide +kernel
theorem dX7_ofPiece_2 : decode cX7_ofPiece 2 = .ok (.invokevirtual 114, 3) := by decide +kernel
theorem dX7_ofPiece_5 : decode cX7_ofPiece 5 = .ok (.ifCond .ne 5, 3) := by decide +kernel
theorem dX7_ofPiece_8 : decode cX7_ofPiece 8 = .ok (.iconst (-1), 1) := by decide +kernel
theorem dX7_ofPiece_9 : decode cX7_ofPiece 9 = .ok (.ireturn, 1) := by decide +kernel
theorem dX7_ofPiece_10 : decode cX7_ofPiece 10 = .ok (.iload_n 2, 1) := by decide +kernel
theorem dX7_ofPiece_11 : decode cX7_ofPiece 11 = .ok (.i2l, 1) := by decide +kernel
theorem dX7_ofPiece_12 : decode cX7_ofPiece 12 = .ok (.lconst 0, 1) := by decide +kernel
theorem dX7_ofPiece_13 : decode cX7_ofPiece 13 = .ok (.ldc2_w 162, 3) := by decide +kernel
theorem dX7_ofPiece_16 : decode cX7_ofPiece 16 = .ok (.invokestatic 35, 3) := by decide +kernel
theorem dX7_ofPiece_19 : decode cX7_ofPiece 19 = .ok (.ifCond .eq 10, 3) := by decide +kernel
theorem dX7_ofPiece_22 : decode cX7_ofPiece 22 = .ok (.aload_n 0, 1) := by decide +kernel
theorem dX7_ofPiece_23 : decode cX7_ofPiece 23 = .ok (.iload_n 1, 1) := by decide +kernel
theorem dX7_ofPiece_24 : decode cX7_ofPiece 24 = .ok (.iload_n 2, 1) := by decide +kernel
theorem dX7_ofPiece_25 : decode cX7_ofPiece 25 = .ok (.invokevirtual 39, 3) := by decide +kernel
theorem dX7_ofPiece_28 : decode cX7_ofPiece 28 = .ok (.ireturn, 1) := by decide +kernel
theorem dX7_ofPiece_29 : decode cX7_ofPiece 29 = .ok (.iload_n 2, 1) := by decide +kernel
theorem dX7_ofPiece_30 : decode cX7_ofPiece 30 = .ok (.tableswitch 46 8 10 #[26, 32, 40], 26) := by decide +kernel
theorem dX7_ofPiece_56 : decode cX7_ofPiece 56 = .ok (.aload_n 0, 1) := by decide +kernel
theorem dX7_ofPiece_57 : decode cX7_ofPiece 57 = .ok (.iload_n 1, 1) := by decide +kernel
theorem dX7_ofPiece_58 : decode cX7_ofPiece 58 = .ok (.invokevirtual 50, 3) := by decide +kernel
theorem dX7_ofPiece_61 : decode cX7_ofPiece 61 = .ok (.ireturn, 1) := by decide +kernel
theorem dX7_ofPiece_62 : decode cX7_ofPiece 62 = .ok (.aload_n 0, 1) := by decide +kernel
theorem dX7_ofPiece_63 : decode cX7_ofPiece 63 = .ok (.iload_n 1, 1) := by decide +kernel
theorem dX7_ofPiece_64 : decode cX7_ofPiece 64 = .ok (.bipush 8, 2) := by decide +kernel
theorem dX7_ofPiece_66 : decode cX7_ofPiece 66 = .ok (.invokevirtual 39, 3) := by decide +kernel
theorem dX7_ofPiece_69 : decode cX7_ofPiece 69 = .ok (.ireturn, 1) := by decide +kernel
theorem dX7_ofPiece_70 : decode cX7_ofPiece 70 = .ok (.aload_n 0, 1) := by decide +kernel
theorem dX7_ofPiece_71 : decode cX7_ofPiece 71 = .ok (.iload_n 1, 1) := by decide +kernel
theorem dX7_ofPiece_72 : decode cX7_ofPiece 72 = .ok (.invokevirtual 164, 3) := by decide +kernel
theorem dX7_ofPiece_75 : decode cX7_ofPiece 75 = .ok (.ireturn, 1) := by decide +kernel
theorem dX7_ofPiece_76 : decode cX7_ofPiece 76 = .ok (.bipush (-2), 2) := by decide +kernel
theorem dX7_ofPiece_78 : decode cX7_ofPiece 78 = .ok (.ireturn, 1) := by decide +kernel
theorem dX7_linesOf_0 : decode cX7_linesOf 0 = .ok (.iconst 0, 1) := by decide +kernel
theorem dX7_linesOf_1 : decode cX7_linesOf 1 = .ok (.istore_n 2, 1) := by decide +kernel
theorem dX7_linesOf_2 : decode cX7_linesOf 2 = .ok (.iconst 0, 1) := by decide +kernel
theorem dX7_linesOf_3 : decode cX7_linesOf 3 = .ok (.istore_n 3, 1) := by decide +kernel
theorem dX7_linesOf_4 : decode cX7_linesOf 4 = .ok (.iload_n 3, 1) := by decide +kernel
theorem dX7_linesOf_5 : decode cX7_linesOf 5 = .ok (.aload_n 0, 1) := by decide +kernel
theorem dX7_linesOf_6 : decode cX7_linesOf 6 = .ok (.getfield 7, 3) := by decide +kernel
theorem dX7_linesOf_9 : decode cX7_linesOf 9 = .ok (.iconst 5, 1) := by decide +kernel
theorem dX7_linesOf_10 : decode cX7_linesOf 10 = .ok (.iaload, 1) := by decide +kernel
theorem dX7_linesOf_11 : decode cX7_linesOf 11 = .ok (.if_icmp .ge 24, 3) := by decide +kernel
theorem dX7_linesOf_14 : decode cX7_linesOf 14 = .ok (.iload_n 2, 1) := by decide +kernel
theorem dX7_linesOf_15 : decode cX7_linesOf 15 = .ok (.iload_n 1, 1) := by decide +kernel
theorem dX7_linesOf_16 : decode cX7_linesOf 16 = .ok (.iload_n 3, 1) := by decide +kernel
theorem dX7_linesOf_17 : decode cX7_linesOf 17 = .ok (.ishr, 1) := by decide +kernel
theorem dX7_linesOf_18 : decode cX7_linesOf 18 = .ok (.iconst 1, 1) := by decide +kernel
theorem dX7_linesOf_19 : decode cX7_linesOf 19 = .ok (.iand, 1) := by decide +kernel
theorem dX7_linesOf_20 : decode cX7_linesOf 20 = .ok (.aload_n 0, 1) := by decide +kernel
theorem dX7_linesOf_21 : decode cX7_linesOf 21 = .ok (.iload_n 3, 1) := by decide +kernel
theorem dX7_linesOf_22 : decode cX7_linesOf 22 = .ok (.iconst 1, 1) := by decide +kernel
theorem dX7_linesOf_23 : decode cX7_linesOf 23 = .ok (.invokevirtual 39, 3) := by decide +kernel
theorem dX7_linesOf_26 : decode cX7_linesOf 26 = .ok (.imul, 1) := by decide +kernel
theorem dX7_linesOf_27 : decode cX7_linesOf 27 = .ok (.iadd, 1) := by decide +kernel
theorem dX7_linesOf_28 : decode cX7_linesOf 28 = .ok (.istore_n 2, 1) := by decide +kernel
theorem dX7_linesOf_29 : decode cX7_linesOf 29 = .ok (.iinc 3 1, 3) := by decide +kernel
theorem dX7_linesOf_32 : decode cX7_linesOf 32 = .ok (.goto (-28), 3) := by decide +kernel
theorem dX7_linesOf_35 : decode cX7_linesOf 35 = .ok (.iload_n 2, 1) := by decide +kernel
theorem dX7_linesOf_36 : decode cX7_linesOf 36 = .ok (.ireturn, 1) := by decide +kernel
theorem dX7_ofPlate_0 : decode cX7_ofPlate 0 = .ok (.iload_n 1, 1) := by decide +kernel
theorem dX7_ofPlate_1 : decode cX7_ofPlate 1 = .ok (.i2l, 1) := by decide +kernel
theorem dX7_ofPlate_2 : decode cX7_ofPlate 2 = .ok (.lconst 0, 1) := by decide +kernel
theorem dX7_ofPlate_3 : decode cX7_ofPlate 3 = .ok (.aload_n 0, 1) := by decide +kernel
theorem dX7_ofPlate_4 : decode cX7_ofPlate 4 = .ok (.getfield 7, 3) := by decide +kernel
theorem dX7_ofPlate_7 : decode cX7_ofPlate 7 = .ok (.bipush 6, 2) := by decide +kernel
theorem dX7_ofPlate_9 : decode cX7_ofPlate 9 = .ok (.iaload, 1) := by decide +kernel
theorem dX7_ofPlate_10 : decode cX7_ofPlate 10 = .ok (.i2l, 1) := by decide +kernel
theorem dX7_ofPlate_11 : decode cX7_ofPlate 11 = .ok (.lconst 1, 1) := by decide +kernel
theorem dX7_ofPlate_12 : decode cX7_ofPlate 12 = .ok (.lsub, 1) := by decide +kernel
theorem dX7_ofPlate_13 : decode cX7_ofPlate 13 = .ok (.invokestatic 35, 3) := by decide +kernel
theorem dX7_ofPlate_16 : decode cX7_ofPlate 16 = .ok (.ifCond .ne 5, 3) := by decide +kernel
theorem dX7_ofPlate_19 : decode cX7_ofPlate 19 = .ok (.iconst (-1), 1) := by decide +kernel
theorem dX7_ofPlate_20 : decode cX7_ofPlate 20 = .ok (.ireturn, 1) := by decide +kernel
theorem dX7_ofPlate_21 : decode cX7_ofPlate 21 = .ok (.iload_n 2, 1) := by decide +kernel
theorem dX7_ofPlate_22 : decode cX7_ofPlate 22 = .ok (.i2l, 1) := by decide +kernel
theorem dX7_ofPlate_23 : decode cX7_ofPlate 23 = .ok (.lconst 0, 1) := by decide +kernel
theorem dX7_ofPlate_24 : decode cX7_ofPlate 24 = .ok (.ldc2_w 167, 3) := by decide +kernel
theorem dX7_ofPlate_27 : decode cX7_ofPlate 27 = .ok (.invokestatic 35, 3) := by decide +kernel
theorem dX7_ofPlate_30 : decode cX7_ofPlate 30 = .ok (.ifCond .eq 12, 3) := by decide +kernel
theorem dX7_ofPlate_33 : decode cX7_ofPlate 33 = .ok (.aload_n 0, 1) := by decide +kernel
theorem dX7_ofPlate_34 : decode cX7_ofPlate 34 = .ok (.iload_n 1, 1) := by decide +kernel
theorem dX7_ofPlate_35 : decode cX7_ofPlate 35 = .ok (.iload_n 2, 1) := by decide +kernel
theorem dX7_ofPlate_36 : decode cX7_ofPlate 36 = .ok (.invokevirtual 85, 3) := by decide +kernel
theorem dX7_ofPlate_39 : decode cX7_ofPlate 39 = .ok (.goto 23, 3) := by decide +kernel
theorem dX7_ofPlate_42 : decode cX7_ofPlate 42 = .ok (.iload_n 2, 1) := by decide +kernel
theorem dX7_ofPlate_43 : decode cX7_ofPlate 43 = .ok (.iconst 4, 1) := by decide +kernel
theorem dX7_ofPlate_44 : decode cX7_ofPlate 44 = .ok (.if_icmp .ne 16, 3) := by decide +kernel
theorem dX7_ofPlate_47 : decode cX7_ofPlate 47 = .ok (.aload_n 0, 1) := by decide +kernel
theorem dX7_ofPlate_48 : decode cX7_ofPlate 48 = .ok (.aload_n 0, 1) := by decide +kernel
theorem dX7_ofPlate_49 : decode cX7_ofPlate 49 = .ok (.iload_n 1, 1) := by decide +kernel
theorem dX7_ofPlate_50 : decode cX7_ofPlate 50 = .ok (.iconst 3, 1) := by decide +kernel
theorem dX7_ofPlate_51 : decode cX7_ofPlate 51 = .ok (.invokevirtual 85, 3) := by decide +kernel
theorem dX7_ofPlate_54 : decode cX7_ofPlate 54 = .ok (.invokevirtual 169, 3) := by decide +kernel
theorem dX7_ofPlate_57 : decode cX7_ofPlate 57 = .ok (.goto 5, 3) := by decide +kernel
theorem dX7_ofPlate_60 : decode cX7_ofPlate 60 = .ok (.bipush (-2), 2) := by decide +kernel
theorem dX7_ofPlate_62 : decode cX7_ofPlate 62 = .ok (.ireturn, 1) := by decide +kernel
theorem dX7_manyThat_0 : decode cX7_manyThat 0 = .ok (.iconst 0, 1) := by decide +kernel
theorem dX7_manyThat_1 : decode cX7_manyThat 1 = .ok (.istore_n 2, 1) := by decide +kernel
theorem dX7_manyThat_2 : decode cX7_manyThat 2 = .ok (.iconst 0, 1) := by decide +kernel
theorem dX7_manyThat_3 : decode cX7_manyThat 3 = .ok (.istore_n 3, 1) := by decide +kernel
theorem dX7_manyThat_4 : decode cX7_manyThat 4 = .ok (.iload_n 3, 1) := by decide +kernel
theorem dX7_manyThat_5 : decode cX7_manyThat 5 = .ok (.aload_n 0, 1) := by decide +kernel
theorem dX7_manyThat_6 : decode cX7_manyThat 6 = .ok (.getfield 7, 3) := by decide +kernel
theorem dX7_manyThat_9 : decode cX7_manyThat 9 = .ok (.iconst 5, 1) := by decide +kernel
theorem dX7_manyThat_10 : decode cX7_manyThat 10 = .ok (.iaload, 1) := by decide +kernel
theorem dX7_manyThat_11 : decode cX7_manyThat 11 = .ok (.if_icmp .ge 27, 3) := by decide +kernel
theorem dX7_manyThat_14 : decode cX7_manyThat 14 = .ok (.iload_n 2, 1) := by decide +kernel
theorem dX7_manyThat_15 : decode cX7_manyThat 15 = .ok (.aload_n 0, 1) := by decide +kernel
theorem dX7_manyThat_16 : decode cX7_manyThat 16 = .ok (.iload_n 3, 1) := by decide +kernel
theorem dX7_manyThat_17 : decode cX7_manyThat 17 = .ok (.iconst 4, 1) := by decide +kernel
theorem dX7_manyThat_18 : decode cX7_manyThat 18 = .ok (.invokevirtual 39, 3) := by decide +kernel
theorem dX7_manyThat_21 : decode cX7_manyThat 21 = .ok (.iload_n 1, 1) := by decide +kernel
theorem dX7_manyThat_22 : decode cX7_manyThat 22 = .ok (.if_icmp .ne 7, 3) := by decide +kernel
theorem dX7_manyThat_25 : decode cX7_manyThat 25 = .ok (.iconst 1, 1) := by decide +kernel
theorem dX7_manyThat_26 : decode cX7_manyThat 26 = .ok (.goto 4, 3) := by decide +kernel
theorem dX7_manyThat_29 : decode cX7_manyThat 29 = .ok (.iconst 0, 1) := by decide +kernel
theorem dX7_manyThat_30 : decode cX7_manyThat 30 = .ok (.iadd, 1) := by decide +kernel
theorem dX7_manyThat_31 : decode cX7_manyThat 31 = .ok (.istore_n 2, 1) := by decide +kernel
theorem dX7_manyThat_32 : decode cX7_manyThat 32 = .ok (.iinc 3 1, 3) := by decide +kernel
theorem dX7_manyThat_35 : decode cX7_manyThat 35 = .ok (.goto (-31), 3) := by decide +kernel
theorem dX7_manyThat_38 : decode cX7_manyThat 38 = .ok (.iload_n 2, 1) := by decide +kernel
theorem dX7_manyThat_39 : decode cX7_manyThat 39 = .ok (.ireturn, 1) := by decide +kernel
theorem dX7_manyHeld_0 : decode cX7_manyHeld 0 = .ok (.iconst 0, 1) := by decide +kernel
theorem dX7_manyHeld_1 : decode cX7_manyHeld 1 = .ok (.istore_n 1, 1) := by decide +kernel
theorem dX7_manyHeld_2 : decode cX7_manyHeld 2 = .ok (.iconst 0, 1) := by decide +kernel
theorem dX7_manyHeld_3 : decode cX7_manyHeld 3 = .ok (.istore_n 2, 1) := by decide +kernel
theorem dX7_manyHeld_4 : decode cX7_manyHeld 4 = .ok (.iload_n 2, 1) := by decide +kernel
theorem dX7_manyHeld_5 : decode cX7_manyHeld 5 = .ok (.aload_n 0, 1) := by decide +kernel
theorem dX7_manyHeld_6 : decode cX7_manyHeld 6 = .ok (.getfield 7, 3) := by decide +kernel
theorem dX7_manyHeld_9 : decode cX7_manyHeld 9 = .ok (.iconst 5, 1) := by decide +kernel
theorem dX7_manyHeld_10 : decode cX7_manyHeld 10 = .ok (.iaload, 1) := by decide +kernel
theorem dX7_manyHeld_11 : decode cX7_manyHeld 11 = .ok (.if_icmp .ge 32, 3) := by decide +kernel
theorem dX7_manyHeld_14 : decode cX7_manyHeld 14 = .ok (.iload_n 1, 1) := by decide +kernel
theorem dX7_manyHeld_15 : decode cX7_manyHeld 15 = .ok (.aload_n 0, 1) := by decide +kernel
theorem dX7_manyHeld_16 : decode cX7_manyHeld 16 = .ok (.iload_n 2, 1) := by decide +kernel
theorem dX7_manyHeld_17 : decode cX7_manyHeld 17 = .ok (.iconst 4, 1) := by decide +kernel
theorem dX7_manyHeld_18 : decode cX7_manyHeld 18 = .ok (.invokevirtual 39, 3) := by decide +kernel
theorem dX7_manyHeld_21 : decode cX7_manyHeld 21 = .ok (.iconst 3, 1) := by decide +kernel
theorem dX7_manyHeld_22 : decode cX7_manyHeld 22 = .ok (.if_icmp .eq 12, 3) := by decide +kernel
theorem dX7_manyHeld_25 : decode cX7_manyHeld 25 = .ok (.aload_n 0, 1) := by decide +kernel
theorem dX7_manyHeld_26 : decode cX7_manyHeld 26 = .ok (.iload_n 2, 1) := by decide +kernel
theorem dX7_manyHeld_27 : decode cX7_manyHeld 27 = .ok (.iconst 5, 1) := by decide +kernel
theorem dX7_manyHeld_28 : decode cX7_manyHeld 28 = .ok (.invokevirtual 39, 3) := by decide +kernel
theorem dX7_manyHeld_31 : decode cX7_manyHeld 31 = .ok (.goto 4, 3) := by decide +kernel
theorem dX7_manyHeld_34 : decode cX7_manyHeld 34 = .ok (.iconst 0, 1) := by decide +kernel
theorem dX7_manyHeld_35 : decode cX7_manyHeld 35 = .ok (.iadd, 1) := by decide +kernel
theorem dX7_manyHeld_36 : decode cX7_manyHeld 36 = .ok (.istore_n 1, 1) := by decide +kernel
theorem dX7_manyHeld_37 : decode cX7_manyHeld 37 = .ok (.iinc 2 1, 3) := by decide +kernel
theorem dX7_manyHeld_40 : decode cX7_manyHeld 40 = .ok (.goto (-36), 3) := by decide +kernel
theorem dX7_manyHeld_43 : decode cX7_manyHeld 43 = .ok (.iload_n 1, 1) := by decide +kernel
theorem dX7_manyHeld_44 : decode cX7_manyHeld 44 = .ok (.ireturn, 1) := by decide +kernel
theorem dX7_replates_0 : decode cX7_replates 0 = .ok (.iconst 0, 1) := by decide +kernel
theorem dX7_replates_1 : decode cX7_replates 1 = .ok (.istore_n 1, 1) := by decide +kernel
theorem dX7_replates_2 : decode cX7_replates 2 = .ok (.iconst 0, 1) := by decide +kernel
theorem dX7_replates_3 : decode cX7_replates 3 = .ok (.istore_n 2, 1) := by decide +kernel
theorem dX7_replates_4 : decode cX7_replates 4 = .ok (.iload_n 2, 1) := by decide +kernel
theorem dX7_replates_5 : decode cX7_replates 5 = .ok (.aload_n 0, 1) := by decide +kernel
theorem dX7_replates_6 : decode cX7_replates 6 = .ok (.getfield 7, 3) := by decide +kernel
theorem dX7_replates_9 : decode cX7_replates 9 = .ok (.bipush 6, 2) := by decide +kernel
theorem dX7_replates_11 : decode cX7_replates 11 = .ok (.iaload, 1) := by decide +kernel
theorem dX7_replates_12 : decode cX7_replates 12 = .ok (.if_icmp .ge 18, 3) := by decide +kernel
theorem dX7_replates_15 : decode cX7_replates 15 = .ok (.iload_n 1, 1) := by decide +kernel
theorem dX7_replates_16 : decode cX7_replates 16 = .ok (.aload_n 0, 1) := by decide +kernel
theorem dX7_replates_17 : decode cX7_replates 17 = .ok (.iload_n 2, 1) := by decide +kernel
theorem dX7_replates_18 : decode cX7_replates 18 = .ok (.iconst 2, 1) := by decide +kernel
theorem dX7_replates_19 : decode cX7_replates 19 = .ok (.invokevirtual 85, 3) := by decide +kernel
theorem dX7_replates_22 : decode cX7_replates 22 = .ok (.iadd, 1) := by decide +kernel
theorem dX7_replates_23 : decode cX7_replates 23 = .ok (.istore_n 1, 1) := by decide +kernel
theorem dX7_replates_24 : decode cX7_replates 24 = .ok (.iinc 2 1, 3) := by decide +kernel
theorem dX7_replates_27 : decode cX7_replates 27 = .ok (.goto (-23), 3) := by decide +kernel
theorem dX7_replates_30 : decode cX7_replates 30 = .ok (.iload_n 1, 1) := by decide +kernel
theorem dX7_replates_31 : decode cX7_replates 31 = .ok (.ireturn, 1) := by decide +kernel
theorem dX7_count_0 : decode cX7_count 0 = .ok (.iload_n 1, 1) := by decide +kernel
theorem dX7_count_1 : decode cX7_count 1 = .ok (.i2l, 1) := by decide +kernel
theorem dX7_count_2 : decode cX7_count 2 = .ok (.lconst 0, 1) := by decide +kernel
theorem dX7_count_3 : decode cX7_count 3 = .ok (.ldc2_w 167, 3) := by decide +kernel
theorem dX7_count_6 : decode cX7_count 6 = .ok (.invokestatic 35, 3) := by decide +kernel
theorem dX7_count_9 : decode cX7_count 9 = .ok (.ifCond .eq 12, 3) := by decide +kernel
theorem dX7_count_12 : decode cX7_count 12 = .ok (.aload_n 0, 1) := by decide +kernel
theorem dX7_count_13 : decode cX7_count 13 = .ok (.getfield 7, 3) := by decide +kernel
theorem dX7_count_16 : decode cX7_count 16 = .ok (.iconst 4, 1) := by decide +kernel
theorem dX7_count_17 : decode cX7_count 17 = .ok (.iload_n 1, 1) := by decide +kernel
theorem dX7_count_18 : decode cX7_count 18 = .ok (.iadd, 1) := by decide +kernel
theorem dX7_count_19 : decode cX7_count 19 = .ok (.iaload, 1) := by decide +kernel
theorem dX7_count_20 : decode cX7_count 20 = .ok (.ireturn, 1) := by decide +kernel
theorem dX7_count_21 : decode cX7_count 21 = .ok (.iload_n 1, 1) := by decide +kernel
theorem dX7_count_22 : decode cX7_count 22 = .ok (.i2l, 1) := by decide +kernel
theorem dX7_count_23 : decode cX7_count 23 = .ok (.ldc2_w 103, 3) := by decide +kernel
theorem dX7_count_26 : decode cX7_count 26 = .ok (.ldc2_w 162, 3) := by decide +kernel
theorem dX7_count_29 : decode cX7_count 29 = .ok (.invokestatic 35, 3) := by decide +kernel
theorem dX7_count_32 : decode cX7_count 32 = .ok (.ifCond .eq 11, 3) := by decide +kernel
theorem dX7_count_35 : decode cX7_count 35 = .ok (.aload_n 0, 1) := by decide +kernel
theorem dX7_count_36 : decode cX7_count 36 = .ok (.iload_n 1, 1) := by decide +kernel
theorem dX7_count_37 : decode cX7_count 37 = .ok (.iconst 4, 1) := by decide +kernel
theorem dX7_count_38 : decode cX7_count 38 = .ok (.isub, 1) := by decide +kernel
theorem dX7_count_39 : decode cX7_count 39 = .ok (.invokevirtual 172, 3) := by decide +kernel
theorem dX7_count_42 : decode cX7_count 42 = .ok (.ireturn, 1) := by decide +kernel
theorem dX7_count_43 : decode cX7_count 43 = .ok (.iload_n 1, 1) := by decide +kernel
theorem dX7_count_44 : decode cX7_count 44 = .ok (.i2l, 1) := by decide +kernel
theorem dX7_count_45 : decode cX7_count 45 = .ok (.ldc2_w 132, 3) := by decide +kernel
theorem dX7_count_48 : decode cX7_count 48 = .ok (.ldc2_w 175, 3) := by decide +kernel
theorem dX7_count_51 : decode cX7_count 51 = .ok (.invokestatic 35, 3) := by decide +kernel
theorem dX7_count_54 : decode cX7_count 54 = .ok (.ifCond .eq 13, 3) := by decide +kernel
theorem dX7_count_57 : decode cX7_count 57 = .ok (.aload_n 0, 1) := by decide +kernel
theorem dX7_count_58 : decode cX7_count 58 = .ok (.getfield 7, 3) := by decide +kernel
theorem dX7_count_61 : decode cX7_count 61 = .ok (.iload_n 1, 1) := by decide +kernel
theorem dX7_count_62 : decode cX7_count 62 = .ok (.bipush 10, 2) := by decide +kernel
theorem dX7_count_64 : decode cX7_count 64 = .ok (.isub, 1) := by decide +kernel
theorem dX7_count_65 : decode cX7_count 65 = .ok (.iaload, 1) := by decide +kernel
theorem dX7_count_66 : decode cX7_count 66 = .ok (.ireturn, 1) := by decide +kernel
theorem dX7_count_67 : decode cX7_count 67 = .ok (.iload_n 1, 1) := by decide +kernel
theorem dX7_count_68 : decode cX7_count 68 = .ok (.bipush 8, 2) := by decide +kernel
theorem dX7_count_70 : decode cX7_count 70 = .ok (.if_icmp .ne 10, 3) := by decide +kernel
theorem dX7_count_73 : decode cX7_count 73 = .ok (.aload_n 0, 1) := by decide +kernel
theorem dX7_count_74 : decode cX7_count 74 = .ok (.invokevirtual 177, 3) := by decide +kernel
theorem dX7_count_77 : decode cX7_count 77 = .ok (.goto 44, 3) := by decide +kernel
theorem dX7_count_80 : decode cX7_count 80 = .ok (.iload_n 1, 1) := by decide +kernel
theorem dX7_count_81 : decode cX7_count 81 = .ok (.bipush 9, 2) := by decide +kernel
theorem dX7_count_83 : decode cX7_count 83 = .ok (.if_icmp .ne 10, 3) := by decide +kernel
theorem dX7_count_86 : decode cX7_count 86 = .ok (.aload_n 0, 1) := by decide +kernel
theorem dX7_count_87 : decode cX7_count 87 = .ok (.invokevirtual 180, 3) := by decide +kernel
theorem dX7_count_90 : decode cX7_count 90 = .ok (.goto 31, 3) := by decide +kernel
theorem dX7_count_93 : decode cX7_count 93 = .ok (.iload_n 1, 1) := by decide +kernel
theorem dX7_count_94 : decode cX7_count 94 = .ok (.bipush 14, 2) := by decide +kernel
theorem dX7_count_96 : decode cX7_count 96 = .ok (.if_icmp .ne 10, 3) := by decide +kernel
theorem dX7_count_99 : decode cX7_count 99 = .ok (.aload_n 0, 1) := by decide +kernel
theorem dX7_count_100 : decode cX7_count 100 = .ok (.getfield 183, 3) := by decide +kernel
theorem dX7_count_103 : decode cX7_count 103 = .ok (.goto 18, 3) := by decide +kernel
theorem dX7_count_106 : decode cX7_count 106 = .ok (.iload_n 1, 1) := by decide +kernel
theorem dX7_count_107 : decode cX7_count 107 = .ok (.bipush 15, 2) := by decide +kernel
theorem dX7_count_109 : decode cX7_count 109 = .ok (.if_icmp .ne 10, 3) := by decide +kernel
theorem dX7_count_112 : decode cX7_count 112 = .ok (.aload_n 0, 1) := by decide +kernel
theorem dX7_count_113 : decode cX7_count 113 = .ok (.getfield 31, 3) := by decide +kernel
theorem dX7_count_116 : decode cX7_count 116 = .ok (.goto 5, 3) := by decide +kernel
theorem dX7_count_119 : decode cX7_count 119 = .ok (.bipush (-2), 2) := by decide +kernel
theorem dX7_count_121 : decode cX7_count 121 = .ok (.ireturn, 1) := by decide +kernel
theorem dX7_lastAhead_0 : decode cX7_lastAhead 0 = .ok (.bipush (-6), 2) := by decide +kernel
theorem dX7_lastAhead_2 : decode cX7_lastAhead 2 = .ok (.istore_n 2, 1) := by decide +kernel
theorem dX7_lastAhead_3 : decode cX7_lastAhead 3 = .ok (.iconst 0, 1) := by decide +kernel
theorem dX7_lastAhead_4 : decode cX7_lastAhead 4 = .ok (.istore_n 3, 1) := by decide +kernel
theorem dX7_lastAhead_5 : decode cX7_lastAhead 5 = .ok (.aload_n 0, 1) := by decide +kernel
theorem dX7_lastAhead_6 : decode cX7_lastAhead 6 = .ok (.iload_n 3, 1) := by decide +kernel
theorem dX7_lastAhead_7 : decode cX7_lastAhead 7 = .ok (.invokevirtual 82, 3) := by decide +kernel
theorem dX7_lastAhead_10 : decode cX7_lastAhead 10 = .ok (.iload_n 1, 1) := by decide +kernel
theorem dX7_lastAhead_11 : decode cX7_lastAhead 11 = .ok (.if_icmp .eq 36, 3) := by decide +kernel
theorem dX7_lastAhead_14 : decode cX7_lastAhead 14 = .ok (.aload_n 0, 1) := by decide +kernel
theorem dX7_lastAhead_15 : decode cX7_lastAhead 15 = .ok (.iload_n 3, 1) := by decide +kernel
theorem dX7_lastAhead_16 : decode cX7_lastAhead 16 = .ok (.invokevirtual 82, 3) := by decide +kernel
theorem dX7_lastAhead_19 : decode cX7_lastAhead 19 = .ok (.istore 4, 2) := by decide +kernel
theorem dX7_lastAhead_21 : decode cX7_lastAhead 21 = .ok (.aload_n 0, 1) := by decide +kernel
theorem dX7_lastAhead_22 : decode cX7_lastAhead 22 = .ok (.getfield 76, 3) := by decide +kernel
theorem dX7_lastAhead_25 : decode cX7_lastAhead 25 = .ok (.iload 4, 2) := by decide +kernel
theorem dX7_lastAhead_27 : decode cX7_lastAhead 27 = .ok (.ishr, 1) := by decide +kernel
theorem dX7_lastAhead_28 : decode cX7_lastAhead 28 = .ok (.iconst 1, 1) := by decide +kernel
theorem dX7_lastAhead_29 : decode cX7_lastAhead 29 = .ok (.iand, 1) := by decide +kernel
theorem dX7_lastAhead_30 : decode cX7_lastAhead 30 = .ok (.iconst 1, 1) := by decide +kernel
theorem dX7_lastAhead_31 : decode cX7_lastAhead 31 = .ok (.if_icmp .ne 8, 3) := by decide +kernel
theorem dX7_lastAhead_34 : decode cX7_lastAhead 34 = .ok (.iload 4, 2) := by decide +kernel
theorem dX7_lastAhead_36 : decode cX7_lastAhead 36 = .ok (.goto 4, 3) := by decide +kernel
theorem dX7_lastAhead_39 : decode cX7_lastAhead 39 = .ok (.iload_n 2, 1) := by decide +kernel
theorem dX7_lastAhead_40 : decode cX7_lastAhead 40 = .ok (.istore_n 2, 1) := by decide +kernel
theorem dX7_lastAhead_41 : decode cX7_lastAhead 41 = .ok (.iinc 3 1, 3) := by decide +kernel
theorem dX7_lastAhead_44 : decode cX7_lastAhead 44 = .ok (.goto (-39), 3) := by decide +kernel
theorem dX7_lastAhead_47 : decode cX7_lastAhead 47 = .ok (.iload_n 2, 1) := by decide +kernel
theorem dX7_lastAhead_48 : decode cX7_lastAhead 48 = .ok (.ireturn, 1) := by decide +kernel
theorem dX7_reason_0 : decode cX7_reason 0 = .ok (.aload_n 0, 1) := by decide +kernel
theorem dX7_reason_1 : decode cX7_reason 1 = .ok (.iload_n 1, 1) := by decide +kernel
theorem dX7_reason_2 : decode cX7_reason 2 = .ok (.iconst 4, 1) := by decide +kernel
theorem dX7_reason_3 : decode cX7_reason 3 = .ok (.invokevirtual 39, 3) := by decide +kernel
theorem dX7_reason_6 : decode cX7_reason 6 = .ok (.istore_n 2, 1) := by decide +kernel
theorem dX7_reason_7 : decode cX7_reason 7 = .ok (.iload_n 2, 1) := by decide +kernel
theorem dX7_reason_8 : decode cX7_reason 8 = .ok (.iconst 3, 1) := by decide +kernel
theorem dX7_reason_9 : decode cX7_reason 9 = .ok (.if_icmp .ne 7, 3) := by decide +kernel
theorem dX7_reason_12 : decode cX7_reason 12 = .ok (.iconst 1, 1) := by decide +kernel
theorem dX7_reason_13 : decode cX7_reason 13 = .ok (.goto 51, 3) := by decide +kernel
theorem dX7_reason_16 : decode cX7_reason 16 = .ok (.aload_n 0, 1) := by decide +kernel
theorem dX7_reason_17 : decode cX7_reason 17 = .ok (.iload_n 1, 1) := by decide +kernel
theorem dX7_reason_18 : decode cX7_reason 18 = .ok (.iconst 5, 1) := by decide +kernel
theorem dX7_reason_19 : decode cX7_reason 19 = .ok (.invokevirtual 39, 3) := by decide +kernel
theorem dX7_reason_22 : decode cX7_reason 22 = .ok (.iconst 1, 1) := by decide +kernel
theorem dX7_reason_23 : decode cX7_reason 23 = .ok (.if_icmp .ne 7, 3) := by decide +kernel
theorem dX7_reason_26 : decode cX7_reason 26 = .ok (.iconst 2, 1) := by decide +kernel
theorem dX7_reason_27 : decode cX7_reason 27 = .ok (.goto 37, 3) := by decide +kernel
theorem dX7_reason_30 : decode cX7_reason 30 = .ok (.iload_n 2, 1) := by decide +kernel
theorem dX7_reason_31 : decode cX7_reason 31 = .ok (.ifCond .ne 7, 3) := by decide +kernel
theorem dX7_reason_34 : decode cX7_reason 34 = .ok (.iconst 3, 1) := by decide +kernel
theorem dX7_reason_35 : decode cX7_reason 35 = .ok (.goto 29, 3) := by decide +kernel
theorem dX7_reason_38 : decode cX7_reason 38 = .ok (.iload_n 2, 1) := by decide +kernel
theorem dX7_reason_39 : decode cX7_reason 39 = .ok (.iconst 1, 1) := by decide +kernel
theorem dX7_reason_40 : decode cX7_reason 40 = .ok (.if_icmp .ne 7, 3) := by decide +kernel
theorem dX7_reason_43 : decode cX7_reason 43 = .ok (.iconst 4, 1) := by decide +kernel
theorem dX7_reason_44 : decode cX7_reason 44 = .ok (.goto 20, 3) := by decide +kernel
theorem dX7_reason_47 : decode cX7_reason 47 = .ok (.aload_n 0, 1) := by decide +kernel
theorem dX7_reason_48 : decode cX7_reason 48 = .ok (.getfield 76, 3) := by decide +kernel
theorem dX7_reason_51 : decode cX7_reason 51 = .ok (.iload_n 1, 1) := by decide +kernel
theorem dX7_reason_52 : decode cX7_reason 52 = .ok (.ishr, 1) := by decide +kernel
theorem dX7_reason_53 : decode cX7_reason 53 = .ok (.iconst 1, 1) := by decide +kernel
theorem dX7_reason_54 : decode cX7_reason 54 = .ok (.iand, 1) := by decide +kernel
theorem dX7_reason_55 : decode cX7_reason 55 = .ok (.iconst 1, 1) := by decide +kernel
theorem dX7_reason_56 : decode cX7_reason 56 = .ok (.if_icmp .ne 7, 3) := by decide +kernel
theorem dX7_reason_59 : decode cX7_reason 59 = .ok (.iconst 0, 1) := by decide +kernel
theorem dX7_reason_60 : decode cX7_reason 60 = .ok (.goto 4, 3) := by decide +kernel
theorem dX7_reason_63 : decode cX7_reason 63 = .ok (.iconst 5, 1) := by decide +kernel
theorem dX7_reason_64 : decode cX7_reason 64 = .ok (.ireturn, 1) := by decide +kernel
theorem dX7_why_0 : decode cX7_why 0 = .ok (.aload_n 0, 1) := by decide +kernel
theorem dX7_why_1 : decode cX7_why 1 = .ok (.iload_n 1, 1) := by decide +kernel
theorem dX7_why_2 : decode cX7_why 2 = .ok (.invokevirtual 114, 3) := by decide +kernel
theorem dX7_why_5 : decode cX7_why 5 = .ok (.ifCond .ne 5, 3) := by decide +kernel
theorem dX7_why_8 : decode cX7_why 8 = .ok (.iconst (-1), 1) := by decide +kernel
theorem dX7_why_9 : decode cX7_why 9 = .ok (.ireturn, 1) := by decide +kernel
theorem dX7_why_10 : decode cX7_why 10 = .ok (.iload_n 2, 1) := by decide +kernel
theorem dX7_why_11 : decode cX7_why 11 = .ok (.i2l, 1) := by decide +kernel
theorem dX7_why_12 : decode cX7_why 12 = .ok (.lconst 0, 1) := by decide +kernel
theorem dX7_why_13 : decode cX7_why 13 = .ok (.lconst 1, 1) := by decide +kernel
theorem dX7_why_14 : decode cX7_why 14 = .ok (.invokestatic 35, 3) := by decide +kernel
theorem dX7_why_17 : decode cX7_why 17 = .ok (.ifCond .ne 6, 3) := by decide +kernel
theorem dX7_why_20 : decode cX7_why 20 = .ok (.bipush (-2), 2) := by decide +kernel
theorem dX7_why_22 : decode cX7_why 22 = .ok (.ireturn, 1) := by decide +kernel
theorem dX7_why_23 : decode cX7_why 23 = .ok (.aload_n 0, 1) := by decide +kernel
theorem dX7_why_24 : decode cX7_why 24 = .ok (.aload_n 0, 1) := by decide +kernel
theorem dX7_why_25 : decode cX7_why 25 = .ok (.getfield 7, 3) := by decide +kernel
theorem dX7_why_28 : decode cX7_why 28 = .ok (.iconst 2, 1) := by decide +kernel
theorem dX7_why_29 : decode cX7_why 29 = .ok (.iaload, 1) := by decide +kernel
theorem dX7_why_30 : decode cX7_why 30 = .ok (.invokevirtual 100, 3) := by decide +kernel
theorem dX7_why_33 : decode cX7_why 33 = .ok (.aload_n 0, 1) := by decide +kernel
theorem dX7_why_34 : decode cX7_why 34 = .ok (.iload_n 1, 1) := by decide +kernel
theorem dX7_why_35 : decode cX7_why 35 = .ok (.invokevirtual 186, 3) := by decide +kernel
theorem dX7_why_38 : decode cX7_why 38 = .ok (.istore_n 3, 1) := by decide +kernel
theorem dX7_why_39 : decode cX7_why 39 = .ok (.iload_n 2, 1) := by decide +kernel
theorem dX7_why_40 : decode cX7_why 40 = .ok (.ifCond .ne 5, 3) := by decide +kernel
theorem dX7_why_43 : decode cX7_why 43 = .ok (.iload_n 3, 1) := by decide +kernel
theorem dX7_why_44 : decode cX7_why 44 = .ok (.ireturn, 1) := by decide +kernel
theorem dX7_why_45 : decode cX7_why 45 = .ok (.iload_n 3, 1) := by decide +kernel
theorem dX7_why_46 : decode cX7_why 46 = .ok (.iconst 3, 1) := by decide +kernel
theorem dX7_why_47 : decode cX7_why 47 = .ok (.if_icmp .eq 8, 3) := by decide +kernel
theorem dX7_why_50 : decode cX7_why 50 = .ok (.iload_n 3, 1) := by decide +kernel
theorem dX7_why_51 : decode cX7_why 51 = .ok (.iconst 4, 1) := by decide +kernel
theorem dX7_why_52 : decode cX7_why 52 = .ok (.if_icmp .ne 16, 3) := by decide +kernel
theorem dX7_why_55 : decode cX7_why 55 = .ok (.aload_n 0, 1) := by decide +kernel
theorem dX7_why_56 : decode cX7_why 56 = .ok (.aload_n 0, 1) := by decide +kernel
theorem dX7_why_57 : decode cX7_why 57 = .ok (.iload_n 1, 1) := by decide +kernel
theorem dX7_why_58 : decode cX7_why 58 = .ok (.invokevirtual 43, 3) := by decide +kernel
theorem dX7_why_61 : decode cX7_why 61 = .ok (.iconst 0, 1) := by decide +kernel
theorem dX7_why_62 : decode cX7_why 62 = .ok (.invokevirtual 47, 3) := by decide +kernel
theorem dX7_why_65 : decode cX7_why 65 = .ok (.goto 18, 3) := by decide +kernel
theorem dX7_why_68 : decode cX7_why 68 = .ok (.iload_n 3, 1) := by decide +kernel
theorem dX7_why_69 : decode cX7_why 69 = .ok (.iconst 5, 1) := by decide +kernel
theorem dX7_why_70 : decode cX7_why 70 = .ok (.if_icmp .ne 11, 3) := by decide +kernel
theorem dX7_why_73 : decode cX7_why 73 = .ok (.aload_n 0, 1) := by decide +kernel
theorem dX7_why_74 : decode cX7_why 74 = .ok (.iload_n 1, 1) := by decide +kernel
theorem dX7_why_75 : decode cX7_why 75 = .ok (.invokevirtual 189, 3) := by decide +kernel
theorem dX7_why_78 : decode cX7_why 78 = .ok (.goto 5, 3) := by decide +kernel
theorem dX7_why_81 : decode cX7_why 81 = .ok (.bipush (-6), 2) := by decide +kernel
theorem dX7_why_83 : decode cX7_why 83 = .ok (.ireturn, 1) := by decide +kernel
theorem dX7_plateNow_0 : decode cX7_plateNow 0 = .ok (.aload_n 0, 1) := by decide +kernel
theorem dX7_plateNow_1 : decode cX7_plateNow 1 = .ok (.aload_n 0, 1) := by decide +kernel
theorem dX7_plateNow_2 : decode cX7_plateNow 2 = .ok (.getfield 7, 3) := by decide +kernel
theorem dX7_plateNow_5 : decode cX7_plateNow 5 = .ok (.iconst 2, 1) := by decide +kernel
theorem dX7_plateNow_6 : decode cX7_plateNow 6 = .ok (.iaload, 1) := by decide +kernel
theorem dX7_plateNow_7 : decode cX7_plateNow 7 = .ok (.invokevirtual 100, 3) := by decide +kernel
theorem dX7_plateNow_10 : decode cX7_plateNow 10 = .ok (.aload_n 0, 1) := by decide +kernel
theorem dX7_plateNow_11 : decode cX7_plateNow 11 = .ok (.getfield 76, 3) := by decide +kernel
theorem dX7_plateNow_14 : decode cX7_plateNow 14 = .ok (.ireturn, 1) := by decide +kernel
theorem dX7_readyIn_0 : decode cX7_readyIn 0 = .ok (.aload_n 0, 1) := by decide +kernel
theorem dX7_readyIn_1 : decode cX7_readyIn 1 = .ok (.iload_n 1, 1) := by decide +kernel
theorem dX7_readyIn_2 : decode cX7_readyIn 2 = .ok (.invokevirtual 114, 3) := by decide +kernel
theorem dX7_readyIn_5 : decode cX7_readyIn 5 = .ok (.ifCond .ne 5, 3) := by decide +kernel
theorem dX7_readyIn_8 : decode cX7_readyIn 8 = .ok (.iconst (-1), 1) := by decide +kernel
theorem dX7_readyIn_9 : decode cX7_readyIn 9 = .ok (.ireturn, 1) := by decide +kernel
theorem dX7_readyIn_10 : decode cX7_readyIn 10 = .ok (.aload_n 0, 1) := by decide +kernel
theorem dX7_readyIn_11 : decode cX7_readyIn 11 = .ok (.iload_n 1, 1) := by decide +kernel
theorem dX7_readyIn_12 : decode cX7_readyIn 12 = .ok (.iconst 4, 1) := by decide +kernel
theorem dX7_readyIn_13 : decode cX7_readyIn 13 = .ok (.invokevirtual 39, 3) := by decide +kernel
theorem dX7_readyIn_16 : decode cX7_readyIn 16 = .ok (.iconst 3, 1) := by decide +kernel
theorem dX7_readyIn_17 : decode cX7_readyIn 17 = .ok (.if_icmp .ne 6, 3) := by decide +kernel
theorem dX7_readyIn_20 : decode cX7_readyIn 20 = .ok (.bipush (-5), 2) := by decide +kernel
theorem dX7_readyIn_22 : decode cX7_readyIn 22 = .ok (.ireturn, 1) := by decide +kernel
theorem dX7_readyIn_23 : decode cX7_readyIn 23 = .ok (.aload_n 0, 1) := by decide +kernel
theorem dX7_readyIn_24 : decode cX7_readyIn 24 = .ok (.getfield 7, 3) := by decide +kernel
theorem dX7_readyIn_27 : decode cX7_readyIn 27 = .ok (.aload_n 0, 1) := by decide +kernel
theorem dX7_readyIn_28 : decode cX7_readyIn 28 = .ok (.getfield 16, 3) := by decide +kernel
theorem dX7_readyIn_31 : decode cX7_readyIn 31 = .ok (.invokestatic 139, 3) := by decide +kernel
theorem dX7_readyIn_34 : decode cX7_readyIn 34 = .ok (.iconst 0, 1) := by decide +kernel
theorem dX7_readyIn_35 : decode cX7_readyIn 35 = .ok (.istore_n 2, 1) := by decide +kernel
theorem dX7_readyIn_36 : decode cX7_readyIn 36 = .ok (.aload_n 0, 1) := by decide +kernel
theorem dX7_readyIn_37 : decode cX7_readyIn 37 = .ok (.iload_n 1, 1) := by decide +kernel
theorem dX7_readyIn_38 : decode cX7_readyIn 38 = .ok (.iconst 4, 1) := by decide +kernel
theorem dX7_readyIn_39 : decode cX7_readyIn 39 = .ok (.invokevirtual 39, 3) := by decide +kernel
theorem dX7_readyIn_42 : decode cX7_readyIn 42 = .ok (.iconst 2, 1) := by decide +kernel
theorem dX7_readyIn_43 : decode cX7_readyIn 43 = .ok (.if_icmp .eq 20, 3) := by decide +kernel
theorem dX7_readyIn_46 : decode cX7_readyIn 46 = .ok (.iload_n 2, 1) := by decide +kernel
theorem dX7_readyIn_47 : decode cX7_readyIn 47 = .ok (.sipush 2000, 3) := by decide +kernel
theorem dX7_readyIn_50 : decode cX7_readyIn 50 = .ok (.if_icmp .gt 13, 3) := by decide +kernel
theorem dX7_readyIn_53 : decode cX7_readyIn 53 = .ok (.aload_n 0, 1) := by decide +kernel
theorem dX7_readyIn_54 : decode cX7_readyIn 54 = .ok (.invokevirtual 94, 3) := by decide +kernel
theorem dX7_readyIn_57 : decode cX7_readyIn 57 = .ok (.iinc 2 1, 3) := by decide +kernel
theorem dX7_readyIn_60 : decode cX7_readyIn 60 = .ok (.goto (-24), 3) := by decide +kernel
theorem dX7_readyIn_63 : decode cX7_readyIn 63 = .ok (.aload_n 0, 1) := by decide +kernel
theorem dX7_readyIn_64 : decode cX7_readyIn 64 = .ok (.getfield 16, 3) := by decide +kernel
theorem dX7_readyIn_67 : decode cX7_readyIn 67 = .ok (.aload_n 0, 1) := by decide +kernel
theorem dX7_readyIn_68 : decode cX7_readyIn 68 = .ok (.getfield 7, 3) := by decide +kernel
theorem dX7_readyIn_71 : decode cX7_readyIn 71 = .ok (.invokestatic 139, 3) := by decide +kernel
theorem dX7_readyIn_74 : decode cX7_readyIn 74 = .ok (.iload_n 2, 1) := by decide +kernel
theorem dX7_readyIn_75 : decode cX7_readyIn 75 = .ok (.sipush 2000, 3) := by decide +kernel
theorem dX7_readyIn_78 : decode cX7_readyIn 78 = .ok (.if_icmp .le 8, 3) := by decide +kernel
theorem dX7_readyIn_81 : decode cX7_readyIn 81 = .ok (.bipush (-6), 2) := by decide +kernel
theorem dX7_readyIn_83 : decode cX7_readyIn 83 = .ok (.goto 4, 3) := by decide +kernel
theorem dX7_readyIn_86 : decode cX7_readyIn 86 = .ok (.iload_n 2, 1) := by decide +kernel
theorem dX7_readyIn_87 : decode cX7_readyIn 87 = .ok (.ireturn, 1) := by decide +kernel
theorem dX7_comesToNext_0 : decode cX7_comesToNext 0 = .ok (.aload_n 0, 1) := by decide +kernel
theorem dX7_comesToNext_1 : decode cX7_comesToNext 1 = .ok (.getfield 7, 3) := by decide +kernel
theorem dX7_comesToNext_4 : decode cX7_comesToNext 4 = .ok (.bipush 7, 2) := by decide +kernel
theorem dX7_comesToNext_6 : decode cX7_comesToNext 6 = .ok (.iaload, 1) := by decide +kernel
theorem dX7_comesToNext_7 : decode cX7_comesToNext 7 = .ok (.istore_n 1, 1) := by decide +kernel
theorem dX7_comesToNext_8 : decode cX7_comesToNext 8 = .ok (.iload_n 1, 1) := by decide +kernel
theorem dX7_comesToNext_9 : decode cX7_comesToNext 9 = .ok (.aload_n 0, 1) := by decide +kernel
theorem dX7_comesToNext_10 : decode cX7_comesToNext 10 = .ok (.getfield 7, 3) := by decide +kernel
theorem dX7_comesToNext_13 : decode cX7_comesToNext 13 = .ok (.bipush 6, 2) := by decide +kernel
theorem dX7_comesToNext_15 : decode cX7_comesToNext 15 = .ok (.iaload, 1) := by decide +kernel
theorem dX7_comesToNext_16 : decode cX7_comesToNext 16 = .ok (.if_icmp .lt 5, 3) := by decide +kernel
theorem dX7_comesToNext_19 : decode cX7_comesToNext 19 = .ok (.iconst 0, 1) := by decide +kernel
theorem dX7_comesToNext_20 : decode cX7_comesToNext 20 = .ok (.ireturn, 1) := by decide +kernel
theorem dX7_comesToNext_21 : decode cX7_comesToNext 21 = .ok (.aload_n 0, 1) := by decide +kernel
theorem dX7_comesToNext_22 : decode cX7_comesToNext 22 = .ok (.getfield 7, 3) := by decide +kernel
theorem dX7_comesToNext_25 : decode cX7_comesToNext 25 = .ok (.iconst 4, 1) := by decide +kernel
theorem dX7_comesToNext_26 : decode cX7_comesToNext 26 = .ok (.iaload, 1) := by decide +kernel
theorem dX7_comesToNext_27 : decode cX7_comesToNext 27 = .ok (.aload_n 0, 1) := by decide +kernel
theorem dX7_comesToNext_28 : decode cX7_comesToNext 28 = .ok (.iload_n 1, 1) := by decide +kernel
theorem dX7_comesToNext_29 : decode cX7_comesToNext 29 = .ok (.iconst 0, 1) := by decide +kernel
theorem dX7_comesToNext_30 : decode cX7_comesToNext 30 = .ok (.invokevirtual 85, 3) := by decide +kernel
theorem dX7_comesToNext_33 : decode cX7_comesToNext 33 = .ok (.if_icmp .ge 20, 3) := by decide +kernel
theorem dX7_comesToNext_36 : decode cX7_comesToNext 36 = .ok (.aload_n 0, 1) := by decide +kernel
theorem dX7_comesToNext_37 : decode cX7_comesToNext 37 = .ok (.invokevirtual 94, 3) := by decide +kernel
theorem dX7_comesToNext_40 : decode cX7_comesToNext 40 = .ok (.aload_n 0, 1) := by decide +kernel
theorem dX7_comesToNext_41 : decode cX7_comesToNext 41 = .ok (.getfield 7, 3) := by decide +kernel
theorem dX7_comesToNext_44 : decode cX7_comesToNext 44 = .ok (.iconst 4, 1) := by decide +kernel
theorem dX7_comesToNext_45 : decode cX7_comesToNext 45 = .ok (.dup2, 1) := by decide +kernel
theorem dX7_comesToNext_46 : decode cX7_comesToNext 46 = .ok (.iaload, 1) := by decide +kernel
theorem dX7_comesToNext_47 : decode cX7_comesToNext 47 = .ok (.iconst 1, 1) := by decide +kernel
theorem dX7_comesToNext_48 : decode cX7_comesToNext 48 = .ok (.iadd, 1) := by decide +kernel
theorem dX7_comesToNext_49 : decode cX7_comesToNext 49 = .ok (.iastore, 1) := by decide +kernel
theorem dX7_comesToNext_50 : decode cX7_comesToNext 50 = .ok (.goto (-29), 3) := by decide +kernel
theorem dX7_comesToNext_53 : decode cX7_comesToNext 53 = .ok (.aload_n 0, 1) := by decide +kernel
theorem dX7_comesToNext_54 : decode cX7_comesToNext 54 = .ok (.invokevirtual 94, 3) := by decide +kernel
theorem dX7_comesToNext_57 : decode cX7_comesToNext 57 = .ok (.iconst 1, 1) := by decide +kernel
theorem dX7_comesToNext_58 : decode cX7_comesToNext 58 = .ok (.ireturn, 1) := by decide +kernel
theorem dX7_leastRoom_0 : decode cX7_leastRoom 0 = .ok (.aload_n 0, 1) := by decide +kernel
theorem dX7_leastRoom_1 : decode cX7_leastRoom 1 = .ok (.getfield 7, 3) := by decide +kernel
theorem dX7_leastRoom_4 : decode cX7_leastRoom 4 = .ok (.aload_n 0, 1) := by decide +kernel
theorem dX7_leastRoom_5 : decode cX7_leastRoom 5 = .ok (.getfield 16, 3) := by decide +kernel
theorem dX7_leastRoom_8 : decode cX7_leastRoom 8 = .ok (.invokestatic 139, 3) := by decide +kernel
theorem dX7_leastRoom_11 : decode cX7_leastRoom 11 = .ok (.aload_n 0, 1) := by decide +kernel
theorem dX7_leastRoom_12 : decode cX7_leastRoom 12 = .ok (.invokevirtual 192, 3) := by decide +kernel
theorem dX7_leastRoom_15 : decode cX7_leastRoom 15 = .ok (.istore_n 1, 1) := by decide +kernel
theorem dX7_leastRoom_16 : decode cX7_leastRoom 16 = .ok (.iconst 0, 1) := by decide +kernel
theorem dX7_leastRoom_17 : decode cX7_leastRoom 17 = .ok (.istore_n 2, 1) := by decide +kernel
theorem dX7_leastRoom_18 : decode cX7_leastRoom 18 = .ok (.iconst 0, 1) := by decide +kernel
theorem dX7_leastRoom_19 : decode cX7_leastRoom 19 = .ok (.istore_n 3, 1) := by decide +kernel
theorem dX7_leastRoom_20 : decode cX7_leastRoom 20 = .ok (.iload_n 3, 1) := by decide +kernel
theorem dX7_leastRoom_21 : decode cX7_leastRoom 21 = .ok (.aload_n 0, 1) := by decide +kernel
theorem dX7_leastRoom_22 : decode cX7_leastRoom 22 = .ok (.getfield 7, 3) := by decide +kernel
theorem dX7_leastRoom_25 : decode cX7_leastRoom 25 = .ok (.iconst 5, 1) := by decide +kernel
theorem dX7_leastRoom_26 : decode cX7_leastRoom 26 = .ok (.iaload, 1) := by decide +kernel
theorem dX7_leastRoom_27 : decode cX7_leastRoom 27 = .ok (.if_icmp .ge 30, 3) := by decide +kernel
theorem dX7_leastRoom_30 : decode cX7_leastRoom 30 = .ok (.iload_n 2, 1) := by decide +kernel
theorem dX7_leastRoom_31 : decode cX7_leastRoom 31 = .ok (.aload_n 0, 1) := by decide +kernel
theorem dX7_leastRoom_32 : decode cX7_leastRoom 32 = .ok (.iload_n 3, 1) := by decide +kernel
theorem dX7_leastRoom_33 : decode cX7_leastRoom 33 = .ok (.invokevirtual 68, 3) := by decide +kernel
theorem dX7_leastRoom_36 : decode cX7_leastRoom 36 = .ok (.ifCond .eq 12, 3) := by decide +kernel
theorem dX7_leastRoom_39 : decode cX7_leastRoom 39 = .ok (.aload_n 0, 1) := by decide +kernel
theorem dX7_leastRoom_40 : decode cX7_leastRoom 40 = .ok (.iload_n 3, 1) := by decide +kernel
theorem dX7_leastRoom_41 : decode cX7_leastRoom 41 = .ok (.iconst 1, 1) := by decide +kernel
theorem dX7_leastRoom_42 : decode cX7_leastRoom 42 = .ok (.invokevirtual 39, 3) := by decide +kernel
theorem dX7_leastRoom_45 : decode cX7_leastRoom 45 = .ok (.goto 4, 3) := by decide +kernel
theorem dX7_leastRoom_48 : decode cX7_leastRoom 48 = .ok (.iconst 0, 1) := by decide +kernel
theorem dX7_leastRoom_49 : decode cX7_leastRoom 49 = .ok (.iadd, 1) := by decide +kernel
theorem dX7_leastRoom_50 : decode cX7_leastRoom 50 = .ok (.istore_n 2, 1) := by decide +kernel
theorem dX7_leastRoom_51 : decode cX7_leastRoom 51 = .ok (.iinc 3 1, 3) := by decide +kernel
theorem dX7_leastRoom_54 : decode cX7_leastRoom 54 = .ok (.goto (-34), 3) := by decide +kernel
theorem dX7_leastRoom_57 : decode cX7_leastRoom 57 = .ok (.aload_n 0, 1) := by decide +kernel
theorem dX7_leastRoom_58 : decode cX7_leastRoom 58 = .ok (.getfield 16, 3) := by decide +kernel
theorem dX7_leastRoom_61 : decode cX7_leastRoom 61 = .ok (.aload_n 0, 1) := by decide +kernel
theorem dX7_leastRoom_62 : decode cX7_leastRoom 62 = .ok (.getfield 7, 3) := by decide +kernel
theorem dX7_leastRoom_65 : decode cX7_leastRoom 65 = .ok (.invokestatic 139, 3) := by decide +kernel
theorem dX7_leastRoom_68 : decode cX7_leastRoom 68 = .ok (.iload_n 1, 1) := by decide +kernel
theorem dX7_leastRoom_69 : decode cX7_leastRoom 69 = .ok (.ifCond .ne 8, 3) := by decide +kernel
theorem dX7_leastRoom_72 : decode cX7_leastRoom 72 = .ok (.bipush (-5), 2) := by decide +kernel
theorem dX7_leastRoom_74 : decode cX7_leastRoom 74 = .ok (.goto 27, 3) := by decide +kernel
theorem dX7_leastRoom_77 : decode cX7_leastRoom 77 = .ok (.iload_n 2, 1) := by decide +kernel
theorem dX7_leastRoom_78 : decode cX7_leastRoom 78 = .ok (.sipush 400, 3) := by decide +kernel
theorem dX7_leastRoom_81 : decode cX7_leastRoom 81 = .ok (.if_icmp .le 8, 3) := by decide +kernel
theorem dX7_leastRoom_84 : decode cX7_leastRoom 84 = .ok (.bipush (-6), 2) := by decide +kernel
theorem dX7_leastRoom_86 : decode cX7_leastRoom 86 = .ok (.goto 15, 3) := by decide +kernel
theorem dX7_leastRoom_89 : decode cX7_leastRoom 89 = .ok (.iload_n 2, 1) := by decide +kernel
theorem dX7_leastRoom_90 : decode cX7_leastRoom 90 = .ok (.bipush 10, 2) := by decide +kernel
theorem dX7_leastRoom_92 : decode cX7_leastRoom 92 = .ok (.if_icmp .ge 8, 3) := by decide +kernel
theorem dX7_leastRoom_95 : decode cX7_leastRoom 95 = .ok (.bipush 10, 2) := by decide +kernel
theorem dX7_leastRoom_97 : decode cX7_leastRoom 97 = .ok (.goto 4, 3) := by decide +kernel
theorem dX7_leastRoom_100 : decode cX7_leastRoom 100 = .ok (.iload_n 2, 1) := by decide +kernel
theorem dX7_leastRoom_101 : decode cX7_leastRoom 101 = .ok (.ireturn, 1) := by decide +kernel
theorem dX7_nextPlate_0 : decode cX7_nextPlate 0 = .ok (.aload_n 0, 1) := by decide +kernel
theorem dX7_nextPlate_1 : decode cX7_nextPlate 1 = .ok (.getfield 7, 3) := by decide +kernel
theorem dX7_nextPlate_4 : decode cX7_nextPlate 4 = .ok (.aload_n 0, 1) := by decide +kernel
theorem dX7_nextPlate_5 : decode cX7_nextPlate 5 = .ok (.getfield 16, 3) := by decide +kernel
theorem dX7_nextPlate_8 : decode cX7_nextPlate 8 = .ok (.invokestatic 139, 3) := by decide +kernel
theorem dX7_nextPlate_11 : decode cX7_nextPlate 11 = .ok (.aload_n 0, 1) := by decide +kernel
theorem dX7_nextPlate_12 : decode cX7_nextPlate 12 = .ok (.invokevirtual 192, 3) := by decide +kernel
theorem dX7_nextPlate_15 : decode cX7_nextPlate 15 = .ok (.istore_n 1, 1) := by decide +kernel
theorem dX7_nextPlate_16 : decode cX7_nextPlate 16 = .ok (.aload_n 0, 1) := by decide +kernel
theorem dX7_nextPlate_17 : decode cX7_nextPlate 17 = .ok (.aload_n 0, 1) := by decide +kernel
theorem dX7_nextPlate_18 : decode cX7_nextPlate 18 = .ok (.getfield 7, 3) := by decide +kernel
theorem dX7_nextPlate_21 : decode cX7_nextPlate 21 = .ok (.iconst 2, 1) := by decide +kernel
theorem dX7_nextPlate_22 : decode cX7_nextPlate 22 = .ok (.iaload, 1) := by decide +kernel
theorem dX7_nextPlate_23 : decode cX7_nextPlate 23 = .ok (.invokevirtual 100, 3) := by decide +kernel
theorem dX7_nextPlate_26 : decode cX7_nextPlate 26 = .ok (.aload_n 0, 1) := by decide +kernel
theorem dX7_nextPlate_27 : decode cX7_nextPlate 27 = .ok (.getfield 16, 3) := by decide +kernel
theorem dX7_nextPlate_30 : decode cX7_nextPlate 30 = .ok (.aload_n 0, 1) := by decide +kernel
theorem dX7_nextPlate_31 : decode cX7_nextPlate 31 = .ok (.getfield 7, 3) := by decide +kernel
theorem dX7_nextPlate_34 : decode cX7_nextPlate 34 = .ok (.invokestatic 139, 3) := by decide +kernel
theorem dX7_nextPlate_37 : decode cX7_nextPlate 37 = .ok (.iload_n 1, 1) := by decide +kernel
theorem dX7_nextPlate_38 : decode cX7_nextPlate 38 = .ok (.ifCond .eq 10, 3) := by decide +kernel
theorem dX7_nextPlate_41 : decode cX7_nextPlate 41 = .ok (.aload_n 0, 1) := by decide +kernel
theorem dX7_nextPlate_42 : decode cX7_nextPlate 42 = .ok (.getfield 76, 3) := by decide +kernel
theorem dX7_nextPlate_45 : decode cX7_nextPlate 45 = .ok (.goto 5, 3) := by decide +kernel
theorem dX7_nextPlate_48 : decode cX7_nextPlate 48 = .ok (.bipush (-5), 2) := by decide +kernel
theorem dX7_nextPlate_50 : decode cX7_nextPlate 50 = .ok (.ireturn, 1) := by decide +kernel
theorem dX7_put_0 : decode cX7_put 0 = .ok (.iconst 0, 1) := by decide +kernel
theorem dX7_put_1 : decode cX7_put 1 = .ok (.istore_n 3, 1) := by decide +kernel
theorem dX7_put_2 : decode cX7_put 2 = .ok (.iconst 1, 1) := by decide +kernel
theorem dX7_put_3 : decode cX7_put 3 = .ok (.istore 4, 2) := by decide +kernel
theorem dX7_put_5 : decode cX7_put 5 = .ok (.lload_n 1, 1) := by decide +kernel
theorem dX7_put_6 : decode cX7_put 6 = .ok (.lstore 5, 2) := by decide +kernel
theorem dX7_put_8 : decode cX7_put 8 = .ok (.iload_n 3, 1) := by decide +kernel
theorem dX7_put_9 : decode cX7_put 9 = .ok (.bipush 8, 2) := by decide +kernel
theorem dX7_put_11 : decode cX7_put 11 = .ok (.if_icmp .ge 57, 3) := by decide +kernel
theorem dX7_put_14 : decode cX7_put 14 = .ok (.lload 5, 2) := by decide +kernel
theorem dX7_put_16 : decode cX7_put 16 = .ok (.ldc2_w 195, 3) := by decide +kernel
theorem dX7_put_19 : decode cX7_put 19 = .ok (.land, 1) := by decide +kernel
theorem dX7_put_20 : decode cX7_put 20 = .ok (.lconst 0, 1) := by decide +kernel
theorem dX7_put_21 : decode cX7_put 21 = .ok (.lcmp, 1) := by decide +kernel
theorem dX7_put_22 : decode cX7_put 22 = .ok (.ifCond .eq 46, 3) := by decide +kernel
theorem dX7_put_25 : decode cX7_put 25 = .ok (.iload 4, 2) := by decide +kernel
theorem dX7_put_27 : decode cX7_put 27 = .ok (.ifCond .eq 25, 3) := by decide +kernel
theorem dX7_put_30 : decode cX7_put 30 = .ok (.lload 5, 2) := by decide +kernel
theorem dX7_put_32 : decode cX7_put 32 = .ok (.ldc2_w 195, 3) := by decide +kernel
theorem dX7_put_35 : decode cX7_put 35 = .ok (.land, 1) := by decide +kernel
theorem dX7_put_36 : decode cX7_put 36 = .ok (.ldc2_w 197, 3) := by decide +kernel
theorem dX7_put_39 : decode cX7_put 39 = .ok (.ldc2_w 199, 3) := by decide +kernel
theorem dX7_put_42 : decode cX7_put 42 = .ok (.invokestatic 35, 3) := by decide +kernel
theorem dX7_put_45 : decode cX7_put 45 = .ok (.ifCond .eq 7, 3) := by decide +kernel
theorem dX7_put_48 : decode cX7_put 48 = .ok (.iconst 1, 1) := by decide +kernel
theorem dX7_put_49 : decode cX7_put 49 = .ok (.goto 4, 3) := by decide +kernel
theorem dX7_put_52 : decode cX7_put 52 = .ok (.iconst 0, 1) := by decide +kernel
theorem dX7_put_53 : decode cX7_put 53 = .ok (.istore 4, 2) := by decide +kernel
theorem dX7_put_55 : decode cX7_put 55 = .ok (.lload 5, 2) := by decide +kernel
theorem dX7_put_57 : decode cX7_put 57 = .ok (.bipush 8, 2) := by decide +kernel
theorem dX7_put_59 : decode cX7_put 59 = .ok (.lushr, 1) := by decide +kernel
theorem dX7_put_60 : decode cX7_put 60 = .ok (.lstore 5, 2) := by decide +kernel
theorem dX7_put_62 : decode cX7_put 62 = .ok (.iinc 3 1, 3) := by decide +kernel
theorem dX7_put_65 : decode cX7_put 65 = .ok (.goto (-57), 3) := by decide +kernel
theorem dX7_put_68 : decode cX7_put 68 = .ok (.iload_n 3, 1) := by decide +kernel
theorem dX7_put_69 : decode cX7_put 69 = .ok (.ifCond .eq 15, 3) := by decide +kernel
theorem dX7_put_72 : decode cX7_put 72 = .ok (.lload 5, 2) := by decide +kernel
theorem dX7_put_74 : decode cX7_put 74 = .ok (.lconst 0, 1) := by decide +kernel
theorem dX7_put_75 : decode cX7_put 75 = .ok (.lcmp, 1) := by decide +kernel
theorem dX7_put_76 : decode cX7_put 76 = .ok (.ifCond .ne 8, 3) := by decide +kernel
theorem dX7_put_79 : decode cX7_put 79 = .ok (.iload 4, 2) := by decide +kernel
theorem dX7_put_81 : decode cX7_put 81 = .ok (.ifCond .ne 6, 3) := by decide +kernel
theorem dX7_put_84 : decode cX7_put 84 = .ok (.bipush (-2), 2) := by decide +kernel
theorem dX7_put_86 : decode cX7_put 86 = .ok (.ireturn, 1) := by decide +kernel
theorem dX7_put_87 : decode cX7_put 87 = .ok (.aload_n 0, 1) := by decide +kernel
theorem dX7_put_88 : decode cX7_put 88 = .ok (.getfield 183, 3) := by decide +kernel
theorem dX7_put_91 : decode cX7_put 91 = .ok (.iload_n 3, 1) := by decide +kernel
theorem dX7_put_92 : decode cX7_put 92 = .ok (.iadd, 1) := by decide +kernel
theorem dX7_put_93 : decode cX7_put 93 = .ok (.bipush 80, 2) := by decide +kernel
theorem dX7_put_95 : decode cX7_put 95 = .ok (.if_icmp .le 6, 3) := by decide +kernel
theorem dX7_put_98 : decode cX7_put 98 = .ok (.bipush (-4), 2) := by decide +kernel
theorem dX7_put_100 : decode cX7_put 100 = .ok (.ireturn, 1) := by decide +kernel
theorem dX7_put_101 : decode cX7_put 101 = .ok (.iload_n 3, 1) := by decide +kernel
theorem dX7_put_102 : decode cX7_put 102 = .ok (.iconst 1, 1) := by decide +kernel
theorem dX7_put_103 : decode cX7_put 103 = .ok (.isub, 1) := by decide +kernel
theorem dX7_put_104 : decode cX7_put 104 = .ok (.istore 7, 2) := by decide +kernel
theorem dX7_put_106 : decode cX7_put 106 = .ok (.iload 7, 2) := by decide +kernel
theorem dX7_put_108 : decode cX7_put 108 = .ok (.ifCond .lt 40, 3) := by decide +kernel
theorem dX7_put_111 : decode cX7_put 111 = .ok (.aload_n 0, 1) := by decide +kernel
theorem dX7_put_112 : decode cX7_put 112 = .ok (.getfield 28, 3) := by decide +kernel
theorem dX7_put_115 : decode cX7_put 115 = .ok (.aload_n 0, 1) := by decide +kernel
theorem dX7_put_116 : decode cX7_put 116 = .ok (.getfield 183, 3) := by decide +kernel
theorem dX7_put_119 : decode cX7_put 119 = .ok (.lload_n 1, 1) := by decide +kernel
theorem dX7_put_120 : decode cX7_put 120 = .ok (.bipush 8, 2) := by decide +kernel
theorem dX7_put_122 : decode cX7_put 122 = .ok (.iload 7, 2) := by decide +kernel
theorem dX7_put_124 : decode cX7_put 124 = .ok (.imul, 1) := by decide +kernel
theorem dX7_put_125 : decode cX7_put 125 = .ok (.lushr, 1) := by decide +kernel
theorem dX7_put_126 : decode cX7_put 126 = .ok (.ldc2_w 195, 3) := by decide +kernel
theorem dX7_put_129 : decode cX7_put 129 = .ok (.land, 1) := by decide +kernel
theorem dX7_put_130 : decode cX7_put 130 = .ok (.l2i, 1) := by decide +kernel
theorem dX7_put_131 : decode cX7_put 131 = .ok (.iastore, 1) := by decide +kernel
theorem dX7_put_132 : decode cX7_put 132 = .ok (.aload_n 0, 1) := by decide +kernel
theorem dX7_put_133 : decode cX7_put 133 = .ok (.dup, 1) := by decide +kernel
theorem dX7_put_134 : decode cX7_put 134 = .ok (.getfield 183, 3) := by decide +kernel
theorem dX7_put_137 : decode cX7_put 137 = .ok (.iconst 1, 1) := by decide +kernel
theorem dX7_put_138 : decode cX7_put 138 = .ok (.iadd, 1) := by decide +kernel
theorem dX7_put_139 : decode cX7_put 139 = .ok (.putfield 183, 3) := by decide +kernel
theorem dX7_put_142 : decode cX7_put 142 = .ok (.iinc 7 (-1), 3) := by decide +kernel
theorem dX7_put_145 : decode cX7_put 145 = .ok (.goto (-39), 3) := by decide +kernel
theorem dX7_put_148 : decode cX7_put 148 = .ok (.aload_n 0, 1) := by decide +kernel
theorem dX7_put_149 : decode cX7_put 149 = .ok (.getfield 183, 3) := by decide +kernel
theorem dX7_put_152 : decode cX7_put 152 = .ok (.ireturn, 1) := by decide +kernel
theorem dX7_wipe_0 : decode cX7_wipe 0 = .ok (.aload_n 0, 1) := by decide +kernel
theorem dX7_wipe_1 : decode cX7_wipe 1 = .ok (.getfield 183, 3) := by decide +kernel
theorem dX7_wipe_4 : decode cX7_wipe 4 = .ok (.istore_n 1, 1) := by decide +kernel
theorem dX7_wipe_5 : decode cX7_wipe 5 = .ok (.aload_n 0, 1) := by decide +kernel
theorem dX7_wipe_6 : decode cX7_wipe 6 = .ok (.iconst 0, 1) := by decide +kernel
theorem dX7_wipe_7 : decode cX7_wipe 7 = .ok (.putfield 183, 3) := by decide +kernel
theorem dX7_wipe_10 : decode cX7_wipe 10 = .ok (.iload_n 1, 1) := by decide +kernel
theorem dX7_wipe_11 : decode cX7_wipe 11 = .ok (.ireturn, 1) := by decide +kernel
theorem dX7_isHere_0 : decode cX7_isHere 0 = .ok (.aload_n 0, 1) := by decide +kernel
theorem dX7_isHere_1 : decode cX7_isHere 1 = .ok (.getfield 201, 3) := by decide +kernel
theorem dX7_isHere_4 : decode cX7_isHere 4 = .ok (.aload_n 0, 1) := by decide +kernel
theorem dX7_isHere_5 : decode cX7_isHere 5 = .ok (.getfield 183, 3) := by decide +kernel
theorem dX7_isHere_8 : decode cX7_isHere 8 = .ok (.if_icmp .ge 27, 3) := by decide +kernel
theorem dX7_isHere_11 : decode cX7_isHere 11 = .ok (.aload_n 0, 1) := by decide +kernel
theorem dX7_isHere_12 : decode cX7_isHere 12 = .ok (.getfield 28, 3) := by decide +kernel
theorem dX7_isHere_15 : decode cX7_isHere 15 = .ok (.aload_n 0, 1) := by decide +kernel
theorem dX7_isHere_16 : decode cX7_isHere 16 = .ok (.getfield 201, 3) := by decide +kernel
theorem dX7_isHere_19 : decode cX7_isHere 19 = .ok (.iaload, 1) := by decide +kernel
theorem dX7_isHere_20 : decode cX7_isHere 20 = .ok (.i2l, 1) := by decide +kernel
theorem dX7_isHere_21 : decode cX7_isHere 21 = .ok (.iload_n 1, 1) := by decide +kernel
theorem dX7_isHere_22 : decode cX7_isHere 22 = .ok (.i2l, 1) := by decide +kernel
theorem dX7_isHere_23 : decode cX7_isHere 23 = .ok (.iload_n 2, 1) := by decide +kernel
theorem dX7_isHere_24 : decode cX7_isHere 24 = .ok (.i2l, 1) := by decide +kernel
theorem dX7_isHere_25 : decode cX7_isHere 25 = .ok (.invokestatic 35, 3) := by decide +kernel
theorem dX7_isHere_28 : decode cX7_isHere 28 = .ok (.ifCond .eq 7, 3) := by decide +kernel
theorem dX7_isHere_31 : decode cX7_isHere 31 = .ok (.iconst 1, 1) := by decide +kernel
theorem dX7_isHere_32 : decode cX7_isHere 32 = .ok (.goto 4, 3) := by decide +kernel
theorem dX7_isHere_35 : decode cX7_isHere 35 = .ok (.iconst 0, 1) := by decide +kernel
theorem dX7_isHere_36 : decode cX7_isHere 36 = .ok (.ireturn, 1) := by decide +kernel
theorem dX7_takesOne_0 : decode cX7_takesOne 0 = .ok (.aload_n 0, 1) := by decide +kernel
theorem dX7_takesOne_1 : decode cX7_takesOne 1 = .ok (.iload_n 1, 1) := by decide +kernel
theorem dX7_takesOne_2 : decode cX7_takesOne 2 = .ok (.iload_n 1, 1) := by decide +kernel
theorem dX7_takesOne_3 : decode cX7_takesOne 3 = .ok (.invokevirtual 204, 3) := by decide +kernel
theorem dX7_takesOne_6 : decode cX7_takesOne 6 = .ok (.istore_n 2, 1) := by decide +kernel
theorem dX7_takesOne_7 : decode cX7_takesOne 7 = .ok (.aload_n 0, 1) := by decide +kernel
theorem dX7_takesOne_8 : decode cX7_takesOne 8 = .ok (.dup, 1) := by decide +kernel
theorem dX7_takesOne_9 : decode cX7_takesOne 9 = .ok (.getfield 201, 3) := by decide +kernel
theorem dX7_takesOne_12 : decode cX7_takesOne 12 = .ok (.iload_n 2, 1) := by decide +kernel
theorem dX7_takesOne_13 : decode cX7_takesOne 13 = .ok (.ifCond .eq 7, 3) := by decide +kernel
theorem dX7_takesOne_16 : decode cX7_takesOne 16 = .ok (.iconst 1, 1) := by decide +kernel
theorem dX7_takesOne_17 : decode cX7_takesOne 17 = .ok (.goto 4, 3) := by decide +kernel
theorem dX7_takesOne_20 : decode cX7_takesOne 20 = .ok (.iconst 0, 1) := by decide +kernel
theorem dX7_takesOne_21 : decode cX7_takesOne 21 = .ok (.iadd, 1) := by decide +kernel
theorem dX7_takesOne_22 : decode cX7_takesOne 22 = .ok (.putfield 201, 3) := by decide +kernel
theorem dX7_takesOne_25 : decode cX7_takesOne 25 = .ok (.iload_n 2, 1) := by decide +kernel
theorem dX7_takesOne_26 : decode cX7_takesOne 26 = .ok (.ireturn, 1) := by decide +kernel
theorem dX7_readsDigit_0 : decode cX7_readsDigit 0 = .ok (.aload_n 0, 1) := by decide +kernel
theorem dX7_readsDigit_1 : decode cX7_readsDigit 1 = .ok (.bipush 48, 2) := by decide +kernel
theorem dX7_readsDigit_3 : decode cX7_readsDigit 3 = .ok (.bipush 48, 2) := by decide +kernel
theorem dX7_readsDigit_5 : decode cX7_readsDigit 5 = .ok (.iload_n 1, 1) := by decide +kernel
theorem dX7_readsDigit_6 : decode cX7_readsDigit 6 = .ok (.iadd, 1) := by decide +kernel
theorem dX7_readsDigit_7 : decode cX7_readsDigit 7 = .ok (.invokevirtual 204, 3) := by decide +kernel
theorem dX7_readsDigit_10 : decode cX7_readsDigit 10 = .ok (.istore_n 2, 1) := by decide +kernel
theorem dX7_readsDigit_11 : decode cX7_readsDigit 11 = .ok (.aload_n 0, 1) := by decide +kernel
theorem dX7_readsDigit_12 : decode cX7_readsDigit 12 = .ok (.iload_n 2, 1) := by decide +kernel
theorem dX7_readsDigit_13 : decode cX7_readsDigit 13 = .ok (.ifCond .eq 18, 3) := by decide +kernel
theorem dX7_readsDigit_16 : decode cX7_readsDigit 16 = .ok (.aload_n 0, 1) := by decide +kernel
theorem dX7_readsDigit_17 : decode cX7_readsDigit 17 = .ok (.getfield 28, 3) := by decide +kernel
theorem dX7_readsDigit_20 : decode cX7_readsDigit 20 = .ok (.aload_n 0, 1) := by decide +kernel
theorem dX7_readsDigit_21 : decode cX7_readsDigit 21 = .ok (.getfield 201, 3) := by decide +kernel
theorem dX7_readsDigit_24 : decode cX7_readsDigit 24 = .ok (.iaload, 1) := by decide +kernel
theorem dX7_readsDigit_25 : decode cX7_readsDigit 25 = .ok (.bipush 48, 2) := by decide +kernel
theorem dX7_readsDigit_27 : decode cX7_readsDigit 27 = .ok (.isub, 1) := by decide +kernel
theorem dX7_readsDigit_28 : decode cX7_readsDigit 28 = .ok (.goto 4, 3) := by decide +kernel
theorem dX7_readsDigit_31 : decode cX7_readsDigit 31 = .ok (.iconst 0, 1) := by decide +kernel
theorem dX7_readsDigit_32 : decode cX7_readsDigit 32 = .ok (.putfield 207, 3) := by decide +kernel
theorem dX7_readsDigit_35 : decode cX7_readsDigit 35 = .ok (.aload_n 0, 1) := by decide +kernel
theorem dX7_readsDigit_36 : decode cX7_readsDigit 36 = .ok (.dup, 1) := by decide +kernel
theorem dX7_readsDigit_37 : decode cX7_readsDigit 37 = .ok (.getfield 201, 3) := by decide +kernel
theorem dX7_readsDigit_40 : decode cX7_readsDigit 40 = .ok (.iload_n 2, 1) := by decide +kernel
theorem dX7_readsDigit_41 : decode cX7_readsDigit 41 = .ok (.ifCond .eq 7, 3) := by decide +kernel
theorem dX7_readsDigit_44 : decode cX7_readsDigit 44 = .ok (.iconst 1, 1) := by decide +kernel
theorem dX7_readsDigit_45 : decode cX7_readsDigit 45 = .ok (.goto 4, 3) := by decide +kernel
theorem dX7_readsDigit_48 : decode cX7_readsDigit 48 = .ok (.iconst 0, 1) := by decide +kernel
theorem dX7_readsDigit_49 : decode cX7_readsDigit 49 = .ok (.iadd, 1) := by decide +kernel
theorem dX7_readsDigit_50 : decode cX7_readsDigit 50 = .ok (.putfield 201, 3) := by decide +kernel
theorem dX7_readsDigit_53 : decode cX7_readsDigit 53 = .ok (.iload_n 2, 1) := by decide +kernel
theorem dX7_readsDigit_54 : decode cX7_readsDigit 54 = .ok (.ireturn, 1) := by decide +kernel
theorem dX7_readsNumber_0 : decode cX7_readsNumber 0 = .ok (.aload_n 0, 1) := by decide +kernel
theorem dX7_readsNumber_1 : decode cX7_readsNumber 1 = .ok (.bipush 48, 2) := by decide +kernel
theorem dX7_readsNumber_3 : decode cX7_readsNumber 3 = .ok (.bipush 57, 2) := by decide +kernel
theorem dX7_readsNumber_5 : decode cX7_readsNumber 5 = .ok (.invokevirtual 204, 3) := by decide +kernel
theorem dX7_readsNumber_8 : decode cX7_readsNumber 8 = .ok (.ifCond .ne 5, 3) := by decide +kernel
theorem dX7_readsNumber_11 : decode cX7_readsNumber 11 = .ok (.iconst 0, 1) := by decide +kernel
theorem dX7_readsNumber_12 : decode cX7_readsNumber 12 = .ok (.ireturn, 1) := by decide +kernel
theorem dX7_readsNumber_13 : decode cX7_readsNumber 13 = .ok (.aload_n 0, 1) := by decide +kernel
theorem dX7_readsNumber_14 : decode cX7_readsNumber 14 = .ok (.aload_n 0, 1) := by decide +kernel
theorem dX7_readsNumber_15 : decode cX7_readsNumber 15 = .ok (.getfield 28, 3) := by decide +kernel
theorem dX7_readsNumber_18 : decode cX7_readsNumber 18 = .ok (.aload_n 0, 1) := by decide +kernel
theorem dX7_readsNumber_19 : decode cX7_readsNumber 19 = .ok (.getfield 201, 3) := by decide +kernel
theorem dX7_readsNumber_22 : decode cX7_readsNumber 22 = .ok (.iaload, 1) := by decide +kernel
theorem dX7_readsNumber_23 : decode cX7_readsNumber 23 = .ok (.bipush 48, 2) := by decide +kernel
theorem dX7_readsNumber_25 : decode cX7_readsNumber 25 = .ok (.isub, 1) := by decide +kernel
theorem dX7_readsNumber_26 : decode cX7_readsNumber 26 = .ok (.putfield 207, 3) := by decide +kernel
theorem dX7_readsNumber_29 : decode cX7_readsNumber 29 = .ok (.aload_n 0, 1) := by decide +kernel
theorem dX7_readsNumber_30 : decode cX7_readsNumber 30 = .ok (.dup, 1) := by decide +kernel
theorem dX7_readsNumber_31 : decode cX7_readsNumber 31 = .ok (.getfield 201, 3) := by decide +kernel
theorem dX7_readsNumber_34 : decode cX7_readsNumber 34 = .ok (.iconst 1, 1) := by decide +kernel
theorem dX7_readsNumber_35 : decode cX7_readsNumber 35 = .ok (.iadd, 1) := by decide +kernel
theorem dX7_readsNumber_36 : decode cX7_readsNumber 36 = .ok (.putfield 201, 3) := by decide +kernel
theorem dX7_readsNumber_39 : decode cX7_readsNumber 39 = .ok (.aload_n 0, 1) := by decide +kernel
theorem dX7_readsNumber_40 : decode cX7_readsNumber 40 = .ok (.getfield 207, 3) := by decide +kernel
theorem dX7_readsNumber_43 : decode cX7_readsNumber 43 = .ok (.ifCond .le 77, 3) := by decide +kernel
theorem dX7_readsNumber_46 : decode cX7_readsNumber 46 = .ok (.aload_n 0, 1) := by decide +kernel
theorem dX7_readsNumber_47 : decode cX7_readsNumber 47 = .ok (.bipush 48, 2) := by decide +kernel
theorem dX7_readsNumber_49 : decode cX7_readsNumber 49 = .ok (.bipush 57, 2) := by decide +kernel
theorem dX7_readsNumber_51 : decode cX7_readsNumber 51 = .ok (.invokevirtual 204, 3) := by decide +kernel
theorem dX7_readsNumber_54 : decode cX7_readsNumber 54 = .ok (.ifCond .eq 66, 3) := by decide +kernel
theorem dX7_readsNumber_57 : decode cX7_readsNumber 57 = .ok (.bipush 10, 2) := by decide +kernel
theorem dX7_readsNumber_59 : decode cX7_readsNumber 59 = .ok (.aload_n 0, 1) := by decide +kernel
theorem dX7_readsNumber_60 : decode cX7_readsNumber 60 = .ok (.getfield 207, 3) := by decide +kernel
theorem dX7_readsNumber_63 : decode cX7_readsNumber 63 = .ok (.imul, 1) := by decide +kernel
theorem dX7_readsNumber_64 : decode cX7_readsNumber 64 = .ok (.aload_n 0, 1) := by decide +kernel
theorem dX7_readsNumber_65 : decode cX7_readsNumber 65 = .ok (.getfield 28, 3) := by decide +kernel
theorem dX7_readsNumber_68 : decode cX7_readsNumber 68 = .ok (.aload_n 0, 1) := by decide +kernel
theorem dX7_readsNumber_69 : decode cX7_readsNumber 69 = .ok (.getfield 201, 3) := by decide +kernel
theorem dX7_readsNumber_72 : decode cX7_readsNumber 72 = .ok (.iaload, 1) := by decide +kernel
theorem dX7_readsNumber_73 : decode cX7_readsNumber 73 = .ok (.iadd, 1) := by decide +kernel
theorem dX7_readsNumber_74 : decode cX7_readsNumber 74 = .ok (.bipush 48, 2) := by decide +kernel
theorem dX7_readsNumber_76 : decode cX7_readsNumber 76 = .ok (.isub, 1) := by decide +kernel
theorem dX7_readsNumber_77 : decode cX7_readsNumber 77 = .ok (.sipush 999, 3) := by decide +kernel
theorem dX7_readsNumber_80 : decode cX7_readsNumber 80 = .ok (.if_icmp .gt 40, 3) := by decide +kernel
theorem dX7_readsNumber_83 : decode cX7_readsNumber 83 = .ok (.aload_n 0, 1) := by decide +kernel
theorem dX7_readsNumber_84 : decode cX7_readsNumber 84 = .ok (.bipush 10, 2) := by decide +kernel
theorem dX7_readsNumber_86 : decode cX7_readsNumber 86 = .ok (.aload_n 0, 1) := by decide +kernel
theorem dX7_readsNumber_87 : decode cX7_readsNumber 87 = .ok (.getfield 207, 3) := by decide +kernel
theorem dX7_readsNumber_90 : decode cX7_readsNumber 90 = .ok (.imul, 1) := by decide +kernel
theorem dX7_readsNumber_91 : decode cX7_readsNumber 91 = .ok (.aload_n 0, 1) := by decide +kernel
theorem dX7_readsNumber_92 : decode cX7_readsNumber 92 = .ok (.getfield 28, 3) := by decide +kernel
theorem dX7_readsNumber_95 : decode cX7_readsNumber 95 = .ok (.aload_n 0, 1) := by decide +kernel
theorem dX7_readsNumber_96 : decode cX7_readsNumber 96 = .ok (.getfield 201, 3) := by decide +kernel
theorem dX7_readsNumber_99 : decode cX7_readsNumber 99 = .ok (.iaload, 1) := by decide +kernel
theorem dX7_readsNumber_100 : decode cX7_readsNumber 100 = .ok (.iadd, 1) := by decide +kernel
theorem dX7_readsNumber_101 : decode cX7_readsNumber 101 = .ok (.bipush 48, 2) := by decide +kernel
theorem dX7_readsNumber_103 : decode cX7_readsNumber 103 = .ok (.isub, 1) := by decide +kernel
theorem dX7_readsNumber_104 : decode cX7_readsNumber 104 = .ok (.putfield 207, 3) := by decide +kernel
theorem dX7_readsNumber_107 : decode cX7_readsNumber 107 = .ok (.aload_n 0, 1) := by decide +kernel
theorem dX7_readsNumber_108 : decode cX7_readsNumber 108 = .ok (.dup, 1) := by decide +kernel
theorem dX7_readsNumber_109 : decode cX7_readsNumber 109 = .ok (.getfield 201, 3) := by decide +kernel
theorem dX7_readsNumber_112 : decode cX7_readsNumber 112 = .ok (.iconst 1, 1) := by decide +kernel
theorem dX7_readsNumber_113 : decode cX7_readsNumber 113 = .ok (.iadd, 1) := by decide +kernel
theorem dX7_readsNumber_114 : decode cX7_readsNumber 114 = .ok (.putfield 201, 3) := by decide +kernel
theorem dX7_readsNumber_117 : decode cX7_readsNumber 117 = .ok (.goto (-78), 3) := by decide +kernel
theorem dX7_readsNumber_120 : decode cX7_readsNumber 120 = .ok (.iconst 1, 1) := by decide +kernel
theorem dX7_readsNumber_121 : decode cX7_readsNumber 121 = .ok (.ireturn, 1) := by decide +kernel
theorem dX7_readsPiece_0 : decode cX7_readsPiece 0 = .ok (.aload_n 0, 1) := by decide +kernel
theorem dX7_readsPiece_1 : decode cX7_readsPiece 1 = .ok (.iconst 4, 1) := by decide +kernel
theorem dX7_readsPiece_2 : decode cX7_readsPiece 2 = .ok (.invokevirtual 210, 3) := by decide +kernel
theorem dX7_readsPiece_5 : decode cX7_readsPiece 5 = .ok (.ifCond .ne 5, 3) := by decide +kernel
theorem dX7_readsPiece_8 : decode cX7_readsPiece 8 = .ok (.iconst 0, 1) := by decide +kernel
theorem dX7_readsPiece_9 : decode cX7_readsPiece 9 = .ok (.ireturn, 1) := by decide +kernel
theorem dX7_readsPiece_10 : decode cX7_readsPiece 10 = .ok (.aload_n 0, 1) := by decide +kernel
theorem dX7_readsPiece_11 : decode cX7_readsPiece 11 = .ok (.getfield 207, 3) := by decide +kernel
theorem dX7_readsPiece_14 : decode cX7_readsPiece 14 = .ok (.istore_n 1, 1) := by decide +kernel
theorem dX7_readsPiece_15 : decode cX7_readsPiece 15 = .ok (.aload_n 0, 1) := by decide +kernel
theorem dX7_readsPiece_16 : decode cX7_readsPiece 16 = .ok (.bipush 58, 2) := by decide +kernel
theorem dX7_readsPiece_18 : decode cX7_readsPiece 18 = .ok (.invokevirtual 213, 3) := by decide +kernel
theorem dX7_readsPiece_21 : decode cX7_readsPiece 21 = .ok (.ifCond .eq 10, 3) := by decide +kernel
theorem dX7_readsPiece_24 : decode cX7_readsPiece 24 = .ok (.aload_n 0, 1) := by decide +kernel
theorem dX7_readsPiece_25 : decode cX7_readsPiece 25 = .ok (.invokevirtual 216, 3) := by decide +kernel
theorem dX7_readsPiece_28 : decode cX7_readsPiece 28 = .ok (.ifCond .ne 5, 3) := by decide +kernel
theorem dX7_readsPiece_31 : decode cX7_readsPiece 31 = .ok (.iconst 0, 1) := by decide +kernel
theorem dX7_readsPiece_32 : decode cX7_readsPiece 32 = .ok (.ireturn, 1) := by decide +kernel
theorem dX7_readsPiece_33 : decode cX7_readsPiece 33 = .ok (.aload_n 0, 1) := by decide +kernel
theorem dX7_readsPiece_34 : decode cX7_readsPiece 34 = .ok (.getfield 207, 3) := by decide +kernel
theorem dX7_readsPiece_37 : decode cX7_readsPiece 37 = .ok (.istore_n 2, 1) := by decide +kernel
theorem dX7_readsPiece_38 : decode cX7_readsPiece 38 = .ok (.aload_n 0, 1) := by decide +kernel
theorem dX7_readsPiece_39 : decode cX7_readsPiece 39 = .ok (.bipush 33, 2) := by decide +kernel
theorem dX7_readsPiece_41 : decode cX7_readsPiece 41 = .ok (.invokevirtual 213, 3) := by decide +kernel
theorem dX7_readsPiece_44 : decode cX7_readsPiece 44 = .ok (.ifCond .eq 12, 3) := by decide +kernel
theorem dX7_readsPiece_47 : decode cX7_readsPiece 47 = .ok (.aload_n 0, 1) := by decide +kernel
theorem dX7_readsPiece_48 : decode cX7_readsPiece 48 = .ok (.bipush 9, 2) := by decide +kernel
theorem dX7_readsPiece_50 : decode cX7_readsPiece 50 = .ok (.invokevirtual 210, 3) := by decide +kernel
theorem dX7_readsPiece_53 : decode cX7_readsPiece 53 = .ok (.ifCond .ne 5, 3) := by decide +kernel
theorem dX7_readsPiece_56 : decode cX7_readsPiece 56 = .ok (.iconst 0, 1) := by decide +kernel
theorem dX7_readsPiece_57 : decode cX7_readsPiece 57 = .ok (.ireturn, 1) := by decide +kernel
theorem dX7_readsPiece_58 : decode cX7_readsPiece 58 = .ok (.aload_n 0, 1) := by decide +kernel
theorem dX7_readsPiece_59 : decode cX7_readsPiece 59 = .ok (.getfield 207, 3) := by decide +kernel
theorem dX7_readsPiece_62 : decode cX7_readsPiece 62 = .ok (.istore_n 3, 1) := by decide +kernel
theorem dX7_readsPiece_63 : decode cX7_readsPiece 63 = .ok (.aload_n 0, 1) := by decide +kernel
theorem dX7_readsPiece_64 : decode cX7_readsPiece 64 = .ok (.bipush 76, 2) := by decide +kernel
theorem dX7_readsPiece_66 : decode cX7_readsPiece 66 = .ok (.invokevirtual 213, 3) := by decide +kernel
theorem dX7_readsPiece_69 : decode cX7_readsPiece 69 = .ok (.ifCond .eq 7, 3) := by decide +kernel
theorem dX7_readsPiece_72 : decode cX7_readsPiece 72 = .ok (.iconst 1, 1) := by decide +kernel
theorem dX7_readsPiece_73 : decode cX7_readsPiece 73 = .ok (.goto 4, 3) := by decide +kernel
theorem dX7_readsPiece_76 : decode cX7_readsPiece 76 = .ok (.iconst 0, 1) := by decide +kernel
theorem dX7_readsPiece_77 : decode cX7_readsPiece 77 = .ok (.istore 4, 2) := by decide +kernel
theorem dX7_readsPiece_79 : decode cX7_readsPiece 79 = .ok (.aload_n 0, 1) := by decide +kernel
theorem dX7_readsPiece_80 : decode cX7_readsPiece 80 = .ok (.aload_n 0, 1) := by decide +kernel
theorem dX7_readsPiece_81 : decode cX7_readsPiece 81 = .ok (.getfield 219, 3) := by decide +kernel
theorem dX7_readsPiece_84 : decode cX7_readsPiece 84 = .ok (.ifCond .eq 15, 3) := by decide +kernel
theorem dX7_readsPiece_87 : decode cX7_readsPiece 87 = .ok (.aload_n 0, 1) := by decide +kernel
theorem dX7_readsPiece_88 : decode cX7_readsPiece 88 = .ok (.iload_n 1, 1) := by decide +kernel
theorem dX7_readsPiece_89 : decode cX7_readsPiece 89 = .ok (.iload_n 2, 1) := by decide +kernel
theorem dX7_readsPiece_90 : decode cX7_readsPiece 90 = .ok (.iload_n 3, 1) := by decide +kernel
theorem dX7_readsPiece_91 : decode cX7_readsPiece 91 = .ok (.iload 4, 2) := by decide +kernel
theorem dX7_readsPiece_93 : decode cX7_readsPiece 93 = .ok (.invokevirtual 146, 3) := by decide +kernel
theorem dX7_readsPiece_96 : decode cX7_readsPiece 96 = .ok (.goto 4, 3) := by decide +kernel
theorem dX7_readsPiece_99 : decode cX7_readsPiece 99 = .ok (.iconst 0, 1) := by decide +kernel
theorem dX7_readsPiece_100 : decode cX7_readsPiece 100 = .ok (.putfield 223, 3) := by decide +kernel
theorem dX7_readsPiece_103 : decode cX7_readsPiece 103 = .ok (.iconst 1, 1) := by decide +kernel
theorem dX7_readsPiece_104 : decode cX7_readsPiece 104 = .ok (.ireturn, 1) := by decide +kernel
theorem dX7_readsOrder_0 : decode cX7_readsOrder 0 = .ok (.aload_n 0, 1) := by decide +kernel
theorem dX7_readsOrder_1 : decode cX7_readsOrder 1 = .ok (.bipush 43, 2) := by decide +kernel
theorem dX7_readsOrder_3 : decode cX7_readsOrder 3 = .ok (.invokevirtual 213, 3) := by decide +kernel
theorem dX7_readsOrder_6 : decode cX7_readsOrder 6 = .ok (.ifCond .eq 8, 3) := by decide +kernel
theorem dX7_readsOrder_9 : decode cX7_readsOrder 9 = .ok (.aload_n 0, 1) := by decide +kernel
theorem dX7_readsOrder_10 : decode cX7_readsOrder 10 = .ok (.invokevirtual 226, 3) := by decide +kernel
theorem dX7_readsOrder_13 : decode cX7_readsOrder 13 = .ok (.ireturn, 1) := by decide +kernel
theorem dX7_readsOrder_14 : decode cX7_readsOrder 14 = .ok (.aload_n 0, 1) := by decide +kernel
theorem dX7_readsOrder_15 : decode cX7_readsOrder 15 = .ok (.getfield 201, 3) := by decide +kernel
theorem dX7_readsOrder_18 : decode cX7_readsOrder 18 = .ok (.aload_n 0, 1) := by decide +kernel
theorem dX7_readsOrder_19 : decode cX7_readsOrder 19 = .ok (.getfield 183, 3) := by decide +kernel
theorem dX7_readsOrder_22 : decode cX7_readsOrder 22 = .ok (.if_icmp .ge 15, 3) := by decide +kernel
theorem dX7_readsOrder_25 : decode cX7_readsOrder 25 = .ok (.aload_n 0, 1) := by decide +kernel
theorem dX7_readsOrder_26 : decode cX7_readsOrder 26 = .ok (.getfield 28, 3) := by decide +kernel
theorem dX7_readsOrder_29 : decode cX7_readsOrder 29 = .ok (.aload_n 0, 1) := by decide +kernel
theorem dX7_readsOrder_30 : decode cX7_readsOrder 30 = .ok (.getfield 201, 3) := by decide +kernel
theorem dX7_readsOrder_33 : decode cX7_readsOrder 33 = .ok (.iaload, 1) := by decide +kernel
theorem dX7_readsOrder_34 : decode cX7_readsOrder 34 = .ok (.goto 4, 3) := by decide +kernel
theorem dX7_readsOrder_37 : decode cX7_readsOrder 37 = .ok (.iconst 0, 1) := by decide +kernel
theorem dX7_readsOrder_38 : decode cX7_readsOrder 38 = .ok (.istore_n 1, 1) := by decide +kernel
theorem dX7_readsOrder_39 : decode cX7_readsOrder 39 = .ok (.iload_n 1, 1) := by decide +kernel
theorem dX7_readsOrder_40 : decode cX7_readsOrder 40 = .ok (.bipush 112, 2) := by decide +kernel
theorem dX7_readsOrder_42 : decode cX7_readsOrder 42 = .ok (.if_icmp .eq 23, 3) := by decide +kernel
theorem dX7_readsOrder_45 : decode cX7_readsOrder 45 = .ok (.iload_n 1, 1) := by decide +kernel
theorem dX7_readsOrder_46 : decode cX7_readsOrder 46 = .ok (.bipush 104, 2) := by decide +kernel
theorem dX7_readsOrder_48 : decode cX7_readsOrder 48 = .ok (.if_icmp .eq 17, 3) := by decide +kernel
theorem dX7_readsOrder_51 : decode cX7_readsOrder 51 = .ok (.iload_n 1, 1) := by decide +kernel
theorem dX7_readsOrder_52 : decode cX7_readsOrder 52 = .ok (.bipush 107, 2) := by decide +kernel
theorem dX7_readsOrder_54 : decode cX7_readsOrder 54 = .ok (.if_icmp .eq 11, 3) := by decide +kernel
theorem dX7_readsOrder_57 : decode cX7_readsOrder 57 = .ok (.iload_n 1, 1) := by decide +kernel
theorem dX7_readsOrder_58 : decode cX7_readsOrder 58 = .ok (.bipush 116, 2) := by decide +kernel
theorem dX7_readsOrder_60 : decode cX7_readsOrder 60 = .ok (.if_icmp .eq 5, 3) := by decide +kernel
theorem dX7_readsOrder_63 : decode cX7_readsOrder 63 = .ok (.iconst 0, 1) := by decide +kernel
theorem dX7_readsOrder_64 : decode cX7_readsOrder 64 = .ok (.ireturn, 1) := by decide +kernel
theorem dX7_readsOrder_65 : decode cX7_readsOrder 65 = .ok (.aload_n 0, 1) := by decide +kernel
theorem dX7_readsOrder_66 : decode cX7_readsOrder 66 = .ok (.dup, 1) := by decide +kernel
theorem dX7_readsOrder_67 : decode cX7_readsOrder 67 = .ok (.getfield 201, 3) := by decide +kernel
theorem dX7_readsOrder_70 : decode cX7_readsOrder 70 = .ok (.iconst 1, 1) := by decide +kernel
theorem dX7_readsOrder_71 : decode cX7_readsOrder 71 = .ok (.iadd, 1) := by decide +kernel
theorem dX7_readsOrder_72 : decode cX7_readsOrder 72 = .ok (.putfield 201, 3) := by decide +kernel
theorem dX7_readsOrder_75 : decode cX7_readsOrder 75 = .ok (.aload_n 0, 1) := by decide +kernel
theorem dX7_readsOrder_76 : decode cX7_readsOrder 76 = .ok (.invokevirtual 216, 3) := by decide +kernel
theorem dX7_readsOrder_79 : decode cX7_readsOrder 79 = .ok (.ifCond .ne 5, 3) := by decide +kernel
theorem dX7_readsOrder_82 : decode cX7_readsOrder 82 = .ok (.iconst 0, 1) := by decide +kernel
theorem dX7_readsOrder_83 : decode cX7_readsOrder 83 = .ok (.ireturn, 1) := by decide +kernel
theorem dX7_readsOrder_84 : decode cX7_readsOrder 84 = .ok (.aload_n 0, 1) := by decide +kernel
theorem dX7_readsOrder_85 : decode cX7_readsOrder 85 = .ok (.getfield 219, 3) := by decide +kernel
theorem dX7_readsOrder_88 : decode cX7_readsOrder 88 = .ok (.ifCond .eq 66, 3) := by decide +kernel
theorem dX7_readsOrder_91 : decode cX7_readsOrder 91 = .ok (.aload_n 0, 1) := by decide +kernel
theorem dX7_readsOrder_92 : decode cX7_readsOrder 92 = .ok (.iload_n 1, 1) := by decide +kernel
theorem dX7_readsOrder_93 : decode cX7_readsOrder 93 = .ok (.bipush 112, 2) := by decide +kernel
theorem dX7_readsOrder_95 : decode cX7_readsOrder 95 = .ok (.if_icmp .ne 14, 3) := by decide +kernel
theorem dX7_readsOrder_98 : decode cX7_readsOrder 98 = .ok (.aload_n 0, 1) := by decide +kernel
theorem dX7_readsOrder_99 : decode cX7_readsOrder 99 = .ok (.aload_n 0, 1) := by decide +kernel
theorem dX7_readsOrder_100 : decode cX7_readsOrder 100 = .ok (.getfield 207, 3) := by decide +kernel
theorem dX7_readsOrder_103 : decode cX7_readsOrder 103 = .ok (.invokevirtual 150, 3) := by decide +kernel
theorem dX7_readsOrder_106 : decode cX7_readsOrder 106 = .ok (.goto 45, 3) := by decide +kernel
theorem dX7_readsOrder_109 : decode cX7_readsOrder 109 = .ok (.iload_n 1, 1) := by decide +kernel
theorem dX7_readsOrder_110 : decode cX7_readsOrder 110 = .ok (.bipush 104, 2) := by decide +kernel
theorem dX7_readsOrder_112 : decode cX7_readsOrder 112 = .ok (.if_icmp .ne 14, 3) := by decide +kernel
theorem dX7_readsOrder_115 : decode cX7_readsOrder 115 = .ok (.aload_n 0, 1) := by decide +kernel
theorem dX7_readsOrder_116 : decode cX7_readsOrder 116 = .ok (.aload_n 0, 1) := by decide +kernel
theorem dX7_readsOrder_117 : decode cX7_readsOrder 117 = .ok (.getfield 207, 3) := by decide +kernel
theorem dX7_readsOrder_120 : decode cX7_readsOrder 120 = .ok (.invokevirtual 153, 3) := by decide +kernel
theorem dX7_readsOrder_123 : decode cX7_readsOrder 123 = .ok (.goto 28, 3) := by decide +kernel
theorem dX7_readsOrder_126 : decode cX7_readsOrder 126 = .ok (.iload_n 1, 1) := by decide +kernel
theorem dX7_readsOrder_127 : decode cX7_readsOrder 127 = .ok (.bipush 107, 2) := by decide +kernel
theorem dX7_readsOrder_129 : decode cX7_readsOrder 129 = .ok (.if_icmp .ne 14, 3) := by decide +kernel
theorem dX7_readsOrder_132 : decode cX7_readsOrder 132 = .ok (.aload_n 0, 1) := by decide +kernel
theorem dX7_readsOrder_133 : decode cX7_readsOrder 133 = .ok (.aload_n 0, 1) := by decide +kernel
theorem dX7_readsOrder_134 : decode cX7_readsOrder 134 = .ok (.getfield 207, 3) := by decide +kernel
theorem dX7_readsOrder_137 : decode cX7_readsOrder 137 = .ok (.invokevirtual 156, 3) := by decide +kernel
theorem dX7_readsOrder_140 : decode cX7_readsOrder 140 = .ok (.goto 11, 3) := by decide +kernel
theorem dX7_readsOrder_143 : decode cX7_readsOrder 143 = .ok (.aload_n 0, 1) := by decide +kernel
theorem dX7_readsOrder_144 : decode cX7_readsOrder 144 = .ok (.aload_n 0, 1) := by decide +kernel
theorem dX7_readsOrder_145 : decode cX7_readsOrder 145 = .ok (.getfield 207, 3) := by decide +kernel
theorem dX7_readsOrder_148 : decode cX7_readsOrder 148 = .ok (.invokevirtual 159, 3) := by decide +kernel
theorem dX7_readsOrder_151 : decode cX7_readsOrder 151 = .ok (.putfield 223, 3) := by decide +kernel
theorem dX7_readsOrder_154 : decode cX7_readsOrder 154 = .ok (.iconst 1, 1) := by decide +kernel
theorem dX7_readsOrder_155 : decode cX7_readsOrder 155 = .ok (.ireturn, 1) := by decide +kernel
theorem dX7_fault_0 : decode cX7_fault 0 = .ok (.aload_n 0, 1) := by decide +kernel
theorem dX7_fault_1 : decode cX7_fault 1 = .ok (.iconst 0, 1) := by decide +kernel
theorem dX7_fault_2 : decode cX7_fault 2 = .ok (.putfield 201, 3) := by decide +kernel
theorem dX7_fault_5 : decode cX7_fault 5 = .ok (.aload_n 0, 1) := by decide +kernel
theorem dX7_fault_6 : decode cX7_fault 6 = .ok (.iconst 0, 1) := by decide +kernel
theorem dX7_fault_7 : decode cX7_fault 7 = .ok (.putfield 219, 3) := by decide +kernel
theorem dX7_fault_10 : decode cX7_fault 10 = .ok (.iconst 1, 1) := by decide +kernel
theorem dX7_fault_11 : decode cX7_fault 11 = .ok (.istore_n 1, 1) := by decide +kernel
theorem dX7_fault_12 : decode cX7_fault 12 = .ok (.iload_n 1, 1) := by decide +kernel
theorem dX7_fault_13 : decode cX7_fault 13 = .ok (.ifCond .eq 25, 3) := by decide +kernel
theorem dX7_fault_16 : decode cX7_fault 16 = .ok (.aload_n 0, 1) := by decide +kernel
theorem dX7_fault_17 : decode cX7_fault 17 = .ok (.invokevirtual 229, 3) := by decide +kernel
theorem dX7_fault_20 : decode cX7_fault 20 = .ok (.ifCond .ne 8, 3) := by decide +kernel
theorem dX7_fault_23 : decode cX7_fault 23 = .ok (.aload_n 0, 1) := by decide +kernel
theorem dX7_fault_24 : decode cX7_fault 24 = .ok (.getfield 201, 3) := by decide +kernel
theorem dX7_fault_27 : decode cX7_fault 27 = .ok (.ireturn, 1) := by decide +kernel
theorem dX7_fault_28 : decode cX7_fault 28 = .ok (.aload_n 0, 1) := by decide +kernel
theorem dX7_fault_29 : decode cX7_fault 29 = .ok (.bipush 59, 2) := by decide +kernel
theorem dX7_fault_31 : decode cX7_fault 31 = .ok (.invokevirtual 213, 3) := by decide +kernel
theorem dX7_fault_34 : decode cX7_fault 34 = .ok (.istore_n 1, 1) := by decide +kernel
theorem dX7_fault_35 : decode cX7_fault 35 = .ok (.goto (-23), 3) := by decide +kernel
theorem dX7_fault_38 : decode cX7_fault 38 = .ok (.aload_n 0, 1) := by decide +kernel
theorem dX7_fault_39 : decode cX7_fault 39 = .ok (.getfield 201, 3) := by decide +kernel
theorem dX7_fault_42 : decode cX7_fault 42 = .ok (.aload_n 0, 1) := by decide +kernel
theorem dX7_fault_43 : decode cX7_fault 43 = .ok (.getfield 183, 3) := by decide +kernel
theorem dX7_fault_46 : decode cX7_fault 46 = .ok (.if_icmp .ne 8, 3) := by decide +kernel
theorem dX7_fault_49 : decode cX7_fault 49 = .ok (.bipush (-6), 2) := by decide +kernel
theorem dX7_fault_51 : decode cX7_fault 51 = .ok (.goto 7, 3) := by decide +kernel
theorem dX7_fault_54 : decode cX7_fault 54 = .ok (.aload_n 0, 1) := by decide +kernel
theorem dX7_fault_55 : decode cX7_fault 55 = .ok (.getfield 201, 3) := by decide +kernel
theorem dX7_fault_58 : decode cX7_fault 58 = .ok (.ireturn, 1) := by decide +kernel
theorem dX7_carryOut_0 : decode cX7_carryOut 0 = .ok (.aload_n 0, 1) := by decide +kernel
theorem dX7_carryOut_1 : decode cX7_carryOut 1 = .ok (.invokevirtual 232, 3) := by decide +kernel
theorem dX7_carryOut_4 : decode cX7_carryOut 4 = .ok (.bipush (-6), 2) := by decide +kernel
theorem dX7_carryOut_6 : decode cX7_carryOut 6 = .ok (.if_icmp .eq 6, 3) := by decide +kernel
theorem dX7_carryOut_9 : decode cX7_carryOut 9 = .ok (.bipush (-3), 2) := by decide +kernel
theorem dX7_carryOut_11 : decode cX7_carryOut 11 = .ok (.ireturn, 1) := by decide +kernel
theorem dX7_carryOut_12 : decode cX7_carryOut 12 = .ok (.aload_n 0, 1) := by decide +kernel
theorem dX7_carryOut_13 : decode cX7_carryOut 13 = .ok (.getfield 7, 3) := by decide +kernel
theorem dX7_carryOut_16 : decode cX7_carryOut 16 = .ok (.aload_n 0, 1) := by decide +kernel
theorem dX7_carryOut_17 : decode cX7_carryOut 17 = .ok (.getfield 13, 3) := by decide +kernel
theorem dX7_carryOut_20 : decode cX7_carryOut 20 = .ok (.invokestatic 139, 3) := by decide +kernel
theorem dX7_carryOut_23 : decode cX7_carryOut 23 = .ok (.aload_n 0, 1) := by decide +kernel
theorem dX7_carryOut_24 : decode cX7_carryOut 24 = .ok (.iconst 0, 1) := by decide +kernel
theorem dX7_carryOut_25 : decode cX7_carryOut 25 = .ok (.putfield 201, 3) := by decide +kernel
theorem dX7_carryOut_28 : decode cX7_carryOut 28 = .ok (.aload_n 0, 1) := by decide +kernel
theorem dX7_carryOut_29 : decode cX7_carryOut 29 = .ok (.iconst 1, 1) := by decide +kernel
theorem dX7_carryOut_30 : decode cX7_carryOut 30 = .ok (.putfield 219, 3) := by decide +kernel
theorem dX7_carryOut_33 : decode cX7_carryOut 33 = .ok (.iconst 0, 1) := by decide +kernel
theorem dX7_carryOut_34 : decode cX7_carryOut 34 = .ok (.istore_n 1, 1) := by decide +kernel
theorem dX7_carryOut_35 : decode cX7_carryOut 35 = .ok (.iconst 1, 1) := by decide +kernel
theorem dX7_carryOut_36 : decode cX7_carryOut 36 = .ok (.istore_n 2, 1) := by decide +kernel
theorem dX7_carryOut_37 : decode cX7_carryOut 37 = .ok (.iload_n 2, 1) := by decide +kernel
theorem dX7_carryOut_38 : decode cX7_carryOut 38 = .ok (.ifCond .eq 48, 3) := by decide +kernel
theorem dX7_carryOut_41 : decode cX7_carryOut 41 = .ok (.aload_n 0, 1) := by decide +kernel
theorem dX7_carryOut_42 : decode cX7_carryOut 42 = .ok (.invokevirtual 229, 3) := by decide +kernel
theorem dX7_carryOut_45 : decode cX7_carryOut 45 = .ok (.istore_n 3, 1) := by decide +kernel
theorem dX7_carryOut_46 : decode cX7_carryOut 46 = .ok (.iload_n 1, 1) := by decide +kernel
theorem dX7_carryOut_47 : decode cX7_carryOut 47 = .ok (.aload_n 0, 1) := by decide +kernel
theorem dX7_carryOut_48 : decode cX7_carryOut 48 = .ok (.getfield 223, 3) := by decide +kernel
theorem dX7_carryOut_51 : decode cX7_carryOut 51 = .ok (.ifCond .ge 7, 3) := by decide +kernel
theorem dX7_carryOut_54 : decode cX7_carryOut 54 = .ok (.iconst 0, 1) := by decide +kernel
theorem dX7_carryOut_55 : decode cX7_carryOut 55 = .ok (.goto 4, 3) := by decide +kernel
theorem dX7_carryOut_58 : decode cX7_carryOut 58 = .ok (.iconst 1, 1) := by decide +kernel
theorem dX7_carryOut_59 : decode cX7_carryOut 59 = .ok (.iadd, 1) := by decide +kernel
theorem dX7_carryOut_60 : decode cX7_carryOut 60 = .ok (.istore_n 1, 1) := by decide +kernel
theorem dX7_carryOut_61 : decode cX7_carryOut 61 = .ok (.aload_n 0, 1) := by decide +kernel
theorem dX7_carryOut_62 : decode cX7_carryOut 62 = .ok (.getfield 223, 3) := by decide +kernel
theorem dX7_carryOut_65 : decode cX7_carryOut 65 = .ok (.ifCond .lt 16, 3) := by decide +kernel
theorem dX7_carryOut_68 : decode cX7_carryOut 68 = .ok (.aload_n 0, 1) := by decide +kernel
theorem dX7_carryOut_69 : decode cX7_carryOut 69 = .ok (.bipush 59, 2) := by decide +kernel
theorem dX7_carryOut_71 : decode cX7_carryOut 71 = .ok (.invokevirtual 213, 3) := by decide +kernel
theorem dX7_carryOut_74 : decode cX7_carryOut 74 = .ok (.ifCond .eq 7, 3) := by decide +kernel
theorem dX7_carryOut_77 : decode cX7_carryOut 77 = .ok (.iconst 1, 1) := by decide +kernel
theorem dX7_carryOut_78 : decode cX7_carryOut 78 = .ok (.goto 4, 3) := by decide +kernel
theorem dX7_carryOut_81 : decode cX7_carryOut 81 = .ok (.iconst 0, 1) := by decide +kernel
theorem dX7_carryOut_82 : decode cX7_carryOut 82 = .ok (.istore_n 2, 1) := by decide +kernel
theorem dX7_carryOut_83 : decode cX7_carryOut 83 = .ok (.goto (-46), 3) := by decide +kernel
theorem dX7_carryOut_86 : decode cX7_carryOut 86 = .ok (.aload_n 0, 1) := by decide +kernel
theorem dX7_carryOut_87 : decode cX7_carryOut 87 = .ok (.iconst 0, 1) := by decide +kernel
theorem dX7_carryOut_88 : decode cX7_carryOut 88 = .ok (.putfield 183, 3) := by decide +kernel
theorem dX7_carryOut_91 : decode cX7_carryOut 91 = .ok (.aload_n 0, 1) := by decide +kernel
theorem dX7_carryOut_92 : decode cX7_carryOut 92 = .ok (.iload_n 1, 1) := by decide +kernel
theorem dX7_carryOut_93 : decode cX7_carryOut 93 = .ok (.invokevirtual 143, 3) := by decide +kernel
theorem dX7_carryOut_96 : decode cX7_carryOut 96 = .ok (.ireturn, 1) := by decide +kernel
theorem dX7_undo_0 : decode cX7_undo 0 = .ok (.aload_n 0, 1) := by decide +kernel
theorem dX7_undo_1 : decode cX7_undo 1 = .ok (.getfield 31, 3) := by decide +kernel
theorem dX7_undo_4 : decode cX7_undo 4 = .ok (.ifCond .ne 6, 3) := by decide +kernel
theorem dX7_undo_7 : decode cX7_undo 7 = .ok (.bipush (-5), 2) := by decide +kernel
theorem dX7_undo_9 : decode cX7_undo 9 = .ok (.ireturn, 1) := by decide +kernel
theorem dX7_undo_10 : decode cX7_undo 10 = .ok (.aload_n 0, 1) := by decide +kernel
theorem dX7_undo_11 : decode cX7_undo 11 = .ok (.dup, 1) := by decide +kernel
theorem dX7_undo_12 : decode cX7_undo 12 = .ok (.getfield 31, 3) := by decide +kernel
theorem dX7_undo_15 : decode cX7_undo 15 = .ok (.iconst 1, 1) := by decide +kernel
theorem dX7_undo_16 : decode cX7_undo 16 = .ok (.isub, 1) := by decide +kernel
theorem dX7_undo_17 : decode cX7_undo 17 = .ok (.putfield 31, 3) := by decide +kernel
theorem dX7_undo_20 : decode cX7_undo 20 = .ok (.iconst 0, 1) := by decide +kernel
theorem dX7_undo_21 : decode cX7_undo 21 = .ok (.istore_n 1, 1) := by decide +kernel
theorem dX7_undo_22 : decode cX7_undo 22 = .ok (.iload_n 1, 1) := by decide +kernel
theorem dX7_undo_23 : decode cX7_undo 23 = .ok (.sipush 420, 3) := by decide +kernel
theorem dX7_undo_26 : decode cX7_undo 26 = .ok (.if_icmp .ge 30, 3) := by decide +kernel
theorem dX7_undo_29 : decode cX7_undo 29 = .ok (.aload_n 0, 1) := by decide +kernel
theorem dX7_undo_30 : decode cX7_undo 30 = .ok (.getfield 7, 3) := by decide +kernel
theorem dX7_undo_33 : decode cX7_undo 33 = .ok (.iload_n 1, 1) := by decide +kernel
theorem dX7_undo_34 : decode cX7_undo 34 = .ok (.aload_n 0, 1) := by decide +kernel
theorem dX7_undo_35 : decode cX7_undo 35 = .ok (.getfield 19, 3) := by decide +kernel
theorem dX7_undo_38 : decode cX7_undo 38 = .ok (.sipush 420, 3) := by decide +kernel
theorem dX7_undo_41 : decode cX7_undo 41 = .ok (.aload_n 0, 1) := by decide +kernel
theorem dX7_undo_42 : decode cX7_undo 42 = .ok (.getfield 31, 3) := by decide +kernel
theorem dX7_undo_45 : decode cX7_undo 45 = .ok (.imul, 1) := by decide +kernel
theorem dX7_undo_46 : decode cX7_undo 46 = .ok (.iload_n 1, 1) := by decide +kernel
theorem dX7_undo_47 : decode cX7_undo 47 = .ok (.iadd, 1) := by decide +kernel
theorem dX7_undo_48 : decode cX7_undo 48 = .ok (.iaload, 1) := by decide +kernel
theorem dX7_undo_49 : decode cX7_undo 49 = .ok (.iastore, 1) := by decide +kernel
theorem dX7_undo_50 : decode cX7_undo 50 = .ok (.iinc 1 1, 3) := by decide +kernel
theorem dX7_undo_53 : decode cX7_undo 53 = .ok (.goto (-31), 3) := by decide +kernel
theorem dX7_undo_56 : decode cX7_undo 56 = .ok (.aload_n 0, 1) := by decide +kernel
theorem dX7_undo_57 : decode cX7_undo 57 = .ok (.getfield 31, 3) := by decide +kernel
theorem dX7_undo_60 : decode cX7_undo 60 = .ok (.ireturn, 1) := by decide +kernel
theorem dX7_save_0 : decode cX7_save 0 = .ok (.iload_n 1, 1) := by decide +kernel
theorem dX7_save_1 : decode cX7_save 1 = .ok (.i2l, 1) := by decide +kernel
theorem dX7_save_2 : decode cX7_save 2 = .ok (.lconst 0, 1) := by decide +kernel
theorem dX7_save_3 : decode cX7_save 3 = .ok (.lconst 1, 1) := by decide +kernel
theorem dX7_save_4 : decode cX7_save 4 = .ok (.invokestatic 35, 3) := by decide +kernel
theorem dX7_save_7 : decode cX7_save 7 = .ok (.ifCond .ne 6, 3) := by decide +kernel
theorem dX7_save_10 : decode cX7_save 10 = .ok (.bipush (-2), 2) := by decide +kernel
theorem dX7_save_12 : decode cX7_save 12 = .ok (.ireturn, 1) := by decide +kernel
theorem dX7_save_13 : decode cX7_save 13 = .ok (.iconst 0, 1) := by decide +kernel
theorem dX7_save_14 : decode cX7_save 14 = .ok (.istore_n 2, 1) := by decide +kernel
theorem dX7_save_15 : decode cX7_save 15 = .ok (.iload_n 2, 1) := by decide +kernel
theorem dX7_save_16 : decode cX7_save 16 = .ok (.sipush 420, 3) := by decide +kernel
theorem dX7_save_19 : decode cX7_save 19 = .ok (.if_icmp .ge 27, 3) := by decide +kernel
theorem dX7_save_22 : decode cX7_save 22 = .ok (.aload_n 0, 1) := by decide +kernel
theorem dX7_save_23 : decode cX7_save 23 = .ok (.getfield 22, 3) := by decide +kernel
theorem dX7_save_26 : decode cX7_save 26 = .ok (.sipush 420, 3) := by decide +kernel
theorem dX7_save_29 : decode cX7_save 29 = .ok (.iload_n 1, 1) := by decide +kernel
theorem dX7_save_30 : decode cX7_save 30 = .ok (.imul, 1) := by decide +kernel
theorem dX7_save_31 : decode cX7_save 31 = .ok (.iload_n 2, 1) := by decide +kernel
theorem dX7_save_32 : decode cX7_save 32 = .ok (.iadd, 1) := by decide +kernel
theorem dX7_save_33 : decode cX7_save 33 = .ok (.aload_n 0, 1) := by decide +kernel
theorem dX7_save_34 : decode cX7_save 34 = .ok (.getfield 7, 3) := by decide +kernel
theorem dX7_save_37 : decode cX7_save 37 = .ok (.iload_n 2, 1) := by decide +kernel
theorem dX7_save_38 : decode cX7_save 38 = .ok (.iaload, 1) := by decide +kernel
theorem dX7_save_39 : decode cX7_save 39 = .ok (.iastore, 1) := by decide +kernel
theorem dX7_save_40 : decode cX7_save 40 = .ok (.iinc 2 1, 3) := by decide +kernel
theorem dX7_save_43 : decode cX7_save 43 = .ok (.goto (-28), 3) := by decide +kernel
theorem dX7_save_46 : decode cX7_save 46 = .ok (.aload_n 0, 1) := by decide +kernel
theorem dX7_save_47 : decode cX7_save 47 = .ok (.getfield 25, 3) := by decide +kernel
theorem dX7_save_50 : decode cX7_save 50 = .ok (.iload_n 1, 1) := by decide +kernel
theorem dX7_save_51 : decode cX7_save 51 = .ok (.iconst 1, 1) := by decide +kernel
theorem dX7_save_52 : decode cX7_save 52 = .ok (.iastore, 1) := by decide +kernel
theorem dX7_save_53 : decode cX7_save 53 = .ok (.aload_n 0, 1) := by decide +kernel
theorem dX7_save_54 : decode cX7_save 54 = .ok (.getfield 7, 3) := by decide +kernel
theorem dX7_save_57 : decode cX7_save 57 = .ok (.iconst 5, 1) := by decide +kernel
theorem dX7_save_58 : decode cX7_save 58 = .ok (.iaload, 1) := by decide +kernel
theorem dX7_save_59 : decode cX7_save 59 = .ok (.ireturn, 1) := by decide +kernel
theorem dX7_restore_0 : decode cX7_restore 0 = .ok (.iload_n 1, 1) := by decide +kernel
theorem dX7_restore_1 : decode cX7_restore 1 = .ok (.i2l, 1) := by decide +kernel
theorem dX7_restore_2 : decode cX7_restore 2 = .ok (.lconst 0, 1) := by decide +kernel
theorem dX7_restore_3 : decode cX7_restore 3 = .ok (.lconst 1, 1) := by decide +kernel
theorem dX7_restore_4 : decode cX7_restore 4 = .ok (.invokestatic 35, 3) := by decide +kernel
theorem dX7_restore_7 : decode cX7_restore 7 = .ok (.ifCond .ne 6, 3) := by decide +kernel
theorem dX7_restore_10 : decode cX7_restore 10 = .ok (.bipush (-2), 2) := by decide +kernel
theorem dX7_restore_12 : decode cX7_restore 12 = .ok (.ireturn, 1) := by decide +kernel
theorem dX7_restore_13 : decode cX7_restore 13 = .ok (.aload_n 0, 1) := by decide +kernel
theorem dX7_restore_14 : decode cX7_restore 14 = .ok (.getfield 25, 3) := by decide +kernel
theorem dX7_restore_17 : decode cX7_restore 17 = .ok (.iload_n 1, 1) := by decide +kernel
theorem dX7_restore_18 : decode cX7_restore 18 = .ok (.iaload, 1) := by decide +kernel
theorem dX7_restore_19 : decode cX7_restore 19 = .ok (.ifCond .ne 6, 3) := by decide +kernel
theorem dX7_restore_22 : decode cX7_restore 22 = .ok (.bipush (-5), 2) := by decide +kernel
theorem dX7_restore_24 : decode cX7_restore 24 = .ok (.ireturn, 1) := by decide +kernel
theorem dX7_restore_25 : decode cX7_restore 25 = .ok (.aload_n 0, 1) := by decide +kernel
theorem dX7_restore_26 : decode cX7_restore 26 = .ok (.getfield 7, 3) := by decide +kernel
theorem dX7_restore_29 : decode cX7_restore 29 = .ok (.aload_n 0, 1) := by decide +kernel
theorem dX7_restore_30 : decode cX7_restore 30 = .ok (.getfield 13, 3) := by decide +kernel
theorem dX7_restore_33 : decode cX7_restore 33 = .ok (.invokestatic 139, 3) := by decide +kernel
theorem dX7_restore_36 : decode cX7_restore 36 = .ok (.iconst 0, 1) := by decide +kernel
theorem dX7_restore_37 : decode cX7_restore 37 = .ok (.istore_n 2, 1) := by decide +kernel
theorem dX7_restore_38 : decode cX7_restore 38 = .ok (.iload_n 2, 1) := by decide +kernel
theorem dX7_restore_39 : decode cX7_restore 39 = .ok (.sipush 420, 3) := by decide +kernel
theorem dX7_restore_42 : decode cX7_restore 42 = .ok (.if_icmp .ge 27, 3) := by decide +kernel
theorem dX7_restore_45 : decode cX7_restore 45 = .ok (.aload_n 0, 1) := by decide +kernel
theorem dX7_restore_46 : decode cX7_restore 46 = .ok (.getfield 7, 3) := by decide +kernel
theorem dX7_restore_49 : decode cX7_restore 49 = .ok (.iload_n 2, 1) := by decide +kernel
theorem dX7_restore_50 : decode cX7_restore 50 = .ok (.aload_n 0, 1) := by decide +kernel
theorem dX7_restore_51 : decode cX7_restore 51 = .ok (.getfield 22, 3) := by decide +kernel
theorem dX7_restore_54 : decode cX7_restore 54 = .ok (.sipush 420, 3) := by decide +kernel
theorem dX7_restore_57 : decode cX7_restore 57 = .ok (.iload_n 1, 1) := by decide +kernel
theorem dX7_restore_58 : decode cX7_restore 58 = .ok (.imul, 1) := by decide +kernel
theorem dX7_restore_59 : decode cX7_restore 59 = .ok (.iload_n 2, 1) := by decide +kernel
theorem dX7_restore_60 : decode cX7_restore 60 = .ok (.iadd, 1) := by decide +kernel
theorem dX7_restore_61 : decode cX7_restore 61 = .ok (.iaload, 1) := by decide +kernel
theorem dX7_restore_62 : decode cX7_restore 62 = .ok (.iastore, 1) := by decide +kernel
theorem dX7_restore_63 : decode cX7_restore 63 = .ok (.iinc 2 1, 3) := by decide +kernel
theorem dX7_restore_66 : decode cX7_restore 66 = .ok (.goto (-28), 3) := by decide +kernel
theorem dX7_restore_69 : decode cX7_restore 69 = .ok (.aload_n 0, 1) := by decide +kernel
theorem dX7_restore_70 : decode cX7_restore 70 = .ok (.aload_n 0, 1) := by decide +kernel
theorem dX7_restore_71 : decode cX7_restore 71 = .ok (.getfield 7, 3) := by decide +kernel
theorem dX7_restore_74 : decode cX7_restore 74 = .ok (.iconst 5, 1) := by decide +kernel
theorem dX7_restore_75 : decode cX7_restore 75 = .ok (.iaload, 1) := by decide +kernel
theorem dX7_restore_76 : decode cX7_restore 76 = .ok (.invokevirtual 143, 3) := by decide +kernel
theorem dX7_restore_79 : decode cX7_restore 79 = .ok (.ireturn, 1) := by decide +kernel
