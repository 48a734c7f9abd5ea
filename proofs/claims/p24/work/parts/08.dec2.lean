theorem dX1_init_0 : decode cX1_init 0 = .ok (.aload_n 0, 1) := by decide +kernel
theorem dX1_init_1 : decode cX1_init 1 = .ok (.invokespecial 3, 3) := by decide +kernel
theorem dX1_init_4 : decode cX1_init 4 = .ok (.aload_n 0, 1) := by decide +kernel
theorem dX1_init_5 : decode cX1_init 5 = .ok (.getstatic 9, 3) := by decide +kernel
theorem dX1_init_8 : decode cX1_init 8 = .ok (.invokevirtual 13, 3) := by decide +kernel
theorem dX1_init_11 : decode cX1_init 11 = .ok (.checkcast 14, 3) := by decide +kernel
theorem dX1_init_14 : decode cX1_init 14 = .ok (.putfield 18, 3) := by decide +kernel
theorem dX1_init_17 : decode cX1_init 17 = .ok (.aload_n 0, 1) := by decide +kernel
theorem dX1_init_18 : decode cX1_init 18 = .ok (.iconst 0, 1) := by decide +kernel
theorem dX1_init_19 : decode cX1_init 19 = .ok (.putfield 23, 3) := by decide +kernel
theorem dX1_init_22 : decode cX1_init 22 = .ok (.aload_n 0, 1) := by decide +kernel
theorem dX1_init_23 : decode cX1_init 23 = .ok (.bipush 24, 2) := by decide +kernel
theorem dX1_init_25 : decode cX1_init 25 = .ok (.anewarray 27, 3) := by decide +kernel
theorem dX1_init_28 : decode cX1_init 28 = .ok (.putfield 29, 3) := by decide +kernel
theorem dX1_init_31 : decode cX1_init 31 = .ok (.iconst 0, 1) := by decide +kernel
theorem dX1_init_32 : decode cX1_init 32 = .ok (.istore_n 1, 1) := by decide +kernel
theorem dX1_init_33 : decode cX1_init 33 = .ok (.iload_n 1, 1) := by decide +kernel
theorem dX1_init_34 : decode cX1_init 34 = .ok (.bipush 24, 2) := by decide +kernel
theorem dX1_init_36 : decode cX1_init 36 = .ok (.if_icmp .ge 22, 3) := by decide +kernel
theorem dX1_init_39 : decode cX1_init 39 = .ok (.aload_n 0, 1) := by decide +kernel
theorem dX1_init_40 : decode cX1_init 40 = .ok (.getfield 29, 3) := by decide +kernel
theorem dX1_init_43 : decode cX1_init 43 = .ok (.iload_n 1, 1) := by decide +kernel
theorem dX1_init_44 : decode cX1_init 44 = .ok (.new 27, 3) := by decide +kernel
theorem dX1_init_47 : decode cX1_init 47 = .ok (.dup, 1) := by decide +kernel
theorem dX1_init_48 : decode cX1_init 48 = .ok (.invokespecial 33, 3) := by decide +kernel
theorem dX1_init_51 : decode cX1_init 51 = .ok (.aastore, 1) := by decide +kernel
theorem dX1_init_52 : decode cX1_init 52 = .ok (.iinc 1 1, 3) := by decide +kernel
theorem dX1_init_55 : decode cX1_init 55 = .ok (.goto (-22), 3) := by decide +kernel
theorem dX1_init_58 : decode cX1_init 58 = .ok (.aload_n 0, 1) := by decide +kernel
theorem dX1_init_59 : decode cX1_init 59 = .ok (.iconst 0, 1) := by decide +kernel
theorem dX1_init_60 : decode cX1_init 60 = .ok (.putfield 34, 3) := by decide +kernel
theorem dX1_init_63 : decode cX1_init 63 = .ok (.aload_n 0, 1) := by decide +kernel
theorem dX1_init_64 : decode cX1_init 64 = .ok (.bipush 8, 2) := by decide +kernel
theorem dX1_init_66 : decode cX1_init 66 = .ok (.anewarray 37, 3) := by decide +kernel
theorem dX1_init_69 : decode cX1_init 69 = .ok (.putfield 39, 3) := by decide +kernel
theorem dX1_init_72 : decode cX1_init 72 = .ok (.iconst 0, 1) := by decide +kernel
theorem dX1_init_73 : decode cX1_init 73 = .ok (.istore_n 1, 1) := by decide +kernel
theorem dX1_init_74 : decode cX1_init 74 = .ok (.iload_n 1, 1) := by decide +kernel
theorem dX1_init_75 : decode cX1_init 75 = .ok (.bipush 8, 2) := by decide +kernel
theorem dX1_init_77 : decode cX1_init 77 = .ok (.if_icmp .ge 22, 3) := by decide +kernel
theorem dX1_init_80 : decode cX1_init 80 = .ok (.aload_n 0, 1) := by decide +kernel
theorem dX1_init_81 : decode cX1_init 81 = .ok (.getfield 39, 3) := by decide +kernel
theorem dX1_init_84 : decode cX1_init 84 = .ok (.iload_n 1, 1) := by decide +kernel
theorem dX1_init_85 : decode cX1_init 85 = .ok (.new 37, 3) := by decide +kernel
theorem dX1_init_88 : decode cX1_init 88 = .ok (.dup, 1) := by decide +kernel
theorem dX1_init_89 : decode cX1_init 89 = .ok (.invokespecial 43, 3) := by decide +kernel
theorem dX1_init_92 : decode cX1_init 92 = .ok (.aastore, 1) := by decide +kernel
theorem dX1_init_93 : decode cX1_init 93 = .ok (.iinc 1 1, 3) := by decide +kernel
theorem dX1_init_96 : decode cX1_init 96 = .ok (.goto (-22), 3) := by decide +kernel
theorem dX1_init_99 : decode cX1_init 99 = .ok (.aload_n 0, 1) := by decide +kernel
theorem dX1_init_100 : decode cX1_init 100 = .ok (.iconst 0, 1) := by decide +kernel
theorem dX1_init_101 : decode cX1_init 101 = .ok (.putfield 44, 3) := by decide +kernel
theorem dX1_init_104 : decode cX1_init 104 = .ok (.return_, 1) := by decide +kernel
theorem dX1_copyFrom_0 : decode cX1_copyFrom 0 = .ok (.aload_n 1, 1) := by decide +kernel
theorem dX1_copyFrom_1 : decode cX1_copyFrom 1 = .ok (.getfield 18, 3) := by decide +kernel
theorem dX1_copyFrom_4 : decode cX1_copyFrom 4 = .ok (.iconst 0, 1) := by decide +kernel
theorem dX1_copyFrom_5 : decode cX1_copyFrom 5 = .ok (.aload_n 0, 1) := by decide +kernel
theorem dX1_copyFrom_6 : decode cX1_copyFrom 6 = .ok (.getfield 18, 3) := by decide +kernel
theorem dX1_copyFrom_9 : decode cX1_copyFrom 9 = .ok (.iconst 0, 1) := by decide +kernel
theorem dX1_copyFrom_10 : decode cX1_copyFrom 10 = .ok (.iconst 4, 1) := by decide +kernel
theorem dX1_copyFrom_11 : decode cX1_copyFrom 11 = .ok (.invokestatic 47, 3) := by decide +kernel
theorem dX1_copyFrom_14 : decode cX1_copyFrom 14 = .ok (.aload_n 0, 1) := by decide +kernel
theorem dX1_copyFrom_15 : decode cX1_copyFrom 15 = .ok (.aload_n 1, 1) := by decide +kernel
theorem dX1_copyFrom_16 : decode cX1_copyFrom 16 = .ok (.getfield 23, 3) := by decide +kernel
theorem dX1_copyFrom_19 : decode cX1_copyFrom 19 = .ok (.putfield 23, 3) := by decide +kernel
theorem dX1_copyFrom_22 : decode cX1_copyFrom 22 = .ok (.aload_n 0, 1) := by decide +kernel
theorem dX1_copyFrom_23 : decode cX1_copyFrom 23 = .ok (.aload_n 1, 1) := by decide +kernel
theorem dX1_copyFrom_24 : decode cX1_copyFrom 24 = .ok (.getfield 34, 3) := by decide +kernel
theorem dX1_copyFrom_27 : decode cX1_copyFrom 27 = .ok (.putfield 34, 3) := by decide +kernel
theorem dX1_copyFrom_30 : decode cX1_copyFrom 30 = .ok (.iconst 0, 1) := by decide +kernel
theorem dX1_copyFrom_31 : decode cX1_copyFrom 31 = .ok (.istore_n 2, 1) := by decide +kernel
theorem dX1_copyFrom_32 : decode cX1_copyFrom 32 = .ok (.iload_n 2, 1) := by decide +kernel
theorem dX1_copyFrom_33 : decode cX1_copyFrom 33 = .ok (.aload_n 0, 1) := by decide +kernel
theorem dX1_copyFrom_34 : decode cX1_copyFrom 34 = .ok (.getfield 34, 3) := by decide +kernel
theorem dX1_copyFrom_37 : decode cX1_copyFrom 37 = .ok (.if_icmp .ge 24, 3) := by decide +kernel
theorem dX1_copyFrom_40 : decode cX1_copyFrom 40 = .ok (.aload_n 0, 1) := by decide +kernel
theorem dX1_copyFrom_41 : decode cX1_copyFrom 41 = .ok (.getfield 29, 3) := by decide +kernel
theorem dX1_copyFrom_44 : decode cX1_copyFrom 44 = .ok (.iload_n 2, 1) := by decide +kernel
theorem dX1_copyFrom_45 : decode cX1_copyFrom 45 = .ok (.aaload, 1) := by decide +kernel
theorem dX1_copyFrom_46 : decode cX1_copyFrom 46 = .ok (.aload_n 1, 1) := by decide +kernel
theorem dX1_copyFrom_47 : decode cX1_copyFrom 47 = .ok (.getfield 29, 3) := by decide +kernel
theorem dX1_copyFrom_50 : decode cX1_copyFrom 50 = .ok (.iload_n 2, 1) := by decide +kernel
theorem dX1_copyFrom_51 : decode cX1_copyFrom 51 = .ok (.aaload, 1) := by decide +kernel
theorem dX1_copyFrom_52 : decode cX1_copyFrom 52 = .ok (.invokevirtual 53, 3) := by decide +kernel
theorem dX1_copyFrom_55 : decode cX1_copyFrom 55 = .ok (.iinc 2 1, 3) := by decide +kernel
theorem dX1_copyFrom_58 : decode cX1_copyFrom 58 = .ok (.goto (-26), 3) := by decide +kernel
theorem dX1_copyFrom_61 : decode cX1_copyFrom 61 = .ok (.aload_n 0, 1) := by decide +kernel
theorem dX1_copyFrom_62 : decode cX1_copyFrom 62 = .ok (.aload_n 1, 1) := by decide +kernel
theorem dX1_copyFrom_63 : decode cX1_copyFrom 63 = .ok (.getfield 44, 3) := by decide +kernel
theorem dX1_copyFrom_66 : decode cX1_copyFrom 66 = .ok (.putfield 44, 3) := by decide +kernel
theorem dX1_copyFrom_69 : decode cX1_copyFrom 69 = .ok (.iconst 0, 1) := by decide +kernel
theorem dX1_copyFrom_70 : decode cX1_copyFrom 70 = .ok (.istore_n 2, 1) := by decide +kernel
theorem dX1_copyFrom_71 : decode cX1_copyFrom 71 = .ok (.iload_n 2, 1) := by decide +kernel
theorem dX1_copyFrom_72 : decode cX1_copyFrom 72 = .ok (.aload_n 0, 1) := by decide +kernel
theorem dX1_copyFrom_73 : decode cX1_copyFrom 73 = .ok (.getfield 44, 3) := by decide +kernel
theorem dX1_copyFrom_76 : decode cX1_copyFrom 76 = .ok (.if_icmp .ge 24, 3) := by decide +kernel
theorem dX1_copyFrom_79 : decode cX1_copyFrom 79 = .ok (.aload_n 0, 1) := by decide +kernel
theorem dX1_copyFrom_80 : decode cX1_copyFrom 80 = .ok (.getfield 39, 3) := by decide +kernel
theorem dX1_copyFrom_83 : decode cX1_copyFrom 83 = .ok (.iload_n 2, 1) := by decide +kernel
theorem dX1_copyFrom_84 : decode cX1_copyFrom 84 = .ok (.aaload, 1) := by decide +kernel
theorem dX1_copyFrom_85 : decode cX1_copyFrom 85 = .ok (.aload_n 1, 1) := by decide +kernel
theorem dX1_copyFrom_86 : decode cX1_copyFrom 86 = .ok (.getfield 39, 3) := by decide +kernel
theorem dX1_copyFrom_89 : decode cX1_copyFrom 89 = .ok (.iload_n 2, 1) := by decide +kernel
theorem dX1_copyFrom_90 : decode cX1_copyFrom 90 = .ok (.aaload, 1) := by decide +kernel
theorem dX1_copyFrom_91 : decode cX1_copyFrom 91 = .ok (.invokevirtual 57, 3) := by decide +kernel
theorem dX1_copyFrom_94 : decode cX1_copyFrom 94 = .ok (.iinc 2 1, 3) := by decide +kernel
theorem dX1_copyFrom_97 : decode cX1_copyFrom 97 = .ok (.goto (-26), 3) := by decide +kernel
theorem dX1_copyFrom_100 : decode cX1_copyFrom 100 = .ok (.return_, 1) := by decide +kernel
theorem dX1_hasPiece_0 : decode cX1_hasPiece 0 = .ok (.iload_n 1, 1) := by decide +kernel
theorem dX1_hasPiece_1 : decode cX1_hasPiece 1 = .ok (.ifCond .lt 15, 3) := by decide +kernel
theorem dX1_hasPiece_4 : decode cX1_hasPiece 4 = .ok (.iload_n 1, 1) := by decide +kernel
theorem dX1_hasPiece_5 : decode cX1_hasPiece 5 = .ok (.aload_n 0, 1) := by decide +kernel
theorem dX1_hasPiece_6 : decode cX1_hasPiece 6 = .ok (.getfield 34, 3) := by decide +kernel
theorem dX1_hasPiece_9 : decode cX1_hasPiece 9 = .ok (.if_icmp .ge 7, 3) := by decide +kernel
theorem dX1_hasPiece_12 : decode cX1_hasPiece 12 = .ok (.iconst 1, 1) := by decide +kernel
theorem dX1_hasPiece_13 : decode cX1_hasPiece 13 = .ok (.goto 4, 3) := by decide +kernel
theorem dX1_hasPiece_16 : decode cX1_hasPiece 16 = .ok (.iconst 0, 1) := by decide +kernel
theorem dX1_hasPiece_17 : decode cX1_hasPiece 17 = .ok (.ireturn, 1) := by decide +kernel
theorem dX1_isPiece_0 : decode cX1_isPiece 0 = .ok (.aload_n 0, 1) := by decide +kernel
theorem dX1_isPiece_1 : decode cX1_isPiece 1 = .ok (.iload_n 1, 1) := by decide +kernel
theorem dX1_isPiece_2 : decode cX1_isPiece 2 = .ok (.invokevirtual 60, 3) := by decide +kernel
theorem dX1_isPiece_5 : decode cX1_isPiece 5 = .ok (.ifCond .eq 20, 3) := by decide +kernel
theorem dX1_isPiece_8 : decode cX1_isPiece 8 = .ok (.aload_n 0, 1) := by decide +kernel
theorem dX1_isPiece_9 : decode cX1_isPiece 9 = .ok (.getfield 29, 3) := by decide +kernel
theorem dX1_isPiece_12 : decode cX1_isPiece 12 = .ok (.iload_n 1, 1) := by decide +kernel
theorem dX1_isPiece_13 : decode cX1_isPiece 13 = .ok (.aaload, 1) := by decide +kernel
theorem dX1_isPiece_14 : decode cX1_isPiece 14 = .ok (.getfield 64, 3) := by decide +kernel
theorem dX1_isPiece_17 : decode cX1_isPiece 17 = .ok (.iload_n 2, 1) := by decide +kernel
theorem dX1_isPiece_18 : decode cX1_isPiece 18 = .ok (.if_icmp .ne 7, 3) := by decide +kernel
theorem dX1_isPiece_21 : decode cX1_isPiece 21 = .ok (.iconst 1, 1) := by decide +kernel
theorem dX1_isPiece_22 : decode cX1_isPiece 22 = .ok (.goto 4, 3) := by decide +kernel
theorem dX1_isPiece_25 : decode cX1_isPiece 25 = .ok (.iconst 0, 1) := by decide +kernel
theorem dX1_isPiece_26 : decode cX1_isPiece 26 = .ok (.ireturn, 1) := by decide +kernel
theorem dX1_changeSetting_0 : decode cX1_changeSetting 0 = .ok (.iload_n 1, 1) := by decide +kernel
theorem dX1_changeSetting_1 : decode cX1_changeSetting 1 = .ok (.ifCond .lt 8, 3) := by decide +kernel
theorem dX1_changeSetting_4 : decode cX1_changeSetting 4 = .ok (.iload_n 1, 1) := by decide +kernel
theorem dX1_changeSetting_5 : decode cX1_changeSetting 5 = .ok (.iconst 4, 1) := by decide +kernel
theorem dX1_changeSetting_6 : decode cX1_changeSetting 6 = .ok (.if_icmp .lt 6, 3) := by decide +kernel
theorem dX1_changeSetting_9 : decode cX1_changeSetting 9 = .ok (.bipush (-2), 2) := by decide +kernel
theorem dX1_changeSetting_11 : decode cX1_changeSetting 11 = .ok (.ireturn, 1) := by decide +kernel
theorem dX1_changeSetting_12 : decode cX1_changeSetting 12 = .ok (.iload_n 2, 1) := by decide +kernel
theorem dX1_changeSetting_13 : decode cX1_changeSetting 13 = .ok (.getstatic 67, 3) := by decide +kernel
theorem dX1_changeSetting_16 : decode cX1_changeSetting 16 = .ok (.iload_n 1, 1) := by decide +kernel
theorem dX1_changeSetting_17 : decode cX1_changeSetting 17 = .ok (.iaload, 1) := by decide +kernel
theorem dX1_changeSetting_18 : decode cX1_changeSetting 18 = .ok (.if_icmp .lt 12, 3) := by decide +kernel
theorem dX1_changeSetting_21 : decode cX1_changeSetting 21 = .ok (.iload_n 2, 1) := by decide +kernel
theorem dX1_changeSetting_22 : decode cX1_changeSetting 22 = .ok (.getstatic 70, 3) := by decide +kernel
theorem dX1_changeSetting_25 : decode cX1_changeSetting 25 = .ok (.iload_n 1, 1) := by decide +kernel
theorem dX1_changeSetting_26 : decode cX1_changeSetting 26 = .ok (.iaload, 1) := by decide +kernel
theorem dX1_changeSetting_27 : decode cX1_changeSetting 27 = .ok (.if_icmp .le 6, 3) := by decide +kernel
theorem dX1_changeSetting_30 : decode cX1_changeSetting 30 = .ok (.bipush (-2), 2) := by decide +kernel
theorem dX1_changeSetting_32 : decode cX1_changeSetting 32 = .ok (.ireturn, 1) := by decide +kernel
theorem dX1_changeSetting_33 : decode cX1_changeSetting 33 = .ok (.aload_n 0, 1) := by decide +kernel
theorem dX1_changeSetting_34 : decode cX1_changeSetting 34 = .ok (.getfield 18, 3) := by decide +kernel
theorem dX1_changeSetting_37 : decode cX1_changeSetting 37 = .ok (.iload_n 1, 1) := by decide +kernel
theorem dX1_changeSetting_38 : decode cX1_changeSetting 38 = .ok (.iaload, 1) := by decide +kernel
theorem dX1_changeSetting_39 : decode cX1_changeSetting 39 = .ok (.istore_n 3, 1) := by decide +kernel
theorem dX1_changeSetting_40 : decode cX1_changeSetting 40 = .ok (.aload_n 0, 1) := by decide +kernel
theorem dX1_changeSetting_41 : decode cX1_changeSetting 41 = .ok (.getfield 18, 3) := by decide +kernel
theorem dX1_changeSetting_44 : decode cX1_changeSetting 44 = .ok (.iload_n 1, 1) := by decide +kernel
theorem dX1_changeSetting_45 : decode cX1_changeSetting 45 = .ok (.iload_n 2, 1) := by decide +kernel
theorem dX1_changeSetting_46 : decode cX1_changeSetting 46 = .ok (.iastore, 1) := by decide +kernel
theorem dX1_changeSetting_47 : decode cX1_changeSetting 47 = .ok (.iload_n 3, 1) := by decide +kernel
theorem dX1_changeSetting_48 : decode cX1_changeSetting 48 = .ok (.ireturn, 1) := by decide +kernel
theorem dX1_addPiece_0 : decode cX1_addPiece 0 = .ok (.iload_n 1, 1) := by decide +kernel
theorem dX1_addPiece_1 : decode cX1_addPiece 1 = .ok (.ifCond .lt 8, 3) := by decide +kernel
theorem dX1_addPiece_4 : decode cX1_addPiece 4 = .ok (.iload_n 1, 1) := by decide +kernel
theorem dX1_addPiece_5 : decode cX1_addPiece 5 = .ok (.iconst 5, 1) := by decide +kernel
theorem dX1_addPiece_6 : decode cX1_addPiece 6 = .ok (.if_icmp .lt 5, 3) := by decide +kernel
theorem dX1_addPiece_9 : decode cX1_addPiece 9 = .ok (.iconst (-1), 1) := by decide +kernel
theorem dX1_addPiece_10 : decode cX1_addPiece 10 = .ok (.ireturn, 1) := by decide +kernel
theorem dX1_addPiece_11 : decode cX1_addPiece 11 = .ok (.iload_n 2, 1) := by decide +kernel
theorem dX1_addPiece_12 : decode cX1_addPiece 12 = .ok (.iconst 1, 1) := by decide +kernel
theorem dX1_addPiece_13 : decode cX1_addPiece 13 = .ok (.if_icmp .lt 30, 3) := by decide +kernel
theorem dX1_addPiece_16 : decode cX1_addPiece 16 = .ok (.iload_n 2, 1) := by decide +kernel
theorem dX1_addPiece_17 : decode cX1_addPiece 17 = .ok (.bipush 99, 2) := by decide +kernel
theorem dX1_addPiece_19 : decode cX1_addPiece 19 = .ok (.if_icmp .gt 24, 3) := by decide +kernel
theorem dX1_addPiece_22 : decode cX1_addPiece 22 = .ok (.iload_n 3, 1) := by decide +kernel
theorem dX1_addPiece_23 : decode cX1_addPiece 23 = .ok (.ifCond .lt 20, 3) := by decide +kernel
theorem dX1_addPiece_26 : decode cX1_addPiece 26 = .ok (.iload_n 3, 1) := by decide +kernel
theorem dX1_addPiece_27 : decode cX1_addPiece 27 = .ok (.bipush 9, 2) := by decide +kernel
theorem dX1_addPiece_29 : decode cX1_addPiece 29 = .ok (.if_icmp .gt 14, 3) := by decide +kernel
theorem dX1_addPiece_32 : decode cX1_addPiece 32 = .ok (.iload 4, 2) := by decide +kernel
theorem dX1_addPiece_34 : decode cX1_addPiece 34 = .ok (.ifCond .lt 9, 3) := by decide +kernel
theorem dX1_addPiece_37 : decode cX1_addPiece 37 = .ok (.iload 4, 2) := by decide +kernel
theorem dX1_addPiece_39 : decode cX1_addPiece 39 = .ok (.iconst 1, 1) := by decide +kernel
theorem dX1_addPiece_40 : decode cX1_addPiece 40 = .ok (.if_icmp .le 6, 3) := by decide +kernel
theorem dX1_addPiece_43 : decode cX1_addPiece 43 = .ok (.bipush (-2), 2) := by decide +kernel
theorem dX1_addPiece_45 : decode cX1_addPiece 45 = .ok (.ireturn, 1) := by decide +kernel
theorem dX1_addPiece_46 : decode cX1_addPiece 46 = .ok (.aload_n 0, 1) := by decide +kernel
theorem dX1_addPiece_47 : decode cX1_addPiece 47 = .ok (.getfield 34, 3) := by decide +kernel
theorem dX1_addPiece_50 : decode cX1_addPiece 50 = .ok (.bipush 24, 2) := by decide +kernel
theorem dX1_addPiece_52 : decode cX1_addPiece 52 = .ok (.if_icmp .lt 6, 3) := by decide +kernel
theorem dX1_addPiece_55 : decode cX1_addPiece 55 = .ok (.bipush (-4), 2) := by decide +kernel
theorem dX1_addPiece_57 : decode cX1_addPiece 57 = .ok (.ireturn, 1) := by decide +kernel
theorem dX1_addPiece_58 : decode cX1_addPiece 58 = .ok (.aload_n 0, 1) := by decide +kernel
theorem dX1_addPiece_59 : decode cX1_addPiece 59 = .ok (.getfield 34, 3) := by decide +kernel
theorem dX1_addPiece_62 : decode cX1_addPiece 62 = .ok (.istore 5, 2) := by decide +kernel
theorem dX1_addPiece_64 : decode cX1_addPiece 64 = .ok (.aload_n 0, 1) := by decide +kernel
theorem dX1_addPiece_65 : decode cX1_addPiece 65 = .ok (.getfield 29, 3) := by decide +kernel
theorem dX1_addPiece_68 : decode cX1_addPiece 68 = .ok (.iload 5, 2) := by decide +kernel
theorem dX1_addPiece_70 : decode cX1_addPiece 70 = .ok (.aaload, 1) := by decide +kernel
theorem dX1_addPiece_71 : decode cX1_addPiece 71 = .ok (.iload_n 1, 1) := by decide +kernel
theorem dX1_addPiece_72 : decode cX1_addPiece 72 = .ok (.iload_n 2, 1) := by decide +kernel
theorem dX1_addPiece_73 : decode cX1_addPiece 73 = .ok (.iload_n 3, 1) := by decide +kernel
theorem dX1_addPiece_74 : decode cX1_addPiece 74 = .ok (.iload 4, 2) := by decide +kernel
theorem dX1_addPiece_76 : decode cX1_addPiece 76 = .ok (.iconst 1, 1) := by decide +kernel
theorem dX1_addPiece_77 : decode cX1_addPiece 77 = .ok (.if_icmp .ne 7, 3) := by decide +kernel
theorem dX1_addPiece_80 : decode cX1_addPiece 80 = .ok (.iconst 1, 1) := by decide +kernel
theorem dX1_addPiece_81 : decode cX1_addPiece 81 = .ok (.goto 4, 3) := by decide +kernel
theorem dX1_addPiece_84 : decode cX1_addPiece 84 = .ok (.iconst 0, 1) := by decide +kernel
theorem dX1_addPiece_85 : decode cX1_addPiece 85 = .ok (.invokevirtual 73, 3) := by decide +kernel
theorem dX1_addPiece_88 : decode cX1_addPiece 88 = .ok (.aload_n 0, 1) := by decide +kernel
theorem dX1_addPiece_89 : decode cX1_addPiece 89 = .ok (.dup, 1) := by decide +kernel
theorem dX1_addPiece_90 : decode cX1_addPiece 90 = .ok (.getfield 34, 3) := by decide +kernel
theorem dX1_addPiece_93 : decode cX1_addPiece 93 = .ok (.iconst 1, 1) := by decide +kernel
theorem dX1_addPiece_94 : decode cX1_addPiece 94 = .ok (.iadd, 1) := by decide +kernel
theorem dX1_addPiece_95 : decode cX1_addPiece 95 = .ok (.putfield 34, 3) := by decide +kernel
theorem dX1_addPiece_98 : decode cX1_addPiece 98 = .ok (.iload 5, 2) := by decide +kernel
theorem dX1_addPiece_100 : decode cX1_addPiece 100 = .ok (.ireturn, 1) := by decide +kernel
theorem dX1_addPlate_0 : decode cX1_addPlate 0 = .ok (.iload_n 1, 1) := by decide +kernel
theorem dX1_addPlate_1 : decode cX1_addPlate 1 = .ok (.aload_n 0, 1) := by decide +kernel
theorem dX1_addPlate_2 : decode cX1_addPlate 2 = .ok (.getfield 23, 3) := by decide +kernel
theorem dX1_addPlate_5 : decode cX1_addPlate 5 = .ok (.if_icmp .lt 10, 3) := by decide +kernel
theorem dX1_addPlate_8 : decode cX1_addPlate 8 = .ok (.iload_n 1, 1) := by decide +kernel
theorem dX1_addPlate_9 : decode cX1_addPlate 9 = .ok (.sipush 600, 3) := by decide +kernel
theorem dX1_addPlate_12 : decode cX1_addPlate 12 = .ok (.if_icmp .lt 6, 3) := by decide +kernel
theorem dX1_addPlate_15 : decode cX1_addPlate 15 = .ok (.bipush (-2), 2) := by decide +kernel
theorem dX1_addPlate_17 : decode cX1_addPlate 17 = .ok (.ireturn, 1) := by decide +kernel
theorem dX1_addPlate_18 : decode cX1_addPlate 18 = .ok (.aload_n 0, 1) := by decide +kernel
theorem dX1_addPlate_19 : decode cX1_addPlate 19 = .ok (.getfield 44, 3) := by decide +kernel
theorem dX1_addPlate_22 : decode cX1_addPlate 22 = .ok (.bipush 8, 2) := by decide +kernel
theorem dX1_addPlate_24 : decode cX1_addPlate 24 = .ok (.if_icmp .lt 6, 3) := by decide +kernel
theorem dX1_addPlate_27 : decode cX1_addPlate 27 = .ok (.bipush (-4), 2) := by decide +kernel
theorem dX1_addPlate_29 : decode cX1_addPlate 29 = .ok (.ireturn, 1) := by decide +kernel
theorem dX1_addPlate_30 : decode cX1_addPlate 30 = .ok (.aload_n 0, 1) := by decide +kernel
theorem dX1_addPlate_31 : decode cX1_addPlate 31 = .ok (.iload_n 1, 1) := by decide +kernel
theorem dX1_addPlate_32 : decode cX1_addPlate 32 = .ok (.invokevirtual 77, 3) := by decide +kernel
theorem dX1_addPlate_35 : decode cX1_addPlate 35 = .ok (.ifCond .lt 6, 3) := by decide +kernel
theorem dX1_addPlate_38 : decode cX1_addPlate 38 = .ok (.bipush (-5), 2) := by decide +kernel
theorem dX1_addPlate_40 : decode cX1_addPlate 40 = .ok (.ireturn, 1) := by decide +kernel
theorem dX1_addPlate_41 : decode cX1_addPlate 41 = .ok (.aload_n 0, 1) := by decide +kernel
theorem dX1_addPlate_42 : decode cX1_addPlate 42 = .ok (.iload_n 1, 1) := by decide +kernel
theorem dX1_addPlate_43 : decode cX1_addPlate 43 = .ok (.iconst 0, 1) := by decide +kernel
theorem dX1_addPlate_44 : decode cX1_addPlate 44 = .ok (.invokevirtual 81, 3) := by decide +kernel
theorem dX1_addPlate_47 : decode cX1_addPlate 47 = .ok (.ireturn, 1) := by decide +kernel
theorem dX1_turnHold_0 : decode cX1_turnHold 0 = .ok (.aload_n 0, 1) := by decide +kernel
theorem dX1_turnHold_1 : decode cX1_turnHold 1 = .ok (.iload_n 1, 1) := by decide +kernel
theorem dX1_turnHold_2 : decode cX1_turnHold 2 = .ok (.invokevirtual 60, 3) := by decide +kernel
theorem dX1_turnHold_5 : decode cX1_turnHold 5 = .ok (.ifCond .ne 5, 3) := by decide +kernel
theorem dX1_turnHold_8 : decode cX1_turnHold 8 = .ok (.iconst (-1), 1) := by decide +kernel
theorem dX1_turnHold_9 : decode cX1_turnHold 9 = .ok (.ireturn, 1) := by decide +kernel
theorem dX1_turnHold_10 : decode cX1_turnHold 10 = .ok (.aload_n 0, 1) := by decide +kernel
theorem dX1_turnHold_11 : decode cX1_turnHold 11 = .ok (.getfield 29, 3) := by decide +kernel
theorem dX1_turnHold_14 : decode cX1_turnHold 14 = .ok (.iload_n 1, 1) := by decide +kernel
theorem dX1_turnHold_15 : decode cX1_turnHold 15 = .ok (.aaload, 1) := by decide +kernel
theorem dX1_turnHold_16 : decode cX1_turnHold 16 = .ok (.astore_n 2, 1) := by decide +kernel
theorem dX1_turnHold_17 : decode cX1_turnHold 17 = .ok (.aload_n 2, 1) := by decide +kernel
theorem dX1_turnHold_18 : decode cX1_turnHold 18 = .ok (.getfield 64, 3) := by decide +kernel
theorem dX1_turnHold_21 : decode cX1_turnHold 21 = .ok (.iconst 3, 1) := by decide +kernel
theorem dX1_turnHold_22 : decode cX1_turnHold 22 = .ok (.if_icmp .ne 6, 3) := by decide +kernel
theorem dX1_turnHold_25 : decode cX1_turnHold 25 = .ok (.bipush (-5), 2) := by decide +kernel
theorem dX1_turnHold_27 : decode cX1_turnHold 27 = .ok (.ireturn, 1) := by decide +kernel
theorem dX1_turnHold_28 : decode cX1_turnHold 28 = .ok (.aload_n 2, 1) := by decide +kernel
theorem dX1_turnHold_29 : decode cX1_turnHold 29 = .ok (.aload_n 2, 1) := by decide +kernel
theorem dX1_turnHold_30 : decode cX1_turnHold 30 = .ok (.getfield 85, 3) := by decide +kernel
theorem dX1_turnHold_33 : decode cX1_turnHold 33 = .ok (.ifCond .ne 7, 3) := by decide +kernel
theorem dX1_turnHold_36 : decode cX1_turnHold 36 = .ok (.iconst 1, 1) := by decide +kernel
theorem dX1_turnHold_37 : decode cX1_turnHold 37 = .ok (.goto 4, 3) := by decide +kernel
theorem dX1_turnHold_40 : decode cX1_turnHold 40 = .ok (.iconst 0, 1) := by decide +kernel
theorem dX1_turnHold_41 : decode cX1_turnHold 41 = .ok (.putfield 85, 3) := by decide +kernel
theorem dX1_turnHold_44 : decode cX1_turnHold 44 = .ok (.aload_n 2, 1) := by decide +kernel
theorem dX1_turnHold_45 : decode cX1_turnHold 45 = .ok (.getfield 85, 3) := by decide +kernel
theorem dX1_turnHold_48 : decode cX1_turnHold 48 = .ok (.invokestatic 89, 3) := by decide +kernel
theorem dX1_turnHold_51 : decode cX1_turnHold 51 = .ok (.ireturn, 1) := by decide +kernel
theorem dX1_killPiece_0 : decode cX1_killPiece 0 = .ok (.aload_n 0, 1) := by decide +kernel
theorem dX1_killPiece_1 : decode cX1_killPiece 1 = .ok (.iload_n 1, 1) := by decide +kernel
theorem dX1_killPiece_2 : decode cX1_killPiece 2 = .ok (.invokevirtual 60, 3) := by decide +kernel
theorem dX1_killPiece_5 : decode cX1_killPiece 5 = .ok (.ifCond .ne 5, 3) := by decide +kernel
theorem dX1_killPiece_8 : decode cX1_killPiece 8 = .ok (.iconst (-1), 1) := by decide +kernel
theorem dX1_killPiece_9 : decode cX1_killPiece 9 = .ok (.ireturn, 1) := by decide +kernel
theorem dX1_killPiece_10 : decode cX1_killPiece 10 = .ok (.aload_n 0, 1) := by decide +kernel
theorem dX1_killPiece_11 : decode cX1_killPiece 11 = .ok (.getfield 29, 3) := by decide +kernel
theorem dX1_killPiece_14 : decode cX1_killPiece 14 = .ok (.iload_n 1, 1) := by decide +kernel
theorem dX1_killPiece_15 : decode cX1_killPiece 15 = .ok (.aaload, 1) := by decide +kernel
theorem dX1_killPiece_16 : decode cX1_killPiece 16 = .ok (.astore_n 2, 1) := by decide +kernel
theorem dX1_killPiece_17 : decode cX1_killPiece 17 = .ok (.aload_n 2, 1) := by decide +kernel
theorem dX1_killPiece_18 : decode cX1_killPiece 18 = .ok (.getfield 64, 3) := by decide +kernel
theorem dX1_killPiece_21 : decode cX1_killPiece 21 = .ok (.iconst 3, 1) := by decide +kernel
theorem dX1_killPiece_22 : decode cX1_killPiece 22 = .ok (.if_icmp .ne 6, 3) := by decide +kernel
theorem dX1_killPiece_25 : decode cX1_killPiece 25 = .ok (.bipush (-5), 2) := by decide +kernel
theorem dX1_killPiece_27 : decode cX1_killPiece 27 = .ok (.ireturn, 1) := by decide +kernel
theorem dX1_killPiece_28 : decode cX1_killPiece 28 = .ok (.aload_n 2, 1) := by decide +kernel
theorem dX1_killPiece_29 : decode cX1_killPiece 29 = .ok (.iconst 3, 1) := by decide +kernel
theorem dX1_killPiece_30 : decode cX1_killPiece 30 = .ok (.putfield 64, 3) := by decide +kernel
theorem dX1_killPiece_33 : decode cX1_killPiece 33 = .ok (.aload_n 0, 1) := by decide +kernel
theorem dX1_killPiece_34 : decode cX1_killPiece 34 = .ok (.iload_n 1, 1) := by decide +kernel
theorem dX1_killPiece_35 : decode cX1_killPiece 35 = .ok (.invokevirtual 93, 3) := by decide +kernel
theorem dX1_killPiece_38 : decode cX1_killPiece 38 = .ok (.ifCond .eq 14, 3) := by decide +kernel
theorem dX1_killPiece_41 : decode cX1_killPiece 41 = .ok (.aload_n 0, 1) := by decide +kernel
theorem dX1_killPiece_42 : decode cX1_killPiece 42 = .ok (.invokevirtual 96, 3) := by decide +kernel
theorem dX1_killPiece_45 : decode cX1_killPiece 45 = .ok (.ifCond .eq 7, 3) := by decide +kernel
theorem dX1_killPiece_48 : decode cX1_killPiece 48 = .ok (.iconst 1, 1) := by decide +kernel
theorem dX1_killPiece_49 : decode cX1_killPiece 49 = .ok (.goto 4, 3) := by decide +kernel
theorem dX1_killPiece_52 : decode cX1_killPiece 52 = .ok (.iconst 0, 1) := by decide +kernel
theorem dX1_killPiece_53 : decode cX1_killPiece 53 = .ok (.invokestatic 89, 3) := by decide +kernel
theorem dX1_killPiece_56 : decode cX1_killPiece 56 = .ok (.ireturn, 1) := by decide +kernel
theorem dX1_passMinutes_0 : decode cX1_passMinutes 0 = .ok (.iload_n 1, 1) := by decide +kernel
theorem dX1_passMinutes_1 : decode cX1_passMinutes 1 = .ok (.iconst 1, 1) := by decide +kernel
theorem dX1_passMinutes_2 : decode cX1_passMinutes 2 = .ok (.if_icmp .ge 6, 3) := by decide +kernel
theorem dX1_passMinutes_5 : decode cX1_passMinutes 5 = .ok (.bipush (-2), 2) := by decide +kernel
theorem dX1_passMinutes_7 : decode cX1_passMinutes 7 = .ok (.ireturn, 1) := by decide +kernel
theorem dX1_passMinutes_8 : decode cX1_passMinutes 8 = .ok (.iload_n 1, 1) := by decide +kernel
theorem dX1_passMinutes_9 : decode cX1_passMinutes 9 = .ok (.sipush 600, 3) := by decide +kernel
theorem dX1_passMinutes_12 : decode cX1_passMinutes 12 = .ok (.aload_n 0, 1) := by decide +kernel
theorem dX1_passMinutes_13 : decode cX1_passMinutes 13 = .ok (.getfield 23, 3) := by decide +kernel
theorem dX1_passMinutes_16 : decode cX1_passMinutes 16 = .ok (.isub, 1) := by decide +kernel
theorem dX1_passMinutes_17 : decode cX1_passMinutes 17 = .ok (.if_icmp .le 6, 3) := by decide +kernel
theorem dX1_passMinutes_20 : decode cX1_passMinutes 20 = .ok (.bipush (-5), 2) := by decide +kernel
theorem dX1_passMinutes_22 : decode cX1_passMinutes 22 = .ok (.ireturn, 1) := by decide +kernel
theorem dX1_passMinutes_23 : decode cX1_passMinutes 23 = .ok (.iconst 0, 1) := by decide +kernel
theorem dX1_passMinutes_24 : decode cX1_passMinutes 24 = .ok (.istore_n 2, 1) := by decide +kernel
theorem dX1_passMinutes_25 : decode cX1_passMinutes 25 = .ok (.iconst 0, 1) := by decide +kernel
theorem dX1_passMinutes_26 : decode cX1_passMinutes 26 = .ok (.istore_n 3, 1) := by decide +kernel
theorem dX1_passMinutes_27 : decode cX1_passMinutes 27 = .ok (.iload_n 3, 1) := by decide +kernel
theorem dX1_passMinutes_28 : decode cX1_passMinutes 28 = .ok (.iload_n 1, 1) := by decide +kernel
theorem dX1_passMinutes_29 : decode cX1_passMinutes 29 = .ok (.if_icmp .ge 19, 3) := by decide +kernel
theorem dX1_passMinutes_32 : decode cX1_passMinutes 32 = .ok (.iload_n 2, 1) := by decide +kernel
theorem dX1_passMinutes_33 : decode cX1_passMinutes 33 = .ok (.aload_n 0, 1) := by decide +kernel
theorem dX1_passMinutes_34 : decode cX1_passMinutes 34 = .ok (.invokevirtual 100, 3) := by decide +kernel
theorem dX1_passMinutes_37 : decode cX1_passMinutes 37 = .ok (.invokestatic 89, 3) := by decide +kernel
theorem dX1_passMinutes_40 : decode cX1_passMinutes 40 = .ok (.iadd, 1) := by decide +kernel
theorem dX1_passMinutes_41 : decode cX1_passMinutes 41 = .ok (.istore_n 2, 1) := by decide +kernel
theorem dX1_passMinutes_42 : decode cX1_passMinutes 42 = .ok (.iinc 3 1, 3) := by decide +kernel
theorem dX1_passMinutes_45 : decode cX1_passMinutes 45 = .ok (.goto (-18), 3) := by decide +kernel
theorem dX1_passMinutes_48 : decode cX1_passMinutes 48 = .ok (.iload_n 2, 1) := by decide +kernel
theorem dX1_passMinutes_49 : decode cX1_passMinutes 49 = .ok (.ireturn, 1) := by decide +kernel
theorem dX1_passMinute_0 : decode cX1_passMinute 0 = .ok (.aload_n 0, 1) := by decide +kernel
theorem dX1_passMinute_1 : decode cX1_passMinute 1 = .ok (.invokevirtual 103, 3) := by decide +kernel
theorem dX1_passMinute_4 : decode cX1_passMinute 4 = .ok (.aload_n 0, 1) := by decide +kernel
theorem dX1_passMinute_5 : decode cX1_passMinute 5 = .ok (.invokevirtual 106, 3) := by decide +kernel
theorem dX1_passMinute_8 : decode cX1_passMinute 8 = .ok (.aload_n 0, 1) := by decide +kernel
theorem dX1_passMinute_9 : decode cX1_passMinute 9 = .ok (.aload_n 0, 1) := by decide +kernel
theorem dX1_passMinute_10 : decode cX1_passMinute 10 = .ok (.getfield 23, 3) := by decide +kernel
theorem dX1_passMinute_13 : decode cX1_passMinute 13 = .ok (.invokevirtual 77, 3) := by decide +kernel
theorem dX1_passMinute_16 : decode cX1_passMinute 16 = .ok (.istore_n 1, 1) := by decide +kernel
theorem dX1_passMinute_17 : decode cX1_passMinute 17 = .ok (.iload_n 1, 1) := by decide +kernel
theorem dX1_passMinute_18 : decode cX1_passMinute 18 = .ok (.ifCond .lt 16, 3) := by decide +kernel
theorem dX1_passMinute_21 : decode cX1_passMinute 21 = .ok (.aload_n 0, 1) := by decide +kernel
theorem dX1_passMinute_22 : decode cX1_passMinute 22 = .ok (.getfield 39, 3) := by decide +kernel
theorem dX1_passMinute_25 : decode cX1_passMinute 25 = .ok (.iload_n 1, 1) := by decide +kernel
theorem dX1_passMinute_26 : decode cX1_passMinute 26 = .ok (.aaload, 1) := by decide +kernel
theorem dX1_passMinute_27 : decode cX1_passMinute 27 = .ok (.aload_n 0, 1) := by decide +kernel
theorem dX1_passMinute_28 : decode cX1_passMinute 28 = .ok (.invokevirtual 109, 3) := by decide +kernel
theorem dX1_passMinute_31 : decode cX1_passMinute 31 = .ok (.putfield 113, 3) := by decide +kernel
theorem dX1_passMinute_34 : decode cX1_passMinute 34 = .ok (.aload_n 0, 1) := by decide +kernel
theorem dX1_passMinute_35 : decode cX1_passMinute 35 = .ok (.dup, 1) := by decide +kernel
theorem dX1_passMinute_36 : decode cX1_passMinute 36 = .ok (.getfield 23, 3) := by decide +kernel
theorem dX1_passMinute_39 : decode cX1_passMinute 39 = .ok (.iconst 1, 1) := by decide +kernel
theorem dX1_passMinute_40 : decode cX1_passMinute 40 = .ok (.iadd, 1) := by decide +kernel
theorem dX1_passMinute_41 : decode cX1_passMinute 41 = .ok (.putfield 23, 3) := by decide +kernel
theorem dX1_passMinute_44 : decode cX1_passMinute 44 = .ok (.iload_n 1, 1) := by decide +kernel
theorem dX1_passMinute_45 : decode cX1_passMinute 45 = .ok (.ifCond .lt 7, 3) := by decide +kernel
theorem dX1_passMinute_48 : decode cX1_passMinute 48 = .ok (.iconst 1, 1) := by decide +kernel
theorem dX1_passMinute_49 : decode cX1_passMinute 49 = .ok (.goto 4, 3) := by decide +kernel
theorem dX1_passMinute_52 : decode cX1_passMinute 52 = .ok (.iconst 0, 1) := by decide +kernel
theorem dX1_passMinute_53 : decode cX1_passMinute 53 = .ok (.ireturn, 1) := by decide +kernel
theorem dX1_editAtDesks_0 : decode cX1_editAtDesks 0 = .ok (.iconst 0, 1) := by decide +kernel
theorem dX1_editAtDesks_1 : decode cX1_editAtDesks 1 = .ok (.istore_n 1, 1) := by decide +kernel
theorem dX1_editAtDesks_2 : decode cX1_editAtDesks 2 = .ok (.iconst 0, 1) := by decide +kernel
theorem dX1_editAtDesks_3 : decode cX1_editAtDesks 3 = .ok (.istore_n 2, 1) := by decide +kernel
theorem dX1_editAtDesks_4 : decode cX1_editAtDesks 4 = .ok (.iload_n 2, 1) := by decide +kernel
theorem dX1_editAtDesks_5 : decode cX1_editAtDesks 5 = .ok (.aload_n 0, 1) := by decide +kernel
theorem dX1_editAtDesks_6 : decode cX1_editAtDesks 6 = .ok (.getfield 34, 3) := by decide +kernel
theorem dX1_editAtDesks_9 : decode cX1_editAtDesks 9 = .ok (.if_icmp .ge 57, 3) := by decide +kernel
theorem dX1_editAtDesks_12 : decode cX1_editAtDesks 12 = .ok (.aload_n 0, 1) := by decide +kernel
theorem dX1_editAtDesks_13 : decode cX1_editAtDesks 13 = .ok (.getfield 29, 3) := by decide +kernel
theorem dX1_editAtDesks_16 : decode cX1_editAtDesks 16 = .ok (.iload_n 2, 1) := by decide +kernel
theorem dX1_editAtDesks_17 : decode cX1_editAtDesks 17 = .ok (.aaload, 1) := by decide +kernel
theorem dX1_editAtDesks_18 : decode cX1_editAtDesks 18 = .ok (.astore_n 3, 1) := by decide +kernel
theorem dX1_editAtDesks_19 : decode cX1_editAtDesks 19 = .ok (.aload_n 3, 1) := by decide +kernel
theorem dX1_editAtDesks_20 : decode cX1_editAtDesks 20 = .ok (.getfield 64, 3) := by decide +kernel
theorem dX1_editAtDesks_23 : decode cX1_editAtDesks 23 = .ok (.ifCond .ne 37, 3) := by decide +kernel
theorem dX1_editAtDesks_26 : decode cX1_editAtDesks 26 = .ok (.aload_n 3, 1) := by decide +kernel
theorem dX1_editAtDesks_27 : decode cX1_editAtDesks 27 = .ok (.getfield 115, 3) := by decide +kernel
theorem dX1_editAtDesks_30 : decode cX1_editAtDesks 30 = .ok (.iload_n 1, 1) := by decide +kernel
theorem dX1_editAtDesks_31 : decode cX1_editAtDesks 31 = .ok (.invokestatic 118, 3) := by decide +kernel
theorem dX1_editAtDesks_34 : decode cX1_editAtDesks 34 = .ok (.ifCond .ne 26, 3) := by decide +kernel
theorem dX1_editAtDesks_37 : decode cX1_editAtDesks 37 = .ok (.iload_n 1, 1) := by decide +kernel
theorem dX1_editAtDesks_38 : decode cX1_editAtDesks 38 = .ok (.iconst 1, 1) := by decide +kernel
theorem dX1_editAtDesks_39 : decode cX1_editAtDesks 39 = .ok (.aload_n 3, 1) := by decide +kernel
theorem dX1_editAtDesks_40 : decode cX1_editAtDesks 40 = .ok (.getfield 115, 3) := by decide +kernel
theorem dX1_editAtDesks_43 : decode cX1_editAtDesks 43 = .ok (.ishl, 1) := by decide +kernel
theorem dX1_editAtDesks_44 : decode cX1_editAtDesks 44 = .ok (.ior, 1) := by decide +kernel
theorem dX1_editAtDesks_45 : decode cX1_editAtDesks 45 = .ok (.istore_n 1, 1) := by decide +kernel
theorem dX1_editAtDesks_46 : decode cX1_editAtDesks 46 = .ok (.aload_n 3, 1) := by decide +kernel
theorem dX1_editAtDesks_47 : decode cX1_editAtDesks 47 = .ok (.aload_n 0, 1) := by decide +kernel
theorem dX1_editAtDesks_48 : decode cX1_editAtDesks 48 = .ok (.getfield 18, 3) := by decide +kernel
theorem dX1_editAtDesks_51 : decode cX1_editAtDesks 51 = .ok (.iconst 0, 1) := by decide +kernel
theorem dX1_editAtDesks_52 : decode cX1_editAtDesks 52 = .ok (.iaload, 1) := by decide +kernel
theorem dX1_editAtDesks_53 : decode cX1_editAtDesks 53 = .ok (.aload_n 0, 1) := by decide +kernel
theorem dX1_editAtDesks_54 : decode cX1_editAtDesks 54 = .ok (.getfield 23, 3) := by decide +kernel
theorem dX1_editAtDesks_57 : decode cX1_editAtDesks 57 = .ok (.invokevirtual 122, 3) := by decide +kernel
theorem dX1_editAtDesks_60 : decode cX1_editAtDesks 60 = .ok (.iinc 2 1, 3) := by decide +kernel
theorem dX1_editAtDesks_63 : decode cX1_editAtDesks 63 = .ok (.goto (-59), 3) := by decide +kernel
theorem dX1_editAtDesks_66 : decode cX1_editAtDesks 66 = .ok (.return_, 1) := by decide +kernel
theorem dX1_readAtLawyer_0 : decode cX1_readAtLawyer 0 = .ok (.aload_n 0, 1) := by decide +kernel
theorem dX1_readAtLawyer_1 : decode cX1_readAtLawyer 1 = .ok (.invokevirtual 126, 3) := by decide +kernel
theorem dX1_readAtLawyer_4 : decode cX1_readAtLawyer 4 = .ok (.istore_n 1, 1) := by decide +kernel
theorem dX1_readAtLawyer_5 : decode cX1_readAtLawyer 5 = .ok (.iload_n 1, 1) := by decide +kernel
theorem dX1_readAtLawyer_6 : decode cX1_readAtLawyer 6 = .ok (.ifCond .lt 22, 3) := by decide +kernel
theorem dX1_readAtLawyer_9 : decode cX1_readAtLawyer 9 = .ok (.aload_n 0, 1) := by decide +kernel
theorem dX1_readAtLawyer_10 : decode cX1_readAtLawyer 10 = .ok (.getfield 29, 3) := by decide +kernel
theorem dX1_readAtLawyer_13 : decode cX1_readAtLawyer 13 = .ok (.iload_n 1, 1) := by decide +kernel
theorem dX1_readAtLawyer_14 : decode cX1_readAtLawyer 14 = .ok (.aaload, 1) := by decide +kernel
theorem dX1_readAtLawyer_15 : decode cX1_readAtLawyer 15 = .ok (.aload_n 0, 1) := by decide +kernel
theorem dX1_readAtLawyer_16 : decode cX1_readAtLawyer 16 = .ok (.getfield 18, 3) := by decide +kernel
theorem dX1_readAtLawyer_19 : decode cX1_readAtLawyer 19 = .ok (.iconst 1, 1) := by decide +kernel
theorem dX1_readAtLawyer_20 : decode cX1_readAtLawyer 20 = .ok (.iaload, 1) := by decide +kernel
theorem dX1_readAtLawyer_21 : decode cX1_readAtLawyer 21 = .ok (.aload_n 0, 1) := by decide +kernel
theorem dX1_readAtLawyer_22 : decode cX1_readAtLawyer 22 = .ok (.getfield 23, 3) := by decide +kernel
theorem dX1_readAtLawyer_25 : decode cX1_readAtLawyer 25 = .ok (.invokevirtual 129, 3) := by decide +kernel
theorem dX1_readAtLawyer_28 : decode cX1_readAtLawyer 28 = .ok (.return_, 1) := by decide +kernel
theorem dX1_firstAtDesk_0 : decode cX1_firstAtDesk 0 = .ok (.iconst 0, 1) := by decide +kernel
theorem dX1_firstAtDesk_1 : decode cX1_firstAtDesk 1 = .ok (.istore_n 2, 1) := by decide +kernel
theorem dX1_firstAtDesk_2 : decode cX1_firstAtDesk 2 = .ok (.iload_n 2, 1) := by decide +kernel
theorem dX1_firstAtDesk_3 : decode cX1_firstAtDesk 3 = .ok (.aload_n 0, 1) := by decide +kernel
theorem dX1_firstAtDesk_4 : decode cX1_firstAtDesk 4 = .ok (.getfield 34, 3) := by decide +kernel
theorem dX1_firstAtDesk_7 : decode cX1_firstAtDesk 7 = .ok (.if_icmp .ge 36, 3) := by decide +kernel
theorem dX1_firstAtDesk_10 : decode cX1_firstAtDesk 10 = .ok (.aload_n 0, 1) := by decide +kernel
theorem dX1_firstAtDesk_11 : decode cX1_firstAtDesk 11 = .ok (.getfield 29, 3) := by decide +kernel
theorem dX1_firstAtDesk_14 : decode cX1_firstAtDesk 14 = .ok (.iload_n 2, 1) := by decide +kernel
theorem dX1_firstAtDesk_15 : decode cX1_firstAtDesk 15 = .ok (.aaload, 1) := by decide +kernel
theorem dX1_firstAtDesk_16 : decode cX1_firstAtDesk 16 = .ok (.getfield 64, 3) := by decide +kernel
theorem dX1_firstAtDesk_19 : decode cX1_firstAtDesk 19 = .ok (.ifCond .ne 18, 3) := by decide +kernel
theorem dX1_firstAtDesk_22 : decode cX1_firstAtDesk 22 = .ok (.aload_n 0, 1) := by decide +kernel
theorem dX1_firstAtDesk_23 : decode cX1_firstAtDesk 23 = .ok (.getfield 29, 3) := by decide +kernel
theorem dX1_firstAtDesk_26 : decode cX1_firstAtDesk 26 = .ok (.iload_n 2, 1) := by decide +kernel
theorem dX1_firstAtDesk_27 : decode cX1_firstAtDesk 27 = .ok (.aaload, 1) := by decide +kernel
theorem dX1_firstAtDesk_28 : decode cX1_firstAtDesk 28 = .ok (.getfield 115, 3) := by decide +kernel
theorem dX1_firstAtDesk_31 : decode cX1_firstAtDesk 31 = .ok (.iload_n 1, 1) := by decide +kernel
theorem dX1_firstAtDesk_32 : decode cX1_firstAtDesk 32 = .ok (.if_icmp .ne 5, 3) := by decide +kernel
theorem dX1_firstAtDesk_35 : decode cX1_firstAtDesk 35 = .ok (.iload_n 2, 1) := by decide +kernel
theorem dX1_firstAtDesk_36 : decode cX1_firstAtDesk 36 = .ok (.ireturn, 1) := by decide +kernel
theorem dX1_firstAtDesk_37 : decode cX1_firstAtDesk 37 = .ok (.iinc 2 1, 3) := by decide +kernel
theorem dX1_firstAtDesk_40 : decode cX1_firstAtDesk 40 = .ok (.goto (-38), 3) := by decide +kernel
theorem dX1_firstAtDesk_43 : decode cX1_firstAtDesk 43 = .ok (.bipush (-6), 2) := by decide +kernel
theorem dX1_firstAtDesk_45 : decode cX1_firstAtDesk 45 = .ok (.ireturn, 1) := by decide +kernel
theorem dX1_firstAtLawyer_0 : decode cX1_firstAtLawyer 0 = .ok (.bipush (-6), 2) := by decide +kernel
theorem dX1_firstAtLawyer_2 : decode cX1_firstAtLawyer 2 = .ok (.istore_n 1, 1) := by decide +kernel
theorem dX1_firstAtLawyer_3 : decode cX1_firstAtLawyer 3 = .ok (.iconst 0, 1) := by decide +kernel
theorem dX1_firstAtLawyer_4 : decode cX1_firstAtLawyer 4 = .ok (.istore_n 2, 1) := by decide +kernel
theorem dX1_firstAtLawyer_5 : decode cX1_firstAtLawyer 5 = .ok (.iload_n 2, 1) := by decide +kernel
theorem dX1_firstAtLawyer_6 : decode cX1_firstAtLawyer 6 = .ok (.aload_n 0, 1) := by decide +kernel
theorem dX1_firstAtLawyer_7 : decode cX1_firstAtLawyer 7 = .ok (.getfield 34, 3) := by decide +kernel
theorem dX1_firstAtLawyer_10 : decode cX1_firstAtLawyer 10 = .ok (.if_icmp .ge 49, 3) := by decide +kernel
theorem dX1_firstAtLawyer_13 : decode cX1_firstAtLawyer 13 = .ok (.aload_n 0, 1) := by decide +kernel
theorem dX1_firstAtLawyer_14 : decode cX1_firstAtLawyer 14 = .ok (.getfield 29, 3) := by decide +kernel
theorem dX1_firstAtLawyer_17 : decode cX1_firstAtLawyer 17 = .ok (.iload_n 2, 1) := by decide +kernel
theorem dX1_firstAtLawyer_18 : decode cX1_firstAtLawyer 18 = .ok (.aaload, 1) := by decide +kernel
theorem dX1_firstAtLawyer_19 : decode cX1_firstAtLawyer 19 = .ok (.getfield 64, 3) := by decide +kernel
theorem dX1_firstAtLawyer_22 : decode cX1_firstAtLawyer 22 = .ok (.iconst 1, 1) := by decide +kernel
theorem dX1_firstAtLawyer_23 : decode cX1_firstAtLawyer 23 = .ok (.if_icmp .ne 30, 3) := by decide +kernel
theorem dX1_firstAtLawyer_26 : decode cX1_firstAtLawyer 26 = .ok (.iload_n 1, 1) := by decide +kernel
theorem dX1_firstAtLawyer_27 : decode cX1_firstAtLawyer 27 = .ok (.ifCond .lt 24, 3) := by decide +kernel
theorem dX1_firstAtLawyer_30 : decode cX1_firstAtLawyer 30 = .ok (.aload_n 0, 1) := by decide +kernel
theorem dX1_firstAtLawyer_31 : decode cX1_firstAtLawyer 31 = .ok (.getfield 29, 3) := by decide +kernel
theorem dX1_firstAtLawyer_34 : decode cX1_firstAtLawyer 34 = .ok (.iload_n 2, 1) := by decide +kernel
theorem dX1_firstAtLawyer_35 : decode cX1_firstAtLawyer 35 = .ok (.aaload, 1) := by decide +kernel
theorem dX1_firstAtLawyer_36 : decode cX1_firstAtLawyer 36 = .ok (.getfield 132, 3) := by decide +kernel
theorem dX1_firstAtLawyer_39 : decode cX1_firstAtLawyer 39 = .ok (.aload_n 0, 1) := by decide +kernel
theorem dX1_firstAtLawyer_40 : decode cX1_firstAtLawyer 40 = .ok (.getfield 29, 3) := by decide +kernel
theorem dX1_firstAtLawyer_43 : decode cX1_firstAtLawyer 43 = .ok (.iload_n 1, 1) := by decide +kernel
theorem dX1_firstAtLawyer_44 : decode cX1_firstAtLawyer 44 = .ok (.aaload, 1) := by decide +kernel
theorem dX1_firstAtLawyer_45 : decode cX1_firstAtLawyer 45 = .ok (.getfield 132, 3) := by decide +kernel
theorem dX1_firstAtLawyer_48 : decode cX1_firstAtLawyer 48 = .ok (.if_icmp .ge 5, 3) := by decide +kernel
theorem dX1_firstAtLawyer_51 : decode cX1_firstAtLawyer 51 = .ok (.iload_n 2, 1) := by decide +kernel
theorem dX1_firstAtLawyer_52 : decode cX1_firstAtLawyer 52 = .ok (.istore_n 1, 1) := by decide +kernel
theorem dX1_firstAtLawyer_53 : decode cX1_firstAtLawyer 53 = .ok (.iinc 2 1, 3) := by decide +kernel
theorem dX1_firstAtLawyer_56 : decode cX1_firstAtLawyer 56 = .ok (.goto (-51), 3) := by decide +kernel
theorem dX1_firstAtLawyer_59 : decode cX1_firstAtLawyer 59 = .ok (.iload_n 1, 1) := by decide +kernel
theorem dX1_firstAtLawyer_60 : decode cX1_firstAtLawyer 60 = .ok (.ireturn, 1) := by decide +kernel
theorem dX1_placeInQueue_0 : decode cX1_placeInQueue 0 = .ok (.aload_n 0, 1) := by decide +kernel
theorem dX1_placeInQueue_1 : decode cX1_placeInQueue 1 = .ok (.getfield 29, 3) := by decide +kernel
theorem dX1_placeInQueue_4 : decode cX1_placeInQueue 4 = .ok (.iload_n 1, 1) := by decide +kernel
theorem dX1_placeInQueue_5 : decode cX1_placeInQueue 5 = .ok (.aaload, 1) := by decide +kernel
theorem dX1_placeInQueue_6 : decode cX1_placeInQueue 6 = .ok (.getfield 64, 3) := by decide +kernel
theorem dX1_placeInQueue_9 : decode cX1_placeInQueue 9 = .ok (.ifCond .ne 9, 3) := by decide +kernel
theorem dX1_placeInQueue_12 : decode cX1_placeInQueue 12 = .ok (.aload_n 0, 1) := by decide +kernel
theorem dX1_placeInQueue_13 : decode cX1_placeInQueue 13 = .ok (.iload_n 1, 1) := by decide +kernel
theorem dX1_placeInQueue_14 : decode cX1_placeInQueue 14 = .ok (.invokevirtual 135, 3) := by decide +kernel
theorem dX1_placeInQueue_17 : decode cX1_placeInQueue 17 = .ok (.ireturn, 1) := by decide +kernel
theorem dX1_placeInQueue_18 : decode cX1_placeInQueue 18 = .ok (.aload_n 0, 1) := by decide +kernel
theorem dX1_placeInQueue_19 : decode cX1_placeInQueue 19 = .ok (.getfield 29, 3) := by decide +kernel
theorem dX1_placeInQueue_22 : decode cX1_placeInQueue 22 = .ok (.iload_n 1, 1) := by decide +kernel
theorem dX1_placeInQueue_23 : decode cX1_placeInQueue 23 = .ok (.aaload, 1) := by decide +kernel
theorem dX1_placeInQueue_24 : decode cX1_placeInQueue 24 = .ok (.getfield 64, 3) := by decide +kernel
theorem dX1_placeInQueue_27 : decode cX1_placeInQueue 27 = .ok (.iconst 1, 1) := by decide +kernel
theorem dX1_placeInQueue_28 : decode cX1_placeInQueue 28 = .ok (.if_icmp .ne 11, 3) := by decide +kernel
theorem dX1_placeInQueue_31 : decode cX1_placeInQueue 31 = .ok (.aload_n 0, 1) := by decide +kernel
theorem dX1_placeInQueue_32 : decode cX1_placeInQueue 32 = .ok (.iload_n 1, 1) := by decide +kernel
theorem dX1_placeInQueue_33 : decode cX1_placeInQueue 33 = .ok (.invokevirtual 138, 3) := by decide +kernel
theorem dX1_placeInQueue_36 : decode cX1_placeInQueue 36 = .ok (.goto 5, 3) := by decide +kernel
theorem dX1_placeInQueue_39 : decode cX1_placeInQueue 39 = .ok (.bipush (-6), 2) := by decide +kernel
theorem dX1_placeInQueue_41 : decode cX1_placeInQueue 41 = .ok (.ireturn, 1) := by decide +kernel
theorem dX1_placeAtDesk_0 : decode cX1_placeAtDesk 0 = .ok (.iconst 0, 1) := by decide +kernel
theorem dX1_placeAtDesk_1 : decode cX1_placeAtDesk 1 = .ok (.istore_n 2, 1) := by decide +kernel
theorem dX1_placeAtDesk_2 : decode cX1_placeAtDesk 2 = .ok (.iconst 0, 1) := by decide +kernel
theorem dX1_placeAtDesk_3 : decode cX1_placeAtDesk 3 = .ok (.istore_n 3, 1) := by decide +kernel
theorem dX1_placeAtDesk_4 : decode cX1_placeAtDesk 4 = .ok (.iload_n 3, 1) := by decide +kernel
theorem dX1_placeAtDesk_5 : decode cX1_placeAtDesk 5 = .ok (.iload_n 1, 1) := by decide +kernel
theorem dX1_placeAtDesk_6 : decode cX1_placeAtDesk 6 = .ok (.if_icmp .ge 53, 3) := by decide +kernel
theorem dX1_placeAtDesk_9 : decode cX1_placeAtDesk 9 = .ok (.iload_n 2, 1) := by decide +kernel
theorem dX1_placeAtDesk_10 : decode cX1_placeAtDesk 10 = .ok (.aload_n 0, 1) := by decide +kernel
theorem dX1_placeAtDesk_11 : decode cX1_placeAtDesk 11 = .ok (.getfield 29, 3) := by decide +kernel
theorem dX1_placeAtDesk_14 : decode cX1_placeAtDesk 14 = .ok (.iload_n 3, 1) := by decide +kernel
theorem dX1_placeAtDesk_15 : decode cX1_placeAtDesk 15 = .ok (.aaload, 1) := by decide +kernel
theorem dX1_placeAtDesk_16 : decode cX1_placeAtDesk 16 = .ok (.getfield 64, 3) := by decide +kernel
theorem dX1_placeAtDesk_19 : decode cX1_placeAtDesk 19 = .ok (.ifCond .ne 28, 3) := by decide +kernel
theorem dX1_placeAtDesk_22 : decode cX1_placeAtDesk 22 = .ok (.aload_n 0, 1) := by decide +kernel
theorem dX1_placeAtDesk_23 : decode cX1_placeAtDesk 23 = .ok (.getfield 29, 3) := by decide +kernel
theorem dX1_placeAtDesk_26 : decode cX1_placeAtDesk 26 = .ok (.iload_n 3, 1) := by decide +kernel
theorem dX1_placeAtDesk_27 : decode cX1_placeAtDesk 27 = .ok (.aaload, 1) := by decide +kernel
theorem dX1_placeAtDesk_28 : decode cX1_placeAtDesk 28 = .ok (.getfield 115, 3) := by decide +kernel
theorem dX1_placeAtDesk_31 : decode cX1_placeAtDesk 31 = .ok (.aload_n 0, 1) := by decide +kernel
theorem dX1_placeAtDesk_32 : decode cX1_placeAtDesk 32 = .ok (.getfield 29, 3) := by decide +kernel
theorem dX1_placeAtDesk_35 : decode cX1_placeAtDesk 35 = .ok (.iload_n 1, 1) := by decide +kernel
theorem dX1_placeAtDesk_36 : decode cX1_placeAtDesk 36 = .ok (.aaload, 1) := by decide +kernel
theorem dX1_placeAtDesk_37 : decode cX1_placeAtDesk 37 = .ok (.getfield 115, 3) := by decide +kernel
theorem dX1_placeAtDesk_40 : decode cX1_placeAtDesk 40 = .ok (.if_icmp .ne 7, 3) := by decide +kernel
theorem dX1_placeAtDesk_43 : decode cX1_placeAtDesk 43 = .ok (.iconst 1, 1) := by decide +kernel
theorem dX1_placeAtDesk_44 : decode cX1_placeAtDesk 44 = .ok (.goto 4, 3) := by decide +kernel
theorem dX1_placeAtDesk_47 : decode cX1_placeAtDesk 47 = .ok (.iconst 0, 1) := by decide +kernel
theorem dX1_placeAtDesk_48 : decode cX1_placeAtDesk 48 = .ok (.invokestatic 89, 3) := by decide +kernel
theorem dX1_placeAtDesk_51 : decode cX1_placeAtDesk 51 = .ok (.iadd, 1) := by decide +kernel
theorem dX1_placeAtDesk_52 : decode cX1_placeAtDesk 52 = .ok (.istore_n 2, 1) := by decide +kernel
theorem dX1_placeAtDesk_53 : decode cX1_placeAtDesk 53 = .ok (.iinc 3 1, 3) := by decide +kernel
theorem dX1_placeAtDesk_56 : decode cX1_placeAtDesk 56 = .ok (.goto (-52), 3) := by decide +kernel
theorem dX1_placeAtDesk_59 : decode cX1_placeAtDesk 59 = .ok (.iload_n 2, 1) := by decide +kernel
theorem dX1_placeAtDesk_60 : decode cX1_placeAtDesk 60 = .ok (.ireturn, 1) := by decide +kernel
theorem dX1_placeAtLawyer_0 : decode cX1_placeAtLawyer 0 = .ok (.iconst 0, 1) := by decide +kernel
theorem dX1_placeAtLawyer_1 : decode cX1_placeAtLawyer 1 = .ok (.istore_n 2, 1) := by decide +kernel
theorem dX1_placeAtLawyer_2 : decode cX1_placeAtLawyer 2 = .ok (.iconst 0, 1) := by decide +kernel
theorem dX1_placeAtLawyer_3 : decode cX1_placeAtLawyer 3 = .ok (.istore_n 3, 1) := by decide +kernel
theorem dX1_placeAtLawyer_4 : decode cX1_placeAtLawyer 4 = .ok (.iload_n 3, 1) := by decide +kernel
theorem dX1_placeAtLawyer_5 : decode cX1_placeAtLawyer 5 = .ok (.aload_n 0, 1) := by decide +kernel
theorem dX1_placeAtLawyer_6 : decode cX1_placeAtLawyer 6 = .ok (.getfield 34, 3) := by decide +kernel
theorem dX1_placeAtLawyer_9 : decode cX1_placeAtLawyer 9 = .ok (.if_icmp .ge 54, 3) := by decide +kernel
theorem dX1_placeAtLawyer_12 : decode cX1_placeAtLawyer 12 = .ok (.iload_n 2, 1) := by decide +kernel
theorem dX1_placeAtLawyer_13 : decode cX1_placeAtLawyer 13 = .ok (.aload_n 0, 1) := by decide +kernel
theorem dX1_placeAtLawyer_14 : decode cX1_placeAtLawyer 14 = .ok (.getfield 29, 3) := by decide +kernel
theorem dX1_placeAtLawyer_17 : decode cX1_placeAtLawyer 17 = .ok (.iload_n 3, 1) := by decide +kernel
theorem dX1_placeAtLawyer_18 : decode cX1_placeAtLawyer 18 = .ok (.aaload, 1) := by decide +kernel
theorem dX1_placeAtLawyer_19 : decode cX1_placeAtLawyer 19 = .ok (.getfield 64, 3) := by decide +kernel
theorem dX1_placeAtLawyer_22 : decode cX1_placeAtLawyer 22 = .ok (.iconst 1, 1) := by decide +kernel
theorem dX1_placeAtLawyer_23 : decode cX1_placeAtLawyer 23 = .ok (.if_icmp .ne 28, 3) := by decide +kernel
theorem dX1_placeAtLawyer_26 : decode cX1_placeAtLawyer 26 = .ok (.aload_n 0, 1) := by decide +kernel
theorem dX1_placeAtLawyer_27 : decode cX1_placeAtLawyer 27 = .ok (.getfield 29, 3) := by decide +kernel
theorem dX1_placeAtLawyer_30 : decode cX1_placeAtLawyer 30 = .ok (.iload_n 3, 1) := by decide +kernel
theorem dX1_placeAtLawyer_31 : decode cX1_placeAtLawyer 31 = .ok (.aaload, 1) := by decide +kernel
theorem dX1_placeAtLawyer_32 : decode cX1_placeAtLawyer 32 = .ok (.getfield 132, 3) := by decide +kernel
theorem dX1_placeAtLawyer_35 : decode cX1_placeAtLawyer 35 = .ok (.aload_n 0, 1) := by decide +kernel
theorem dX1_placeAtLawyer_36 : decode cX1_placeAtLawyer 36 = .ok (.getfield 29, 3) := by decide +kernel
theorem dX1_placeAtLawyer_39 : decode cX1_placeAtLawyer 39 = .ok (.iload_n 1, 1) := by decide +kernel
theorem dX1_placeAtLawyer_40 : decode cX1_placeAtLawyer 40 = .ok (.aaload, 1) := by decide +kernel
theorem dX1_placeAtLawyer_41 : decode cX1_placeAtLawyer 41 = .ok (.getfield 132, 3) := by decide +kernel
theorem dX1_placeAtLawyer_44 : decode cX1_placeAtLawyer 44 = .ok (.if_icmp .ge 7, 3) := by decide +kernel
theorem dX1_placeAtLawyer_47 : decode cX1_placeAtLawyer 47 = .ok (.iconst 1, 1) := by decide +kernel
theorem dX1_placeAtLawyer_48 : decode cX1_placeAtLawyer 48 = .ok (.goto 4, 3) := by decide +kernel
theorem dX1_placeAtLawyer_51 : decode cX1_placeAtLawyer 51 = .ok (.iconst 0, 1) := by decide +kernel
theorem dX1_placeAtLawyer_52 : decode cX1_placeAtLawyer 52 = .ok (.invokestatic 89, 3) := by decide +kernel
theorem dX1_placeAtLawyer_55 : decode cX1_placeAtLawyer 55 = .ok (.iadd, 1) := by decide +kernel
theorem dX1_placeAtLawyer_56 : decode cX1_placeAtLawyer 56 = .ok (.istore_n 2, 1) := by decide +kernel
theorem dX1_placeAtLawyer_57 : decode cX1_placeAtLawyer 57 = .ok (.iinc 3 1, 3) := by decide +kernel
theorem dX1_placeAtLawyer_60 : decode cX1_placeAtLawyer 60 = .ok (.goto (-56), 3) := by decide +kernel
theorem dX1_placeAtLawyer_63 : decode cX1_placeAtLawyer 63 = .ok (.iload_n 2, 1) := by decide +kernel
theorem dX1_placeAtLawyer_64 : decode cX1_placeAtLawyer 64 = .ok (.ireturn, 1) := by decide +kernel
theorem dX1_piecesForPlate_0 : decode cX1_piecesForPlate 0 = .ok (.iconst 0, 1) := by decide +kernel
theorem dX1_piecesForPlate_1 : decode cX1_piecesForPlate 1 = .ok (.istore_n 1, 1) := by decide +kernel
theorem dX1_piecesForPlate_2 : decode cX1_piecesForPlate 2 = .ok (.iconst 0, 1) := by decide +kernel
theorem dX1_piecesForPlate_3 : decode cX1_piecesForPlate 3 = .ok (.istore_n 2, 1) := by decide +kernel
theorem dX1_piecesForPlate_4 : decode cX1_piecesForPlate 4 = .ok (.iload_n 2, 1) := by decide +kernel
theorem dX1_piecesForPlate_5 : decode cX1_piecesForPlate 5 = .ok (.aload_n 0, 1) := by decide +kernel
theorem dX1_piecesForPlate_6 : decode cX1_piecesForPlate 6 = .ok (.getfield 34, 3) := by decide +kernel
theorem dX1_piecesForPlate_9 : decode cX1_piecesForPlate 9 = .ok (.if_icmp .ge 26, 3) := by decide +kernel
theorem dX1_piecesForPlate_12 : decode cX1_piecesForPlate 12 = .ok (.iload_n 1, 1) := by decide +kernel
theorem dX1_piecesForPlate_13 : decode cX1_piecesForPlate 13 = .ok (.aload_n 0, 1) := by decide +kernel
theorem dX1_piecesForPlate_14 : decode cX1_piecesForPlate 14 = .ok (.getfield 29, 3) := by decide +kernel
theorem dX1_piecesForPlate_17 : decode cX1_piecesForPlate 17 = .ok (.iload_n 2, 1) := by decide +kernel
theorem dX1_piecesForPlate_18 : decode cX1_piecesForPlate 18 = .ok (.aaload, 1) := by decide +kernel
theorem dX1_piecesForPlate_19 : decode cX1_piecesForPlate 19 = .ok (.invokevirtual 141, 3) := by decide +kernel
theorem dX1_piecesForPlate_22 : decode cX1_piecesForPlate 22 = .ok (.invokestatic 89, 3) := by decide +kernel
theorem dX1_piecesForPlate_25 : decode cX1_piecesForPlate 25 = .ok (.iload_n 2, 1) := by decide +kernel
theorem dX1_piecesForPlate_26 : decode cX1_piecesForPlate 26 = .ok (.ishl, 1) := by decide +kernel
theorem dX1_piecesForPlate_27 : decode cX1_piecesForPlate 27 = .ok (.ior, 1) := by decide +kernel
theorem dX1_piecesForPlate_28 : decode cX1_piecesForPlate 28 = .ok (.istore_n 1, 1) := by decide +kernel
theorem dX1_piecesForPlate_29 : decode cX1_piecesForPlate 29 = .ok (.iinc 2 1, 3) := by decide +kernel
theorem dX1_piecesForPlate_32 : decode cX1_piecesForPlate 32 = .ok (.goto (-28), 3) := by decide +kernel
theorem dX1_piecesForPlate_35 : decode cX1_piecesForPlate 35 = .ok (.iload_n 1, 1) := by decide +kernel
theorem dX1_piecesForPlate_36 : decode cX1_piecesForPlate 36 = .ok (.ireturn, 1) := by decide +kernel
theorem dX1_linesOf_0 : decode cX1_linesOf 0 = .ok (.iconst 0, 1) := by decide +kernel
theorem dX1_linesOf_1 : decode cX1_linesOf 1 = .ok (.istore_n 2, 1) := by decide +kernel
theorem dX1_linesOf_2 : decode cX1_linesOf 2 = .ok (.iconst 0, 1) := by decide +kernel
theorem dX1_linesOf_3 : decode cX1_linesOf 3 = .ok (.istore_n 3, 1) := by decide +kernel
theorem dX1_linesOf_4 : decode cX1_linesOf 4 = .ok (.iload_n 3, 1) := by decide +kernel
theorem dX1_linesOf_5 : decode cX1_linesOf 5 = .ok (.aload_n 0, 1) := by decide +kernel
theorem dX1_linesOf_6 : decode cX1_linesOf 6 = .ok (.getfield 34, 3) := by decide +kernel
theorem dX1_linesOf_9 : decode cX1_linesOf 9 = .ok (.if_icmp .ge 29, 3) := by decide +kernel
theorem dX1_linesOf_12 : decode cX1_linesOf 12 = .ok (.iload_n 3, 1) := by decide +kernel
theorem dX1_linesOf_13 : decode cX1_linesOf 13 = .ok (.iload_n 1, 1) := by decide +kernel
theorem dX1_linesOf_14 : decode cX1_linesOf 14 = .ok (.invokestatic 118, 3) := by decide +kernel
theorem dX1_linesOf_17 : decode cX1_linesOf 17 = .ok (.ifCond .eq 15, 3) := by decide +kernel
theorem dX1_linesOf_20 : decode cX1_linesOf 20 = .ok (.iload_n 2, 1) := by decide +kernel
theorem dX1_linesOf_21 : decode cX1_linesOf 21 = .ok (.aload_n 0, 1) := by decide +kernel
theorem dX1_linesOf_22 : decode cX1_linesOf 22 = .ok (.getfield 29, 3) := by decide +kernel
theorem dX1_linesOf_25 : decode cX1_linesOf 25 = .ok (.iload_n 3, 1) := by decide +kernel
theorem dX1_linesOf_26 : decode cX1_linesOf 26 = .ok (.aaload, 1) := by decide +kernel
theorem dX1_linesOf_27 : decode cX1_linesOf 27 = .ok (.getfield 144, 3) := by decide +kernel
theorem dX1_linesOf_30 : decode cX1_linesOf 30 = .ok (.iadd, 1) := by decide +kernel
theorem dX1_linesOf_31 : decode cX1_linesOf 31 = .ok (.istore_n 2, 1) := by decide +kernel
theorem dX1_linesOf_32 : decode cX1_linesOf 32 = .ok (.iinc 3 1, 3) := by decide +kernel
theorem dX1_linesOf_35 : decode cX1_linesOf 35 = .ok (.goto (-31), 3) := by decide +kernel
theorem dX1_linesOf_38 : decode cX1_linesOf 38 = .ok (.iload_n 2, 1) := by decide +kernel
theorem dX1_linesOf_39 : decode cX1_linesOf 39 = .ok (.ireturn, 1) := by decide +kernel
theorem dX1_takenNow_0 : decode cX1_takenNow 0 = .ok (.aload_n 0, 1) := by decide +kernel
theorem dX1_takenNow_1 : decode cX1_takenNow 1 = .ok (.invokevirtual 147, 3) := by decide +kernel
theorem dX1_takenNow_4 : decode cX1_takenNow 4 = .ok (.istore_n 1, 1) := by decide +kernel
theorem dX1_takenNow_5 : decode cX1_takenNow 5 = .ok (.iconst 0, 1) := by decide +kernel
theorem dX1_takenNow_6 : decode cX1_takenNow 6 = .ok (.istore_n 2, 1) := by decide +kernel
theorem dX1_takenNow_7 : decode cX1_takenNow 7 = .ok (.iconst 0, 1) := by decide +kernel
theorem dX1_takenNow_8 : decode cX1_takenNow 8 = .ok (.istore_n 3, 1) := by decide +kernel
theorem dX1_takenNow_9 : decode cX1_takenNow 9 = .ok (.iconst 0, 1) := by decide +kernel
theorem dX1_takenNow_10 : decode cX1_takenNow 10 = .ok (.istore 4, 2) := by decide +kernel
theorem dX1_takenNow_12 : decode cX1_takenNow 12 = .ok (.iload 4, 2) := by decide +kernel
theorem dX1_takenNow_14 : decode cX1_takenNow 14 = .ok (.aload_n 0, 1) := by decide +kernel
theorem dX1_takenNow_15 : decode cX1_takenNow 15 = .ok (.getfield 34, 3) := by decide +kernel
theorem dX1_takenNow_18 : decode cX1_takenNow 18 = .ok (.if_icmp .ge 73, 3) := by decide +kernel
theorem dX1_takenNow_21 : decode cX1_takenNow 21 = .ok (.aload_n 0, 1) := by decide +kernel
theorem dX1_takenNow_22 : decode cX1_takenNow 22 = .ok (.iload_n 1, 1) := by decide +kernel
theorem dX1_takenNow_23 : decode cX1_takenNow 23 = .ok (.invokevirtual 150, 3) := by decide +kernel
theorem dX1_takenNow_26 : decode cX1_takenNow 26 = .ok (.istore 5, 2) := by decide +kernel
theorem dX1_takenNow_28 : decode cX1_takenNow 28 = .ok (.iload 5, 2) := by decide +kernel
theorem dX1_takenNow_30 : decode cX1_takenNow 30 = .ok (.ifCond .ge 5, 3) := by decide +kernel
theorem dX1_takenNow_33 : decode cX1_takenNow 33 = .ok (.iload_n 2, 1) := by decide +kernel
theorem dX1_takenNow_34 : decode cX1_takenNow 34 = .ok (.ireturn, 1) := by decide +kernel
theorem dX1_takenNow_35 : decode cX1_takenNow 35 = .ok (.iload_n 1, 1) := by decide +kernel
theorem dX1_takenNow_36 : decode cX1_takenNow 36 = .ok (.iconst 1, 1) := by decide +kernel
theorem dX1_takenNow_37 : decode cX1_takenNow 37 = .ok (.iload 5, 2) := by decide +kernel
theorem dX1_takenNow_39 : decode cX1_takenNow 39 = .ok (.ishl, 1) := by decide +kernel
theorem dX1_takenNow_40 : decode cX1_takenNow 40 = .ok (.iconst (-1), 1) := by decide +kernel
theorem dX1_takenNow_41 : decode cX1_takenNow 41 = .ok (.ixor, 1) := by decide +kernel
theorem dX1_takenNow_42 : decode cX1_takenNow 42 = .ok (.iand, 1) := by decide +kernel
theorem dX1_takenNow_43 : decode cX1_takenNow 43 = .ok (.istore_n 1, 1) := by decide +kernel
theorem dX1_takenNow_44 : decode cX1_takenNow 44 = .ok (.iload_n 3, 1) := by decide +kernel
theorem dX1_takenNow_45 : decode cX1_takenNow 45 = .ok (.aload_n 0, 1) := by decide +kernel
theorem dX1_takenNow_46 : decode cX1_takenNow 46 = .ok (.getfield 29, 3) := by decide +kernel
theorem dX1_takenNow_49 : decode cX1_takenNow 49 = .ok (.iload 5, 2) := by decide +kernel
theorem dX1_takenNow_51 : decode cX1_takenNow 51 = .ok (.aaload, 1) := by decide +kernel
theorem dX1_takenNow_52 : decode cX1_takenNow 52 = .ok (.getfield 144, 3) := by decide +kernel
theorem dX1_takenNow_55 : decode cX1_takenNow 55 = .ok (.iadd, 1) := by decide +kernel
theorem dX1_takenNow_56 : decode cX1_takenNow 56 = .ok (.aload_n 0, 1) := by decide +kernel
theorem dX1_takenNow_57 : decode cX1_takenNow 57 = .ok (.getfield 18, 3) := by decide +kernel
theorem dX1_takenNow_60 : decode cX1_takenNow 60 = .ok (.iconst 2, 1) := by decide +kernel
theorem dX1_takenNow_61 : decode cX1_takenNow 61 = .ok (.iaload, 1) := by decide +kernel
theorem dX1_takenNow_62 : decode cX1_takenNow 62 = .ok (.if_icmp .gt 23, 3) := by decide +kernel
theorem dX1_takenNow_65 : decode cX1_takenNow 65 = .ok (.iload_n 3, 1) := by decide +kernel
theorem dX1_takenNow_66 : decode cX1_takenNow 66 = .ok (.aload_n 0, 1) := by decide +kernel
theorem dX1_takenNow_67 : decode cX1_takenNow 67 = .ok (.getfield 29, 3) := by decide +kernel
theorem dX1_takenNow_70 : decode cX1_takenNow 70 = .ok (.iload 5, 2) := by decide +kernel
theorem dX1_takenNow_72 : decode cX1_takenNow 72 = .ok (.aaload, 1) := by decide +kernel
theorem dX1_takenNow_73 : decode cX1_takenNow 73 = .ok (.getfield 144, 3) := by decide +kernel
theorem dX1_takenNow_76 : decode cX1_takenNow 76 = .ok (.iadd, 1) := by decide +kernel
theorem dX1_takenNow_77 : decode cX1_takenNow 77 = .ok (.istore_n 3, 1) := by decide +kernel
theorem dX1_takenNow_78 : decode cX1_takenNow 78 = .ok (.iload_n 2, 1) := by decide +kernel
theorem dX1_takenNow_79 : decode cX1_takenNow 79 = .ok (.iconst 1, 1) := by decide +kernel
theorem dX1_takenNow_80 : decode cX1_takenNow 80 = .ok (.iload 5, 2) := by decide +kernel
theorem dX1_takenNow_82 : decode cX1_takenNow 82 = .ok (.ishl, 1) := by decide +kernel
theorem dX1_takenNow_83 : decode cX1_takenNow 83 = .ok (.ior, 1) := by decide +kernel
theorem dX1_takenNow_84 : decode cX1_takenNow 84 = .ok (.istore_n 2, 1) := by decide +kernel
theorem dX1_takenNow_85 : decode cX1_takenNow 85 = .ok (.iinc 4 1, 3) := by decide +kernel
theorem dX1_takenNow_88 : decode cX1_takenNow 88 = .ok (.goto (-76), 3) := by decide +kernel
theorem dX1_takenNow_91 : decode cX1_takenNow 91 = .ok (.iload_n 2, 1) := by decide +kernel
theorem dX1_takenNow_92 : decode cX1_takenNow 92 = .ok (.ireturn, 1) := by decide +kernel
theorem dX1_firstByRank_0 : decode cX1_firstByRank 0 = .ok (.bipush (-6), 2) := by decide +kernel
theorem dX1_firstByRank_2 : decode cX1_firstByRank 2 = .ok (.istore_n 2, 1) := by decide +kernel
theorem dX1_firstByRank_3 : decode cX1_firstByRank 3 = .ok (.iconst 0, 1) := by decide +kernel
theorem dX1_firstByRank_4 : decode cX1_firstByRank 4 = .ok (.istore_n 3, 1) := by decide +kernel
theorem dX1_firstByRank_5 : decode cX1_firstByRank 5 = .ok (.iload_n 3, 1) := by decide +kernel
theorem dX1_firstByRank_6 : decode cX1_firstByRank 6 = .ok (.aload_n 0, 1) := by decide +kernel
theorem dX1_firstByRank_7 : decode cX1_firstByRank 7 = .ok (.getfield 34, 3) := by decide +kernel
theorem dX1_firstByRank_10 : decode cX1_firstByRank 10 = .ok (.if_icmp .ge 32, 3) := by decide +kernel
theorem dX1_firstByRank_13 : decode cX1_firstByRank 13 = .ok (.iload_n 3, 1) := by decide +kernel
theorem dX1_firstByRank_14 : decode cX1_firstByRank 14 = .ok (.iload_n 1, 1) := by decide +kernel
theorem dX1_firstByRank_15 : decode cX1_firstByRank 15 = .ok (.invokestatic 118, 3) := by decide +kernel
theorem dX1_firstByRank_18 : decode cX1_firstByRank 18 = .ok (.ifCond .eq 18, 3) := by decide +kernel
theorem dX1_firstByRank_21 : decode cX1_firstByRank 21 = .ok (.iload_n 2, 1) := by decide +kernel
theorem dX1_firstByRank_22 : decode cX1_firstByRank 22 = .ok (.ifCond .lt 12, 3) := by decide +kernel
theorem dX1_firstByRank_25 : decode cX1_firstByRank 25 = .ok (.aload_n 0, 1) := by decide +kernel
theorem dX1_firstByRank_26 : decode cX1_firstByRank 26 = .ok (.iload_n 3, 1) := by decide +kernel
theorem dX1_firstByRank_27 : decode cX1_firstByRank 27 = .ok (.iload_n 2, 1) := by decide +kernel
theorem dX1_firstByRank_28 : decode cX1_firstByRank 28 = .ok (.invokevirtual 153, 3) := by decide +kernel
theorem dX1_firstByRank_31 : decode cX1_firstByRank 31 = .ok (.ifCond .eq 5, 3) := by decide +kernel
theorem dX1_firstByRank_34 : decode cX1_firstByRank 34 = .ok (.iload_n 3, 1) := by decide +kernel
theorem dX1_firstByRank_35 : decode cX1_firstByRank 35 = .ok (.istore_n 2, 1) := by decide +kernel
theorem dX1_firstByRank_36 : decode cX1_firstByRank 36 = .ok (.iinc 3 1, 3) := by decide +kernel
theorem dX1_firstByRank_39 : decode cX1_firstByRank 39 = .ok (.goto (-34), 3) := by decide +kernel
theorem dX1_firstByRank_42 : decode cX1_firstByRank 42 = .ok (.iload_n 2, 1) := by decide +kernel
theorem dX1_firstByRank_43 : decode cX1_firstByRank 43 = .ok (.ireturn, 1) := by decide +kernel
theorem dX1_lastTakenAheadOf_0 : decode cX1_lastTakenAheadOf 0 = .ok (.aload_n 0, 1) := by decide +kernel
theorem dX1_lastTakenAheadOf_1 : decode cX1_lastTakenAheadOf 1 = .ok (.invokevirtual 109, 3) := by decide +kernel
theorem dX1_lastTakenAheadOf_4 : decode cX1_lastTakenAheadOf 4 = .ok (.istore_n 2, 1) := by decide +kernel
theorem dX1_lastTakenAheadOf_5 : decode cX1_lastTakenAheadOf 5 = .ok (.bipush (-6), 2) := by decide +kernel
theorem dX1_lastTakenAheadOf_7 : decode cX1_lastTakenAheadOf 7 = .ok (.istore_n 3, 1) := by decide +kernel
theorem dX1_lastTakenAheadOf_8 : decode cX1_lastTakenAheadOf 8 = .ok (.iconst 0, 1) := by decide +kernel
theorem dX1_lastTakenAheadOf_9 : decode cX1_lastTakenAheadOf 9 = .ok (.istore 4, 2) := by decide +kernel
theorem dX1_lastTakenAheadOf_11 : decode cX1_lastTakenAheadOf 11 = .ok (.iload 4, 2) := by decide +kernel
theorem dX1_lastTakenAheadOf_13 : decode cX1_lastTakenAheadOf 13 = .ok (.aload_n 0, 1) := by decide +kernel
theorem dX1_lastTakenAheadOf_14 : decode cX1_lastTakenAheadOf 14 = .ok (.getfield 34, 3) := by decide +kernel
theorem dX1_lastTakenAheadOf_17 : decode cX1_lastTakenAheadOf 17 = .ok (.if_icmp .ge 45, 3) := by decide +kernel
theorem dX1_lastTakenAheadOf_20 : decode cX1_lastTakenAheadOf 20 = .ok (.iload 4, 2) := by decide +kernel
theorem dX1_lastTakenAheadOf_22 : decode cX1_lastTakenAheadOf 22 = .ok (.iload_n 2, 1) := by decide +kernel
theorem dX1_lastTakenAheadOf_23 : decode cX1_lastTakenAheadOf 23 = .ok (.invokestatic 118, 3) := by decide +kernel
theorem dX1_lastTakenAheadOf_26 : decode cX1_lastTakenAheadOf 26 = .ok (.ifCond .eq 30, 3) := by decide +kernel
theorem dX1_lastTakenAheadOf_29 : decode cX1_lastTakenAheadOf 29 = .ok (.aload_n 0, 1) := by decide +kernel
theorem dX1_lastTakenAheadOf_30 : decode cX1_lastTakenAheadOf 30 = .ok (.iload 4, 2) := by decide +kernel
theorem dX1_lastTakenAheadOf_32 : decode cX1_lastTakenAheadOf 32 = .ok (.iload_n 1, 1) := by decide +kernel
theorem dX1_lastTakenAheadOf_33 : decode cX1_lastTakenAheadOf 33 = .ok (.invokevirtual 153, 3) := by decide +kernel
theorem dX1_lastTakenAheadOf_36 : decode cX1_lastTakenAheadOf 36 = .ok (.ifCond .eq 20, 3) := by decide +kernel
theorem dX1_lastTakenAheadOf_39 : decode cX1_lastTakenAheadOf 39 = .ok (.iload_n 3, 1) := by decide +kernel
theorem dX1_lastTakenAheadOf_40 : decode cX1_lastTakenAheadOf 40 = .ok (.ifCond .lt 13, 3) := by decide +kernel
theorem dX1_lastTakenAheadOf_43 : decode cX1_lastTakenAheadOf 43 = .ok (.aload_n 0, 1) := by decide +kernel
theorem dX1_lastTakenAheadOf_44 : decode cX1_lastTakenAheadOf 44 = .ok (.iload_n 3, 1) := by decide +kernel
theorem dX1_lastTakenAheadOf_45 : decode cX1_lastTakenAheadOf 45 = .ok (.iload 4, 2) := by decide +kernel
theorem dX1_lastTakenAheadOf_47 : decode cX1_lastTakenAheadOf 47 = .ok (.invokevirtual 153, 3) := by decide +kernel
theorem dX1_lastTakenAheadOf_50 : decode cX1_lastTakenAheadOf 50 = .ok (.ifCond .eq 6, 3) := by decide +kernel
theorem dX1_lastTakenAheadOf_53 : decode cX1_lastTakenAheadOf 53 = .ok (.iload 4, 2) := by decide +kernel
theorem dX1_lastTakenAheadOf_55 : decode cX1_lastTakenAheadOf 55 = .ok (.istore_n 3, 1) := by decide +kernel
theorem dX1_lastTakenAheadOf_56 : decode cX1_lastTakenAheadOf 56 = .ok (.iinc 4 1, 3) := by decide +kernel
theorem dX1_lastTakenAheadOf_59 : decode cX1_lastTakenAheadOf 59 = .ok (.goto (-48), 3) := by decide +kernel
theorem dX1_lastTakenAheadOf_62 : decode cX1_lastTakenAheadOf 62 = .ok (.iload_n 3, 1) := by decide +kernel
theorem dX1_lastTakenAheadOf_63 : decode cX1_lastTakenAheadOf 63 = .ok (.ireturn, 1) := by decide +kernel
theorem dX1_goesAhead_0 : decode cX1_goesAhead 0 = .ok (.aload_n 0, 1) := by decide +kernel
theorem dX1_goesAhead_1 : decode cX1_goesAhead 1 = .ok (.getfield 29, 3) := by decide +kernel
theorem dX1_goesAhead_4 : decode cX1_goesAhead 4 = .ok (.iload_n 1, 1) := by decide +kernel
theorem dX1_goesAhead_5 : decode cX1_goesAhead 5 = .ok (.aaload, 1) := by decide +kernel
theorem dX1_goesAhead_6 : decode cX1_goesAhead 6 = .ok (.astore_n 3, 1) := by decide +kernel
theorem dX1_goesAhead_7 : decode cX1_goesAhead 7 = .ok (.aload_n 0, 1) := by decide +kernel
theorem dX1_goesAhead_8 : decode cX1_goesAhead 8 = .ok (.getfield 29, 3) := by decide +kernel
theorem dX1_goesAhead_11 : decode cX1_goesAhead 11 = .ok (.iload_n 2, 1) := by decide +kernel
theorem dX1_goesAhead_12 : decode cX1_goesAhead 12 = .ok (.aaload, 1) := by decide +kernel
theorem dX1_goesAhead_13 : decode cX1_goesAhead 13 = .ok (.astore 4, 2) := by decide +kernel
theorem dX1_goesAhead_15 : decode cX1_goesAhead 15 = .ok (.aload_n 3, 1) := by decide +kernel
theorem dX1_goesAhead_16 : decode cX1_goesAhead 16 = .ok (.getfield 156, 3) := by decide +kernel
theorem dX1_goesAhead_19 : decode cX1_goesAhead 19 = .ok (.aload 4, 2) := by decide +kernel
theorem dX1_goesAhead_21 : decode cX1_goesAhead 21 = .ok (.getfield 156, 3) := by decide +kernel
theorem dX1_goesAhead_24 : decode cX1_goesAhead 24 = .ok (.if_icmp .eq 21, 3) := by decide +kernel
theorem dX1_goesAhead_27 : decode cX1_goesAhead 27 = .ok (.aload_n 3, 1) := by decide +kernel
theorem dX1_goesAhead_28 : decode cX1_goesAhead 28 = .ok (.getfield 156, 3) := by decide +kernel
theorem dX1_goesAhead_31 : decode cX1_goesAhead 31 = .ok (.aload 4, 2) := by decide +kernel
theorem dX1_goesAhead_33 : decode cX1_goesAhead 33 = .ok (.getfield 156, 3) := by decide +kernel
theorem dX1_goesAhead_36 : decode cX1_goesAhead 36 = .ok (.if_icmp .le 7, 3) := by decide +kernel
theorem dX1_goesAhead_39 : decode cX1_goesAhead 39 = .ok (.iconst 1, 1) := by decide +kernel
theorem dX1_goesAhead_40 : decode cX1_goesAhead 40 = .ok (.goto 4, 3) := by decide +kernel
theorem dX1_goesAhead_43 : decode cX1_goesAhead 43 = .ok (.iconst 0, 1) := by decide +kernel
theorem dX1_goesAhead_44 : decode cX1_goesAhead 44 = .ok (.ireturn, 1) := by decide +kernel
theorem dX1_goesAhead_45 : decode cX1_goesAhead 45 = .ok (.aload_n 3, 1) := by decide +kernel
theorem dX1_goesAhead_46 : decode cX1_goesAhead 46 = .ok (.getfield 159, 3) := by decide +kernel
theorem dX1_goesAhead_49 : decode cX1_goesAhead 49 = .ok (.aload 4, 2) := by decide +kernel
theorem dX1_goesAhead_51 : decode cX1_goesAhead 51 = .ok (.getfield 159, 3) := by decide +kernel
theorem dX1_goesAhead_54 : decode cX1_goesAhead 54 = .ok (.if_icmp .eq 21, 3) := by decide +kernel
theorem dX1_goesAhead_57 : decode cX1_goesAhead 57 = .ok (.aload_n 3, 1) := by decide +kernel
theorem dX1_goesAhead_58 : decode cX1_goesAhead 58 = .ok (.getfield 159, 3) := by decide +kernel
theorem dX1_goesAhead_61 : decode cX1_goesAhead 61 = .ok (.aload 4, 2) := by decide +kernel
theorem dX1_goesAhead_63 : decode cX1_goesAhead 63 = .ok (.getfield 159, 3) := by decide +kernel
theorem dX1_goesAhead_66 : decode cX1_goesAhead 66 = .ok (.if_icmp .ge 7, 3) := by decide +kernel
theorem dX1_goesAhead_69 : decode cX1_goesAhead 69 = .ok (.iconst 1, 1) := by decide +kernel
theorem dX1_goesAhead_70 : decode cX1_goesAhead 70 = .ok (.goto 4, 3) := by decide +kernel
theorem dX1_goesAhead_73 : decode cX1_goesAhead 73 = .ok (.iconst 0, 1) := by decide +kernel
theorem dX1_goesAhead_74 : decode cX1_goesAhead 74 = .ok (.ireturn, 1) := by decide +kernel
theorem dX1_goesAhead_75 : decode cX1_goesAhead 75 = .ok (.iload_n 1, 1) := by decide +kernel
theorem dX1_goesAhead_76 : decode cX1_goesAhead 76 = .ok (.iload_n 2, 1) := by decide +kernel
theorem dX1_goesAhead_77 : decode cX1_goesAhead 77 = .ok (.if_icmp .ge 7, 3) := by decide +kernel
theorem dX1_goesAhead_80 : decode cX1_goesAhead 80 = .ok (.iconst 1, 1) := by decide +kernel
theorem dX1_goesAhead_81 : decode cX1_goesAhead 81 = .ok (.goto 4, 3) := by decide +kernel
theorem dX1_goesAhead_84 : decode cX1_goesAhead 84 = .ok (.iconst 0, 1) := by decide +kernel
theorem dX1_goesAhead_85 : decode cX1_goesAhead 85 = .ok (.ireturn, 1) := by decide +kernel
theorem dX1_whyNotOnPlate_0 : decode cX1_whyNotOnPlate 0 = .ok (.aload_n 0, 1) := by decide +kernel
theorem dX1_whyNotOnPlate_1 : decode cX1_whyNotOnPlate 1 = .ok (.iload_n 1, 1) := by decide +kernel
theorem dX1_whyNotOnPlate_2 : decode cX1_whyNotOnPlate 2 = .ok (.invokevirtual 60, 3) := by decide +kernel
theorem dX1_whyNotOnPlate_5 : decode cX1_whyNotOnPlate 5 = .ok (.ifCond .ne 5, 3) := by decide +kernel
theorem dX1_whyNotOnPlate_8 : decode cX1_whyNotOnPlate 8 = .ok (.iconst (-1), 1) := by decide +kernel
theorem dX1_whyNotOnPlate_9 : decode cX1_whyNotOnPlate 9 = .ok (.ireturn, 1) := by decide +kernel
theorem dX1_whyNotOnPlate_10 : decode cX1_whyNotOnPlate 10 = .ok (.iload_n 2, 1) := by decide +kernel
theorem dX1_whyNotOnPlate_11 : decode cX1_whyNotOnPlate 11 = .ok (.ifCond .ne 9, 3) := by decide +kernel
theorem dX1_whyNotOnPlate_14 : decode cX1_whyNotOnPlate 14 = .ok (.aload_n 0, 1) := by decide +kernel
theorem dX1_whyNotOnPlate_15 : decode cX1_whyNotOnPlate 15 = .ok (.iload_n 1, 1) := by decide +kernel
theorem dX1_whyNotOnPlate_16 : decode cX1_whyNotOnPlate 16 = .ok (.invokevirtual 162, 3) := by decide +kernel
theorem dX1_whyNotOnPlate_19 : decode cX1_whyNotOnPlate 19 = .ok (.ireturn, 1) := by decide +kernel
theorem dX1_whyNotOnPlate_20 : decode cX1_whyNotOnPlate 20 = .ok (.iload_n 2, 1) := by decide +kernel
theorem dX1_whyNotOnPlate_21 : decode cX1_whyNotOnPlate 21 = .ok (.iconst 1, 1) := by decide +kernel
theorem dX1_whyNotOnPlate_22 : decode cX1_whyNotOnPlate 22 = .ok (.if_icmp .ne 11, 3) := by decide +kernel
theorem dX1_whyNotOnPlate_25 : decode cX1_whyNotOnPlate 25 = .ok (.aload_n 0, 1) := by decide +kernel
theorem dX1_whyNotOnPlate_26 : decode cX1_whyNotOnPlate 26 = .ok (.iload_n 1, 1) := by decide +kernel
theorem dX1_whyNotOnPlate_27 : decode cX1_whyNotOnPlate 27 = .ok (.invokevirtual 165, 3) := by decide +kernel
theorem dX1_whyNotOnPlate_30 : decode cX1_whyNotOnPlate 30 = .ok (.goto 5, 3) := by decide +kernel
theorem dX1_whyNotOnPlate_33 : decode cX1_whyNotOnPlate 33 = .ok (.bipush (-2), 2) := by decide +kernel
theorem dX1_whyNotOnPlate_35 : decode cX1_whyNotOnPlate 35 = .ok (.ireturn, 1) := by decide +kernel
theorem dX1_reasonOf_0 : decode cX1_reasonOf 0 = .ok (.aload_n 0, 1) := by decide +kernel
theorem dX1_reasonOf_1 : decode cX1_reasonOf 1 = .ok (.getfield 29, 3) := by decide +kernel
theorem dX1_reasonOf_4 : decode cX1_reasonOf 4 = .ok (.iload_n 1, 1) := by decide +kernel
theorem dX1_reasonOf_5 : decode cX1_reasonOf 5 = .ok (.aaload, 1) := by decide +kernel
theorem dX1_reasonOf_6 : decode cX1_reasonOf 6 = .ok (.astore_n 2, 1) := by decide +kernel
theorem dX1_reasonOf_7 : decode cX1_reasonOf 7 = .ok (.aload_n 2, 1) := by decide +kernel
theorem dX1_reasonOf_8 : decode cX1_reasonOf 8 = .ok (.getfield 64, 3) := by decide +kernel
theorem dX1_reasonOf_11 : decode cX1_reasonOf 11 = .ok (.iconst 3, 1) := by decide +kernel
theorem dX1_reasonOf_12 : decode cX1_reasonOf 12 = .ok (.if_icmp .ne 5, 3) := by decide +kernel
theorem dX1_reasonOf_15 : decode cX1_reasonOf 15 = .ok (.iconst 1, 1) := by decide +kernel
theorem dX1_reasonOf_16 : decode cX1_reasonOf 16 = .ok (.ireturn, 1) := by decide +kernel
theorem dX1_reasonOf_17 : decode cX1_reasonOf 17 = .ok (.aload_n 2, 1) := by decide +kernel
theorem dX1_reasonOf_18 : decode cX1_reasonOf 18 = .ok (.getfield 85, 3) := by decide +kernel
theorem dX1_reasonOf_21 : decode cX1_reasonOf 21 = .ok (.ifCond .eq 5, 3) := by decide +kernel
theorem dX1_reasonOf_24 : decode cX1_reasonOf 24 = .ok (.iconst 2, 1) := by decide +kernel
theorem dX1_reasonOf_25 : decode cX1_reasonOf 25 = .ok (.ireturn, 1) := by decide +kernel
theorem dX1_reasonOf_26 : decode cX1_reasonOf 26 = .ok (.aload_n 2, 1) := by decide +kernel
theorem dX1_reasonOf_27 : decode cX1_reasonOf 27 = .ok (.getfield 64, 3) := by decide +kernel
theorem dX1_reasonOf_30 : decode cX1_reasonOf 30 = .ok (.ifCond .ne 5, 3) := by decide +kernel
theorem dX1_reasonOf_33 : decode cX1_reasonOf 33 = .ok (.iconst 3, 1) := by decide +kernel
theorem dX1_reasonOf_34 : decode cX1_reasonOf 34 = .ok (.ireturn, 1) := by decide +kernel
theorem dX1_reasonOf_35 : decode cX1_reasonOf 35 = .ok (.aload_n 2, 1) := by decide +kernel
theorem dX1_reasonOf_36 : decode cX1_reasonOf 36 = .ok (.getfield 64, 3) := by decide +kernel
theorem dX1_reasonOf_39 : decode cX1_reasonOf 39 = .ok (.iconst 1, 1) := by decide +kernel
theorem dX1_reasonOf_40 : decode cX1_reasonOf 40 = .ok (.if_icmp .ne 5, 3) := by decide +kernel
theorem dX1_reasonOf_43 : decode cX1_reasonOf 43 = .ok (.iconst 4, 1) := by decide +kernel
theorem dX1_reasonOf_44 : decode cX1_reasonOf 44 = .ok (.ireturn, 1) := by decide +kernel
theorem dX1_reasonOf_45 : decode cX1_reasonOf 45 = .ok (.iload_n 1, 1) := by decide +kernel
theorem dX1_reasonOf_46 : decode cX1_reasonOf 46 = .ok (.aload_n 0, 1) := by decide +kernel
theorem dX1_reasonOf_47 : decode cX1_reasonOf 47 = .ok (.invokevirtual 109, 3) := by decide +kernel
theorem dX1_reasonOf_50 : decode cX1_reasonOf 50 = .ok (.invokestatic 118, 3) := by decide +kernel
theorem dX1_reasonOf_53 : decode cX1_reasonOf 53 = .ok (.ifCond .eq 7, 3) := by decide +kernel
theorem dX1_reasonOf_56 : decode cX1_reasonOf 56 = .ok (.iconst 0, 1) := by decide +kernel
theorem dX1_reasonOf_57 : decode cX1_reasonOf 57 = .ok (.goto 4, 3) := by decide +kernel
theorem dX1_reasonOf_60 : decode cX1_reasonOf 60 = .ok (.iconst 5, 1) := by decide +kernel
theorem dX1_reasonOf_61 : decode cX1_reasonOf 61 = .ok (.ireturn, 1) := by decide +kernel
theorem dX1_causeOf_0 : decode cX1_causeOf 0 = .ok (.aload_n 0, 1) := by decide +kernel
theorem dX1_causeOf_1 : decode cX1_causeOf 1 = .ok (.iload_n 1, 1) := by decide +kernel
theorem dX1_causeOf_2 : decode cX1_causeOf 2 = .ok (.invokevirtual 162, 3) := by decide +kernel
theorem dX1_causeOf_5 : decode cX1_causeOf 5 = .ok (.tableswitch 52 3 5 #[27, 41, 46], 27) := by decide +kernel
theorem dX1_causeOf_32 : decode cX1_causeOf 32 = .ok (.aload_n 0, 1) := by decide +kernel
theorem dX1_causeOf_33 : decode cX1_causeOf 33 = .ok (.aload_n 0, 1) := by decide +kernel
theorem dX1_causeOf_34 : decode cX1_causeOf 34 = .ok (.getfield 29, 3) := by decide +kernel
theorem dX1_causeOf_37 : decode cX1_causeOf 37 = .ok (.iload_n 1, 1) := by decide +kernel
theorem dX1_causeOf_38 : decode cX1_causeOf 38 = .ok (.aaload, 1) := by decide +kernel
theorem dX1_causeOf_39 : decode cX1_causeOf 39 = .ok (.getfield 115, 3) := by decide +kernel
theorem dX1_causeOf_42 : decode cX1_causeOf 42 = .ok (.invokevirtual 168, 3) := by decide +kernel
theorem dX1_causeOf_45 : decode cX1_causeOf 45 = .ok (.ireturn, 1) := by decide +kernel
theorem dX1_causeOf_46 : decode cX1_causeOf 46 = .ok (.aload_n 0, 1) := by decide +kernel
theorem dX1_causeOf_47 : decode cX1_causeOf 47 = .ok (.invokevirtual 126, 3) := by decide +kernel
theorem dX1_causeOf_50 : decode cX1_causeOf 50 = .ok (.ireturn, 1) := by decide +kernel
theorem dX1_causeOf_51 : decode cX1_causeOf 51 = .ok (.aload_n 0, 1) := by decide +kernel
theorem dX1_causeOf_52 : decode cX1_causeOf 52 = .ok (.iload_n 1, 1) := by decide +kernel
theorem dX1_causeOf_53 : decode cX1_causeOf 53 = .ok (.invokevirtual 171, 3) := by decide +kernel
theorem dX1_causeOf_56 : decode cX1_causeOf 56 = .ok (.ireturn, 1) := by decide +kernel
theorem dX1_causeOf_57 : decode cX1_causeOf 57 = .ok (.bipush (-6), 2) := by decide +kernel
theorem dX1_causeOf_59 : decode cX1_causeOf 59 = .ok (.ireturn, 1) := by decide +kernel
theorem dX1_isMade_0 : decode cX1_isMade 0 = .ok (.aload_n 0, 1) := by decide +kernel
theorem dX1_isMade_1 : decode cX1_isMade 1 = .ok (.getfield 39, 3) := by decide +kernel
theorem dX1_isMade_4 : decode cX1_isMade 4 = .ok (.iload_n 1, 1) := by decide +kernel
theorem dX1_isMade_5 : decode cX1_isMade 5 = .ok (.aaload, 1) := by decide +kernel
theorem dX1_isMade_6 : decode cX1_isMade 6 = .ok (.getfield 174, 3) := by decide +kernel
theorem dX1_isMade_9 : decode cX1_isMade 9 = .ok (.aload_n 0, 1) := by decide +kernel
theorem dX1_isMade_10 : decode cX1_isMade 10 = .ok (.getfield 23, 3) := by decide +kernel
theorem dX1_isMade_13 : decode cX1_isMade 13 = .ok (.if_icmp .ge 7, 3) := by decide +kernel
theorem dX1_isMade_16 : decode cX1_isMade 16 = .ok (.iconst 1, 1) := by decide +kernel
theorem dX1_isMade_17 : decode cX1_isMade 17 = .ok (.goto 4, 3) := by decide +kernel
theorem dX1_isMade_20 : decode cX1_isMade 20 = .ok (.iconst 0, 1) := by decide +kernel
theorem dX1_isMade_21 : decode cX1_isMade 21 = .ok (.ireturn, 1) := by decide +kernel
theorem dX1_nextDue_0 : decode cX1_nextDue 0 = .ok (.aload_n 0, 1) := by decide +kernel
theorem dX1_nextDue_1 : decode cX1_nextDue 1 = .ok (.invokevirtual 175, 3) := by decide +kernel
theorem dX1_nextDue_4 : decode cX1_nextDue 4 = .ok (.istore_n 1, 1) := by decide +kernel
theorem dX1_nextDue_5 : decode cX1_nextDue 5 = .ok (.iload_n 1, 1) := by decide +kernel
theorem dX1_nextDue_6 : decode cX1_nextDue 6 = .ok (.aload_n 0, 1) := by decide +kernel
theorem dX1_nextDue_7 : decode cX1_nextDue 7 = .ok (.getfield 44, 3) := by decide +kernel
theorem dX1_nextDue_10 : decode cX1_nextDue 10 = .ok (.if_icmp .ge 7, 3) := by decide +kernel
theorem dX1_nextDue_13 : decode cX1_nextDue 13 = .ok (.iload_n 1, 1) := by decide +kernel
theorem dX1_nextDue_14 : decode cX1_nextDue 14 = .ok (.goto 5, 3) := by decide +kernel
theorem dX1_nextDue_17 : decode cX1_nextDue 17 = .ok (.bipush (-6), 2) := by decide +kernel
theorem dX1_nextDue_19 : decode cX1_nextDue 19 = .ok (.ireturn, 1) := by decide +kernel
theorem dX1_minutesToPlate_0 : decode cX1_minutesToPlate 0 = .ok (.iload_n 1, 1) := by decide +kernel
theorem dX1_minutesToPlate_1 : decode cX1_minutesToPlate 1 = .ok (.ifCond .lt 30, 3) := by decide +kernel
theorem dX1_minutesToPlate_4 : decode cX1_minutesToPlate 4 = .ok (.iload_n 1, 1) := by decide +kernel
theorem dX1_minutesToPlate_5 : decode cX1_minutesToPlate 5 = .ok (.aload_n 0, 1) := by decide +kernel
theorem dX1_minutesToPlate_6 : decode cX1_minutesToPlate 6 = .ok (.getfield 44, 3) := by decide +kernel
theorem dX1_minutesToPlate_9 : decode cX1_minutesToPlate 9 = .ok (.if_icmp .ge 22, 3) := by decide +kernel
theorem dX1_minutesToPlate_12 : decode cX1_minutesToPlate 12 = .ok (.aload_n 0, 1) := by decide +kernel
theorem dX1_minutesToPlate_13 : decode cX1_minutesToPlate 13 = .ok (.getfield 39, 3) := by decide +kernel
theorem dX1_minutesToPlate_16 : decode cX1_minutesToPlate 16 = .ok (.iload_n 1, 1) := by decide +kernel
theorem dX1_minutesToPlate_17 : decode cX1_minutesToPlate 17 = .ok (.aaload, 1) := by decide +kernel
theorem dX1_minutesToPlate_18 : decode cX1_minutesToPlate 18 = .ok (.getfield 174, 3) := by decide +kernel
theorem dX1_minutesToPlate_21 : decode cX1_minutesToPlate 21 = .ok (.aload_n 0, 1) := by decide +kernel
theorem dX1_minutesToPlate_22 : decode cX1_minutesToPlate 22 = .ok (.getfield 23, 3) := by decide +kernel
theorem dX1_minutesToPlate_25 : decode cX1_minutesToPlate 25 = .ok (.isub, 1) := by decide +kernel
theorem dX1_minutesToPlate_26 : decode cX1_minutesToPlate 26 = .ok (.iconst 1, 1) := by decide +kernel
theorem dX1_minutesToPlate_27 : decode cX1_minutesToPlate 27 = .ok (.iadd, 1) := by decide +kernel
theorem dX1_minutesToPlate_28 : decode cX1_minutesToPlate 28 = .ok (.goto 4, 3) := by decide +kernel
theorem dX1_minutesToPlate_31 : decode cX1_minutesToPlate 31 = .ok (.iconst 0, 1) := by decide +kernel
theorem dX1_minutesToPlate_32 : decode cX1_minutesToPlate 32 = .ok (.ireturn, 1) := by decide +kernel
theorem dX1_madePlates_0 : decode cX1_madePlates 0 = .ok (.iconst 0, 1) := by decide +kernel
theorem dX1_madePlates_1 : decode cX1_madePlates 1 = .ok (.istore_n 1, 1) := by decide +kernel
theorem dX1_madePlates_2 : decode cX1_madePlates 2 = .ok (.iconst 0, 1) := by decide +kernel
theorem dX1_madePlates_3 : decode cX1_madePlates 3 = .ok (.istore_n 2, 1) := by decide +kernel
theorem dX1_madePlates_4 : decode cX1_madePlates 4 = .ok (.iload_n 2, 1) := by decide +kernel
theorem dX1_madePlates_5 : decode cX1_madePlates 5 = .ok (.aload_n 0, 1) := by decide +kernel
theorem dX1_madePlates_6 : decode cX1_madePlates 6 = .ok (.getfield 44, 3) := by decide +kernel
theorem dX1_madePlates_9 : decode cX1_madePlates 9 = .ok (.if_icmp .ge 20, 3) := by decide +kernel
theorem dX1_madePlates_12 : decode cX1_madePlates 12 = .ok (.iload_n 1, 1) := by decide +kernel
theorem dX1_madePlates_13 : decode cX1_madePlates 13 = .ok (.aload_n 0, 1) := by decide +kernel
theorem dX1_madePlates_14 : decode cX1_madePlates 14 = .ok (.iload_n 2, 1) := by decide +kernel
theorem dX1_madePlates_15 : decode cX1_madePlates 15 = .ok (.invokevirtual 178, 3) := by decide +kernel
theorem dX1_madePlates_18 : decode cX1_madePlates 18 = .ok (.invokestatic 89, 3) := by decide +kernel
theorem dX1_madePlates_21 : decode cX1_madePlates 21 = .ok (.iadd, 1) := by decide +kernel
theorem dX1_madePlates_22 : decode cX1_madePlates 22 = .ok (.istore_n 1, 1) := by decide +kernel
theorem dX1_madePlates_23 : decode cX1_madePlates 23 = .ok (.iinc 2 1, 3) := by decide +kernel
theorem dX1_madePlates_26 : decode cX1_madePlates 26 = .ok (.goto (-22), 3) := by decide +kernel
theorem dX1_madePlates_29 : decode cX1_madePlates 29 = .ok (.iload_n 1, 1) := by decide +kernel
theorem dX1_madePlates_30 : decode cX1_madePlates 30 = .ok (.ireturn, 1) := by decide +kernel
theorem dX1_plateAt_0 : decode cX1_plateAt 0 = .ok (.iconst 0, 1) := by decide +kernel
theorem dX1_plateAt_1 : decode cX1_plateAt 1 = .ok (.istore_n 2, 1) := by decide +kernel
theorem dX1_plateAt_2 : decode cX1_plateAt 2 = .ok (.iload_n 2, 1) := by decide +kernel
theorem dX1_plateAt_3 : decode cX1_plateAt 3 = .ok (.aload_n 0, 1) := by decide +kernel
theorem dX1_plateAt_4 : decode cX1_plateAt 4 = .ok (.getfield 44, 3) := by decide +kernel
theorem dX1_plateAt_7 : decode cX1_plateAt 7 = .ok (.if_icmp .ge 24, 3) := by decide +kernel
theorem dX1_plateAt_10 : decode cX1_plateAt 10 = .ok (.aload_n 0, 1) := by decide +kernel
theorem dX1_plateAt_11 : decode cX1_plateAt 11 = .ok (.getfield 39, 3) := by decide +kernel
theorem dX1_plateAt_14 : decode cX1_plateAt 14 = .ok (.iload_n 2, 1) := by decide +kernel
theorem dX1_plateAt_15 : decode cX1_plateAt 15 = .ok (.aaload, 1) := by decide +kernel
theorem dX1_plateAt_16 : decode cX1_plateAt 16 = .ok (.getfield 174, 3) := by decide +kernel
theorem dX1_plateAt_19 : decode cX1_plateAt 19 = .ok (.iload_n 1, 1) := by decide +kernel
theorem dX1_plateAt_20 : decode cX1_plateAt 20 = .ok (.if_icmp .ne 5, 3) := by decide +kernel
theorem dX1_plateAt_23 : decode cX1_plateAt 23 = .ok (.iload_n 2, 1) := by decide +kernel
theorem dX1_plateAt_24 : decode cX1_plateAt 24 = .ok (.ireturn, 1) := by decide +kernel
theorem dX1_plateAt_25 : decode cX1_plateAt 25 = .ok (.iinc 2 1, 3) := by decide +kernel
theorem dX1_plateAt_28 : decode cX1_plateAt 28 = .ok (.goto (-26), 3) := by decide +kernel
theorem dX1_plateAt_31 : decode cX1_plateAt 31 = .ok (.bipush (-6), 2) := by decide +kernel
theorem dX1_plateAt_33 : decode cX1_plateAt 33 = .ok (.ireturn, 1) := by decide +kernel
theorem dX1_isOnLatestMade_0 : decode cX1_isOnLatestMade 0 = .ok (.aload_n 0, 1) := by decide +kernel
theorem dX1_isOnLatestMade_1 : decode cX1_isOnLatestMade 1 = .ok (.invokevirtual 175, 3) := by decide +kernel
theorem dX1_isOnLatestMade_4 : decode cX1_isOnLatestMade 4 = .ok (.iconst 1, 1) := by decide +kernel
theorem dX1_isOnLatestMade_5 : decode cX1_isOnLatestMade 5 = .ok (.isub, 1) := by decide +kernel
theorem dX1_isOnLatestMade_6 : decode cX1_isOnLatestMade 6 = .ok (.istore_n 2, 1) := by decide +kernel
theorem dX1_isOnLatestMade_7 : decode cX1_isOnLatestMade 7 = .ok (.iload_n 2, 1) := by decide +kernel
theorem dX1_isOnLatestMade_8 : decode cX1_isOnLatestMade 8 = .ok (.ifCond .lt 23, 3) := by decide +kernel
theorem dX1_isOnLatestMade_11 : decode cX1_isOnLatestMade 11 = .ok (.iload_n 1, 1) := by decide +kernel
theorem dX1_isOnLatestMade_12 : decode cX1_isOnLatestMade 12 = .ok (.aload_n 0, 1) := by decide +kernel
theorem dX1_isOnLatestMade_13 : decode cX1_isOnLatestMade 13 = .ok (.getfield 39, 3) := by decide +kernel
theorem dX1_isOnLatestMade_16 : decode cX1_isOnLatestMade 16 = .ok (.iload_n 2, 1) := by decide +kernel
theorem dX1_isOnLatestMade_17 : decode cX1_isOnLatestMade 17 = .ok (.aaload, 1) := by decide +kernel
theorem dX1_isOnLatestMade_18 : decode cX1_isOnLatestMade 18 = .ok (.getfield 113, 3) := by decide +kernel
theorem dX1_isOnLatestMade_21 : decode cX1_isOnLatestMade 21 = .ok (.invokestatic 118, 3) := by decide +kernel
theorem dX1_isOnLatestMade_24 : decode cX1_isOnLatestMade 24 = .ok (.ifCond .eq 7, 3) := by decide +kernel
theorem dX1_isOnLatestMade_27 : decode cX1_isOnLatestMade 27 = .ok (.iconst 1, 1) := by decide +kernel
theorem dX1_isOnLatestMade_28 : decode cX1_isOnLatestMade 28 = .ok (.goto 4, 3) := by decide +kernel
theorem dX1_isOnLatestMade_31 : decode cX1_isOnLatestMade 31 = .ok (.iconst 0, 1) := by decide +kernel
theorem dX1_isOnLatestMade_32 : decode cX1_isOnLatestMade 32 = .ok (.ireturn, 1) := by decide +kernel
theorem dX1_tellReplate_0 : decode cX1_tellReplate 0 = .ok (.aload_n 0, 1) := by decide +kernel
theorem dX1_tellReplate_1 : decode cX1_tellReplate 1 = .ok (.getfield 23, 3) := by decide +kernel
theorem dX1_tellReplate_4 : decode cX1_tellReplate 4 = .ok (.aload_n 0, 1) := by decide +kernel
theorem dX1_tellReplate_5 : decode cX1_tellReplate 5 = .ok (.getfield 18, 3) := by decide +kernel
theorem dX1_tellReplate_8 : decode cX1_tellReplate 8 = .ok (.iconst 3, 1) := by decide +kernel
theorem dX1_tellReplate_9 : decode cX1_tellReplate 9 = .ok (.iaload, 1) := by decide +kernel
theorem dX1_tellReplate_10 : decode cX1_tellReplate 10 = .ok (.iadd, 1) := by decide +kernel
theorem dX1_tellReplate_11 : decode cX1_tellReplate 11 = .ok (.istore_n 1, 1) := by decide +kernel
theorem dX1_tellReplate_12 : decode cX1_tellReplate 12 = .ok (.aload_n 0, 1) := by decide +kernel
theorem dX1_tellReplate_13 : decode cX1_tellReplate 13 = .ok (.invokevirtual 181, 3) := by decide +kernel
theorem dX1_tellReplate_16 : decode cX1_tellReplate 16 = .ok (.istore_n 2, 1) := by decide +kernel
theorem dX1_tellReplate_17 : decode cX1_tellReplate 17 = .ok (.iload_n 2, 1) := by decide +kernel
theorem dX1_tellReplate_18 : decode cX1_tellReplate 18 = .ok (.ifCond .lt 18, 3) := by decide +kernel
theorem dX1_tellReplate_21 : decode cX1_tellReplate 21 = .ok (.aload_n 0, 1) := by decide +kernel
theorem dX1_tellReplate_22 : decode cX1_tellReplate 22 = .ok (.getfield 39, 3) := by decide +kernel
theorem dX1_tellReplate_25 : decode cX1_tellReplate 25 = .ok (.iload_n 2, 1) := by decide +kernel
theorem dX1_tellReplate_26 : decode cX1_tellReplate 26 = .ok (.aaload, 1) := by decide +kernel
theorem dX1_tellReplate_27 : decode cX1_tellReplate 27 = .ok (.getfield 174, 3) := by decide +kernel
theorem dX1_tellReplate_30 : decode cX1_tellReplate 30 = .ok (.iload_n 1, 1) := by decide +kernel
theorem dX1_tellReplate_31 : decode cX1_tellReplate 31 = .ok (.if_icmp .gt 5, 3) := by decide +kernel
theorem dX1_tellReplate_34 : decode cX1_tellReplate 34 = .ok (.iconst 0, 1) := by decide +kernel
theorem dX1_tellReplate_35 : decode cX1_tellReplate 35 = .ok (.ireturn, 1) := by decide +kernel
theorem dX1_tellReplate_36 : decode cX1_tellReplate 36 = .ok (.aload_n 0, 1) := by decide +kernel
theorem dX1_tellReplate_37 : decode cX1_tellReplate 37 = .ok (.getfield 44, 3) := by decide +kernel
theorem dX1_tellReplate_40 : decode cX1_tellReplate 40 = .ok (.bipush 8, 2) := by decide +kernel
theorem dX1_tellReplate_42 : decode cX1_tellReplate 42 = .ok (.if_icmp .ge 10, 3) := by decide +kernel
theorem dX1_tellReplate_45 : decode cX1_tellReplate 45 = .ok (.iload_n 1, 1) := by decide +kernel
theorem dX1_tellReplate_46 : decode cX1_tellReplate 46 = .ok (.sipush 600, 3) := by decide +kernel
theorem dX1_tellReplate_49 : decode cX1_tellReplate 49 = .ok (.if_icmp .lt 5, 3) := by decide +kernel
theorem dX1_tellReplate_52 : decode cX1_tellReplate 52 = .ok (.iconst 0, 1) := by decide +kernel
theorem dX1_tellReplate_53 : decode cX1_tellReplate 53 = .ok (.ireturn, 1) := by decide +kernel
theorem dX1_tellReplate_54 : decode cX1_tellReplate 54 = .ok (.aload_n 0, 1) := by decide +kernel
theorem dX1_tellReplate_55 : decode cX1_tellReplate 55 = .ok (.iload_n 1, 1) := by decide +kernel
theorem dX1_tellReplate_56 : decode cX1_tellReplate 56 = .ok (.iconst 1, 1) := by decide +kernel
theorem dX1_tellReplate_57 : decode cX1_tellReplate 57 = .ok (.invokevirtual 81, 3) := by decide +kernel
theorem dX1_tellReplate_60 : decode cX1_tellReplate 60 = .ok (.pop, 1) := by decide +kernel
theorem dX1_tellReplate_61 : decode cX1_tellReplate 61 = .ok (.iconst 1, 1) := by decide +kernel
theorem dX1_tellReplate_62 : decode cX1_tellReplate 62 = .ok (.ireturn, 1) := by decide +kernel
theorem dX1_insertPlate_0 : decode cX1_insertPlate 0 = .ok (.aload_n 0, 1) := by decide +kernel
theorem dX1_insertPlate_1 : decode cX1_insertPlate 1 = .ok (.getfield 44, 3) := by decide +kernel
theorem dX1_insertPlate_4 : decode cX1_insertPlate 4 = .ok (.istore_n 3, 1) := by decide +kernel
theorem dX1_insertPlate_5 : decode cX1_insertPlate 5 = .ok (.iload_n 3, 1) := by decide +kernel
theorem dX1_insertPlate_6 : decode cX1_insertPlate 6 = .ok (.ifCond .le 41, 3) := by decide +kernel
theorem dX1_insertPlate_9 : decode cX1_insertPlate 9 = .ok (.aload_n 0, 1) := by decide +kernel
theorem dX1_insertPlate_10 : decode cX1_insertPlate 10 = .ok (.getfield 39, 3) := by decide +kernel
theorem dX1_insertPlate_13 : decode cX1_insertPlate 13 = .ok (.iload_n 3, 1) := by decide +kernel
theorem dX1_insertPlate_14 : decode cX1_insertPlate 14 = .ok (.iconst 1, 1) := by decide +kernel
theorem dX1_insertPlate_15 : decode cX1_insertPlate 15 = .ok (.isub, 1) := by decide +kernel
theorem dX1_insertPlate_16 : decode cX1_insertPlate 16 = .ok (.aaload, 1) := by decide +kernel
theorem dX1_insertPlate_17 : decode cX1_insertPlate 17 = .ok (.getfield 174, 3) := by decide +kernel
theorem dX1_insertPlate_20 : decode cX1_insertPlate 20 = .ok (.iload_n 1, 1) := by decide +kernel
theorem dX1_insertPlate_21 : decode cX1_insertPlate 21 = .ok (.if_icmp .le 26, 3) := by decide +kernel
theorem dX1_insertPlate_24 : decode cX1_insertPlate 24 = .ok (.aload_n 0, 1) := by decide +kernel
theorem dX1_insertPlate_25 : decode cX1_insertPlate 25 = .ok (.getfield 39, 3) := by decide +kernel
theorem dX1_insertPlate_28 : decode cX1_insertPlate 28 = .ok (.iload_n 3, 1) := by decide +kernel
theorem dX1_insertPlate_29 : decode cX1_insertPlate 29 = .ok (.aaload, 1) := by decide +kernel
theorem dX1_insertPlate_30 : decode cX1_insertPlate 30 = .ok (.aload_n 0, 1) := by decide +kernel
theorem dX1_insertPlate_31 : decode cX1_insertPlate 31 = .ok (.getfield 39, 3) := by decide +kernel
theorem dX1_insertPlate_34 : decode cX1_insertPlate 34 = .ok (.iload_n 3, 1) := by decide +kernel
theorem dX1_insertPlate_35 : decode cX1_insertPlate 35 = .ok (.iconst 1, 1) := by decide +kernel
theorem dX1_insertPlate_36 : decode cX1_insertPlate 36 = .ok (.isub, 1) := by decide +kernel
theorem dX1_insertPlate_37 : decode cX1_insertPlate 37 = .ok (.aaload, 1) := by decide +kernel
theorem dX1_insertPlate_38 : decode cX1_insertPlate 38 = .ok (.invokevirtual 57, 3) := by decide +kernel
theorem dX1_insertPlate_41 : decode cX1_insertPlate 41 = .ok (.iinc 3 (-1), 3) := by decide +kernel
theorem dX1_insertPlate_44 : decode cX1_insertPlate 44 = .ok (.goto (-39), 3) := by decide +kernel
theorem dX1_insertPlate_47 : decode cX1_insertPlate 47 = .ok (.aload_n 0, 1) := by decide +kernel
theorem dX1_insertPlate_48 : decode cX1_insertPlate 48 = .ok (.getfield 39, 3) := by decide +kernel
theorem dX1_insertPlate_51 : decode cX1_insertPlate 51 = .ok (.iload_n 3, 1) := by decide +kernel
theorem dX1_insertPlate_52 : decode cX1_insertPlate 52 = .ok (.aaload, 1) := by decide +kernel
theorem dX1_insertPlate_53 : decode cX1_insertPlate 53 = .ok (.iload_n 1, 1) := by decide +kernel
theorem dX1_insertPlate_54 : decode cX1_insertPlate 54 = .ok (.iload_n 2, 1) := by decide +kernel
theorem dX1_insertPlate_55 : decode cX1_insertPlate 55 = .ok (.invokevirtual 184, 3) := by decide +kernel
theorem dX1_insertPlate_58 : decode cX1_insertPlate 58 = .ok (.aload_n 0, 1) := by decide +kernel
theorem dX1_insertPlate_59 : decode cX1_insertPlate 59 = .ok (.dup, 1) := by decide +kernel
theorem dX1_insertPlate_60 : decode cX1_insertPlate 60 = .ok (.getfield 44, 3) := by decide +kernel
theorem dX1_insertPlate_63 : decode cX1_insertPlate 63 = .ok (.iconst 1, 1) := by decide +kernel
theorem dX1_insertPlate_64 : decode cX1_insertPlate 64 = .ok (.iadd, 1) := by decide +kernel
theorem dX1_insertPlate_65 : decode cX1_insertPlate 65 = .ok (.putfield 44, 3) := by decide +kernel
theorem dX1_insertPlate_68 : decode cX1_insertPlate 68 = .ok (.iload_n 3, 1) := by decide +kernel
theorem dX1_insertPlate_69 : decode cX1_insertPlate 69 = .ok (.ireturn, 1) := by decide +kernel
theorem dX1_factOfPiece_0 : decode cX1_factOfPiece 0 = .ok (.aload_n 0, 1) := by decide +kernel
theorem dX1_factOfPiece_1 : decode cX1_factOfPiece 1 = .ok (.iload_n 1, 1) := by decide +kernel
theorem dX1_factOfPiece_2 : decode cX1_factOfPiece 2 = .ok (.invokevirtual 60, 3) := by decide +kernel
theorem dX1_factOfPiece_5 : decode cX1_factOfPiece 5 = .ok (.ifCond .ne 5, 3) := by decide +kernel
theorem dX1_factOfPiece_8 : decode cX1_factOfPiece 8 = .ok (.iconst (-1), 1) := by decide +kernel
theorem dX1_factOfPiece_9 : decode cX1_factOfPiece 9 = .ok (.ireturn, 1) := by decide +kernel
theorem dX1_factOfPiece_10 : decode cX1_factOfPiece 10 = .ok (.aload_n 0, 1) := by decide +kernel
theorem dX1_factOfPiece_11 : decode cX1_factOfPiece 11 = .ok (.getfield 29, 3) := by decide +kernel
theorem dX1_factOfPiece_14 : decode cX1_factOfPiece 14 = .ok (.iload_n 1, 1) := by decide +kernel
theorem dX1_factOfPiece_15 : decode cX1_factOfPiece 15 = .ok (.aaload, 1) := by decide +kernel
theorem dX1_factOfPiece_16 : decode cX1_factOfPiece 16 = .ok (.astore_n 3, 1) := by decide +kernel
theorem dX1_factOfPiece_17 : decode cX1_factOfPiece 17 = .ok (.iload_n 2, 1) := by decide +kernel
theorem dX1_factOfPiece_18 : decode cX1_factOfPiece 18 = .ok (.tableswitch 121 0 10 #[58, 63, 68, 73, 81, 86, 94, 99, 104, 110, 115], 58) := by decide +kernel
theorem dX1_factOfPiece_76 : decode cX1_factOfPiece 76 = .ok (.aload_n 3, 1) := by decide +kernel
theorem dX1_factOfPiece_77 : decode cX1_factOfPiece 77 = .ok (.getfield 115, 3) := by decide +kernel
theorem dX1_factOfPiece_80 : decode cX1_factOfPiece 80 = .ok (.ireturn, 1) := by decide +kernel
theorem dX1_factOfPiece_81 : decode cX1_factOfPiece 81 = .ok (.aload_n 3, 1) := by decide +kernel
theorem dX1_factOfPiece_82 : decode cX1_factOfPiece 82 = .ok (.getfield 144, 3) := by decide +kernel
theorem dX1_factOfPiece_85 : decode cX1_factOfPiece 85 = .ok (.ireturn, 1) := by decide +kernel
theorem dX1_factOfPiece_86 : decode cX1_factOfPiece 86 = .ok (.aload_n 3, 1) := by decide +kernel
theorem dX1_factOfPiece_87 : decode cX1_factOfPiece 87 = .ok (.getfield 156, 3) := by decide +kernel
theorem dX1_factOfPiece_90 : decode cX1_factOfPiece 90 = .ok (.ireturn, 1) := by decide +kernel
theorem dX1_factOfPiece_91 : decode cX1_factOfPiece 91 = .ok (.aload_n 3, 1) := by decide +kernel
theorem dX1_factOfPiece_92 : decode cX1_factOfPiece 92 = .ok (.getfield 188, 3) := by decide +kernel
theorem dX1_factOfPiece_95 : decode cX1_factOfPiece 95 = .ok (.invokestatic 89, 3) := by decide +kernel
theorem dX1_factOfPiece_98 : decode cX1_factOfPiece 98 = .ok (.ireturn, 1) := by decide +kernel
theorem dX1_factOfPiece_99 : decode cX1_factOfPiece 99 = .ok (.aload_n 3, 1) := by decide +kernel
theorem dX1_factOfPiece_100 : decode cX1_factOfPiece 100 = .ok (.getfield 64, 3) := by decide +kernel
theorem dX1_factOfPiece_103 : decode cX1_factOfPiece 103 = .ok (.ireturn, 1) := by decide +kernel
theorem dX1_factOfPiece_104 : decode cX1_factOfPiece 104 = .ok (.aload_n 3, 1) := by decide +kernel
theorem dX1_factOfPiece_105 : decode cX1_factOfPiece 105 = .ok (.getfield 85, 3) := by decide +kernel
theorem dX1_factOfPiece_108 : decode cX1_factOfPiece 108 = .ok (.invokestatic 89, 3) := by decide +kernel
theorem dX1_factOfPiece_111 : decode cX1_factOfPiece 111 = .ok (.ireturn, 1) := by decide +kernel
theorem dX1_factOfPiece_112 : decode cX1_factOfPiece 112 = .ok (.aload_n 3, 1) := by decide +kernel
theorem dX1_factOfPiece_113 : decode cX1_factOfPiece 113 = .ok (.getfield 191, 3) := by decide +kernel
theorem dX1_factOfPiece_116 : decode cX1_factOfPiece 116 = .ok (.ireturn, 1) := by decide +kernel
theorem dX1_factOfPiece_117 : decode cX1_factOfPiece 117 = .ok (.aload_n 3, 1) := by decide +kernel
theorem dX1_factOfPiece_118 : decode cX1_factOfPiece 118 = .ok (.getfield 194, 3) := by decide +kernel
theorem dX1_factOfPiece_121 : decode cX1_factOfPiece 121 = .ok (.ireturn, 1) := by decide +kernel
theorem dX1_factOfPiece_122 : decode cX1_factOfPiece 122 = .ok (.aload_n 0, 1) := by decide +kernel
theorem dX1_factOfPiece_123 : decode cX1_factOfPiece 123 = .ok (.iload_n 1, 1) := by decide +kernel
theorem dX1_factOfPiece_124 : decode cX1_factOfPiece 124 = .ok (.invokevirtual 197, 3) := by decide +kernel
theorem dX1_factOfPiece_127 : decode cX1_factOfPiece 127 = .ok (.ireturn, 1) := by decide +kernel
theorem dX1_factOfPiece_128 : decode cX1_factOfPiece 128 = .ok (.aload_n 3, 1) := by decide +kernel
theorem dX1_factOfPiece_129 : decode cX1_factOfPiece 129 = .ok (.getfield 159, 3) := by decide +kernel
theorem dX1_factOfPiece_132 : decode cX1_factOfPiece 132 = .ok (.ireturn, 1) := by decide +kernel
theorem dX1_factOfPiece_133 : decode cX1_factOfPiece 133 = .ok (.aload_n 0, 1) := by decide +kernel
theorem dX1_factOfPiece_134 : decode cX1_factOfPiece 134 = .ok (.iload_n 1, 1) := by decide +kernel
theorem dX1_factOfPiece_135 : decode cX1_factOfPiece 135 = .ok (.invokevirtual 200, 3) := by decide +kernel
theorem dX1_factOfPiece_138 : decode cX1_factOfPiece 138 = .ok (.ireturn, 1) := by decide +kernel
theorem dX1_factOfPiece_139 : decode cX1_factOfPiece 139 = .ok (.bipush (-2), 2) := by decide +kernel
theorem dX1_factOfPiece_141 : decode cX1_factOfPiece 141 = .ok (.ireturn, 1) := by decide +kernel
theorem dX1_platesWith_0 : decode cX1_platesWith 0 = .ok (.iconst 0, 1) := by decide +kernel
theorem dX1_platesWith_1 : decode cX1_platesWith 1 = .ok (.istore_n 2, 1) := by decide +kernel
theorem dX1_platesWith_2 : decode cX1_platesWith 2 = .ok (.iconst 0, 1) := by decide +kernel
theorem dX1_platesWith_3 : decode cX1_platesWith 3 = .ok (.istore_n 3, 1) := by decide +kernel
theorem dX1_platesWith_4 : decode cX1_platesWith 4 = .ok (.iload_n 3, 1) := by decide +kernel
theorem dX1_platesWith_5 : decode cX1_platesWith 5 = .ok (.aload_n 0, 1) := by decide +kernel
theorem dX1_platesWith_6 : decode cX1_platesWith 6 = .ok (.getfield 44, 3) := by decide +kernel
theorem dX1_platesWith_9 : decode cX1_platesWith 9 = .ok (.if_icmp .ge 30, 3) := by decide +kernel
theorem dX1_platesWith_12 : decode cX1_platesWith 12 = .ok (.iload_n 2, 1) := by decide +kernel
theorem dX1_platesWith_13 : decode cX1_platesWith 13 = .ok (.iload_n 1, 1) := by decide +kernel
theorem dX1_platesWith_14 : decode cX1_platesWith 14 = .ok (.aload_n 0, 1) := by decide +kernel
theorem dX1_platesWith_15 : decode cX1_platesWith 15 = .ok (.getfield 39, 3) := by decide +kernel
theorem dX1_platesWith_18 : decode cX1_platesWith 18 = .ok (.iload_n 3, 1) := by decide +kernel
theorem dX1_platesWith_19 : decode cX1_platesWith 19 = .ok (.aaload, 1) := by decide +kernel
theorem dX1_platesWith_20 : decode cX1_platesWith 20 = .ok (.getfield 113, 3) := by decide +kernel
theorem dX1_platesWith_23 : decode cX1_platesWith 23 = .ok (.invokestatic 118, 3) := by decide +kernel
theorem dX1_platesWith_26 : decode cX1_platesWith 26 = .ok (.invokestatic 89, 3) := by decide +kernel
theorem dX1_platesWith_29 : decode cX1_platesWith 29 = .ok (.iload_n 3, 1) := by decide +kernel
theorem dX1_platesWith_30 : decode cX1_platesWith 30 = .ok (.ishl, 1) := by decide +kernel
theorem dX1_platesWith_31 : decode cX1_platesWith 31 = .ok (.ior, 1) := by decide +kernel
theorem dX1_platesWith_32 : decode cX1_platesWith 32 = .ok (.istore_n 2, 1) := by decide +kernel
theorem dX1_platesWith_33 : decode cX1_platesWith 33 = .ok (.iinc 3 1, 3) := by decide +kernel
theorem dX1_platesWith_36 : decode cX1_platesWith 36 = .ok (.goto (-32), 3) := by decide +kernel
theorem dX1_platesWith_39 : decode cX1_platesWith 39 = .ok (.iload_n 2, 1) := by decide +kernel
theorem dX1_platesWith_40 : decode cX1_platesWith 40 = .ok (.ireturn, 1) := by decide +kernel
theorem dX1_factOfPlate_0 : decode cX1_factOfPlate 0 = .ok (.iload_n 1, 1) := by decide +kernel
theorem dX1_factOfPlate_1 : decode cX1_factOfPlate 1 = .ok (.ifCond .lt 11, 3) := by decide +kernel
theorem dX1_factOfPlate_4 : decode cX1_factOfPlate 4 = .ok (.iload_n 1, 1) := by decide +kernel
theorem dX1_factOfPlate_5 : decode cX1_factOfPlate 5 = .ok (.aload_n 0, 1) := by decide +kernel
theorem dX1_factOfPlate_6 : decode cX1_factOfPlate 6 = .ok (.getfield 44, 3) := by decide +kernel
theorem dX1_factOfPlate_9 : decode cX1_factOfPlate 9 = .ok (.if_icmp .lt 5, 3) := by decide +kernel
theorem dX1_factOfPlate_12 : decode cX1_factOfPlate 12 = .ok (.iconst (-1), 1) := by decide +kernel
theorem dX1_factOfPlate_13 : decode cX1_factOfPlate 13 = .ok (.ireturn, 1) := by decide +kernel
theorem dX1_factOfPlate_14 : decode cX1_factOfPlate 14 = .ok (.iload_n 2, 1) := by decide +kernel
theorem dX1_factOfPlate_15 : decode cX1_factOfPlate 15 = .ok (.tableswitch 89 0 4 #[33, 43, 52, 65, 75], 33) := by decide +kernel
theorem dX1_factOfPlate_48 : decode cX1_factOfPlate 48 = .ok (.aload_n 0, 1) := by decide +kernel
theorem dX1_factOfPlate_49 : decode cX1_factOfPlate 49 = .ok (.getfield 39, 3) := by decide +kernel
theorem dX1_factOfPlate_52 : decode cX1_factOfPlate 52 = .ok (.iload_n 1, 1) := by decide +kernel
theorem dX1_factOfPlate_53 : decode cX1_factOfPlate 53 = .ok (.aaload, 1) := by decide +kernel
theorem dX1_factOfPlate_54 : decode cX1_factOfPlate 54 = .ok (.getfield 174, 3) := by decide +kernel
theorem dX1_factOfPlate_57 : decode cX1_factOfPlate 57 = .ok (.ireturn, 1) := by decide +kernel
theorem dX1_factOfPlate_58 : decode cX1_factOfPlate 58 = .ok (.aload_n 0, 1) := by decide +kernel
theorem dX1_factOfPlate_59 : decode cX1_factOfPlate 59 = .ok (.iload_n 1, 1) := by decide +kernel
theorem dX1_factOfPlate_60 : decode cX1_factOfPlate 60 = .ok (.invokevirtual 178, 3) := by decide +kernel
theorem dX1_factOfPlate_63 : decode cX1_factOfPlate 63 = .ok (.invokestatic 89, 3) := by decide +kernel
theorem dX1_factOfPlate_66 : decode cX1_factOfPlate 66 = .ok (.ireturn, 1) := by decide +kernel
theorem dX1_factOfPlate_67 : decode cX1_factOfPlate 67 = .ok (.aload_n 0, 1) := by decide +kernel
theorem dX1_factOfPlate_68 : decode cX1_factOfPlate 68 = .ok (.getfield 39, 3) := by decide +kernel
theorem dX1_factOfPlate_71 : decode cX1_factOfPlate 71 = .ok (.iload_n 1, 1) := by decide +kernel
theorem dX1_factOfPlate_72 : decode cX1_factOfPlate 72 = .ok (.aaload, 1) := by decide +kernel
theorem dX1_factOfPlate_73 : decode cX1_factOfPlate 73 = .ok (.getfield 203, 3) := by decide +kernel
theorem dX1_factOfPlate_76 : decode cX1_factOfPlate 76 = .ok (.invokestatic 89, 3) := by decide +kernel
theorem dX1_factOfPlate_79 : decode cX1_factOfPlate 79 = .ok (.ireturn, 1) := by decide +kernel
theorem dX1_factOfPlate_80 : decode cX1_factOfPlate 80 = .ok (.aload_n 0, 1) := by decide +kernel
theorem dX1_factOfPlate_81 : decode cX1_factOfPlate 81 = .ok (.getfield 39, 3) := by decide +kernel
theorem dX1_factOfPlate_84 : decode cX1_factOfPlate 84 = .ok (.iload_n 1, 1) := by decide +kernel
theorem dX1_factOfPlate_85 : decode cX1_factOfPlate 85 = .ok (.aaload, 1) := by decide +kernel
theorem dX1_factOfPlate_86 : decode cX1_factOfPlate 86 = .ok (.getfield 113, 3) := by decide +kernel
theorem dX1_factOfPlate_89 : decode cX1_factOfPlate 89 = .ok (.ireturn, 1) := by decide +kernel
theorem dX1_factOfPlate_90 : decode cX1_factOfPlate 90 = .ok (.aload_n 0, 1) := by decide +kernel
theorem dX1_factOfPlate_91 : decode cX1_factOfPlate 91 = .ok (.aload_n 0, 1) := by decide +kernel
theorem dX1_factOfPlate_92 : decode cX1_factOfPlate 92 = .ok (.getfield 39, 3) := by decide +kernel
theorem dX1_factOfPlate_95 : decode cX1_factOfPlate 95 = .ok (.iload_n 1, 1) := by decide +kernel
theorem dX1_factOfPlate_96 : decode cX1_factOfPlate 96 = .ok (.aaload, 1) := by decide +kernel
theorem dX1_factOfPlate_97 : decode cX1_factOfPlate 97 = .ok (.getfield 113, 3) := by decide +kernel
theorem dX1_factOfPlate_100 : decode cX1_factOfPlate 100 = .ok (.invokevirtual 206, 3) := by decide +kernel
theorem dX1_factOfPlate_103 : decode cX1_factOfPlate 103 = .ok (.ireturn, 1) := by decide +kernel
theorem dX1_factOfPlate_104 : decode cX1_factOfPlate 104 = .ok (.bipush (-2), 2) := by decide +kernel
theorem dX1_factOfPlate_106 : decode cX1_factOfPlate 106 = .ok (.ireturn, 1) := by decide +kernel
theorem dX1_factOfNight_0 : decode cX1_factOfNight 0 = .ok (.iload_n 1, 1) := by decide +kernel
theorem dX1_factOfNight_1 : decode cX1_factOfNight 1 = .ok (.tableswitch 153 0 13 #[71, 76, 81, 86, 91, 97, 103, 109, 115, 120, 125, 132, 139, 146], 71) := by decide +kernel
theorem dX1_factOfNight_72 : decode cX1_factOfNight 72 = .ok (.aload_n 0, 1) := by decide +kernel
theorem dX1_factOfNight_73 : decode cX1_factOfNight 73 = .ok (.getfield 23, 3) := by decide +kernel
theorem dX1_factOfNight_76 : decode cX1_factOfNight 76 = .ok (.ireturn, 1) := by decide +kernel
theorem dX1_factOfNight_77 : decode cX1_factOfNight 77 = .ok (.aload_n 0, 1) := by decide +kernel
theorem dX1_factOfNight_78 : decode cX1_factOfNight 78 = .ok (.getfield 34, 3) := by decide +kernel
theorem dX1_factOfNight_81 : decode cX1_factOfNight 81 = .ok (.ireturn, 1) := by decide +kernel
theorem dX1_factOfNight_82 : decode cX1_factOfNight 82 = .ok (.aload_n 0, 1) := by decide +kernel
theorem dX1_factOfNight_83 : decode cX1_factOfNight 83 = .ok (.getfield 44, 3) := by decide +kernel
theorem dX1_factOfNight_86 : decode cX1_factOfNight 86 = .ok (.ireturn, 1) := by decide +kernel
theorem dX1_factOfNight_87 : decode cX1_factOfNight 87 = .ok (.aload_n 0, 1) := by decide +kernel
theorem dX1_factOfNight_88 : decode cX1_factOfNight 88 = .ok (.invokevirtual 175, 3) := by decide +kernel
theorem dX1_factOfNight_91 : decode cX1_factOfNight 91 = .ok (.ireturn, 1) := by decide +kernel
theorem dX1_factOfNight_92 : decode cX1_factOfNight 92 = .ok (.aload_n 0, 1) := by decide +kernel
theorem dX1_factOfNight_93 : decode cX1_factOfNight 93 = .ok (.iconst 0, 1) := by decide +kernel
theorem dX1_factOfNight_94 : decode cX1_factOfNight 94 = .ok (.invokevirtual 209, 3) := by decide +kernel
theorem dX1_factOfNight_97 : decode cX1_factOfNight 97 = .ok (.ireturn, 1) := by decide +kernel
theorem dX1_factOfNight_98 : decode cX1_factOfNight 98 = .ok (.aload_n 0, 1) := by decide +kernel
theorem dX1_factOfNight_99 : decode cX1_factOfNight 99 = .ok (.iconst 1, 1) := by decide +kernel
theorem dX1_factOfNight_100 : decode cX1_factOfNight 100 = .ok (.invokevirtual 209, 3) := by decide +kernel
theorem dX1_factOfNight_103 : decode cX1_factOfNight 103 = .ok (.ireturn, 1) := by decide +kernel
theorem dX1_factOfNight_104 : decode cX1_factOfNight 104 = .ok (.aload_n 0, 1) := by decide +kernel
theorem dX1_factOfNight_105 : decode cX1_factOfNight 105 = .ok (.iconst 2, 1) := by decide +kernel
theorem dX1_factOfNight_106 : decode cX1_factOfNight 106 = .ok (.invokevirtual 209, 3) := by decide +kernel
theorem dX1_factOfNight_109 : decode cX1_factOfNight 109 = .ok (.ireturn, 1) := by decide +kernel
theorem dX1_factOfNight_110 : decode cX1_factOfNight 110 = .ok (.aload_n 0, 1) := by decide +kernel
theorem dX1_factOfNight_111 : decode cX1_factOfNight 111 = .ok (.iconst 3, 1) := by decide +kernel
theorem dX1_factOfNight_112 : decode cX1_factOfNight 112 = .ok (.invokevirtual 209, 3) := by decide +kernel
theorem dX1_factOfNight_115 : decode cX1_factOfNight 115 = .ok (.ireturn, 1) := by decide +kernel
theorem dX1_factOfNight_116 : decode cX1_factOfNight 116 = .ok (.aload_n 0, 1) := by decide +kernel
theorem dX1_factOfNight_117 : decode cX1_factOfNight 117 = .ok (.invokevirtual 212, 3) := by decide +kernel
theorem dX1_factOfNight_120 : decode cX1_factOfNight 120 = .ok (.ireturn, 1) := by decide +kernel
theorem dX1_factOfNight_121 : decode cX1_factOfNight 121 = .ok (.aload_n 0, 1) := by decide +kernel
theorem dX1_factOfNight_122 : decode cX1_factOfNight 122 = .ok (.invokevirtual 215, 3) := by decide +kernel
theorem dX1_factOfNight_125 : decode cX1_factOfNight 125 = .ok (.ireturn, 1) := by decide +kernel
theorem dX1_factOfNight_126 : decode cX1_factOfNight 126 = .ok (.aload_n 0, 1) := by decide +kernel
theorem dX1_factOfNight_127 : decode cX1_factOfNight 127 = .ok (.getfield 18, 3) := by decide +kernel
theorem dX1_factOfNight_130 : decode cX1_factOfNight 130 = .ok (.iconst 0, 1) := by decide +kernel
theorem dX1_factOfNight_131 : decode cX1_factOfNight 131 = .ok (.iaload, 1) := by decide +kernel
theorem dX1_factOfNight_132 : decode cX1_factOfNight 132 = .ok (.ireturn, 1) := by decide +kernel
theorem dX1_factOfNight_133 : decode cX1_factOfNight 133 = .ok (.aload_n 0, 1) := by decide +kernel
theorem dX1_factOfNight_134 : decode cX1_factOfNight 134 = .ok (.getfield 18, 3) := by decide +kernel
theorem dX1_factOfNight_137 : decode cX1_factOfNight 137 = .ok (.iconst 1, 1) := by decide +kernel
theorem dX1_factOfNight_138 : decode cX1_factOfNight 138 = .ok (.iaload, 1) := by decide +kernel
theorem dX1_factOfNight_139 : decode cX1_factOfNight 139 = .ok (.ireturn, 1) := by decide +kernel
theorem dX1_factOfNight_140 : decode cX1_factOfNight 140 = .ok (.aload_n 0, 1) := by decide +kernel
theorem dX1_factOfNight_141 : decode cX1_factOfNight 141 = .ok (.getfield 18, 3) := by decide +kernel
theorem dX1_factOfNight_144 : decode cX1_factOfNight 144 = .ok (.iconst 2, 1) := by decide +kernel
theorem dX1_factOfNight_145 : decode cX1_factOfNight 145 = .ok (.iaload, 1) := by decide +kernel
theorem dX1_factOfNight_146 : decode cX1_factOfNight 146 = .ok (.ireturn, 1) := by decide +kernel
theorem dX1_factOfNight_147 : decode cX1_factOfNight 147 = .ok (.aload_n 0, 1) := by decide +kernel
theorem dX1_factOfNight_148 : decode cX1_factOfNight 148 = .ok (.getfield 18, 3) := by decide +kernel
theorem dX1_factOfNight_151 : decode cX1_factOfNight 151 = .ok (.iconst 3, 1) := by decide +kernel
theorem dX1_factOfNight_152 : decode cX1_factOfNight 152 = .ok (.iaload, 1) := by decide +kernel
theorem dX1_factOfNight_153 : decode cX1_factOfNight 153 = .ok (.ireturn, 1) := by decide +kernel
theorem dX1_factOfNight_154 : decode cX1_factOfNight 154 = .ok (.bipush (-2), 2) := by decide +kernel
theorem dX1_factOfNight_156 : decode cX1_factOfNight 156 = .ok (.ireturn, 1) := by decide +kernel
theorem dX1_piecesThatAre_0 : decode cX1_piecesThatAre 0 = .ok (.iconst 0, 1) := by decide +kernel
theorem dX1_piecesThatAre_1 : decode cX1_piecesThatAre 1 = .ok (.istore_n 2, 1) := by decide +kernel
theorem dX1_piecesThatAre_2 : decode cX1_piecesThatAre 2 = .ok (.iconst 0, 1) := by decide +kernel
theorem dX1_piecesThatAre_3 : decode cX1_piecesThatAre 3 = .ok (.istore_n 3, 1) := by decide +kernel
theorem dX1_piecesThatAre_4 : decode cX1_piecesThatAre 4 = .ok (.iload_n 3, 1) := by decide +kernel
theorem dX1_piecesThatAre_5 : decode cX1_piecesThatAre 5 = .ok (.aload_n 0, 1) := by decide +kernel
theorem dX1_piecesThatAre_6 : decode cX1_piecesThatAre 6 = .ok (.getfield 34, 3) := by decide +kernel
theorem dX1_piecesThatAre_9 : decode cX1_piecesThatAre 9 = .ok (.if_icmp .ge 33, 3) := by decide +kernel
theorem dX1_piecesThatAre_12 : decode cX1_piecesThatAre 12 = .ok (.iload_n 2, 1) := by decide +kernel
theorem dX1_piecesThatAre_13 : decode cX1_piecesThatAre 13 = .ok (.aload_n 0, 1) := by decide +kernel
theorem dX1_piecesThatAre_14 : decode cX1_piecesThatAre 14 = .ok (.getfield 29, 3) := by decide +kernel
theorem dX1_piecesThatAre_17 : decode cX1_piecesThatAre 17 = .ok (.iload_n 3, 1) := by decide +kernel
theorem dX1_piecesThatAre_18 : decode cX1_piecesThatAre 18 = .ok (.aaload, 1) := by decide +kernel
theorem dX1_piecesThatAre_19 : decode cX1_piecesThatAre 19 = .ok (.getfield 64, 3) := by decide +kernel
theorem dX1_piecesThatAre_22 : decode cX1_piecesThatAre 22 = .ok (.iload_n 1, 1) := by decide +kernel
theorem dX1_piecesThatAre_23 : decode cX1_piecesThatAre 23 = .ok (.if_icmp .ne 7, 3) := by decide +kernel
theorem dX1_piecesThatAre_26 : decode cX1_piecesThatAre 26 = .ok (.iconst 1, 1) := by decide +kernel
theorem dX1_piecesThatAre_27 : decode cX1_piecesThatAre 27 = .ok (.goto 4, 3) := by decide +kernel
theorem dX1_piecesThatAre_30 : decode cX1_piecesThatAre 30 = .ok (.iconst 0, 1) := by decide +kernel
theorem dX1_piecesThatAre_31 : decode cX1_piecesThatAre 31 = .ok (.invokestatic 89, 3) := by decide +kernel
theorem dX1_piecesThatAre_34 : decode cX1_piecesThatAre 34 = .ok (.iadd, 1) := by decide +kernel
theorem dX1_piecesThatAre_35 : decode cX1_piecesThatAre 35 = .ok (.istore_n 2, 1) := by decide +kernel
theorem dX1_piecesThatAre_36 : decode cX1_piecesThatAre 36 = .ok (.iinc 3 1, 3) := by decide +kernel
theorem dX1_piecesThatAre_39 : decode cX1_piecesThatAre 39 = .ok (.goto (-35), 3) := by decide +kernel
theorem dX1_piecesThatAre_42 : decode cX1_piecesThatAre 42 = .ok (.iload_n 2, 1) := by decide +kernel
theorem dX1_piecesThatAre_43 : decode cX1_piecesThatAre 43 = .ok (.ireturn, 1) := by decide +kernel
theorem dX1_heldPieces_0 : decode cX1_heldPieces 0 = .ok (.iconst 0, 1) := by decide +kernel
theorem dX1_heldPieces_1 : decode cX1_heldPieces 1 = .ok (.istore_n 1, 1) := by decide +kernel
theorem dX1_heldPieces_2 : decode cX1_heldPieces 2 = .ok (.iconst 0, 1) := by decide +kernel
theorem dX1_heldPieces_3 : decode cX1_heldPieces 3 = .ok (.istore_n 2, 1) := by decide +kernel
theorem dX1_heldPieces_4 : decode cX1_heldPieces 4 = .ok (.iload_n 2, 1) := by decide +kernel
theorem dX1_heldPieces_5 : decode cX1_heldPieces 5 = .ok (.aload_n 0, 1) := by decide +kernel
theorem dX1_heldPieces_6 : decode cX1_heldPieces 6 = .ok (.getfield 34, 3) := by decide +kernel
theorem dX1_heldPieces_9 : decode cX1_heldPieces 9 = .ok (.if_icmp .ge 45, 3) := by decide +kernel
theorem dX1_heldPieces_12 : decode cX1_heldPieces 12 = .ok (.iload_n 1, 1) := by decide +kernel
theorem dX1_heldPieces_13 : decode cX1_heldPieces 13 = .ok (.aload_n 0, 1) := by decide +kernel
theorem dX1_heldPieces_14 : decode cX1_heldPieces 14 = .ok (.getfield 29, 3) := by decide +kernel
theorem dX1_heldPieces_17 : decode cX1_heldPieces 17 = .ok (.iload_n 2, 1) := by decide +kernel
theorem dX1_heldPieces_18 : decode cX1_heldPieces 18 = .ok (.aaload, 1) := by decide +kernel
theorem dX1_heldPieces_19 : decode cX1_heldPieces 19 = .ok (.getfield 85, 3) := by decide +kernel
theorem dX1_heldPieces_22 : decode cX1_heldPieces 22 = .ok (.ifCond .eq 20, 3) := by decide +kernel
theorem dX1_heldPieces_25 : decode cX1_heldPieces 25 = .ok (.aload_n 0, 1) := by decide +kernel
theorem dX1_heldPieces_26 : decode cX1_heldPieces 26 = .ok (.getfield 29, 3) := by decide +kernel
theorem dX1_heldPieces_29 : decode cX1_heldPieces 29 = .ok (.iload_n 2, 1) := by decide +kernel
theorem dX1_heldPieces_30 : decode cX1_heldPieces 30 = .ok (.aaload, 1) := by decide +kernel
theorem dX1_heldPieces_31 : decode cX1_heldPieces 31 = .ok (.getfield 64, 3) := by decide +kernel
theorem dX1_heldPieces_34 : decode cX1_heldPieces 34 = .ok (.iconst 3, 1) := by decide +kernel
theorem dX1_heldPieces_35 : decode cX1_heldPieces 35 = .ok (.if_icmp .eq 7, 3) := by decide +kernel
theorem dX1_heldPieces_38 : decode cX1_heldPieces 38 = .ok (.iconst 1, 1) := by decide +kernel
theorem dX1_heldPieces_39 : decode cX1_heldPieces 39 = .ok (.goto 4, 3) := by decide +kernel
theorem dX1_heldPieces_42 : decode cX1_heldPieces 42 = .ok (.iconst 0, 1) := by decide +kernel
theorem dX1_heldPieces_43 : decode cX1_heldPieces 43 = .ok (.invokestatic 89, 3) := by decide +kernel
theorem dX1_heldPieces_46 : decode cX1_heldPieces 46 = .ok (.iadd, 1) := by decide +kernel
theorem dX1_heldPieces_47 : decode cX1_heldPieces 47 = .ok (.istore_n 1, 1) := by decide +kernel
theorem dX1_heldPieces_48 : decode cX1_heldPieces 48 = .ok (.iinc 2 1, 3) := by decide +kernel
theorem dX1_heldPieces_51 : decode cX1_heldPieces 51 = .ok (.goto (-47), 3) := by decide +kernel
theorem dX1_heldPieces_54 : decode cX1_heldPieces 54 = .ok (.iload_n 1, 1) := by decide +kernel
theorem dX1_heldPieces_55 : decode cX1_heldPieces 55 = .ok (.ireturn, 1) := by decide +kernel
theorem dX1_replates_0 : decode cX1_replates 0 = .ok (.iconst 0, 1) := by decide +kernel
theorem dX1_replates_1 : decode cX1_replates 1 = .ok (.istore_n 1, 1) := by decide +kernel
theorem dX1_replates_2 : decode cX1_replates 2 = .ok (.iconst 0, 1) := by decide +kernel
theorem dX1_replates_3 : decode cX1_replates 3 = .ok (.istore_n 2, 1) := by decide +kernel
theorem dX1_replates_4 : decode cX1_replates 4 = .ok (.iload_n 2, 1) := by decide +kernel
theorem dX1_replates_5 : decode cX1_replates 5 = .ok (.aload_n 0, 1) := by decide +kernel
theorem dX1_replates_6 : decode cX1_replates 6 = .ok (.getfield 44, 3) := by decide +kernel
theorem dX1_replates_9 : decode cX1_replates 9 = .ok (.if_icmp .ge 24, 3) := by decide +kernel
theorem dX1_replates_12 : decode cX1_replates 12 = .ok (.iload_n 1, 1) := by decide +kernel
theorem dX1_replates_13 : decode cX1_replates 13 = .ok (.aload_n 0, 1) := by decide +kernel
theorem dX1_replates_14 : decode cX1_replates 14 = .ok (.getfield 39, 3) := by decide +kernel
theorem dX1_replates_17 : decode cX1_replates 17 = .ok (.iload_n 2, 1) := by decide +kernel
theorem dX1_replates_18 : decode cX1_replates 18 = .ok (.aaload, 1) := by decide +kernel
theorem dX1_replates_19 : decode cX1_replates 19 = .ok (.getfield 203, 3) := by decide +kernel
theorem dX1_replates_22 : decode cX1_replates 22 = .ok (.invokestatic 89, 3) := by decide +kernel
theorem dX1_replates_25 : decode cX1_replates 25 = .ok (.iadd, 1) := by decide +kernel
theorem dX1_replates_26 : decode cX1_replates 26 = .ok (.istore_n 1, 1) := by decide +kernel
theorem dX1_replates_27 : decode cX1_replates 27 = .ok (.iinc 2 1, 3) := by decide +kernel
theorem dX1_replates_30 : decode cX1_replates 30 = .ok (.goto (-26), 3) := by decide +kernel
theorem dX1_replates_33 : decode cX1_replates 33 = .ok (.iload_n 1, 1) := by decide +kernel
theorem dX1_replates_34 : decode cX1_replates 34 = .ok (.ireturn, 1) := by decide +kernel
